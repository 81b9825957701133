/** A player of patterns for four channels. The document of the project tells what every call promises. */
public final class ChannelLoom {
    public static final int NONE = -1;

    private static final int PATTERNS = 6;
    private static final int CHANNELS = 4;
    private static final int MAX_ROWS = 8;
    private static final int FIRST_ROWS = 4;
    private static final int PATTERN_CELLS = MAX_ROWS * CHANNELS;
    private static final int MAX_PLACES = 8;
    private static final int MAX_FRAMES = 3;
    private static final int MAX_SAVED = 4;
    private static final int MAX_TEXT = 100;

    private static final int LAST_NOTE = 60;
    private static final int SILENCE = 61;
    private static final int MAX_VOLUME = 15;
    private static final int MAX_PITCH = 999;
    private static final int MAX_EFFECT = 7;
    private static final int MAX_NUMBER = 9;

    private static final int NO_EFFECT = 0;
    private static final int PITCH_UP = 1;
    private static final int PITCH_DOWN = 2;
    private static final int VOLUME_UP = 3;
    private static final int VOLUME_DOWN = 4;
    private static final int CALL = 5;
    private static final int DELAY = 6;
    private static final int SPEED = 7;

    private static final int FIRST_SPEED = 3;
    private static final int MAX_SPEED = 8;
    private static final int MAX_PLAY = 500;
    private static final int MAX_TICKS = 100000;
    private static final int MAX_ROUND_TICKS = 1000;
    private static final int MAX_STEAL = 99;
    private static final int MAX_UNHEARD = 99;

    private static final int CELL_FACTS = 4;
    private static final int PATTERN_FACTS = 5;
    private static final int CHANNEL_FACTS = 8;
    private static final int VALUE_FACTS = 8;
    private static final int SYNTAX_ERROR = -10;
    private static final int HASH_SEED = 17;
    private static final long DIGEST_SEED = 3533;
    private static final int DIGEST_TICKS = 40;

    private final State now;
    private final History history;
    private final PatternText text;
    /** The player of the what-if questions: it is kept, so that no question makes objects. */
    private final Player guess;

    public ChannelLoom() {
        now = new State();
        history = new History();
        text = new PatternText();
        guess = new Player();
    }

    // ---- patterns

    public int setNote(int pattern, int row, int channel, int note, int volume)
            throws IndexOutOfBoundsException, IllegalArgumentException {
        requireCell(pattern, row, channel);
        requireRange(note, 0, SILENCE);
        requireRange(volume, 0, MAX_VOLUME);
        history.save(now);
        int before = now.song.cellAt(pattern, row, channel);
        int after = Cell.packed(note, volume, Cell.effectOf(before), Cell.numberOf(before));
        now.song.putCell(pattern, row, channel, after);
        return Cell.noteOf(before);
    }

    public int setEffect(int pattern, int row, int channel, int effect, int number)
            throws IndexOutOfBoundsException, IllegalArgumentException {
        requireCell(pattern, row, channel);
        requireRange(effect, NO_EFFECT, MAX_EFFECT);
        requireRange(number, 0, MAX_NUMBER);
        history.save(now);
        int before = now.song.cellAt(pattern, row, channel);
        int after = Cell.packed(Cell.noteOf(before), Cell.volumeOf(before), effect, number);
        now.song.putCell(pattern, row, channel, after);
        return Cell.effectOf(before);
    }

    public int setRows(int pattern, int rows) throws IndexOutOfBoundsException, IllegalArgumentException {
        requireIndex(pattern, PATTERNS);
        requireRange(rows, 1, MAX_ROWS);
        history.save(now);
        int before = now.song.rowsOf(pattern);
        now.song.putRows(pattern, rows);
        return before;
    }

    public int setOrder(int place, int pattern) throws IndexOutOfBoundsException, IllegalArgumentException {
        requireIndex(place, Math.min(now.song.places + 1, MAX_PLACES));
        requireRange(pattern, 0, PATTERNS - 1);
        history.save(now);
        now.song.putPlace(place, pattern);
        return now.song.places;
    }

    public int shorten() throws IllegalStateException {
        int last = now.song.places - 1;
        if (last == 0 || now.player.place == last) {
            throw new IllegalStateException("the last place is needed");
        }
        history.save(now);
        now.song.places = last;
        return last;
    }

    public int cell(int pattern, int row, int channel, int what)
            throws IndexOutOfBoundsException, IllegalArgumentException {
        requireCell(pattern, row, channel);
        requireRange(what, 0, CELL_FACTS - 1);
        return Cell.factOf(now.song.cellAt(pattern, row, channel), what);
    }

    public int pattern(int pattern, int what) throws IndexOutOfBoundsException, IllegalArgumentException {
        requireIndex(pattern, PATTERNS);
        requireRange(what, 0, PATTERN_FACTS - 1);
        return now.song.patternFact(pattern, what);
    }

    public int order(int place) throws IndexOutOfBoundsException {
        requireIndex(place, now.song.places);
        return now.song.patternAt(place);
    }

    // ---- playing

    public int play(int ticks) throws IllegalArgumentException, IllegalStateException {
        requireRange(ticks, 1, MAX_PLAY);
        if (now.player.ticks + ticks > MAX_TICKS) {
            throw new IllegalStateException("too many ticks");
        }
        history.save(now);
        return now.player.passTicks(now.song, ticks);
    }

    public int restart() {
        history.save(now);
        int before = now.player.ticks;
        now.player.goToBeginning();
        return before;
    }

    public int steal(int channel, int note, int ticks) throws IndexOutOfBoundsException, IllegalArgumentException {
        requireIndex(channel, CHANNELS);
        requireRange(note, 1, LAST_NOTE);
        requireRange(ticks, 1, MAX_STEAL);
        history.save(now);
        return now.player.voices[channel].stealBy(note, ticks);
    }

    public int giveBack(int channel) throws IndexOutOfBoundsException {
        requireIndex(channel, CHANNELS);
        history.save(now);
        return now.player.voices[channel].stealBy(0, 0);
    }

    public int channel(int channel, int what) throws IndexOutOfBoundsException, IllegalArgumentException {
        requireIndex(channel, CHANNELS);
        requireRange(what, 0, CHANNEL_FACTS - 1);
        return now.player.voices[channel].fact(what);
    }

    public int value(int what) throws IllegalArgumentException {
        requireRange(what, 0, VALUE_FACTS - 1);
        return playingFact(what);
    }

    // ---- what if

    public int hashOf(int ticks) throws IllegalArgumentException {
        requireRange(ticks, 0, MAX_PLAY);
        guess.copyFrom(now.player);
        return guess.passTicks(now.song, ticks);
    }

    public int ticksToRound() {
        guess.copyFrom(now.player);
        for (int passed = 1; passed <= MAX_ROUND_TICKS; passed++) {
            guess.passTick(now.song);
            if (guess.rounds != now.player.rounds) {
                return passed;
            }
        }
        return NONE;
    }

    public int silent(int channel, int ticks) throws IndexOutOfBoundsException, IllegalArgumentException {
        requireIndex(channel, CHANNELS);
        requireRange(ticks, 1, MAX_PLAY);
        guess.copyFrom(now.player);
        int count = 0;
        for (int passed = 1; passed <= ticks; passed++) {
            guess.passTick(now.song);
            if (guess.voices[channel].heard == 0) {
                count++;
            }
        }
        return count;
    }

    public int deepest(int channel, int ticks) throws IndexOutOfBoundsException, IllegalArgumentException {
        requireIndex(channel, CHANNELS);
        requireRange(ticks, 1, MAX_PLAY);
        guess.copyFrom(now.player);
        int most = 0;
        for (int passed = 1; passed <= ticks; passed++) {
            guess.passTick(now.song);
            most = Math.max(most, guess.voices[channel].frames);
        }
        return most;
    }

    public int unheard(int channel, int note) throws IndexOutOfBoundsException, IllegalArgumentException {
        requireIndex(channel, CHANNELS);
        requireRange(note, 1, LAST_NOTE);
        guess.copyFrom(now.player);
        guess.voices[channel].stealBy(0, 0);
        for (int count = 0; count < MAX_UNHEARD; count++) {
            guess.passTick(now.song);
            if (guess.voices[channel].heard != stolenSound(note)) {
                return count;
            }
        }
        return MAX_UNHEARD;
    }

    public double meanVolume() {
        int sum = 0;
        for (Voice voice : now.player.voices) {
            sum += voice.volume;
        }
        return (double) sum / 4.0;
    }

    // ---- text

    public int append(int value) throws IllegalArgumentException, IllegalStateException {
        requireRange(value, 0, 127);
        if (!text.hasSpace()) {
            throw new IllegalStateException("the text is full");
        }
        text.add((byte) value);
        return text.length;
    }

    public int clearText() {
        int before = text.length;
        text.length = 0;
        return before;
    }

    public int parse() {
        if (!text.read()) {
            return SYNTAX_ERROR - text.at;
        }
        history.save(now);
        now.song.putPattern(text.pattern, text.rows, text.cells);
        return text.pattern;
    }

    // ---- state

    public int undo() throws IllegalStateException {
        if (history.count == 0) {
            throw new IllegalStateException("no state is saved");
        }
        history.restore(now);
        return history.count;
    }

    public long digest() {
        long hash = 31 * DIGEST_SEED + text.length;
        for (int what = 0; what < VALUE_FACTS; what++) {
            hash = 31 * hash + playingFact(what);
        }
        for (int pattern = 0; pattern < PATTERNS; pattern++) {
            hash = now.song.digestPattern(hash, pattern);
        }
        for (int place = 0; place < now.song.places; place++) {
            hash = 31 * hash + now.song.patternAt(place);
        }
        for (Voice voice : now.player.voices) {
            for (int what = 0; what < CHANNEL_FACTS; what++) {
                hash = 31 * hash + voice.fact(what);
            }
        }
        guess.copyFrom(now.player);
        hash = 31 * hash + guess.passTicks(now.song, DIGEST_TICKS);
        return 31 * hash + history.count;
    }

    private int playingFact(int what) {
        Player player = now.player;
        switch (what) {
            case 0: return player.place;
            case 1: return player.row;
            case 2: return player.tick;
            case 3: return player.speed;
            case 4: return player.ticks;
            case 5: return player.rounds;
            case 6: return now.song.places;
            default: return now.song.patternAt(player.place);
        }
    }

    private static int stolenSound(int note) {
        return sound(Voice.pitchOf(note), MAX_VOLUME);
    }

    private static int sound(int pitch, int volume) {
        return 16 * pitch + volume;
    }

    private static boolean isIndex(int number, int count) {
        return number >= 0 && number < count;
    }

    private static boolean isCell(int pattern, int row, int channel) {
        return pattern >= 0 && pattern < PATTERNS && row >= 0 && row < MAX_ROWS && channel >= 0 && channel < CHANNELS;
    }

    private static void requireCell(int pattern, int row, int channel) {
        if (!isCell(pattern, row, channel)) {
            throw new IndexOutOfBoundsException("no such cell");
        }
    }

    private static void requireIndex(int number, int count) {
        if (!isIndex(number, count)) {
            throw new IndexOutOfBoundsException("no such thing");
        }
    }

    private static void requireRange(int number, int least, int most) {
        if (number < least || number > most) {
            throw new IllegalArgumentException("out of range");
        }
    }

    /** A cell is one int: a pattern of them is copied at once, and a cell that was read stays as it was then. */
    private static final class Cell {
        private static final int VOLUME_SHIFT = 6;
        private static final int EFFECT_SHIFT = 10;
        private static final int NUMBER_SHIFT = 13;
        private static final int EMPTY = MAX_VOLUME << VOLUME_SHIFT;

        static int packed(int note, int volume, int effect, int number) {
            return note | volume << VOLUME_SHIFT | effect << EFFECT_SHIFT | number << NUMBER_SHIFT;
        }

        static int noteOf(int cell) {
            return cell & 63;
        }

        static int volumeOf(int cell) {
            return cell >> VOLUME_SHIFT & 15;
        }

        static int effectOf(int cell) {
            return cell >> EFFECT_SHIFT & 7;
        }

        static int numberOf(int cell) {
            return cell >> NUMBER_SHIFT & 15;
        }

        static int factOf(int cell, int what) {
            switch (what) {
                case 0: return noteOf(cell);
                case 1: return volumeOf(cell);
                case 2: return effectOf(cell);
                default: return numberOf(cell);
            }
        }

        static boolean isTone(int cell) {
            return noteOf(cell) >= 1 && noteOf(cell) <= LAST_NOTE;
        }

        static boolean isCall(int cell) {
            return effectOf(cell) == CALL && numberOf(cell) < PATTERNS;
        }

        static boolean isDelay(int cell) {
            return effectOf(cell) == DELAY && numberOf(cell) > 0;
        }

        static boolean isSpeed(int cell) {
            return effectOf(cell) == SPEED && numberOf(cell) >= 1 && numberOf(cell) <= MAX_SPEED;
        }
    }

    /** What is written: the patterns and their order. */
    private static final class Song {
        final int[] cells = new int[PATTERNS * PATTERN_CELLS];
        final int[] rows = new int[PATTERNS];
        final int[] order = new int[MAX_PLACES];
        int places = 1;

        Song() {
            for (int i = 0; i < cells.length; i++) {
                cells[i] = Cell.EMPTY;
            }
            for (int i = 0; i < rows.length; i++) {
                rows[i] = FIRST_ROWS;
            }
        }

        void copyFrom(Song other) {
            System.arraycopy(other.cells, 0, cells, 0, PATTERNS * PATTERN_CELLS);
            System.arraycopy(other.rows, 0, rows, 0, PATTERNS);
            System.arraycopy(other.order, 0, order, 0, MAX_PLACES);
            places = other.places;
        }

        int cellAt(int pattern, int row, int channel) {
            return isCell(pattern, row, channel) ? cells[cellIndex(pattern, row, channel)] : Cell.EMPTY;
        }

        void putCell(int pattern, int row, int channel, int cell) {
            if (isCell(pattern, row, channel)) {
                cells[cellIndex(pattern, row, channel)] = cell;
            }
        }

        private static int cellIndex(int pattern, int row, int channel) {
            return (pattern * MAX_ROWS + row) * CHANNELS + channel;
        }

        int rowsOf(int pattern) {
            return isIndex(pattern, PATTERNS) ? rows[pattern] : 0;
        }

        void putRows(int pattern, int count) {
            if (isIndex(pattern, PATTERNS)) {
                rows[pattern] = count;
            }
        }

        int patternAt(int place) {
            return isIndex(place, places) && place < MAX_PLACES ? order[place] : NONE;
        }

        void putPlace(int place, int pattern) {
            if (isIndex(place, MAX_PLACES)) {
                order[place] = pattern;
                places = Math.max(places, place + 1);
            }
        }

        void putPattern(int pattern, int count, int[] newCells) {
            if (isIndex(pattern, PATTERNS) && newCells.length == PATTERN_CELLS) {
                rows[pattern] = count;
                System.arraycopy(newCells, 0, cells, pattern * PATTERN_CELLS, PATTERN_CELLS);
            }
        }

        int patternFact(int pattern, int what) {
            switch (what) {
                case 0: return rowsOf(pattern);
                case 1: return countCells(pattern, false);
                case 2: return countCells(pattern, true);
                case 3: return countPlaces(pattern);
                default: return (playable() & 1 << pattern) != 0 ? 1 : 0;
            }
        }

        private int countCells(int pattern, boolean calls) {
            int count = 0;
            for (int row = 0; row < rowsOf(pattern); row++) {
                for (int channel = 0; channel < CHANNELS; channel++) {
                    int cell = cellAt(pattern, row, channel);
                    if (calls ? Cell.isCall(cell) : Cell.isTone(cell)) {
                        count++;
                    }
                }
            }
            return count;
        }

        private int countPlaces(int pattern) {
            int count = 0;
            for (int place = 0; place < places; place++) {
                if (patternAt(place) == pattern) {
                    count++;
                }
            }
            return count;
        }

        /** The patterns that can be played, a bit each. */
        private int playable() {
            int reached = inOrder();
            int followed = 0;
            // each turn but the last follows a pattern at least, so as many turns as patterns reach them all
            for (int turn = 0; turn < PATTERNS; turn++) {
                for (int pattern = 0; pattern < PATTERNS; pattern++) {
                    int bit = 1 << pattern;
                    if ((reached & bit) != 0 && (followed & bit) == 0) {
                        followed |= bit;
                        reached |= calledFrom(pattern);
                    }
                }
            }
            return reached;
        }

        private int inOrder() {
            int patterns = 0;
            for (int place = 0; place < places; place++) {
                patterns |= 1 << patternAt(place);
            }
            return patterns;
        }

        private int calledFrom(int pattern) {
            int called = 0;
            for (int row = 0; row < rowsOf(pattern); row++) {
                for (int channel = 0; channel < CHANNELS; channel++) {
                    int cell = cellAt(pattern, row, channel);
                    if (Cell.isCall(cell)) {
                        called |= 1 << Cell.numberOf(cell);
                    }
                }
            }
            return called;
        }

        long digestPattern(long begun, int pattern) {
            long hash = begun;
            for (int what = 0; what < PATTERN_FACTS; what++) {
                hash = 31 * hash + patternFact(pattern, what);
            }
            for (int row = 0; row < rowsOf(pattern); row++) {
                for (int channel = 0; channel < CHANNELS; channel++) {
                    int cell = cellAt(pattern, row, channel);
                    for (int what = 0; what < CELL_FACTS; what++) {
                        hash = 31 * hash + Cell.factOf(cell, what);
                    }
                }
            }
            return hash;
        }
    }

    /** A channel as it plays, with its frames and what it is stolen by. */
    private static final class Voice {
        int pitch;
        int volume;
        int stolenTicks;
        int stolenNote;
        int heard;
        int frames;
        final int[] framePatterns = new int[MAX_FRAMES];
        final int[] frameRows = new int[MAX_FRAMES];
        /** The cell that was read in tick 0, as it was then: later changes of the pattern don't reach this row. */
        int cell = Cell.EMPTY;

        void copyFrom(Voice other) {
            pitch = other.pitch;
            volume = other.volume;
            stolenTicks = other.stolenTicks;
            stolenNote = other.stolenNote;
            heard = other.heard;
            frames = other.frames;
            System.arraycopy(other.framePatterns, 0, framePatterns, 0, MAX_FRAMES);
            System.arraycopy(other.frameRows, 0, frameRows, 0, MAX_FRAMES);
            cell = other.cell;
        }

        void goToBeginning() {
            pitch = 0;
            volume = 0;
            stealBy(0, 0);
            heard = 0;
            frames = 0;
            cell = Cell.EMPTY;
        }

        static int pitchOf(int note) {
            return 16 * note;
        }

        /** No ticks give the channel back. Answers the ticks for which it was stolen still. */
        int stealBy(int note, int forTicks) {
            int before = stolenTicks;
            stolenNote = note;
            stolenTicks = forTicks;
            return before;
        }

        int latestPattern() {
            int latest = frames - 1;
            return isIndex(latest, MAX_FRAMES) ? framePatterns[latest] : NONE;
        }

        int latestRow() {
            int latest = frames - 1;
            return isIndex(latest, MAX_FRAMES) ? frameRows[latest] : NONE;
        }

        void beginRow(int read) {
            cell = read;
            if (!Cell.isDelay(cell)) {
                beginNote();
            }
        }

        void goOn(int tick) {
            int number = Cell.numberOf(cell);
            switch (Cell.effectOf(cell)) {
                case PITCH_UP: pitch = Math.min(pitch + number, MAX_PITCH); break;
                case PITCH_DOWN: pitch = Math.max(pitch - number, 0); break;
                case VOLUME_UP: volume = Math.min(volume + number, MAX_VOLUME); break;
                case VOLUME_DOWN: volume = Math.max(volume - number, 0); break;
                case DELAY:
                    if (number == tick) {
                        beginNote();
                    }
                    break;
                default: break;
            }
        }

        private void beginNote() {
            int note = Cell.noteOf(cell);
            if (note == SILENCE) {
                volume = 0;
            } else if (note > 0) {
                pitch = pitchOf(note);
                volume = Cell.volumeOf(cell);
            }
        }

        void hear() {
            if (stolenTicks > 0) {
                heard = stolenSound(stolenNote);
                stolenTicks--;
            } else {
                heard = volume == 0 ? 0 : sound(pitch, volume);
            }
        }

        void endRow(Song song) {
            int latest = frames - 1;
            if (isIndex(latest, MAX_FRAMES)) {
                frameRows[latest]++;
                if (frameRows[latest] >= song.rowsOf(framePatterns[latest])) {
                    frames = latest;
                }
            }
            if (Cell.isCall(cell)) {
                enter(Cell.numberOf(cell));
            }
        }

        private void enter(int pattern) {
            if (isIndex(frames, MAX_FRAMES)) {
                framePatterns[frames] = pattern;
                frameRows[frames] = 0;
                frames++;
            }
        }

        int fact(int what) {
            switch (what) {
                case 0: return pitch;
                case 1: return volume;
                case 2: return stolenTicks;
                case 3: return stolenTicks > 0 ? stolenNote : NONE;
                case 4: return frames;
                case 5: return latestPattern();
                case 6: return latestRow();
                default: return heard;
            }
        }
    }

    /** Where the playing stands. The song is handed to it, so that a copy can go on without touching either. */
    private static final class Player {
        int place;
        int row;
        int tick;
        int speed = FIRST_SPEED;
        int ticks;
        int rounds;
        final Voice[] voices = new Voice[CHANNELS];

        Player() {
            for (int channel = 0; channel < voices.length; channel++) {
                voices[channel] = new Voice();
            }
        }

        void copyFrom(Player other) {
            place = other.place;
            row = other.row;
            tick = other.tick;
            speed = other.speed;
            ticks = other.ticks;
            rounds = other.rounds;
            for (int channel = 0; channel < CHANNELS; channel++) {
                voices[channel].copyFrom(other.voices[channel]);
            }
        }

        void goToBeginning() {
            place = 0;
            row = 0;
            tick = 0;
            speed = FIRST_SPEED;
            ticks = 0;
            rounds = 0;
            for (Voice voice : voices) {
                voice.goToBeginning();
            }
        }

        /** Answers the hash of what is heard. */
        int passTicks(Song song, int count) {
            int hash = HASH_SEED;
            for (int passed = 0; passed < count; passed++) {
                passTick(song);
                for (Voice voice : voices) {
                    hash = 31 * hash + voice.heard;
                }
            }
            return hash;
        }

        void passTick(Song song) {
            if (tick == 0) {
                beginRow(song);
            } else {
                goOn();
            }
            for (Voice voice : voices) {
                voice.hear();
            }
            ticks++;
            tick++;
            if (tick >= speed) {
                endRow(song);
            }
        }

        private void beginRow(Song song) {
            for (int channel = 0; channel < voices.length; channel++) {
                Voice voice = voices[channel];
                int cell = cellFor(song, voice, channel);
                if (Cell.isSpeed(cell)) {
                    speed = Cell.numberOf(cell);
                }
                voice.beginRow(cell);
            }
        }

        private int cellFor(Song song, Voice voice, int channel) {
            if (voice.frames > 0) {
                return song.cellAt(voice.latestPattern(), voice.latestRow(), channel);
            }
            return song.cellAt(song.patternAt(place), row, channel);
        }

        private void goOn() {
            for (Voice voice : voices) {
                voice.goOn(tick);
            }
        }

        private void endRow(Song song) {
            for (Voice voice : voices) {
                voice.endRow(song);
            }
            tick = 0;
            row++;
            if (row >= song.rowsOf(song.patternAt(place))) {
                row = 0;
                nextPlace(song);
            }
        }

        private void nextPlace(Song song) {
            place++;
            if (place >= song.places) {
                place = 0;
                rounds++;
            }
        }
    }

    /** All that undo() brings back. */
    private static final class State {
        final Song song = new Song();
        final Player player = new Player();

        void copyFrom(State other) {
            song.copyFrom(other.song);
            player.copyFrom(other.player);
        }
    }

    /** The saved states, in a ring that is made once: the newest one takes the place of the oldest. */
    private static final class History {
        final State[] saved = new State[MAX_SAVED];
        int oldest;
        int count;

        History() {
            for (int i = 0; i < saved.length; i++) {
                saved[i] = new State();
            }
        }

        void save(State state) {
            if (count == MAX_SAVED) {
                oldest = ringIndex(1);
                count--;
            }
            saved[ringIndex(count)].copyFrom(state);
            count++;
        }

        void restore(State state) {
            if (count > 0) {
                count--;
                state.copyFrom(saved[ringIndex(count)]);
            }
        }

        private int ringIndex(int distance) {
            return (oldest + distance) % MAX_SAVED;
        }
    }

    /** The text, and the pattern that was read from it last. */
    private static final class PatternText {
        private static final int END = -1;

        final byte[] bytes = new byte[MAX_TEXT];
        int length;
        /** Where the reading stands: where it fails, at the syntax error. */
        int at;
        int pattern;
        int rows;
        final int[] cells = new int[PATTERN_CELLS];

        boolean hasSpace() {
            return length < MAX_TEXT;
        }

        void add(byte value) {
            if (isIndex(length, MAX_TEXT)) {
                bytes[length] = value;
                length++;
            }
        }

        /** Answers whether there is no syntax error. */
        boolean read() {
            for (int i = 0; i < cells.length; i++) {
                cells[i] = Cell.EMPTY;
            }
            at = 0;
            if (!readHead()) {
                return false;
            }
            for (int row = 0; row < MAX_ROWS; row++) {
                if (!readRow(row)) {
                    return false;
                }
                if (next() == END) {
                    rows = row + 1;
                    return true;
                }
                if (next() != '/' || row == MAX_ROWS - 1) {
                    return false;
                }
                at++;
            }
            return false;
        }

        private boolean readHead() {
            if (next() < '0' || next() >= '0' + PATTERNS) {
                return false;
            }
            pattern = next() - '0';
            at++;
            if (next() != ':') {
                return false;
            }
            at++;
            return true;
        }

        /** Stops behind a cell that no other follows: what stands there is for read() to judge. */
        private boolean readRow(int row) {
            for (int channel = 0; channel < CHANNELS; channel++) {
                if (!readCell(row * CHANNELS + channel)) {
                    return false;
                }
                if (next() != ',' || channel == CHANNELS - 1) {
                    return true;
                }
                at++;
            }
            return false;
        }

        private boolean readCell(int index) {
            if (next() == '.') {
                at++;
                return true;
            }
            int note = readNumber(SILENCE);
            if (note == NONE) {
                return false;
            }
            int volume = readVolume();
            if (volume == NONE) {
                return false;
            }
            int effect = readEffect();
            int number = 0;
            if (effect != NO_EFFECT) {
                if (!isDigit(next())) {
                    return false;
                }
                number = next() - '0';
                at++;
            }
            if (isIndex(index, PATTERN_CELLS)) {
                cells[index] = Cell.packed(note, volume, effect, number);
            }
            return true;
        }

        private int readVolume() {
            if (next() != 'v') {
                return MAX_VOLUME;
            }
            at++;
            return readNumber(MAX_VOLUME);
        }

        private int readEffect() {
            if (next() < 'a' || next() >= 'a' + MAX_EFFECT) {
                return NO_EFFECT;
            }
            int effect = next() - 'a' + 1;
            at++;
            return effect;
        }

        /** Answers NONE at a syntax error. A third digit is one before the range matters: the number is not over. */
        private int readNumber(int most) {
            int begin = at;
            if (!isDigit(next())) {
                return NONE;
            }
            int number = next() - '0';
            at++;
            if (isDigit(next())) {
                number = 10 * number + next() - '0';
                at++;
            }
            if (isDigit(next())) {
                return NONE;
            }
            if (number > most) {
                at = begin;
                return NONE;
            }
            return number;
        }

        private int next() {
            return at >= 0 && at < length && at < MAX_TEXT ? bytes[at] : END;
        }

        private static boolean isDigit(int value) {
            return value >= '0' && value <= '9';
        }
    }
}
