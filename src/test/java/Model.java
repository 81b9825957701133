import java.util.ArrayDeque;
import java.util.ArrayList;
import java.util.Deque;
import java.util.List;

/**
 * The document told a second time, as plainly as the library allows and in another way than the program,
 * for the comparison in ModelTest.
 */
final class Model {
    private static final int NONE = -1;

    private record Cell(int note, int volume, int effect, int number) {
        static final Cell EMPTY = new Cell(0, 15, 0, 0);
    }

    private record Frame(int pattern, int row) {
    }

    private static final class Channel {
        int pitch = 0;
        int volume = 0;
        int stolenTicks = 0;
        int stolenNote = NONE;
        int heard = 0;
        Deque<Frame> frames = new ArrayDeque<>();
        Cell read = null;

        Channel copy() {
            Channel c = new Channel();
            c.pitch = pitch;
            c.volume = volume;
            c.stolenTicks = stolenTicks;
            c.stolenNote = stolenNote;
            c.heard = heard;
            c.frames = new ArrayDeque<>(frames);
            c.read = read;
            return c;
        }
    }

    private static final class State {
        Cell[][][] cells = new Cell[6][8][4];
        int[] rows = {4, 4, 4, 4, 4, 4};
        List<Integer> order = new ArrayList<>(List.of(0));
        int place = 0;
        int row = 0;
        int tick = 0;
        int speed = 3;
        int ticks = 0;
        int rounds = 0;
        List<Channel> channels = new ArrayList<>();

        State() {
            for (Cell[][] pattern : cells) {
                clear(pattern);
            }
            for (int i = 0; i < 4; i++) {
                channels.add(new Channel());
            }
        }

        State copy() {
            State s = new State();
            for (int p = 0; p < 6; p++) {
                for (int r = 0; r < 8; r++) {
                    s.cells[p][r] = cells[p][r].clone();
                }
            }
            s.rows = rows.clone();
            s.order = new ArrayList<>(order);
            s.place = place;
            s.row = row;
            s.tick = tick;
            s.speed = speed;
            s.ticks = ticks;
            s.rounds = rounds;
            s.channels = new ArrayList<>(channels.stream().map(Channel::copy).toList());
            return s;
        }

        void restart() {
            State fresh = new State();
            place = 0;
            row = 0;
            tick = 0;
            speed = 3;
            ticks = 0;
            rounds = 0;
            channels = fresh.channels;
        }

        void pass() {
            for (int i = 0; i < 4; i++) {
                Channel c = channels.get(i);
                if (tick == 0) {
                    Frame f = c.frames.isEmpty() ? new Frame(order.get(place), row) : c.frames.peekLast();
                    c.read = cells[f.pattern()][f.row()][i];
                    if (c.read.effect() == 7 && c.read.number() != 0 && c.read.number() != 9) {
                        speed = c.read.number();
                    }
                    if (c.read.effect() != 6 || c.read.number() == 0) {
                        begin(c);
                    }
                } else {
                    later(c);
                }
            }
            for (Channel c : channels) {
                if (c.stolenTicks == 0) {
                    c.heard = c.volume == 0 ? 0 : 16 * c.pitch + c.volume;
                } else {
                    c.heard = 256 * c.stolenNote + 15;
                    c.stolenTicks--;
                    c.stolenNote = c.stolenTicks == 0 ? NONE : c.stolenNote;
                }
            }
            ticks++;
            tick++;
            if (tick == speed) {
                rowOver();
            }
        }

        private void begin(Channel c) {
            if (c.read.note() == 61) {
                c.volume = 0;
            } else if (c.read.note() != 0) {
                c.pitch = 16 * c.read.note();
                c.volume = c.read.volume();
            }
        }

        private void later(Channel c) {
            int n = c.read.number();
            if (c.read.effect() == 6 && n == tick) {
                begin(c);
            }
            int up = c.read.effect() == 1 ? n : c.read.effect() == 2 ? -n : 0;
            int louder = c.read.effect() == 3 ? n : c.read.effect() == 4 ? -n : 0;
            c.pitch = Math.max(0, Math.min(999, c.pitch + up));
            c.volume = Math.max(0, Math.min(15, c.volume + louder));
        }

        private void rowOver() {
            for (Channel c : channels) {
                if (!c.frames.isEmpty()) {
                    Frame f = c.frames.removeLast();
                    if (f.row() + 1 < rows[f.pattern()]) {
                        c.frames.addLast(new Frame(f.pattern(), f.row() + 1));
                    }
                }
                if (c.read.effect() == 5 && c.read.number() < 6 && c.frames.size() < 3) {
                    c.frames.addLast(new Frame(c.read.number(), 0));
                }
            }
            tick = 0;
            row++;
            if (row >= rows[order.get(place)]) {
                row = 0;
                place++;
            }
            if (place == order.size()) {
                place = 0;
                rounds++;
            }
        }
    }

    private State now = new State();
    private final Deque<State> saved = new ArrayDeque<>();
    private final StringBuilder text = new StringBuilder();

    private static void clear(Cell[][] pattern) {
        for (Cell[] row : pattern) {
            java.util.Arrays.fill(row, Cell.EMPTY);
        }
    }

    private static void there(boolean... all) {
        for (boolean b : all) {
            if (!b) {
                throw new IndexOutOfBoundsException();
            }
        }
    }

    private static void legal(boolean... all) {
        for (boolean b : all) {
            if (!b) {
                throw new IllegalArgumentException();
            }
        }
    }

    private static void fits(boolean b) {
        if (!b) {
            throw new IllegalStateException();
        }
    }

    private static boolean in(int n, int least, int most) {
        return least <= n && n <= most;
    }

    private void save() {
        saved.addLast(now.copy());
        if (saved.size() > 4) {
            saved.removeFirst();
        }
    }

    int setNote(int p, int r, int c, int note, int volume) {
        there(in(p, 0, 5), in(r, 0, 7), in(c, 0, 3));
        legal(in(note, 0, 61), in(volume, 0, 15));
        save();
        Cell was = now.cells[p][r][c];
        now.cells[p][r][c] = new Cell(note, volume, was.effect(), was.number());
        return was.note();
    }

    int setEffect(int p, int r, int c, int effect, int number) {
        there(in(p, 0, 5), in(r, 0, 7), in(c, 0, 3));
        legal(in(effect, 0, 7), in(number, 0, 9));
        save();
        Cell was = now.cells[p][r][c];
        now.cells[p][r][c] = new Cell(was.note(), was.volume(), effect, number);
        return was.effect();
    }

    int setRows(int p, int rows) {
        there(in(p, 0, 5));
        legal(in(rows, 1, 8));
        save();
        int was = now.rows[p];
        now.rows[p] = rows;
        return was;
    }

    int setOrder(int place, int p) {
        there(in(place, 0, now.order.size()), place <= 7);
        legal(in(p, 0, 5));
        save();
        if (place == now.order.size()) {
            now.order.add(p);
        } else {
            now.order.set(place, p);
        }
        return now.order.size();
    }

    int shorten() {
        fits(now.order.size() > 1 && now.place < now.order.size() - 1);
        save();
        now.order.remove(now.order.size() - 1);
        return now.order.size();
    }

    int cell(int p, int r, int c, int what) {
        there(in(p, 0, 5), in(r, 0, 7), in(c, 0, 3));
        legal(in(what, 0, 3));
        Cell cell = now.cells[p][r][c];
        return new int[] {cell.note(), cell.volume(), cell.effect(), cell.number()}[what];
    }

    int pattern(int p, int what) {
        there(in(p, 0, 5));
        legal(in(what, 0, 4));
        int notes = 0;
        int calls = 0;
        for (int i = 0; i < 4 * now.rows[p]; i++) {
            Cell cell = now.cells[p][i / 4][i % 4];
            notes += in(cell.note(), 1, 60) ? 1 : 0;
            calls += cell.effect() == 5 && cell.number() < 6 ? 1 : 0;
        }
        int stands = (int) now.order.stream().filter(q -> q == p).count();
        return new int[] {now.rows[p], notes, calls, stands, played(p, new boolean[6], now.order) ? 1 : 0}[what];
    }

    private boolean played(int p, boolean[] seen, List<Integer> from) {
        boolean found = false;
        for (int q : from) {
            if (!seen[q]) {
                seen[q] = true;
                List<Integer> called = new ArrayList<>();
                for (int i = 0; i < 4 * now.rows[q]; i++) {
                    Cell cell = now.cells[q][i / 4][i % 4];
                    if (cell.effect() == 5 && cell.number() < 6) {
                        called.add(cell.number());
                    }
                }
                found |= q == p || played(p, seen, called);
            }
        }
        return found;
    }

    int order(int place) {
        there(in(place, 0, now.order.size() - 1));
        return now.order.get(place);
    }

    int play(int ticks) {
        legal(in(ticks, 1, 500));
        fits(now.ticks + ticks <= 100000);
        save();
        return hash(now, ticks);
    }

    private static int hash(State s, int ticks) {
        int h = 17;
        for (int i = 0; i < ticks; i++) {
            s.pass();
            for (Channel c : s.channels) {
                h = 31 * h + c.heard;
            }
        }
        return h;
    }

    int restart() {
        save();
        int was = now.ticks;
        now.restart();
        return was;
    }

    int steal(int c, int note, int ticks) {
        there(in(c, 0, 3));
        legal(in(note, 1, 60), in(ticks, 1, 99));
        save();
        Channel channel = now.channels.get(c);
        int was = channel.stolenTicks;
        channel.stolenNote = note;
        channel.stolenTicks = ticks;
        return was;
    }

    int giveBack(int c) {
        there(in(c, 0, 3));
        save();
        return giveBack(now.channels.get(c));
    }

    private static int giveBack(Channel channel) {
        int was = channel.stolenTicks;
        channel.stolenNote = NONE;
        channel.stolenTicks = 0;
        return was;
    }

    int channel(int c, int what) {
        there(in(c, 0, 3));
        legal(in(what, 0, 7));
        Channel h = now.channels.get(c);
        Frame f = h.frames.isEmpty() ? new Frame(NONE, NONE) : h.frames.peekLast();
        return new int[] {h.pitch, h.volume, h.stolenTicks, h.stolenNote, h.frames.size(), f.pattern(), f.row(), h.heard}[what];
    }

    int value(int what) {
        legal(in(what, 0, 7));
        return new int[] {now.place, now.row, now.tick, now.speed, now.ticks, now.rounds, now.order.size(),
            now.order.get(now.place)}[what];
    }

    int hashOf(int ticks) {
        legal(in(ticks, 0, 500));
        return hash(now.copy(), ticks);
    }

    int ticksToRound() {
        State s = now.copy();
        for (int i = 1; i <= 1000; i++) {
            s.pass();
            if (s.rounds > now.rounds) {
                return i;
            }
        }
        return NONE;
    }

    int silent(int c, int ticks) {
        there(in(c, 0, 3));
        legal(in(ticks, 1, 500));
        State s = now.copy();
        int count = 0;
        for (int i = 0; i < ticks; i++) {
            s.pass();
            count += s.channels.get(c).heard == 0 ? 1 : 0;
        }
        return count;
    }

    int deepest(int c, int ticks) {
        there(in(c, 0, 3));
        legal(in(ticks, 1, 500));
        State s = now.copy();
        int most = 0;
        for (int i = 0; i < ticks; i++) {
            s.pass();
            most = Math.max(most, s.channels.get(c).frames.size());
        }
        return most;
    }

    int unheard(int c, int note) {
        there(in(c, 0, 3));
        legal(in(note, 1, 60));
        State s = now.copy();
        giveBack(s.channels.get(c));
        int count = 0;
        s.pass();
        while (count < 99 && s.channels.get(c).heard == 256 * note + 15) {
            count++;
            s.pass();
        }
        return count;
    }

    double meanVolume() {
        return now.channels.stream().mapToInt(c -> c.volume).sum() / 4.0;
    }

    int append(int value) {
        legal(in(value, 0, 127));
        fits(text.length() < 100);
        text.append((char) value);
        return text.length();
    }

    int clearText() {
        int was = text.length();
        text.setLength(0);
        return was;
    }

    /** Reads byte by byte; the kind says what was read last. */
    int parse() {
        Cell[][] read = new Cell[8][4];
        clear(read);
        String kind = "begin";
        int row = 0;
        int channel = 0;
        int number = 0;
        int numberAt = 0;
        Cell cell = Cell.EMPTY;
        int pattern = 0;
        for (int i = 0; i <= text.length(); i++) {
            boolean end = i == text.length();
            char b = end ? '\n' : text.charAt(i);
            boolean digit = b >= '0' && b <= '9';
            boolean wasNote = kind.startsWith("note");
            boolean wasVolume = kind.startsWith("volume") && !kind.equals("volume0");
            if (digit) {
                switch (kind) {
                    case "begin" -> { pattern = b - '0'; kind = pattern < 6 ? "pattern" : "wrong"; }
                    case "cell" -> { number = b - '0'; numberAt = i; kind = "note1"; }
                    case "note1" -> { number = 10 * number + b - '0'; kind = "note2"; }
                    case "volume0" -> { number = b - '0'; numberAt = i; kind = "volume1"; }
                    case "volume1" -> { number = 10 * number + b - '0'; kind = "volume2"; }
                    case "effect" -> {
                        cell = new Cell(cell.note(), cell.volume(), cell.effect(), b - '0');
                        read[row][channel] = cell;
                        kind = "whole";
                    }
                    default -> kind = "wrong";
                }
                if (kind.equals("wrong")) {
                    return -10 - i;
                }
                continue;
            }
            if (wasNote) {
                if (number > 61) {
                    return -10 - numberAt;
                }
                cell = new Cell(number, 15, 0, 0);
                read[row][channel] = cell;
            }
            if (wasVolume) {
                if (number > 15) {
                    return -10 - numberAt;
                }
                cell = new Cell(cell.note(), number, 0, 0);
                read[row][channel] = cell;
            }
            boolean over = wasNote || wasVolume || kind.equals("whole");
            if (end && over) {
                save();
                now.cells[pattern] = read;
                now.rows[pattern] = row + 1;
                return pattern;
            } else if (end) {
                return -10 - i;
            } else if (b == ':' && kind.equals("pattern")) {
                kind = "cell";
            } else if (b == '.' && kind.equals("cell")) {
                kind = "whole";
            } else if (b == 'v' && wasNote) {
                kind = "volume0";
            } else if (b >= 'a' && b <= 'g' && (wasNote || wasVolume)) {
                cell = new Cell(cell.note(), cell.volume(), b - 'a' + 1, 0);
                kind = "effect";
            } else if (b == ',' && over && channel < 3) {
                channel++;
                kind = "cell";
            } else if (b == '/' && over && row < 7) {
                row++;
                channel = 0;
                kind = "cell";
            } else {
                return -10 - i;
            }
        }
        throw new AssertionError("the end of the text is judged above");
    }

    int undo() {
        fits(!saved.isEmpty());
        now = saved.removeLast();
        return saved.size();
    }

    long digest() {
        long h = 31 * 3533L + text.length();
        for (int what = 0; what < 8; what++) {
            h = 31 * h + value(what);
        }
        for (int p = 0; p < 6; p++) {
            for (int what = 0; what < 5; what++) {
                h = 31 * h + pattern(p, what);
            }
            for (int i = 0; i < 16 * now.rows[p]; i++) {
                h = 31 * h + cell(p, i / 16, i / 4 % 4, i % 4);
            }
        }
        for (int p : now.order) {
            h = 31 * h + p;
        }
        for (int i = 0; i < 32; i++) {
            h = 31 * h + channel(i / 8, i % 8);
        }
        h = 31 * h + hashOf(40);
        return 31 * h + saved.size();
    }
}
