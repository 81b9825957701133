import java.math.BigInteger;

/** The sentences of the terms on patterns, the order, channels, playing and the hash. */
final class TermsSentences {
    private static final int NONE = ChannelLoom.NONE;

    private TermsSentences() {
    }

    static void run(Document d) {
        d.open("What it is");
        d.says("An object is used for at most 512 calls after it has been made", TermsSentences::calls512);
        d.open("Terms");
        patterns(d);
        cells(d);
        order(d);
        channels(d);
        player(d);
        tickZero(d);
        otherTicks(d);
        pitchAndVolume(d);
        heard(d);
        endOfRow(d);
        newFrames(d);
        nextRow(d);
        begunNotes(d);
        hash(d);
    }

    private static void calls512() {
        ChannelLoom x = Songs.of("0:1g1");
        int before = 7;
        for (int call = before + 1; call < 512; call++) {
            x.play(1);
        }
        Check.same("the answer of call 512", 504, x.value(4));
    }

    private static void patterns(Document d) {
        d.says("There are 6 patterns, numbered from 0.", () -> {
            ChannelLoom x = new ChannelLoom();
            for (int pattern = 0; pattern < 6; pattern++) {
                Check.same("the rows of pattern " + pattern, 4, x.pattern(pattern, 0));
            }
            Ranges.outside(x, 0, 5, (y, pattern) -> y.pattern(pattern, 0));
        });
        d.says("A pattern has 1 to 8 rows", () -> {
            for (int rows = 1; rows <= 8; rows++) {
                ChannelLoom x = new ChannelLoom();
                x.setRows(0, rows);
                Check.same("the rows", rows, x.pattern(0, 0));
                Check.same("the ticks of " + rows + " rows", 3 * rows, x.ticksToRound());
            }
            Ranges.illegal(new ChannelLoom(), 1, 8, (x, rows) -> x.setRows(0, rows));
        });
        d.says("initially 4", () -> {
            for (int pattern = 0; pattern < 6; pattern++) {
                ChannelLoom x = new ChannelLoom();
                x.setOrder(0, pattern);
                Check.same("the rows of pattern " + pattern, 4, x.pattern(pattern, 0));
                Check.same("the ticks of pattern " + pattern, 12, x.ticksToRound());
            }
        });
        d.says("in each row a cell for each of the channels 0 to 3", () -> {
            for (int pattern = 0; pattern < 6; pattern++) {
                eachCell(pattern);
            }
        });
        d.says("(Cells of rows beyond its end are kept.)", () -> {
            ChannelLoom x = new ChannelLoom();
            x.setNote(2, 7, 1, 33, 4);
            x.setEffect(2, 7, 1, 5, 8);
            Songs.cell("written beyond the end", x, 2, 7, 1, 33, 4, 5, 8);
            x.setRows(2, 8);
            Songs.cell("with eight rows", x, 2, 7, 1, 33, 4, 5, 8);
            x.setRows(2, 1);
            Songs.cell("with one row", x, 2, 7, 1, 33, 4, 5, 8);
            x.setRows(2, 7);
            Songs.cell("with one row too few", x, 2, 7, 1, 33, 4, 5, 8);
        });
    }

    /** Writes all 32 cells of a pattern, each with facts of its own, and reads all 192. */
    private static void eachCell(int pattern) {
        ChannelLoom x = new ChannelLoom();
        for (int i = 0; i < 32; i++) {
            x.setNote(pattern, i / 4, i % 4, i + 1, i % 16);
            x.setEffect(pattern, i / 4, i % 4, i % 7 + 1, i % 10);
        }
        for (int i = 0; i < 32; i++) {
            Songs.cell("pattern " + pattern + ", cell " + i, x, pattern, i / 4, i % 4, i + 1, i % 16, i % 7 + 1, i % 10);
        }
        for (int i = 0; i < 192; i++) {
            if (i / 32 != pattern) {
                Check.same("a note of another pattern", 0, x.cell(i / 32, i / 4 % 8, i % 4, 0));
            }
        }
    }

    private static void cells(Document d) {
        d.says("A cell has a note: 0 none (initially), 1 to 60, or 61 for silence", () -> {
            ChannelLoom x = new ChannelLoom();
            Check.same("the note at first", 0, x.cell(0, 0, 0, 0));
            for (int note = 0; note <= 61; note++) {
                x.setNote(0, 0, 0, note, 3);
                Check.same("the note", note, x.cell(0, 0, 0, 0));
            }
            Ranges.illegal(x, 0, 61, (y, note) -> y.setNote(0, 0, 0, note, 3));
        });
        d.says("a volume, 0 to 15, initially 15", () -> {
            ChannelLoom x = new ChannelLoom();
            Check.same("the volume at first", 15, x.cell(0, 0, 0, 1));
            for (int volume = 0; volume <= 15; volume++) {
                x.setNote(0, 0, 0, 5, volume);
                Check.same("the volume", volume, x.cell(0, 0, 0, 1));
            }
            Ranges.illegal(x, 0, 15, (y, volume) -> y.setNote(0, 0, 0, 5, volume));
        });
        d.says("an effect, 0 none (initially) to 7", () -> {
            ChannelLoom x = new ChannelLoom();
            Check.same("the effect at first", 0, x.cell(0, 0, 0, 2));
            for (int effect = 0; effect <= 7; effect++) {
                x.setEffect(0, 0, 0, effect, 2);
                Check.same("the effect", effect, x.cell(0, 0, 0, 2));
            }
            Ranges.illegal(x, 0, 7, (y, effect) -> y.setEffect(0, 0, 0, effect, 2));
        });
        d.says("a number, 0 to 9, initially 0", () -> {
            ChannelLoom x = new ChannelLoom();
            Check.same("the number at first", 0, x.cell(0, 0, 0, 3));
            for (int number = 0; number <= 9; number++) {
                x.setEffect(0, 0, 0, 1, number);
                Check.same("the number", number, x.cell(0, 0, 0, 3));
            }
            Ranges.illegal(x, 0, 9, (y, number) -> y.setEffect(0, 0, 0, 1, number));
        });
    }

    private static void order(Document d) {
        d.says("The order is a row of 1 to 8 patterns", () -> {
            ChannelLoom x = new ChannelLoom();
            Check.refused(x, "the only place can't be removed", x::shorten);
            for (int place = 1; place < 8; place++) {
                Check.same("the places", place + 1, x.setOrder(place, place % 6));
            }
            Check.outside(x, "there is no ninth place", () -> x.setOrder(8, 0));
            Check.same("eight places are played", 8 * 12, x.ticksToRound());
            for (int places = 7; places >= 1; places--) {
                Check.same("the places", places, x.shorten());
            }
            Check.refused(x, "the first place can't be removed", x::shorten);
        });
        d.says("initially pattern 0 alone", () -> {
            ChannelLoom x = new ChannelLoom();
            Check.same("the places", 1, x.value(6));
            Check.same("the first place", 0, x.order(0));
            Check.outside(x, "there is no second place", () -> x.order(1));
        });
    }

    private static void channels(Document d) {
        d.says("A channel has a pitch, 0 to 999", () -> {
            ChannelLoom high = Songs.of("0:60g8/0a9");
            high.play(16);
            Check.same("the greatest pitch", 999, high.channel(0, 0));
            ChannelLoom low = Songs.of("0:1g8/0b9");
            low.play(16);
            Check.same("the least pitch", 0, low.channel(0, 0));
        });
        d.says("and a volume, 0 to 15, both 0 at first.", () -> {
            ChannelLoom x = new ChannelLoom();
            for (int channel = 0; channel < 4; channel++) {
                Check.same("the pitch at first", 0, x.channel(channel, 0));
                Check.same("the volume at first", 0, x.channel(channel, 1));
            }
            x.setEffect(0, 0, 3, 3, 9);
            x.setEffect(0, 1, 3, 4, 9);
            x.play(3);
            Check.same("the greatest volume", 15, x.channel(3, 1));
            x.play(3);
            Check.same("the least volume", 0, x.channel(3, 1));
        });
        d.says("It may have frames, at most 3", () -> {
            ChannelLoom x = Songs.of("0:1e1/2/3/4/5/6/7/8", "1:1e1/2");
            int[] due = {0, 1, 2, 3, 3, 2, 1, 0, 0, 1};
            for (int row = 0; row < due.length; row++) {
                Check.same("the frames behind row " + (row - 1), due[row], x.channel(0, 4));
                x.play(3);
            }
        });
        d.says("calls that are not over, each with a pattern and a row", () -> {
            ChannelLoom x = Songs.of("0:1e5/2/3/4", "5:1/2/3");
            Songs.frames("before the call", x, 0, 0, NONE, NONE);
            x.play(3);
            Songs.frames("in its first row", x, 0, 1, 5, 0);
            x.play(6);
            Songs.frames("in its last row", x, 0, 1, 5, 2);
            x.play(2);
            Songs.frames("in the last tick of it", x, 0, 1, 5, 2);
            x.play(1);
            Songs.frames("when it is over", x, 0, 0, NONE, NONE);
        });
        d.says("It may be stolen, for some ticks, by a note.", () -> {
            ChannelLoom x = new ChannelLoom();
            x.steal(1, 60, 99);
            for (int channel = 0; channel < 4; channel++) {
                Check.same("the ticks", channel == 1 ? 99 : 0, x.channel(channel, 2));
                Check.same("the note", channel == 1 ? 60 : NONE, x.channel(channel, 3));
            }
        });
    }

    private static void player(Document d) {
        d.says("The player has a place in the order (at first 0), a row (at first 0) and a tick within the row (at first 0)",
                () -> Songs.stands("at first", new ChannelLoom(), 0, 0, 0, 0));
        d.says("a speed, the number of ticks of a row, 1 to 8, initially 3", () -> {
            Check.same("the speed at first", 3, new ChannelLoom().value(3));
            Check.same("the ticks of four rows", 12, new ChannelLoom().ticksToRound());
            for (int speed = 1; speed <= 8; speed++) {
                ChannelLoom x = Songs.of("0:1g" + speed);
                Check.same("the ticks of a row", speed, x.ticksToRound());
                x.play(speed);
                Check.same("the speed", speed, x.value(3));
            }
        });
        d.says("When a tick passes, these things happen, in this order:", () -> {
            ChannelLoom x = Songs.of("0:5g1/6a1/7e1/8", "1:9");
            Songs.hears("a note and a speed of the same tick", x, 0, Songs.tone(5, 15));
            Songs.stands("the speed ends the row", x, 0, 1, 0, 0);
            ChannelLoom y = Songs.of("0:5a1/6e1/7", "1:9");
            Songs.hears("effects before what is heard", y, 0, Songs.sound(80, 15), Songs.sound(81, 15), Songs.sound(82, 15));
            Songs.hears("what is heard before the call", y, 0, Songs.tone(6, 15), Songs.tone(6, 15), Songs.tone(6, 15));
            Songs.frames("the call behind it", y, 0, 1, 1, 0);
        });
    }

    private static void tickZero(Document d) {
        d.says("In tick 0 of a row, for each channel in ascending order, its cell is read", () -> {
            Check.same("the speed of the last channel", 4, speedBehind("0:1g1,2g2,3g3,4g4"));
            Check.same("the least speed of the last channel", 1, speedBehind("0:1g4,2g3,3g2,4g1"));
            Check.same("a speed of channel 0 alone", 8, speedBehind("0:1g8,2,3,4"));
            Check.same("a speed of channel 2 behind one of channel 1", 7, speedBehind("0:.,2g5,3g7,4a6"));
            ChannelLoom x = Songs.of("0:1/2");
            x.play(3);
            x.setNote(0, 1, 0, 9, 9);
            Songs.hears("as it is in tick 0", x, 0, Songs.tone(9, 9));
            x.setNote(0, 1, 0, 10, 10);
            Songs.hears("not in another tick", x, 0, Songs.tone(9, 9), Songs.tone(9, 9));
        });
        d.says("that of its latest frame's pattern and row, if it has frames", () -> {
            ChannelLoom x = Songs.of("0:.,1e1/.,2/.,3/.,4/.,5", "1:6,7/8,9e2/10,11/12,13", "2:14,15/16,17");
            int[] due = {1, 7, 9, 15, 17, 11, 13, 3};
            for (int note : due) {
                Songs.hears("the latest frame's cell", x, 1, Songs.tone(note, 15));
                x.play(2);
            }
        });
        d.says("otherwise that of the pattern at the place in the order and of the row", () -> {
            ChannelLoom x = Songs.of("4:.,.,.,1/.,.,.,2", "5:.,.,.,3", "0:.,.,.,60");
            x.setOrder(0, 4);
            x.setOrder(1, 5);
            x.setOrder(2, 4);
            for (int note : new int[] {1, 2, 3, 1, 2, 1, 2}) {
                Songs.hears("the cell of the order", x, 3, Songs.tone(note, 15));
                x.play(2);
            }
        });
        d.says("With effect 7 and a number from 1 to 8, the speed becomes this number", () -> {
            int[] due = {3, 1, 2, 3, 4, 5, 6, 7, 8, 3};
            for (int number = 0; number <= 9; number++) {
                Check.same("the speed by number " + number, due[number], speedBehind("0:1g" + number));
                ChannelLoom x = Songs.of("0:1g" + number);
                Check.same("the ticks of the row", due[number], x.ticksToRound());
            }
        });
        d.says("from this row on", () -> {
            ChannelLoom x = Songs.of("0:1/2g5/3/4g2", "1:5/6");
            x.setOrder(1, 1);
            int[] ticks = {3, 5, 5, 2, 2, 2, 2, 5, 5, 2};
            int[] places = {0, 0, 0, 0, 1, 1, 0, 0, 0, 0};
            int[] rows = {0, 1, 2, 3, 0, 1, 0, 1, 2, 3};
            for (int i = 0; i < ticks.length; i++) {
                Songs.stands("row " + i + " begins", x, places[i], rows[i], 0, i / 6);
                x.play(ticks[i] - 1);
                Songs.stands("the last tick of row " + i, x, places[i], rows[i], ticks[i] - 1, i / 6);
                x.play(1);
            }
        });
        d.says("With effect 6 and a number above 0, the note waits; otherwise it is begun.", () -> {
            for (int number = 0; number <= 9; number++) {
                int due = number == 0 ? Songs.tone(7, 15) : 0;
                Songs.hears("a delay of " + number, Songs.of("0:7f" + number), 0, due);
            }
            for (char effect : "abcdeg".toCharArray()) {
                for (int number = 0; number <= 9; number++) {
                    Songs.hears("effect " + effect + number, Songs.of("0:7" + effect + number), 0, Songs.tone(7, 15));
                }
            }
        });
    }

    private static int speedBehind(String text) {
        ChannelLoom x = Songs.of(text);
        x.play(1);
        return x.value(3);
    }

    private static void otherTicks(Document d) {
        d.says("In every other tick t of the row", () -> {
            for (int speed = 1; speed <= 8; speed++) {
                ChannelLoom x = Songs.of("0:5g" + speed + ",6a1,7b1,8v0c1/9,10", "1:.");
                x.play(speed);
                Check.same("pitch up in every tick but 0, speed " + speed, 96 + speed - 1, x.channel(1, 0));
                Check.same("pitch down in every tick but 0, speed " + speed, 112 - (speed - 1), x.channel(2, 0));
                Check.same("volume up in every tick but 0, speed " + speed, speed - 1, x.channel(3, 1));
            }
        });
        d.says("by the cell that was read in tick 0 (as it was then)", TermsSentences::asItWasThen);
        d.says("with effect 6 and the number t, the note is begun", () -> {
            for (int number = 1; number <= 9; number++) {
                ChannelLoom x = Songs.of("0:7f" + number + ",2g8");
                for (int tick = 0; tick < 8; tick++) {
                    Songs.hears("a delay of " + number, x, 0, tick >= number ? Songs.tone(7, 15) : 0);
                }
            }
        });
    }

    private static void asItWasThen() {
        ChannelLoom note = Songs.of("0:10v3f2");
        note.play(1);
        note.setNote(0, 0, 0, 20, 1);
        Songs.hears("behind setNote", note, 0, 0, Songs.tone(10, 3));
        ChannelLoom effect = Songs.of("0:10v3a2");
        effect.play(1);
        effect.setEffect(0, 0, 0, 2, 9);
        Songs.hears("behind setEffect", effect, 0, Songs.sound(162, 3), Songs.sound(164, 3));
        ChannelLoom parsed = Songs.of("0:10v3c1");
        parsed.play(1);
        Songs.parsed(parsed, "0:.");
        Songs.hears("behind parse", parsed, 0, Songs.tone(10, 4), Songs.tone(10, 5));
        ChannelLoom order = Songs.of("0:10v3d1", "1:20a9");
        order.play(1);
        order.setOrder(0, 1);
        Songs.hears("behind setOrder", order, 0, Songs.tone(10, 2), Songs.tone(10, 1));
        ChannelLoom undone = Songs.of("0:10v3f2/.");
        undone.play(1);
        undone.play(3);
        undone.setNote(0, 0, 0, 20, 1);
        undone.undo();
        undone.undo();
        Songs.hears("behind undo", undone, 0, 0, Songs.tone(10, 3));
        ChannelLoom asked = Songs.of("0:10v3f2");
        asked.play(1);
        asked.setNote(0, 0, 0, 20, 1);
        Check.same("in a question", Songs.hashOfFirst(0, Songs.tone(10, 3)), asked.hashOf(2));
        ChannelLoom frame = Songs.of("0:1e1", "1:30a1");
        frame.play(4);
        frame.setEffect(1, 0, 0, 0, 0);
        Songs.hears("in a frame", frame, 0, Songs.sound(481, 15), Songs.sound(482, 15));
    }

    private static void pitchAndVolume(Document d) {
        d.says("effect 1 makes the pitch greater by the number, up to 999", () -> {
            pitches("by 0", "0:60a0", 1, 960, 960);
            pitches("by 9", "0:60a9", 1, 969, 978);
            pitches("from 0", "0:0a9", 1, 9, 18);
            pitches("to 999 exactly", "0:60g8/0a5/0a4", 15, 995, 995, 999, 999);
            pitches("to 998, then 999", "0:60g8/0a5/0a3", 15, 995, 995, 998, 999);
            pitches("not beyond 999", "0:60g8/0a5/0a5", 15, 995, 995, 999, 999);
        });
        d.says("effect 2 smaller, down to 0", () -> {
            pitches("by 0", "0:60b0", 1, 960, 960);
            pitches("by 9", "0:60b9", 1, 951, 942);
            pitches("from 0", "0:0b1", 1, 0, 0);
            pitches("to 0 exactly", "0:1b8/0b1", 1, 8, 0, 0, 0);
            pitches("to 2, then 0", "0:1b5/0b4", 1, 11, 6, 6, 2, 0);
            pitches("not below 0", "0:1b9", 1, 7, 0);
        });
        d.says("effect 3 makes the volume greater by it, up to 15", () -> {
            volumes("by 0", "0:9v3c0", 3, 3);
            volumes("by 1", "0:9v3c1", 4, 5);
            volumes("from 0", "0:0c1", 1, 2);
            volumes("to 15 exactly", "0:9v6c9", 15, 15);
            volumes("to 14, then 15", "0:9v5c9", 14, 15);
            volumes("not beyond 15", "0:9v7c9", 15, 15);
        });
        d.says("effect 4 smaller, down to 0.", () -> {
            volumes("by 0", "0:9v3d0", 3, 3);
            volumes("by 1", "0:9v3d1", 2, 1);
            volumes("from 0", "0:0d1", 0, 0);
            volumes("to 0 exactly", "0:9v9d9", 0, 0);
            volumes("to 1, then 0", "0:9v10d9", 1, 0);
            volumes("not below 0", "0:9v8d9", 0, 0);
        });
    }

    /** The pitches that are due behind each tick that follows so many others. */
    private static void pitches(String what, String text, int before, int... due) {
        ChannelLoom x = Songs.of(text);
        x.play(before);
        for (int i = 0; i < due.length; i++) {
            x.play(1);
            Check.same("pitch " + what + ", behind tick " + (before + i), due[i], x.channel(0, 0));
        }
    }

    private static void volumes(String what, String text, int... due) {
        ChannelLoom x = Songs.of(text);
        x.play(1);
        for (int volume : due) {
            x.play(1);
            Check.same("volume " + what, volume, x.channel(0, 1));
        }
    }

    private static void heard(Document d) {
        d.says("if it is stolen, as 16 * (16 * note) + 15, with the note by which it is stolen", () -> {
            for (int note : new int[] {1, 2, 59, 60}) {
                ChannelLoom x = Songs.of("0:30v4,30v4");
                x.steal(1, note, 1);
                Songs.hears("stolen by " + note, x, 1, 256 * note + 15, Songs.tone(30, 4));
                Check.same("a channel beside it", Songs.tone(30, 4), x.channel(0, 7));
            }
        });
        d.says("the ticks for which it is stolen fall by 1", () -> {
            ChannelLoom x = new ChannelLoom();
            x.steal(0, 5, 3);
            x.steal(2, 6, 1);
            for (int tick = 1; tick <= 5; tick++) {
                x.play(1);
                Check.same("of channel 0", Math.max(0, 3 - tick), x.channel(0, 2));
                Check.same("of channel 1", 0, x.channel(1, 2));
                Check.same("of channel 2", 0, x.channel(2, 2));
                Check.same("heard of channel 0", tick <= 3 ? 1295 : 0, x.channel(0, 7));
                Check.same("heard of channel 2", tick <= 1 ? 1551 : 0, x.channel(2, 7));
            }
        });
        d.says("otherwise as 16 * pitch + volume, or 0 if its volume is 0.", () -> {
            Songs.hears("with the volume 0", Songs.of("0:60v0"), 0, 0);
            Songs.hears("with the volume 1", Songs.of("0:60v1"), 0, 15361);
            Songs.hears("with the pitch 0", Songs.of("0:0c1"), 0, 0, 1, 2);
            ChannelLoom x = Songs.of("0:60g8/0a9");
            x.play(15);
            Songs.hears("with the greatest pitch and volume", x, 0, 16 * 999 + 15);
        });
        d.says("(A stolen channel goes on unheard meanwhile.)", () -> {
            ChannelLoom x = Songs.of("0:10v3a2/11v4e1/61/7", "1:12f1/13g4");
            x.steal(0, 1, 99);
            x.play(3);
            Check.same("its pitch", 164, x.channel(0, 0));
            x.play(3);
            Songs.frames("its call", x, 0, 1, 1, 0);
            x.play(2);
            Check.same("its delayed note", 192, x.channel(0, 0));
            Check.same("its volume", 15, x.channel(0, 1));
            x.play(2);
            Check.same("its speed", 4, x.value(3));
            Check.same("what is heard", 271, x.channel(0, 7));
            x.giveBack(0);
            Songs.hears("behind it", x, 0, Songs.tone(13, 15));
        });
    }

    private static void endOfRow(Document d) {
        d.says("The tick within the row increases by 1. If it is not less than the speed then, the row is over", () -> {
            for (int speed = 1; speed <= 8; speed++) {
                ChannelLoom x = Songs.of("0:1g" + speed + "/.");
                for (int tick = 1; tick < speed; tick++) {
                    x.play(1);
                    Songs.stands("speed " + speed, x, 0, 0, tick, 0);
                }
                x.play(1);
                Songs.stands("the row is over at speed " + speed, x, 0, 1, 0, 0);
            }
        });
        d.says("its latest frame, if it has any, goes to the next row", () -> {
            ChannelLoom x = Songs.of("0:1e1/././././././.", "1:2e2/3/4", "2:5/6/7");
            x.play(3);
            Songs.frames("the first frame", x, 0, 1, 1, 0);
            x.play(3);
            Songs.frames("the second one", x, 0, 2, 2, 0);
            x.play(3);
            Songs.frames("the second one alone goes on", x, 0, 2, 2, 1);
            x.play(3);
            Songs.frames("the second one again", x, 0, 2, 2, 2);
            x.play(3);
            Songs.frames("the first one waited", x, 0, 1, 1, 1);
            x.play(3);
            Songs.frames("the first one goes on", x, 0, 1, 1, 2);
            Songs.frames("a channel without frames", x, 1, 0, NONE, NONE);
        });
        d.says("and is left if its pattern has not so many rows", () -> {
            for (int rows = 1; rows <= 8; rows++) {
                ChannelLoom x = Songs.of("0:1e1/./././././.", "1:.");
                x.setRows(1, rows);
                x.setEffect(0, 0, 1, 7, 1);
                x.play(1);
                for (int row = 0; row < rows; row++) {
                    Songs.frames("of " + rows + " rows", x, 0, 1, 1, row);
                    x.play(1);
                }
                Songs.frames("behind its " + rows + " rows", x, 0, 0, NONE, NONE);
            }
        });
        d.says("(a frame that calls has gone on already)", () -> {
            ChannelLoom x = Songs.of("0:1e1/2/3/4", "1:11e2/12/13", "2:21");
            x.play(9);
            Songs.frames("behind the call, in the row behind the one that called", x, 0, 1, 1, 1);
            ChannelLoom last = Songs.of("0:1e1/2/3/4", "1:11/12e2", "2:21/22");
            last.play(9);
            Songs.frames("a frame that calls in its last row is left", last, 0, 1, 2, 0);
            last.play(6);
            Songs.frames("nothing is left behind it", last, 0, 0, NONE, NONE);
        });
    }

    private static void newFrames(Document d) {
        d.says("if the cell that was read has, as it was then, effect 5 and a number below 6", () -> {
            for (int number = 0; number <= 9; number++) {
                ChannelLoom x = Songs.of("0:1e" + number + "/.");
                x.play(3);
                boolean called = number < 6;
                Songs.frames("number " + number, x, 0, called ? 1 : 0, called ? number : NONE, called ? 0 : NONE);
            }
            for (char effect : "abcdfg".toCharArray()) {
                ChannelLoom x = Songs.of("0:1" + effect + "3/.");
                x.play(3);
                Songs.frames("effect " + effect, x, 0, 0, NONE, NONE);
            }
            ChannelLoom gone = Songs.of("0:1e2/.");
            gone.play(2);
            gone.setEffect(0, 0, 0, 0, 0);
            gone.play(1);
            Songs.frames("a call as it was then", gone, 0, 1, 2, 0);
            ChannelLoom late = Songs.of("0:1/.");
            late.play(2);
            late.setEffect(0, 0, 0, 5, 2);
            late.play(1);
            Songs.frames("no call as it was then", late, 0, 0, NONE, NONE);
        });
        d.says("the channel has fewer than 3 frames", () -> {
            ChannelLoom x = Songs.of("0:1e1", "1:2e2/3", "2:4e3/5", "3:6e4/7", "4:8");
            x.play(6);
            Songs.frames("the second", x, 0, 2, 2, 0);
            x.play(3);
            Songs.frames("the third", x, 0, 3, 3, 0);
            x.play(3);
            Songs.frames("no fourth: the third goes on", x, 0, 3, 3, 1);
            ChannelLoom left = Songs.of("0:1e1", "1:2e2/3", "2:4e3/5", "3:6e4", "4:8");
            left.play(12);
            Songs.frames("in place of a third that is left", left, 0, 3, 4, 0);
        });
        d.says("it gets a new frame with this pattern and row 0", () -> {
            for (int pattern = 0; pattern < 6; pattern++) {
                ChannelLoom x = Songs.of("0:.,.,.,9/.,.,1e" + pattern);
                x.play(5);
                Songs.frames("in the row that calls", x, 2, 0, NONE, NONE);
                x.play(1);
                Songs.frames("behind it", x, 2, 1, pattern, 0);
                Songs.frames("a channel beside it", x, 3, 0, NONE, NONE);
            }
        });
    }

    private static void nextRow(Document d) {
        d.says("Then the row becomes the next one of the pattern at the place in the order", () -> {
            ChannelLoom x = new ChannelLoom();
            x.setOrder(0, 3);
            x.setRows(3, 8);
            for (int row = 0; row < 8; row++) {
                Songs.stands("row " + row, x, 0, row, 0, 0);
                x.play(3);
            }
        });
        d.says("behind its last one, the place becomes the next one", () -> {
            ChannelLoom x = new ChannelLoom();
            x.setRows(0, 1);
            for (int place = 1; place < 8; place++) {
                x.setOrder(place, 0);
            }
            for (int place = 0; place < 8; place++) {
                Songs.stands("place " + place, x, place, 0, 0, 0);
                x.play(3);
            }
        });
        d.says("(behind the last place: 0, and a round is over), and the row 0", () -> {
            ChannelLoom one = Songs.of("0:1/2");
            one.play(5);
            Songs.stands("in the last tick of one place", one, 0, 1, 2, 0);
            one.play(1);
            Songs.stands("behind one place", one, 0, 0, 0, 1);
            ChannelLoom two = Songs.of("0:1/2", "1:3/4/5");
            two.setOrder(1, 1);
            two.play(6);
            Songs.stands("behind the first place", two, 1, 0, 0, 0);
            two.play(9);
            Songs.stands("behind the second place", two, 0, 0, 0, 1);
            two.play(15);
            Songs.stands("behind two rounds", two, 0, 0, 0, 2);
        });
        d.says("The tick within the row becomes 0.", () -> {
            ChannelLoom x = Songs.of("0:1g8/2");
            x.play(7);
            Check.same("in the last tick", 7, x.value(2));
            x.play(1);
            Check.same("behind it", 0, x.value(2));
            Check.same("the row", 1, x.value(1));
        });
    }

    private static void begunNotes(Document d) {
        d.says("To begin a note of 1 to 60 means: the pitch becomes 16 * note, the volume that of the cell.", () -> {
            for (int note : new int[] {1, 2, 59, 60}) {
                for (int volume : new int[] {0, 1, 14, 15}) {
                    ChannelLoom x = Songs.of("0:30v7/" + note + "v" + volume);
                    x.play(4);
                    Check.same("the pitch of note " + note, 16 * note, x.channel(0, 0));
                    Check.same("the volume " + volume, volume, x.channel(0, 1));
                }
            }
        });
        d.says("Of 61: the volume becomes 0.", () -> {
            ChannelLoom x = Songs.of("0:30v7/61v9");
            x.play(4);
            Check.same("the volume", 0, x.channel(0, 1));
            Check.same("the pitch stays", 480, x.channel(0, 0));
        });
        d.says("Of 0: nothing.", () -> {
            ChannelLoom x = Songs.of("0:30v7/0v9");
            x.play(4);
            Check.same("the volume stays", 7, x.channel(0, 1));
            Check.same("the pitch stays", 480, x.channel(0, 0));
        });
    }

    private static void hash(Document d) {
        d.says("it begins with 17", () -> {
            Check.same("of no ticks", 17, new ChannelLoom().hashOf(0));
            Check.same("of a silent tick", 17 * 31 * 31 * 31 * 31, new ChannelLoom().play(1));
        });
        d.says("for each tick and each channel, in ascending order, h becomes 31 * h + (what is heard)", () -> {
            ChannelLoom x = Songs.of("0:1v1,2v2,3v3,4v4");
            long h = 17;
            for (int note = 1; note <= 4; note++) {
                h = 31 * h + 256 * note + note;
            }
            Check.same("of a tick", (int) h, x.hashOf(1));
            for (int note = 1; note <= 4; note++) {
                h = 31 * h + 256 * note + note;
            }
            Check.same("of two ticks", (int) h, x.play(2));
        });
        d.says("overflow of int arithmetic is ignored", () -> {
            ChannelLoom x = Songs.of("0:60,60,60,60g8");
            BigInteger h = BigInteger.valueOf(17);
            for (int ticks = 1; ticks <= 400; ticks++) {
                for (int channel = 0; channel < 4; channel++) {
                    h = h.multiply(BigInteger.valueOf(31)).add(BigInteger.valueOf(15375));
                }
                Check.same("of " + ticks + " ticks", h.intValue(), x.hashOf(ticks));
            }
            Check.same("of 400 ticks played", h.intValue(), x.play(400));
        });
    }
}
