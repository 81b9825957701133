/** Promises 22 to 24. */
final class TextTest {
    private TextTest() {
    }

    static void run() {
        append();
        clearText();
        parse();
        parsedCells();
        heads();
        cellErrors();
        rangeErrors();
        tooMany();
        everyByte();
        parseState();
    }

    private static void append() {
        ChannelLoom x = new ChannelLoom();
        Check.same("append", 1, x.append(0));
        Check.same("append again", 2, x.append(127));
        Check.illegal(x, "append -1", () -> x.append(-1));
        Check.illegal(x, "append 128", () -> x.append(128));
        Check.illegal(x, "append of very much", () -> x.append(Integer.MIN_VALUE));
        for (int length = 3; length <= 100; length++) {
            Check.same("append to " + length, length, x.append('.'));
        }
        Check.refused(x, "append to a full text", () -> x.append('.'));
        Check.illegal(x, "append with both", () -> x.append(128));
        Check.refused(x, "append is not undoable", x::undo);
        x.clearText();
        Check.same("append behind clearText", 1, x.append('0'));
    }

    private static void clearText() {
        ChannelLoom x = new ChannelLoom();
        Check.same("clearText of an empty text", 0, x.clearText());
        x.append('1');
        x.append(':');
        x.append('5');
        Check.same("clearText", 3, x.clearText());
        Check.same("clearText again", 0, x.clearText());
        Check.same("nothing is left", -10, x.parse());
        Check.refused(x, "clearText is not undoable", x::undo);
        Check.same("a shorter text behind a longer one", -12, Songs.parsed(x, "1:"));
    }

    private static void parse() {
        ChannelLoom x = new ChannelLoom();
        Check.same("parse", 3, Songs.parsed(x, "3:1v2a3/.,60v15g9,61"));
        Check.same("its rows", 2, x.pattern(3, 0));
        Songs.cell("a whole cell", x, 3, 0, 0, 1, 2, 1, 3);
        Songs.cell("a cell that is not told", x, 3, 0, 1, 0, 15, 0, 0);
        Songs.cell("an empty cell", x, 3, 1, 0, 0, 15, 0, 0);
        Songs.cell("the greatest cell", x, 3, 1, 1, 60, 15, 7, 9);
        Songs.cell("a note alone", x, 3, 1, 2, 61, 15, 0, 0);
        Songs.cell("the channel behind the last cell", x, 3, 1, 3, 0, 15, 0, 0);
        Songs.cell("another pattern", x, 2, 0, 0, 0, 15, 0, 0);
        Check.same("the rows of another pattern", 4, x.pattern(2, 0));
        Check.same("the text stays", 20, x.clearText());
        for (int pattern = 0; pattern < 6; pattern++) {
            Check.same("parse of pattern " + pattern, pattern, Songs.parsed(x, pattern + ":7,8,9,10"));
            Songs.cell("its last cell", x, pattern, 0, 3, 10, 15, 0, 0);
        }
    }

    private static void parsedCells() {
        ChannelLoom x = new ChannelLoom();
        x.setNote(0, 0, 3, 50, 1);
        x.setEffect(0, 0, 3, 1, 1);
        x.setNote(0, 7, 0, 50, 1);
        x.setEffect(0, 7, 0, 1, 1);
        x.setNote(0, 1, 1, 50, 1);
        Songs.parsed(x, "0:5");
        Songs.cell("the other channels are empty", x, 0, 0, 3, 0, 15, 0, 0);
        Songs.cell("rows beyond are empty", x, 0, 7, 0, 0, 15, 0, 0);
        Songs.cell("rows beyond are empty, too", x, 0, 1, 1, 0, 15, 0, 0);
        cellOf("0", 0, 15, 0, 0);
        cellOf("00", 0, 15, 0, 0);
        cellOf("07", 7, 15, 0, 0);
        cellOf("10", 10, 15, 0, 0);
        cellOf("9v0", 9, 0, 0, 0);
        cellOf("9v00", 9, 0, 0, 0);
        cellOf("9v07", 9, 7, 0, 0);
        cellOf("9v15", 9, 15, 0, 0);
        cellOf("59v10", 59, 10, 0, 0);
        cellOf("0v1", 0, 1, 0, 0);
        for (int effect = 1; effect <= 7; effect++) {
            cellOf("20" + (char) ('a' + effect - 1) + "0", 20, 15, effect, 0);
            cellOf("2v3" + (char) ('a' + effect - 1) + effect, 2, 3, effect, effect);
        }
        cellOf("61a9", 61, 15, 1, 9);
        cellOf("61v14g8", 61, 14, 7, 8);
    }

    private static void cellOf(String text, int... due) {
        ChannelLoom x = new ChannelLoom();
        Check.same("parse of " + text, 4, Songs.parsed(x, "4:.,.,.,./.,.," + text));
        Songs.cell(text, x, 4, 1, 2, due);
    }

    private static void error(String text, int position) {
        ChannelLoom x = Songs.of("0:1v1a1/2", "1:3");
        Songs.write(x, text);
        long before = x.digest();
        Check.same("parse of " + text, -10 - position, x.parse());
        Check.same("parse of " + text + " changes nothing", before, x.digest());
    }

    private static void heads() {
        error("", 0);
        error("6:.", 0);
        error("9", 0);
        error("/:.", 0);
        error(":.", 0);
        error(" 0:.", 0);
        error("0", 1);
        error("0.", 1);
        error("00:.", 1);
        error("0;.", 1);
        error("0::.", 2);
        error("0:", 2);
        error("0:/", 2);
        error("0:,", 2);
        error("0:v1", 2);
        error("0:a1", 2);
        error("0: .", 2);
    }

    private static void cellErrors() {
        error("0:..", 3);
        error("0:.5", 3);
        error("0:.v1", 3);
        error("0:.a1", 3);
        error("0:.,", 4);
        error("0:./", 4);
        error("0:.,/.", 4);
        error("0:.,,.", 4);
        error("0:.//.", 4);
        error("0:./,.", 4);
        error("0:5.", 3);
        error("0:5 ", 3);
        error("0:123", 4);
        error("0:000", 4);
        error("0:623", 4);
        error("0:12h1", 4);
        error("0:12A1", 4);
        error("0:12`1", 4);
        error("0:5v", 4);
        error("0:5va1", 4);
        error("0:5v,", 4);
        error("0:5vv1", 4);
        error("0:5v1v1", 5);
        error("0:5v123", 6);
        error("0:5v163", 6);
        error("0:5v005", 6);
        error("0:5a", 4);
        error("0:5a,", 4);
        error("0:5aa", 4);
        error("0:5a.", 4);
        error("0:5a12", 5);
        error("0:5a1v1", 5);
        error("0:5a1b2", 5);
        error("0:5a1.", 5);
        error("0:5v3a", 6);
        error("0:5v3h", 5);
        error("0:5v15g1:", 8);
    }

    private static void rangeErrors() {
        error("0:62", 2);
        error("0:99", 2);
        error("0:62,.", 2);
        error("0:62/.", 2);
        error("0:62v1", 2);
        error("0:62a1", 2);
        error("0:62x", 2);
        error("0:62.", 2);
        error("0:.,.,.,62,.", 8);
        error("0:5v16", 4);
        error("0:5v99", 4);
        error("0:5v16,.", 4);
        error("0:5v16a1", 4);
        error("0:5v16z", 4);
        error("0:./5v20/.", 6);
        error("0:1/.,62v16", 6);
    }

    private static void tooMany() {
        ChannelLoom x = new ChannelLoom();
        Check.same("four cells", 0, Songs.parsed(x, "0:.,.,.,."));
        error("0:.,.,.,.,", 9);
        error("0:.,.,.,.,.", 9);
        error("0:.,.,.,./.,.,.,.,.", 17);
        Check.same("eight rows", 0, Songs.parsed(x, "0:1/2/3/4/5/6/7/8"));
        Check.same("eight rows then", 8, x.pattern(0, 0));
        Songs.cell("the last row", x, 0, 7, 0, 8, 15, 0, 0);
        error("0:1/2/3/4/5/6/7/8/", 17);
        error("0:1/2/3/4/5/6/7/8/9", 17);
        error("0:1/2/3/4/5/6/7/.,.,.,.,", 23);
        error("0:1/2/3/4/5/6/7/62/", 16);
        String row = "60v10a1,60v10a1,60v10a1,60v10a1";
        String most = "5:" + row + "/" + row + "/" + row;
        Check.same("parse of 97 bytes", 5, Songs.parsed(x, most));
        Songs.cell("their last cell", x, 5, 2, 3, 60, 10, 1, 1);
        Check.same("parse of 98 bytes", -10 - 97, Songs.parsed(x, most + "0"));
        Check.same("a hundred bytes that end too early", -110, Songs.parsed(x, most + "/.,"));
        Check.same("a hundred bytes", 5, Songs.parsed(x, most + "/12"));
        Songs.cell("the last cell of a hundred bytes", x, 5, 3, 0, 12, 15, 0, 0);
        ChannelLoom y = new ChannelLoom();
        Check.same("a number out of its range at the end", -10 - 98, Songs.parsed(y, most + "/70"));
    }

    /** Which bytes can follow, at each kind of place. */
    private static void everyByte() {
        follow("", "012345");
        follow("0", ":");
        follow("0:", ".0123456789");
        follow("0:.", ",/");
        follow("0:5", "0123456789vabcdefg,/");
        follow("0:51", "vabcdefg,/");
        follow("0:5v", "0123456789");
        follow("0:5v1", "0123456789abcdefg,/");
        follow("0:5v11", "abcdefg,/");
        follow("0:5a", "0123456789");
        follow("0:5a1", ",/");
        follow("0:.,.,.,.", "/");
        follow("0:./././././././.", ",");
        follow("0:./././././././.,.,.,.", "");
    }

    private static void follow(String begin, String good) {
        for (int value = 0; value < 128; value++) {
            ChannelLoom x = new ChannelLoom();
            Songs.write(x, begin);
            x.append(value);
            int answer = x.parse();
            boolean stands = answer >= 0 || answer == -10 - begin.length() - 1 || isRange(answer, begin);
            Check.same(begin + " and the byte " + value, good.indexOf(value) >= 0 ? 1 : 0, stands ? 1 : 0);
        }
    }

    /** A number out of its range, which begins one byte before the one that follows. */
    private static boolean isRange(int answer, String begin) {
        return begin.equals("0:5v1") && answer == -10 - 4;
    }

    private static void parseState() {
        ChannelLoom x = Songs.of("0:1/2e1/3", "1:4/5/6/7");
        x.play(7);
        x.steal(2, 1, 5);
        Songs.write(x, "0:9");
        Check.same("parse while it plays", 0, x.parse());
        Songs.stands("it goes on from there", x, 0, 2, 1, 0);
        Songs.frames("the frame stays", x, 0, 1, 1, 0);
        Check.same("stolen still", 5, x.channel(2, 2));
        Check.same("places stay", 1, x.value(6));
        x.play(2);
        Songs.stands("behind the row that is kept", x, 0, 0, 0, 1);
        Check.same("undo of play", 3, x.undo());
        Check.same("undo of parse", 2, x.undo());
        Check.same("rows behind undo", 3, x.pattern(0, 0));
        Songs.cell("cells behind undo", x, 0, 1, 0, 2, 15, 5, 1);
        Check.same("the text stays behind undo", 3, x.clearText());
        Songs.parsed(x, "1:62");
        Check.same("a parse with an error is not undoable", 1, x.undo());
        Check.same("behind the undo of steal", 0, x.channel(2, 2));
    }
}
