/** The sentences of the terms on texts, and of the promises 22 to 24. */
final class TextSentences {
    private static final String ROW = "60v10a1,60v10a1,60v10a1,60v10a1";
    /** 97 bytes. */
    private static final String LONG = "5:" + ROW + "/" + ROW + "/" + ROW;

    private TextSentences() {
    }

    static void run(Document d) {
        d.open("Terms");
        form(d);
        cellForm(d);
        told(d);
        syntaxError(d);
        outOfRange(d);
        append(d);
        clearText(d);
        parse(d);
    }

    /** The text has its first error there; a song that plays meanwhile stays as it is. */
    private static void error(String text, int position) {
        ChannelLoom x = Songs.of("0:1v1a1/2e1", "1:3/4");
        x.play(7);
        Songs.write(x, text);
        long before = x.digest();
        Check.same(text, -10 - position, x.parse());
        Check.same(text + " changes nothing", before, x.digest());
    }

    private static void stands(String text) {
        Check.same(text, text.charAt(0) - '0', Songs.parsed(new ChannelLoom(), text));
    }

    /** The facts of the cell that is told so, in the middle of a pattern. */
    private static void cell(String text, int note, int volume, int effect, int number) {
        ChannelLoom x = new ChannelLoom();
        Check.same(text, 4, Songs.parsed(x, "4:.,.,./.," + text + ",./."));
        Songs.cell(text, x, 4, 1, 1, note, volume, effect, number);
    }

    private static void form(Document d) {
        d.says("The text has at most 100 bytes", () -> {
            ChannelLoom x = new ChannelLoom();
            Songs.write(x, LONG + "/12");
            Check.refused(x, "a byte more", () -> x.append('/'));
            Check.same("it is read whole", 5, x.parse());
            Songs.cell("its last cell", x, 5, 3, 0, 12, 15, 0, 0);
            Check.same("its length", 100, x.clearText());
        });
        d.says("a pattern digit 0 to 5, \":\"", () -> {
            for (int pattern = 0; pattern <= 5; pattern++) {
                stands(pattern + ":1");
            }
            error("6:1", 0);
            error("9:1", 0);
            error("/:1", 0);
            error(":1", 0);
            error("00:1", 1);
            error("0;1", 1);
            error("0", 1);
        });
        d.says("and 1 to 8 rows, separated by \"/\"", () -> {
            StringBuilder text = new StringBuilder("3:1");
            for (int rows = 1; rows <= 8; rows++) {
                ChannelLoom x = new ChannelLoom();
                Check.same(rows + " rows", 3, Songs.parsed(x, text.toString()));
                Check.same("its rows", rows, x.pattern(3, 0));
                Songs.cell("its last row", x, 3, rows - 1, 0, rows, 15, 0, 0);
                text.append('/').append(rows + 1);
            }
            error("3:", 2);
            error("3:1/2/3/4/5/6/7/8/9", 17);
        });
        d.says("a row is 1 to 4 cells, separated by \",\"; the other channels have empty cells", () -> {
            String text = "3:1v1a1";
            for (int cells = 1; cells <= 4; cells++) {
                ChannelLoom x = Songs.of("3:60v9g8,60v9g8,60v9g8,60v9g8");
                Check.same(cells + " cells", 3, Songs.parsed(x, text));
                for (int channel = 0; channel < 4; channel++) {
                    boolean told = channel < cells;
                    Songs.cell(cells + " cells, channel " + channel, x, 3, 0, channel,
                            told ? 1 : 0, told ? 1 : 15, told ? 1 : 0, told ? 1 : 0);
                }
                text += ",1v1a1";
            }
            error("3:/1", 2);
            error("3:1,/1", 4);
            error("3:1,1,1,1,1", 9);
        });
    }

    private static void cellForm(Document d) {
        d.says("A cell is \".\" for an empty one", () -> cell(".", 0, 15, 0, 0));
        d.says("or a note of one or two digits, 0 to 61", () -> {
            for (int note = 0; note <= 61; note++) {
                cell("" + note, note, 15, 0, 0);
            }
            error("0:62", 2);
            error("0:99", 2);
            error("0:v1", 2);
            error("0:a1", 2);
        });
        d.says("perhaps \"v\" and a volume of one or two digits, 0 to 15", () -> {
            for (int volume = 0; volume <= 15; volume++) {
                cell("61v" + volume, 61, volume, 0, 0);
                cell("7v" + volume + "g9", 7, volume, 7, 9);
            }
            error("0:1v16", 4);
            error("0:1v99", 4);
            error("0:1v", 4);
            error("0:1va1", 4);
        });
        d.says("perhaps a letter \"a\" to \"g\", for the effects 1 to 7, and a digit.", () -> {
            for (int effect = 1; effect <= 7; effect++) {
                for (int number = 0; number <= 9; number++) {
                    cell("12" + (char) ('a' + effect - 1) + number, 12, 15, effect, number);
                }
            }
            error("0:1`1", 3);
            error("0:1h1", 3);
            error("0:1A1", 3);
            error("0:1a", 4);
            error("0:1aa", 4);
            error("0:1a/", 4);
            error("0:1a:", 4);
        });
        d.says("There are no spaces.", () -> {
            String text = "0:1v2a3,./4";
            for (int at = 0; at <= text.length(); at++) {
                error(text.substring(0, at) + " " + text.substring(at), at);
            }
        });
    }

    private static void told(Document d) {
        d.says("A note without \"v\" has the volume 15, one without a letter no effect", () -> {
            cell("30", 30, 15, 0, 0);
            cell("30v4", 30, 4, 0, 0);
            cell("30d5", 30, 15, 4, 5);
            cell("0", 0, 15, 0, 0);
            cell("61", 61, 15, 0, 0);
        });
        d.says("numbers can have a zero in front", () -> {
            cell("00", 0, 15, 0, 0);
            cell("09", 9, 15, 0, 0);
            cell("9v00", 9, 0, 0, 0);
            cell("9v09", 9, 9, 0, 0);
            cell("01v01a0", 1, 1, 1, 0);
            error("0:009", 4);
            error("0:1v009", 6);
        });
        d.says("behind \".\" nothing else of the cell stands.", () -> {
            error("0:.1", 3);
            error("0:.v1", 3);
            error("0:.a1", 3);
            error("0:..", 3);
            error("0:1,.a1/2", 5);
        });
    }

    private static void syntaxError(Document d) {
        d.says("The syntax error position is the index of the first byte that cannot stand where it stands", () -> {
            follow("", "012345");
            follow("5", ":");
            follow("5:", ".0123456789");
            follow("5:.", ",/");
            follow("5:6", "0123456789vabcdefg,/");
            follow("5:61", "vabcdefg,/");
            follow("5:6v", "0123456789");
            follow("5:6v1", "0123456789abcdefg,/");
            follow("5:6v15", "abcdefg,/");
            follow("5:6g", "0123456789");
            follow("5:6g9", ",/");
            follow("5:6,", ".0123456789");
            follow("5:6/", ".0123456789");
            follow("5:6,7,8,9", "0123456789vabcdefg/");
            error("0:1;62", 3);
            error("0:62,;", 2);
        });
        d.says("a third digit", () -> {
            error("0:123", 4);
            error("0:610", 4);
            error("0:620", 4);
            error("0:999", 4);
            error("0:000", 4);
            error("0:1v150", 6);
            error("0:1v160", 6);
            error("0:1v000", 6);
            error("0:1a12", 5);
        });
        d.says("the \",\" behind a fourth cell", () -> {
            stands("0:.,.,.,.");
            error("0:.,.,.,.,", 9);
            error("0:.,.,.,.,.", 9);
            error("0:1,2,3,4v5a6,7", 13);
            error("0:./.,.,.,.,", 11);
        });
        d.says("the \"/\" behind an eighth row, too", () -> {
            stands("0:./././././././.");
            error("0:./././././././././", 17);
            error("0:./././././././61v15g9/", 23);
            error("0:./././././././.,.,.,./", 23);
        });
        d.says("or the length of the text if the text ends too early", () -> {
            for (String text : new String[] {"", "0", "0:", "0:1v", "0:1a", "0:1v2a", "0:1,", "0:1/", "0:.,.,.,", "0:./"}) {
                error(text, text.length());
            }
            error(LONG + "/.,", 100);
        });
    }

    /** Each of the 128 bytes can stand behind this beginning, or is the first that can't. */
    private static void follow(String begin, String good) {
        for (int value = 0; value < 128; value++) {
            ChannelLoom x = new ChannelLoom();
            Songs.write(x, begin);
            x.append(value);
            boolean stands = x.parse() != -10 - begin.length();
            Check.same(begin + " and the byte " + value, good.indexOf(value) >= 0 ? 1 : 0, stands ? 1 : 0);
        }
    }

    private static void outOfRange(Document d) {
        d.says("For a number that is out of its range it is the index of its first digit", () -> {
            for (int note = 0; note <= 99; note++) {
                String text = "0:1v2,./.," + note;
                if (note <= 61) {
                    stands(text);
                } else {
                    error(text, 10);
                }
            }
            for (int volume = 0; volume <= 99; volume++) {
                String text = "0:./61v" + volume;
                if (volume <= 15) {
                    stands(text);
                } else {
                    error(text, 7);
                }
            }
        });
        d.says("found when a byte that is no digit, whichever it is", () -> {
            for (int value = 0; value < 128; value++) {
                boolean digit = value >= '0' && value <= '9';
                error("0:62" + (char) value, digit ? 4 : 2);
                error("0:1v16" + (char) value, digit ? 6 : 4);
            }
        });
        d.says("or the end of the text, follows it.", () -> {
            error("0:62", 2);
            error("0:1v16", 4);
            error(LONG + "/62", 98);
        });
    }

    private static void append(Document d) {
        d.open("Promise 22: append");
        d.says("Appends a byte to the text.", () -> {
            ChannelLoom x = new ChannelLoom();
            x.append('3');
            x.append(':');
            Check.same("two bytes", -12, x.parse());
            x.append('7');
            Check.same("three bytes", 3, x.parse());
            Check.same("parse saved the only state", 0, x.undo());
        });
        d.says("- `value`: the byte, 0 to 127", () -> Ranges.taken(ChannelLoom::new, 0, 127, (x, value) -> {
            Check.same("the length behind " + value, 1, x.append(value));
            Check.same("whether it is a pattern's digit", value >= '0' && value <= '5' ? -11 : -10, x.parse());
        }));
        d.says("Returns the new length of the text.", () -> {
            ChannelLoom x = new ChannelLoom();
            for (int length = 1; length <= 100; length++) {
                Check.same("the length", length, x.append('.'));
            }
            x.clearText();
            Check.same("the length behind clearText", 1, x.append('.'));
        });
        d.says("Throws `IllegalArgumentException` if value is out of range",
                () -> Ranges.illegal(Songs.of("0:1"), 0, 127, ChannelLoom::append));
        d.says("Throws `IllegalStateException` if the text has 100 bytes", () -> {
            ChannelLoom x = new ChannelLoom();
            Songs.write(x, LONG + "/1");
            Check.same("the last byte", 100, x.append('2'));
            Check.refused(x, "the byte 0", () -> x.append(0));
            Check.refused(x, "the byte 127", () -> x.append(127));
            Check.same("the text is as it was", 5, x.parse());
            Songs.cell("its last cell", x, 5, 3, 0, 12, 15, 0, 0);
        });
    }

    private static void clearText(Document d) {
        d.open("Promise 23: clearText");
        d.says("Empties the text.", () -> {
            ChannelLoom x = new ChannelLoom();
            Songs.write(x, "3:7");
            x.clearText();
            Check.same("an empty text ends too early", -10, x.parse());
            x.append('4');
            Check.same("nothing of it comes back", -11, x.parse());
            Check.refused(x, "it is not undoable", x::undo);
            Songs.write(x, LONG + "/12");
            x.clearText();
            Check.same("a full text, too", -10, x.parse());
            Check.same("all of it", 1, x.append('4'));
        });
        d.says("Returns the length that it had.", () -> {
            ChannelLoom x = new ChannelLoom();
            Check.same("of an empty text", 0, x.clearText());
            x.append('5');
            Check.same("of one byte", 1, x.clearText());
            Check.same("of a text that was emptied", 0, x.clearText());
            Songs.write(x, LONG + "/12");
            Check.same("of a full text", 100, x.clearText());
        });
    }

    private static void parse(Document d) {
        d.open("Promise 24: parse");
        d.says("Makes a pattern the one of the text: its rows are as many as told, with these cells", () -> {
            ChannelLoom x = new ChannelLoom();
            Check.same("the pattern", 2, Songs.parsed(x, "2:1v2a3,./61v0g9,.,.,4"));
            Check.same("its rows", 2, x.pattern(2, 0));
            Songs.cell("row 0, channel 0", x, 2, 0, 0, 1, 2, 1, 3);
            Songs.cell("row 0, channel 1", x, 2, 0, 1, 0, 15, 0, 0);
            Songs.cell("row 0, channel 3", x, 2, 0, 3, 0, 15, 0, 0);
            Songs.cell("row 1, channel 0", x, 2, 1, 0, 61, 0, 7, 9);
            Songs.cell("row 1, channel 3", x, 2, 1, 3, 4, 15, 0, 0);
        });
        d.says("cells of rows beyond are empty.", () -> {
            ChannelLoom x = Songs.of("2:1v2a3/1v2a3/1v2a3/1v2a3/1v2a3/1v2a3/1v2a3/1v2a3");
            Songs.parsed(x, "2:5/6");
            x.setRows(2, 8);
            for (int row = 2; row < 8; row++) {
                Songs.cell("row " + row, x, 2, row, 0, 0, 15, 0, 0);
            }
            Songs.cell("the last row that is told", x, 2, 1, 0, 6, 15, 0, 0);
        });
        d.says("All else stays.", () -> {
            ChannelLoom x = Songs.of("0:1e1,2/3/4", "1:5/6/7", "4:8");
            x.setOrder(1, 4);
            x.steal(3, 9, 9);
            x.play(4);
            Songs.write(x, "1:33");
            x.parse();
            Check.same("other rows", 3, x.pattern(0, 0));
            Songs.cell("another cell", x, 0, 0, 0, 1, 15, 5, 1);
            Check.same("the order", 4, x.order(1));
            Songs.stands("the player", x, 0, 1, 1, 0);
            Songs.frames("the frame", x, 0, 1, 1, 0);
            Check.same("the theft", 5, x.channel(3, 2));
            Check.same("what was heard", Songs.tone(5, 15), x.channel(0, 7));
        });
        d.says("The text stays as it is.", () -> {
            ChannelLoom x = new ChannelLoom();
            Check.same("read once", 1, Songs.parsed(x, "1:5"));
            Check.same("read twice", 1, x.parse());
            Check.same("a byte more", 4, x.append('x'));
            Check.same("with an error", -13, x.parse());
            Check.same("with an error again", -13, x.parse());
            Check.same("its length", 4, x.clearText());
        });
        d.says("Undoable, if there is no syntax error.", () -> {
            ChannelLoom x = new ChannelLoom();
            Songs.parsed(x, "1:5v1/6");
            Songs.parsed(x, "1:5v1/6");
            Songs.parsed(x, "1:62");
            Check.same("the states that remain", 1, x.undo());
            Songs.cell("behind one undo", x, 1, 0, 0, 5, 1, 0, 0);
            Check.same("the states that remain", 0, x.undo());
            Songs.cell("behind two undos", x, 1, 0, 0, 0, 15, 0, 0);
            Check.same("its rows", 4, x.pattern(1, 0));
            Check.same("the text stays", 4, x.clearText());
        });
        d.says("Returns the pattern", () -> {
            for (int pattern = 0; pattern <= 5; pattern++) {
                Check.same("the pattern", pattern, Songs.parsed(new ChannelLoom(), pattern + ":."));
            }
        });
        d.says("-10 minus the syntax error position if there is a syntax error (then nothing changes).", () -> {
            error("", 0);
            error("0x", 1);
            error("1:9v9g9/8,7x", 11);
            error(LONG + "/1,", 100);
            ChannelLoom x = Songs.of("0:1/2", "1:3/4/5/6/7/8");
            Songs.parsed(x, "1:9v9g9/8,7x");
            Songs.cell("a cell that was read before the error", x, 1, 0, 0, 3, 15, 0, 0);
            Check.same("the rows", 6, x.pattern(1, 0));
            Check.same("the states that remain", 1, x.undo());
        });
    }
}
