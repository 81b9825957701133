/** The sentences of the promises 1 to 9. */
final class PatternSentences {
    private static final int NONE = ChannelLoom.NONE;
    private static final String NO_CELL =
            "Throws `IndexOutOfBoundsException` if there is no such pattern, row (0 to 7) or channel";
    private static final String NO_PATTERN = "Throws `IndexOutOfBoundsException` if there is no such pattern";

    private PatternSentences() {
    }

    static void run(Document d) {
        newObject(d);
        setNote(d);
        setEffect(d);
        setRows(d);
        rowsBeyond(d);
        setOrder(d);
        shorten(d);
        cell(d);
        pattern(d);
        playable(d);
        order(d);
    }

    private static void newObject(Document d) {
        d.open("Promise 1: A new object");
        d.says("Creates a player with empty patterns, at its beginning.", () -> {
            for (int half = 0; half < 2; half++) {
                ChannelLoom empty = new ChannelLoom();
                for (int i = 96 * half; i < 96 * half + 96; i++) {
                    Songs.cell("cell " + i, empty, i / 32, i / 4 % 8, i % 4, 0, 15, 0, 0);
                }
            }
            ChannelLoom x = new ChannelLoom();
            int[] values = {0, 0, 0, 3, 0, 0, 1, 0};
            for (int what = 0; what < 8; what++) {
                Check.same("value " + what, values[what], x.value(what));
            }
            int[] facts = {0, 0, 0, NONE, 0, NONE, NONE, 0};
            for (int i = 0; i < 32; i++) {
                Check.same("channel " + i / 8 + " fact " + i % 8, facts[i % 8], x.channel(i / 8, i % 8));
            }
            Check.same("the text", 0, x.clearText());
            Check.refused(x, "no state is saved", x::undo);
        });
    }

    private static void setNote(Document d) {
        d.open("Promise 2: setNote");
        d.says("Sets the note of a cell.", () -> {
            ChannelLoom x = new ChannelLoom();
            x.setEffect(5, 7, 3, 7, 9);
            x.setNote(5, 7, 3, 61, 0);
            Songs.cell("the effect stays", x, 5, 7, 3, 61, 0, 7, 9);
            Songs.cell("a cell beside it", x, 5, 7, 2, 0, 15, 0, 0);
        });
        d.says("Undoable.", () -> {
            ChannelLoom x = new ChannelLoom();
            x.setNote(1, 2, 3, 4, 5);
            x.setNote(1, 2, 3, 4, 5);
            Check.same("the states that remain", 1, x.undo());
            Songs.cell("behind one undo", x, 1, 2, 3, 4, 5, 0, 0);
            Check.same("the states that remain", 0, x.undo());
            Songs.cell("behind two undos", x, 1, 2, 3, 0, 15, 0, 0);
        });
        d.says("- `pattern`: 0 to 5", () -> Ranges.taken(ChannelLoom::new, 0, 5, (x, pattern) -> {
            Check.same("the answer", 0, x.setNote(pattern, 1, 2, 9, 8));
            Songs.cell("pattern " + pattern, x, pattern, 1, 2, 9, 8, 0, 0);
        }));
        d.says("- `row`: 0 to 7", () -> Ranges.taken(ChannelLoom::new, 0, 7, (x, row) -> {
            Check.same("the answer", 0, x.setNote(2, row, 1, 9, 8));
            Songs.cell("row " + row, x, 2, row, 1, 9, 8, 0, 0);
        }));
        d.says("- `channel`: 0 to 3", () -> Ranges.taken(ChannelLoom::new, 0, 3, (x, channel) -> {
            Check.same("the answer", 0, x.setNote(2, 1, channel, 9, 8));
            Songs.cell("channel " + channel, x, 2, 1, channel, 9, 8, 0, 0);
        }));
        d.says("- `note`: 0 to 61", () -> Ranges.taken(ChannelLoom::new, 0, 61, (x, note) -> {
            x.setNote(2, 1, 3, note, 8);
            Songs.cell("note " + note, x, 2, 1, 3, note, 8, 0, 0);
        }));
        d.says("- `volume`: 0 to 15", () -> Ranges.taken(ChannelLoom::new, 0, 15, (x, volume) -> {
            x.setNote(2, 1, 3, 7, volume);
            Songs.cell("volume " + volume, x, 2, 1, 3, 7, volume, 0, 0);
        }));
        d.says("Returns the previous note.", () -> {
            ChannelLoom x = new ChannelLoom();
            int before = 0;
            for (int note : new int[] {61, 0, 1, 60, 60, 0}) {
                Check.same("the previous note", before, x.setNote(3, 7, 0, note, 1));
                before = note;
            }
        });
        d.says(NO_CELL, () -> {
            ChannelLoom x = Songs.of("0:1/2/3");
            Ranges.outside(x, 0, 5, (y, pattern) -> y.setNote(pattern, 0, 0, 9, 9));
            Ranges.outside(x, 0, 7, (y, row) -> y.setNote(0, row, 0, 9, 9));
            Ranges.outside(x, 0, 3, (y, channel) -> y.setNote(0, 0, channel, 9, 9));
        });
        d.says("Throws `IllegalArgumentException` if note or volume is out of range", () -> {
            ChannelLoom x = Songs.of("0:1/2/3");
            Ranges.illegal(x, 0, 61, (y, note) -> y.setNote(0, 0, 0, note, 9));
            Ranges.illegal(x, 0, 15, (y, volume) -> y.setNote(0, 0, 0, 9, volume));
        });
    }

    private static void setEffect(Document d) {
        d.open("Promise 3: setEffect");
        d.says("Sets the effect of a cell.", () -> {
            ChannelLoom x = new ChannelLoom();
            x.setNote(5, 7, 3, 61, 0);
            x.setEffect(5, 7, 3, 7, 9);
            Songs.cell("the note stays", x, 5, 7, 3, 61, 0, 7, 9);
            Songs.cell("a cell beside it", x, 5, 7, 2, 0, 15, 0, 0);
            x.setEffect(5, 7, 3, 0, 6);
            Songs.cell("an effect of none has a number", x, 5, 7, 3, 61, 0, 0, 6);
        });
        d.says("Undoable.", () -> {
            ChannelLoom x = new ChannelLoom();
            x.setEffect(1, 2, 3, 4, 5);
            x.setEffect(1, 2, 3, 4, 5);
            Check.same("the states that remain", 1, x.undo());
            Songs.cell("behind one undo", x, 1, 2, 3, 0, 15, 4, 5);
            Check.same("the states that remain", 0, x.undo());
            Songs.cell("behind two undos", x, 1, 2, 3, 0, 15, 0, 0);
        });
        d.says("- `pattern`: 0 to 5", () -> Ranges.taken(ChannelLoom::new, 0, 5, (x, pattern) -> {
            Check.same("the answer", 0, x.setEffect(pattern, 1, 2, 6, 8));
            Songs.cell("pattern " + pattern, x, pattern, 1, 2, 0, 15, 6, 8);
        }));
        d.says("- `row`: 0 to 7", () -> Ranges.taken(ChannelLoom::new, 0, 7, (x, row) -> {
            Check.same("the answer", 0, x.setEffect(2, row, 1, 6, 8));
            Songs.cell("row " + row, x, 2, row, 1, 0, 15, 6, 8);
        }));
        d.says("- `channel`: 0 to 3", () -> Ranges.taken(ChannelLoom::new, 0, 3, (x, channel) -> {
            Check.same("the answer", 0, x.setEffect(2, 1, channel, 6, 8));
            Songs.cell("channel " + channel, x, 2, 1, channel, 0, 15, 6, 8);
        }));
        d.says("- `effect`: 0 to 7", () -> Ranges.taken(ChannelLoom::new, 0, 7, (x, effect) -> {
            x.setEffect(2, 1, 3, effect, 8);
            Songs.cell("effect " + effect, x, 2, 1, 3, 0, 15, effect, 8);
        }));
        d.says("- `number`: 0 to 9", () -> Ranges.taken(ChannelLoom::new, 0, 9, (x, number) -> {
            x.setEffect(2, 1, 3, 5, number);
            Songs.cell("number " + number, x, 2, 1, 3, 0, 15, 5, number);
        }));
        d.says("Returns the previous effect.", () -> {
            ChannelLoom x = new ChannelLoom();
            int before = 0;
            for (int effect : new int[] {7, 0, 1, 6, 6, 0}) {
                Check.same("the previous effect", before, x.setEffect(3, 7, 0, effect, 9));
                before = effect;
            }
        });
        d.says(NO_CELL, () -> {
            ChannelLoom x = Songs.of("0:1/2/3");
            Ranges.outside(x, 0, 5, (y, pattern) -> y.setEffect(pattern, 0, 0, 1, 1));
            Ranges.outside(x, 0, 7, (y, row) -> y.setEffect(0, row, 0, 1, 1));
            Ranges.outside(x, 0, 3, (y, channel) -> y.setEffect(0, 0, channel, 1, 1));
        });
        d.says("Throws `IllegalArgumentException` if effect or number is out of range", () -> {
            ChannelLoom x = Songs.of("0:1/2/3");
            Ranges.illegal(x, 0, 7, (y, effect) -> y.setEffect(0, 0, 0, effect, 1));
            Ranges.illegal(x, 0, 9, (y, number) -> y.setEffect(0, 0, 0, 1, number));
            Ranges.illegal(x, 0, 9, (y, number) -> y.setEffect(0, 0, 0, 0, number));
        });
    }

    private static void setRows(Document d) {
        d.open("Promise 4: setRows");
        d.says("Sets the number of rows of a pattern.", () -> {
            ChannelLoom x = new ChannelLoom();
            x.setRows(3, 8);
            int[] due = {4, 4, 4, 8, 4, 4};
            for (int pattern = 0; pattern < 6; pattern++) {
                Check.same("the rows of pattern " + pattern, due[pattern], x.pattern(pattern, 0));
            }
        });
        d.says("Undoable.", () -> {
            ChannelLoom x = new ChannelLoom();
            x.setRows(5, 2);
            x.setRows(5, 2);
            Check.same("the states that remain", 1, x.undo());
            Check.same("behind one undo", 2, x.pattern(5, 0));
            Check.same("the states that remain", 0, x.undo());
            Check.same("behind two undos", 4, x.pattern(5, 0));
        });
        d.says("- `pattern`: 0 to 5", () -> Ranges.taken(ChannelLoom::new, 0, 5, (x, pattern) -> {
            x.setRows(pattern, 7);
            Check.same("the rows of pattern " + pattern, 7, x.pattern(pattern, 0));
        }));
        d.says("- `rows`: 1 to 8", () -> Ranges.taken(ChannelLoom::new, 1, 8, (x, rows) -> {
            x.setRows(0, rows);
            Check.same("the rows", rows, x.pattern(0, 0));
            Check.same("the ticks of " + rows + " rows", 3 * rows, x.ticksToRound());
        }));
        d.says("Returns the previous number.", () -> {
            ChannelLoom x = new ChannelLoom();
            int before = 4;
            for (int rows : new int[] {1, 8, 8, 1, 5}) {
                Check.same("the previous number", before, x.setRows(2, rows));
                before = rows;
            }
            Check.same("the previous number of another", 4, x.setRows(1, 1));
        });
        d.says(NO_PATTERN, () -> Ranges.outside(new ChannelLoom(), 0, 5, (x, pattern) -> x.setRows(pattern, 2)));
        d.says("Throws `IllegalArgumentException` if rows is out of range",
                () -> Ranges.illegal(new ChannelLoom(), 1, 8, (x, rows) -> x.setRows(0, rows)));
    }

    private static void rowsBeyond(Document d) {
        d.says("(A frame or the player in a row beyond it goes on from there, with the cells that are kept", () -> {
            ChannelLoom x = Songs.of("0:1/2/3/4/5/6/7/8");
            x.play(15);
            x.setRows(0, 1);
            Songs.stands("the player stays in its row", x, 0, 5, 0, 0);
            Songs.hears("the player's kept cell", x, 0, Songs.tone(6, 15), Songs.tone(6, 15), Songs.tone(6, 15));
            ChannelLoom y = Songs.of("0:1e1", "1:11/12/13/14/15/16/17/18");
            y.play(18);
            y.setRows(1, 1);
            Songs.frames("the frame stays in its row", y, 0, 1, 1, 5);
            Songs.hears("the frame's kept cell", y, 0, Songs.tone(16, 15), Songs.tone(16, 15));
        });
        d.says("behind that row the pattern is over", () -> {
            for (int rows = 1; rows <= 8; rows++) {
                ChannelLoom x = Songs.of("0:1/2/3/4/5/6/7/8");
                x.play(15);
                x.setRows(0, rows);
                x.play(3);
                boolean over = rows <= 6;
                Songs.stands("the player behind row 5 of " + rows, x, 0, over ? 0 : 6, 0, over ? 1 : 0);
                ChannelLoom y = Songs.of("0:1/2e1/3/4/5/6/7/8", "1:11/12/13/14/15/16/17/18");
                y.play(21);
                y.setRows(1, rows);
                y.play(3);
                Songs.frames("a frame behind row 5 of " + rows, y, 0, over ? 0 : 1, over ? NONE : 1, over ? NONE : 6);
            }
            ChannelLoom lower = Songs.of("0:1e1/2/3/4/5/6/7/8", "1:11/12/13/14e2/15/16", "2:21/22");
            lower.play(15);
            Songs.frames("a frame above another", lower, 0, 2, 2, 0);
            lower.setRows(1, 1);
            lower.play(6);
            Songs.frames("the other one, beyond its rows", lower, 0, 1, 1, 4);
            Songs.hears("its kept cell", lower, 0, Songs.tone(15, 15));
            lower.play(2);
            Songs.frames("and it is over", lower, 0, 0, NONE, NONE);
        });
        d.says("so it is behind setOrder() and parse(), too.)", () -> {
            ChannelLoom x = Songs.of("0:1/2/3/4/5/6/7/8", "1:11/12");
            x.setNote(1, 5, 0, 50, 3);
            x.play(15);
            x.setOrder(0, 1);
            Songs.stands("behind setOrder()", x, 0, 5, 0, 0);
            Songs.hears("the other pattern's kept cell", x, 0, Songs.tone(50, 3), Songs.tone(50, 3), Songs.tone(50, 3));
            Songs.stands("the other pattern is over", x, 0, 0, 0, 1);
            ChannelLoom y = Songs.of("0:1/2/3/4/5/6/7/8");
            y.play(15);
            Songs.parsed(y, "0:11/12");
            Songs.stands("behind parse()", y, 0, 5, 0, 0);
            Songs.hears("its cell is empty", y, 0, Songs.tone(5, 15), Songs.tone(5, 15), Songs.tone(5, 15));
            Songs.stands("the pattern of the text is over", y, 0, 0, 0, 1);
            ChannelLoom z = Songs.of("0:1e1", "1:11/12/13/14");
            z.play(9);
            Songs.parsed(z, "1:31");
            Songs.frames("a frame behind parse()", z, 0, 1, 1, 2);
            Songs.hears("its cell is empty, too", z, 0, Songs.tone(12, 15), Songs.tone(12, 15), Songs.tone(12, 15));
            Songs.frames("the frame is over", z, 0, 0, NONE, NONE);
        });
    }

    private static void setOrder(Document d) {
        d.open("Promise 5: setOrder");
        d.says("Sets a place of the order, or adds one behind the last one.", () -> {
            ChannelLoom x = new ChannelLoom();
            x.setOrder(0, 5);
            Check.same("a place that is set adds none", 1, x.value(6));
            x.setOrder(1, 3);
            x.setOrder(2, 4);
            x.setOrder(1, 2);
            int[] due = {5, 2, 4};
            Check.same("the places", 3, x.value(6));
            for (int place = 0; place < 3; place++) {
                Check.same("place " + place, due[place], x.order(place));
            }
        });
        d.says("Undoable.", () -> {
            ChannelLoom x = new ChannelLoom();
            x.setOrder(0, 0);
            x.setOrder(1, 5);
            x.setOrder(1, 3);
            Check.same("the states that remain", 2, x.undo());
            Check.same("behind one undo", 5, x.order(1));
            Check.same("the states that remain", 1, x.undo());
            Check.same("behind two undos", 1, x.value(6));
            Check.same("the states that remain", 0, x.undo());
            Check.same("behind three undos", 0, x.order(0));
        });
        d.says("- `place`: 0 up to the number of places, at most 7", () -> {
            ChannelLoom x = new ChannelLoom();
            for (int places = 1; places <= 8; places++) {
                for (int place = 0; place < places; place++) {
                    Check.same("place " + place + " of " + places, places, x.setOrder(place, 1));
                }
                if (places < 8) {
                    Check.same("behind the last one", places + 1, x.setOrder(places, 2));
                }
            }
        });
        d.says("- `pattern`: 0 to 5", () -> Ranges.taken(ChannelLoom::new, 0, 5, (x, pattern) -> {
            x.setOrder(0, pattern);
            x.setOrder(1, pattern);
            Check.same("the first place", pattern, x.order(0));
            Check.same("the second place", pattern, x.order(1));
        }));
        d.says("Returns the number of places then.", () -> {
            ChannelLoom x = new ChannelLoom();
            Check.same("of a place that is set", 1, x.setOrder(0, 1));
            Check.same("of one that is added", 2, x.setOrder(1, 1));
            Check.same("of the first of two", 2, x.setOrder(0, 1));
        });
        d.says("Throws `IndexOutOfBoundsException` if place is out of range", () -> {
            ChannelLoom x = new ChannelLoom();
            for (int places = 1; places <= 8; places++) {
                Ranges.outside(x, 0, Math.min(places, 7), (y, place) -> y.setOrder(place, 1));
                if (places < 8) {
                    x.setOrder(places, 2);
                }
            }
        });
        d.says("Throws `IllegalArgumentException` if there is no such pattern", () -> {
            ChannelLoom x = new ChannelLoom();
            Ranges.illegal(x, 0, 5, (y, pattern) -> y.setOrder(0, pattern));
            Ranges.illegal(x, 0, 5, (y, pattern) -> y.setOrder(1, pattern));
        });
    }

    private static void shorten(Document d) {
        d.open("Promise 6: shorten");
        d.says("Removes the last place of the order.", () -> {
            ChannelLoom x = new ChannelLoom();
            x.setOrder(1, 4);
            x.setOrder(2, 5);
            x.shorten();
            Check.same("the places", 2, x.value(6));
            Check.same("the last place", 4, x.order(1));
            Check.outside(x, "the place that is removed", () -> x.order(2));
        });
        d.says("Undoable.", () -> {
            ChannelLoom x = new ChannelLoom();
            x.setOrder(1, 4);
            x.shorten();
            Check.same("the states that remain", 1, x.undo());
            Check.same("the places", 2, x.value(6));
            Check.same("the last place", 4, x.order(1));
        });
        d.says("Returns the number of places then.", () -> {
            ChannelLoom x = new ChannelLoom();
            for (int place = 1; place < 8; place++) {
                x.setOrder(place, 0);
            }
            for (int places = 7; places >= 1; places--) {
                Check.same("the places", places, x.shorten());
            }
        });
        d.says("if there is only one", () -> {
            ChannelLoom x = new ChannelLoom();
            Check.refused(x, "of a new object", x::shorten);
            x.setOrder(1, 0);
            Check.same("of two places", 1, x.shorten());
            Check.refused(x, "of one place again", x::shorten);
        });
        d.says("or the player is at it", () -> {
            ChannelLoom x = new ChannelLoom();
            x.setOrder(1, 0);
            x.setOrder(2, 0);
            x.play(24);
            Songs.stands("the last place", x, 2, 0, 0, 0);
            Check.refused(x, "at its beginning", x::shorten);
            x.play(11);
            Check.refused(x, "in its last tick", x::shorten);
            x.undo();
            Check.refused(x, "at it behind undo", x::shorten);
            x.restart();
            x.play(23);
            Songs.stands("the place before it", x, 1, 3, 2, 0);
            Check.same("before it", 2, x.shorten());
            Check.refused(x, "at what is the last one then", x::shorten);
        });
    }

    private static void cell(Document d) {
        d.open("Promise 7: cell");
        d.says("Returns something about a cell.", () -> {
            ChannelLoom x = Songs.of("3:.,17v6d8");
            long before = x.digest();
            Songs.cell("a cell", x, 3, 0, 1, 17, 6, 4, 8);
            Check.same("nothing changes", before, x.digest());
        });
        d.says("- `pattern`: 0 to 5", () -> Ranges.taken(() -> Songs.of("0:1", "1:2", "2:3", "3:4", "4:5", "5:6"), 0, 5,
                (x, pattern) -> Check.same("its note", pattern + 1, x.cell(pattern, 0, 0, 0))));
        d.says("- `row`: 0 to 7", () -> Ranges.taken(() -> Songs.of("2:1/2/3/4/5/6/7/8"), 0, 7,
                (x, row) -> Check.same("its note", row + 1, x.cell(2, row, 0, 0))));
        d.says("- `channel`: 0 to 3", () -> Ranges.taken(() -> Songs.of("2:1,2,3,4"), 0, 3,
                (x, channel) -> Check.same("its note", channel + 1, x.cell(2, 0, channel, 0))));
        d.says("0 its note, 1 its volume, 2 its effect, 3 its number", () -> {
            Songs.cell("with the greatest facts", Songs.of("2:61v15g9"), 2, 0, 0, 61, 15, 7, 9);
            Songs.cell("with the least facts", Songs.of("2:0v0"), 2, 0, 0, 0, 0, 0, 0);
            Songs.cell("with four different facts", Songs.of("2:4v3b1"), 2, 0, 0, 4, 3, 2, 1);
        });
        d.says("Returns that value.", () -> Check.same("a value", 12, Songs.of("2:12").cell(2, 0, 0, 0)));
        d.says(NO_CELL, () -> {
            ChannelLoom x = Songs.of("0:1/2/3");
            Ranges.outside(x, 0, 5, (y, pattern) -> y.cell(pattern, 0, 0, 0));
            Ranges.outside(x, 0, 7, (y, row) -> y.cell(0, row, 0, 0));
            Ranges.outside(x, 0, 3, (y, channel) -> y.cell(0, 0, channel, 0));
        });
        d.says("Throws `IllegalArgumentException` if what is out of range",
                () -> Ranges.illegal(new ChannelLoom(), 0, 3, (x, what) -> x.cell(0, 0, 0, what)));
    }

    private static void pattern(Document d) {
        d.open("Promise 8: pattern");
        d.says("Returns something about a pattern.", () -> {
            ChannelLoom x = Songs.of("0:1e1/2");
            long before = x.digest();
            int[] due = {2, 2, 1, 1, 1};
            for (int what = 0; what < 5; what++) {
                Check.same("fact " + what, due[what], x.pattern(0, what));
            }
            Check.same("nothing changes", before, x.digest());
        });
        d.says("- `pattern`: 0 to 5", () -> Ranges.taken(
                () -> Songs.of("0:1", "1:1/2", "2:1/2/3", "3:1/2/3/4", "4:1/2/3/4/5", "5:1/2/3/4/5/6"), 0, 5,
                (x, pattern) -> Check.same("its notes", pattern + 1, x.pattern(pattern, 1))));
        d.says("0 its rows", () -> {
            ChannelLoom x = new ChannelLoom();
            for (int rows : new int[] {1, 8}) {
                x.setRows(4, rows);
                Check.same("its rows", rows, x.pattern(4, 0));
            }
        });
        d.says("1 the cells in its rows with a note from 1 to 60", () -> {
            int[] notes = {0, 1, 2, 59, 60, 61};
            int[] counted = {0, 1, 1, 1, 1, 0};
            for (int i = 0; i < notes.length; i++) {
                ChannelLoom x = new ChannelLoom();
                x.setNote(1, 3, 3, notes[i], 0);
                Check.same("with note " + notes[i], counted[i], x.pattern(1, 1));
                x.setRows(1, 3);
                Check.same("behind its rows", 0, x.pattern(1, 1));
            }
            ChannelLoom full = Songs.of("2:1,2,3,4/1,2,3,4/1,2,3,4/1,2,3,4/1,2,3,4/1,2,3,4/1,2,3,4/1,2,3,4");
            Check.same("of all cells", 32, full.pattern(2, 1));
            Check.same("of another pattern", 0, full.pattern(1, 1));
        });
        d.says("2 the cells in its rows with effect 5 and a number below 6", () -> {
            for (int number = 0; number <= 9; number++) {
                ChannelLoom x = new ChannelLoom();
                x.setEffect(1, 3, 3, 5, number);
                Check.same("with number " + number, number < 6 ? 1 : 0, x.pattern(1, 2));
                x.setRows(1, 3);
                Check.same("behind its rows", 0, x.pattern(1, 2));
            }
            for (int effect : new int[] {0, 1, 2, 3, 4, 6, 7}) {
                ChannelLoom x = new ChannelLoom();
                x.setEffect(1, 3, 3, effect, 5);
                Check.same("with effect " + effect, 0, x.pattern(1, 2));
            }
            Check.same("of several cells", 4, Songs.of("2:1e0,2e5,3e6,4/0e1/5e9,6e4").pattern(2, 2));
        });
        d.says("3 how often it stands in the order", () -> {
            ChannelLoom x = new ChannelLoom();
            Check.same("not at all", 0, x.pattern(5, 3));
            x.setOrder(0, 5);
            for (int place = 1; place < 8; place++) {
                Check.same("so often", place, x.pattern(5, 3));
                x.setOrder(place, 5);
            }
            Check.same("eight times", 8, x.pattern(5, 3));
            Check.same("another pattern", 0, x.pattern(0, 3));
            x.shorten();
            Check.same("a place that is removed doesn't count", 7, x.pattern(5, 3));
        });
        d.says("Returns that value.", () -> Check.same("a value", 4, new ChannelLoom().pattern(3, 0)));
        d.says(NO_PATTERN, () -> Ranges.outside(new ChannelLoom(), 0, 5, (x, pattern) -> x.pattern(pattern, 0)));
        d.says("Throws `IllegalArgumentException` if what is out of range",
                () -> Ranges.illegal(new ChannelLoom(), 0, 4, (x, what) -> x.pattern(0, what)));
    }

    private static void playable(Document d) {
        d.says("4 1 if it can be played: if it stands in the order", () -> {
            ChannelLoom x = new ChannelLoom();
            canBePlayed("at first", x, 1, 0, 0, 0, 0, 0);
            x.setOrder(1, 5);
            canBePlayed("with a last place", x, 1, 0, 0, 0, 0, 1);
            x.setOrder(0, 3);
            canBePlayed("with another first place", x, 0, 0, 0, 1, 0, 1);
            x.shorten();
            canBePlayed("without the last place", x, 0, 0, 0, 1, 0, 0);
        });
        d.says("or a cell with effect 5 in the rows of a pattern that can be played has its number", () -> {
            canBePlayed("a chain upwards", Songs.of("0:1e1", "1:1e2", "2:1e3", "3:1e4", "4:1e5"), 1, 1, 1, 1, 1, 1);
            ChannelLoom down = Songs.of("5:1e4", "4:1e3", "3:1e2", "2:1e1", "1:1e0");
            canBePlayed("a chain downwards that nobody calls", down, 1, 0, 0, 0, 0, 0);
            down.setOrder(0, 5);
            canBePlayed("a chain downwards", down, 1, 1, 1, 1, 1, 1);
            ChannelLoom zigzag = Songs.of("0:1e3", "3:1e1", "1:1e5", "5:1e2", "2:1e4");
            canBePlayed("a chain up and down", zigzag, 1, 1, 1, 1, 1, 1);
            canBePlayed("two in a circle", Songs.of("0:1e2", "2:1e0"), 1, 0, 1, 0, 0, 0);
            canBePlayed("a circle that nobody calls", Songs.of("1:1e2", "2:1e1"), 1, 0, 0, 0, 0, 0);
            ChannelLoom rows = new ChannelLoom();
            rows.setEffect(0, 4, 3, 5, 2);
            canBePlayed("a call behind the rows", rows, 1, 0, 0, 0, 0, 0);
            rows.setRows(0, 5);
            canBePlayed("a call in the last row", rows, 1, 0, 1, 0, 0, 0);
            canBePlayed("the numbers 0, 5 and 6", Songs.of("0:1e0,1e5,1e6,1e9"), 1, 0, 0, 0, 0, 1);
            canBePlayed("other effects", Songs.of("0:1a1,1b2,1c3,1d4/1f5,1g1"), 1, 0, 0, 0, 0, 0);
        });
        d.says("otherwise 0", () -> canBePlayed("what stands nowhere", Songs.of("3:1e4"), 1, 0, 0, 0, 0, 0));
    }

    private static void canBePlayed(String what, ChannelLoom x, int... due) {
        for (int pattern = 0; pattern < 6; pattern++) {
            Check.same(what + ", pattern " + pattern, due[pattern], x.pattern(pattern, 4));
        }
    }

    private static void order(Document d) {
        d.open("Promise 9: order");
        d.says("Returns a place of the order.", () -> {
            ChannelLoom x = new ChannelLoom();
            x.setOrder(1, 5);
            long before = x.digest();
            Check.same("place 0", 0, x.order(0));
            Check.same("place 1", 5, x.order(1));
            Check.same("nothing changes", before, x.digest());
        });
        d.says("- `place`: number of a place", () -> {
            ChannelLoom x = new ChannelLoom();
            x.setOrder(0, 5);
            for (int place = 1; place < 8; place++) {
                x.setOrder(place, (place + 3) % 6);
            }
            for (int place = 0; place < 8; place++) {
                Check.same("place " + place, place == 0 ? 5 : (place + 3) % 6, x.order(place));
            }
        });
        d.says("Returns the pattern.", () -> {
            ChannelLoom x = new ChannelLoom();
            for (int pattern = 5; pattern >= 0; pattern--) {
                x.setOrder(0, pattern);
                Check.same("the pattern", pattern, x.order(0));
            }
        });
        d.says("Throws `IndexOutOfBoundsException` if there is no such place", () -> {
            ChannelLoom x = new ChannelLoom();
            for (int places = 1; places <= 8; places++) {
                Ranges.outside(x, 0, places - 1, ChannelLoom::order);
                if (places < 8) {
                    x.setOrder(places, 1);
                }
            }
            x.shorten();
            Ranges.outside(x, 0, 6, ChannelLoom::order);
        });
    }
}
