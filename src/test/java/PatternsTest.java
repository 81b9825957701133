/** Promises 2 to 9. */
final class PatternsTest {
    private PatternsTest() {
    }

    static void run() {
        setNote();
        setNoteWrong();
        setEffect();
        setEffectWrong();
        setRows();
        rowsBeyond();
        setOrder();
        shorten();
        cell();
        patternCounts();
        patternPlayable();
        order();
    }

    private static void setNote() {
        ChannelLoom x = new ChannelLoom();
        Check.same("setNote on an empty cell", 0, x.setNote(0, 0, 0, 12, 7));
        Check.same("setNote again", 12, x.setNote(0, 0, 0, 61, 0));
        Check.same("setNote of none", 61, x.setNote(0, 0, 0, 0, 15));
        Check.same("setNote behind none", 0, x.setNote(0, 0, 0, 60, 3));
        x.setEffect(0, 0, 0, 3, 9);
        Check.same("setNote on an effect", 60, x.setNote(0, 0, 0, 1, 2));
        Songs.cell("setNote keeps the effect", x, 0, 0, 0, 1, 2, 3, 9);
        x.setNote(5, 7, 3, 33, 11);
        Songs.cell("setNote in the last cell", x, 5, 7, 3, 33, 11, 0, 0);
        Songs.cell("setNote leaves other rows", x, 5, 6, 3, 0, 15, 0, 0);
        Songs.cell("setNote leaves other channels", x, 5, 7, 2, 0, 15, 0, 0);
        Songs.cell("setNote leaves other patterns", x, 4, 7, 3, 0, 15, 0, 0);
        long before = x.digest();
        x.setNote(0, 0, 0, 1, 2);
        Check.same("setNote saves a state at the most four times", before, x.digest());
        ChannelLoom y = new ChannelLoom();
        y.setNote(1, 2, 3, 4, 5);
        y.setNote(1, 2, 3, 6, 7);
        Check.same("undo of setNote", 1, y.undo());
        Songs.cell("undo of setNote", y, 1, 2, 3, 4, 5, 0, 0);
        Check.same("undo of the first setNote", 0, y.undo());
        Songs.cell("undo of the first setNote", y, 1, 2, 3, 0, 15, 0, 0);
    }

    private static void setNoteWrong() {
        ChannelLoom x = new ChannelLoom();
        x.setNote(0, 0, 0, 9, 9);
        Check.outside(x, "setNote pattern -1", () -> x.setNote(-1, 0, 0, 1, 1));
        Check.outside(x, "setNote pattern 6", () -> x.setNote(6, 0, 0, 1, 1));
        Check.outside(x, "setNote row -1", () -> x.setNote(0, -1, 0, 1, 1));
        Check.outside(x, "setNote row 8", () -> x.setNote(0, 8, 0, 1, 1));
        Check.outside(x, "setNote channel -1", () -> x.setNote(0, 0, -1, 1, 1));
        Check.outside(x, "setNote channel 4", () -> x.setNote(0, 0, 4, 1, 1));
        Check.outside(x, "setNote far outside", () -> x.setNote(Integer.MAX_VALUE, Integer.MIN_VALUE, 4, 1, 1));
        Check.illegal(x, "setNote note -1", () -> x.setNote(0, 0, 0, -1, 1));
        Check.illegal(x, "setNote note 62", () -> x.setNote(0, 0, 0, 62, 1));
        Check.illegal(x, "setNote volume -1", () -> x.setNote(0, 0, 0, 1, -1));
        Check.illegal(x, "setNote volume 16", () -> x.setNote(0, 0, 0, 1, 16));
        Check.outside(x, "setNote with both", () -> x.setNote(0, 8, 0, 62, 16));
        Check.outside(x, "setNote with both, channel", () -> x.setNote(0, 0, 4, 62, 1));
    }

    private static void setEffect() {
        ChannelLoom x = new ChannelLoom();
        Check.same("setEffect on an empty cell", 0, x.setEffect(2, 5, 1, 7, 9));
        Check.same("setEffect again", 7, x.setEffect(2, 5, 1, 1, 0));
        Check.same("setEffect of none", 1, x.setEffect(2, 5, 1, 0, 4));
        Songs.cell("an effect of none keeps the number", x, 2, 5, 1, 0, 15, 0, 4);
        x.setNote(2, 5, 1, 61, 14);
        Check.same("setEffect on a note", 0, x.setEffect(2, 5, 1, 6, 8));
        Songs.cell("setEffect keeps the note", x, 2, 5, 1, 61, 14, 6, 8);
        x.undo();
        Songs.cell("undo of setEffect", x, 2, 5, 1, 61, 14, 0, 4);
        x.setEffect(5, 7, 3, 5, 5);
        Songs.cell("setEffect in the last cell", x, 5, 7, 3, 0, 15, 5, 5);
        Songs.cell("setEffect leaves other cells", x, 5, 7, 2, 0, 15, 0, 0);
    }

    private static void setEffectWrong() {
        ChannelLoom x = new ChannelLoom();
        x.setEffect(0, 0, 0, 2, 2);
        Check.outside(x, "setEffect pattern -1", () -> x.setEffect(-1, 0, 0, 1, 1));
        Check.outside(x, "setEffect pattern 6", () -> x.setEffect(6, 0, 0, 1, 1));
        Check.outside(x, "setEffect row -1", () -> x.setEffect(0, -1, 0, 1, 1));
        Check.outside(x, "setEffect row 8", () -> x.setEffect(0, 8, 0, 1, 1));
        Check.outside(x, "setEffect channel -1", () -> x.setEffect(0, 0, -1, 1, 1));
        Check.outside(x, "setEffect channel 4", () -> x.setEffect(0, 0, 4, 1, 1));
        Check.illegal(x, "setEffect effect -1", () -> x.setEffect(0, 0, 0, -1, 1));
        Check.illegal(x, "setEffect effect 8", () -> x.setEffect(0, 0, 0, 8, 1));
        Check.illegal(x, "setEffect number -1", () -> x.setEffect(0, 0, 0, 1, -1));
        Check.illegal(x, "setEffect number 10", () -> x.setEffect(0, 0, 0, 1, 10));
        Check.outside(x, "setEffect with both", () -> x.setEffect(6, 0, 0, 8, 10));
    }

    private static void setRows() {
        ChannelLoom x = new ChannelLoom();
        Check.same("setRows at first", 4, x.setRows(3, 8));
        Check.same("setRows again", 8, x.setRows(3, 1));
        Check.same("setRows of the same", 1, x.setRows(3, 1));
        Check.same("rows then", 1, x.pattern(3, 0));
        Check.same("rows of another pattern", 4, x.pattern(2, 0));
        Check.same("setRows of the last pattern", 4, x.setRows(5, 2));
        Check.same("undo of setRows", 3, x.undo());
        Check.same("rows behind undo", 4, x.pattern(5, 0));
        Check.same("undo of setRows of the same", 2, x.undo());
        Check.same("rows behind it", 1, x.pattern(3, 0));
        Check.same("undo of setRows again", 1, x.undo());
        Check.same("rows behind that", 8, x.pattern(3, 0));
        Check.outside(x, "setRows pattern -1", () -> x.setRows(-1, 4));
        Check.outside(x, "setRows pattern 6", () -> x.setRows(6, 4));
        Check.illegal(x, "setRows of 0", () -> x.setRows(0, 0));
        Check.illegal(x, "setRows of 9", () -> x.setRows(0, 9));
        Check.illegal(x, "setRows of -1", () -> x.setRows(5, -1));
        Check.outside(x, "setRows with both", () -> x.setRows(6, 9));
        ChannelLoom y = new ChannelLoom();
        y.setNote(0, 6, 2, 5, 6);
        y.setRows(0, 8);
        y.setRows(0, 2);
        Songs.cell("cells beyond the rows are kept", y, 0, 6, 2, 5, 6, 0, 0);
    }

    /** The player and a frame that stand beyond the rows go on from there with the cells that are kept. */
    private static void rowsBeyond() {
        ChannelLoom x = new ChannelLoom();
        x.setRows(0, 8);
        x.setNote(0, 5, 0, 7, 9);
        x.setNote(0, 6, 0, 8, 9);
        x.play(15);
        Songs.stands("in row 5", x, 0, 5, 0, 0);
        x.setRows(0, 2);
        Songs.hears("in a row that is kept", x, 0, Songs.tone(7, 9), Songs.tone(7, 9), Songs.tone(7, 9));
        Songs.stands("behind a row that is kept", x, 0, 0, 0, 1);

        ChannelLoom y = Songs.of("0:./././././././.", "1:1/2/3/4/5/6/7/8");
        y.setEffect(0, 0, 1, 5, 1);
        y.play(15);
        Songs.frames("a frame in row 4", y, 1, 1, 1, 4);
        y.setRows(1, 3);
        y.setNote(1, 4, 1, 50, 2);
        Songs.hears("a frame in a row that is kept", y, 1, Songs.tone(50, 2), Songs.tone(50, 2), Songs.tone(50, 2));
        Songs.frames("a frame is left behind it", y, 1, 0, ChannelLoom.NONE, ChannelLoom.NONE);
    }

    private static void setOrder() {
        ChannelLoom x = new ChannelLoom();
        Check.same("setOrder of the first place", 1, x.setOrder(0, 5));
        Check.same("the first place", 5, x.order(0));
        Check.same("setOrder behind the last place", 2, x.setOrder(1, 3));
        Check.same("places", 2, x.value(6));
        Check.outside(x, "setOrder place 3 of 2", () -> x.setOrder(3, 0));
        Check.outside(x, "setOrder place -1", () -> x.setOrder(-1, 0));
        Check.illegal(x, "setOrder pattern -1", () -> x.setOrder(0, -1));
        Check.illegal(x, "setOrder pattern 6", () -> x.setOrder(2, 6));
        Check.outside(x, "setOrder with both", () -> x.setOrder(3, 6));
        for (int place = 2; place < 8; place++) {
            Check.same("setOrder of place " + place, place + 1, x.setOrder(place, place % 6));
        }
        Check.outside(x, "setOrder place 8", () -> x.setOrder(8, 0));
        Check.outside(x, "setOrder far outside", () -> x.setOrder(Integer.MAX_VALUE, 0));
        Check.same("setOrder of place 7 again", 8, x.setOrder(7, 4));
        Check.same("place 7", 4, x.order(7));
        Check.same("place 6", 0, x.order(6));
        Check.same("undo of setOrder", 3, x.undo());
        Check.same("place 7 behind undo", 1, x.order(7));
        Check.same("undo of a new place", 2, x.undo());
        Check.same("places behind undo", 7, x.value(6));

        ChannelLoom y = new ChannelLoom();
        y.setNote(2, 1, 0, 9, 15);
        y.play(3);
        y.setOrder(0, 2);
        Songs.hears("another pattern at the place", y, 0, Songs.tone(9, 15));
        y.setRows(2, 1);
        y.play(2);
        Songs.stands("it ends the place", y, 0, 0, 0, 1);
    }

    private static void shorten() {
        ChannelLoom x = new ChannelLoom();
        Check.refused(x, "shorten of one place", x::shorten);
        x.setRows(0, 1);
        x.setOrder(1, 0);
        x.setOrder(2, 0);
        x.play(3);
        Songs.stands("at place 1", x, 1, 0, 0, 0);
        Check.same("shorten of three places", 2, x.shorten());
        Check.same("places", 2, x.value(6));
        Check.refused(x, "shorten with the player at the last place", x::shorten);
        Check.outside(x, "the place that is gone", () -> x.order(2));
        Check.same("undo of shorten", 3, x.undo());
        Check.same("places behind undo", 3, x.value(6));
        x.shorten();
        x.play(3);
        Songs.stands("around two places", x, 0, 0, 0, 1);
        Check.same("shorten at place 0", 1, x.shorten());
        Check.refused(x, "shorten of one place again", x::shorten);
    }

    private static void cell() {
        for (int pattern = 0; pattern < 6; pattern++) {
            ChannelLoom empty = new ChannelLoom();
            for (int row = 0; row < 8; row++) {
                for (int channel = 0; channel < 4; channel++) {
                    Songs.cell("an empty cell", empty, pattern, row, channel, 0, 15, 0, 0);
                }
            }
        }
        ChannelLoom x = new ChannelLoom();
        x.setNote(4, 6, 2, 60, 1);
        x.setEffect(4, 6, 2, 7, 3);
        Songs.cell("cell", x, 4, 6, 2, 60, 1, 7, 3);
        Check.outside(x, "cell pattern -1", () -> x.cell(-1, 0, 0, 0));
        Check.outside(x, "cell pattern 6", () -> x.cell(6, 0, 0, 0));
        Check.outside(x, "cell row -1", () -> x.cell(0, -1, 0, 0));
        Check.outside(x, "cell row 8", () -> x.cell(0, 8, 0, 0));
        Check.outside(x, "cell channel -1", () -> x.cell(0, 0, -1, 0));
        Check.outside(x, "cell channel 4", () -> x.cell(0, 0, 4, 0));
        Check.illegal(x, "cell what -1", () -> x.cell(0, 0, 0, -1));
        Check.illegal(x, "cell what 4", () -> x.cell(0, 0, 0, 4));
        Check.outside(x, "cell with both", () -> x.cell(0, 8, 0, 4));
    }

    private static void patternCounts() {
        ChannelLoom x = new ChannelLoom();
        x.setNote(1, 0, 0, 1, 0);
        x.setNote(1, 1, 1, 60, 15);
        x.setNote(1, 2, 2, 61, 15);
        x.setNote(1, 3, 3, 30, 15);
        x.setNote(1, 4, 0, 30, 15);
        Check.same("notes in the rows", 3, x.pattern(1, 1));
        x.setRows(1, 5);
        Check.same("notes in more rows", 4, x.pattern(1, 1));
        x.setRows(1, 1);
        Check.same("notes in one row", 1, x.pattern(1, 1));
        Check.same("notes of another pattern", 0, x.pattern(0, 1));
        x.setRows(1, 4);
        x.setEffect(1, 0, 0, 5, 0);
        x.setEffect(1, 1, 3, 5, 5);
        x.setEffect(1, 2, 2, 5, 6);
        x.setEffect(1, 3, 2, 4, 5);
        x.setEffect(1, 3, 1, 6, 5);
        x.setEffect(1, 4, 1, 5, 5);
        Check.same("calls in the rows", 2, x.pattern(1, 2));
        x.setRows(1, 8);
        Check.same("calls in more rows", 3, x.pattern(1, 2));
        x.setRows(1, 1);
        Check.same("calls in one row", 1, x.pattern(1, 2));
        Check.same("not in the order", 0, x.pattern(1, 3));
        x.setOrder(1, 1);
        x.setOrder(2, 0);
        x.setOrder(3, 1);
        Check.same("twice in the order", 2, x.pattern(1, 3));
        Check.same("the other twice in the order", 2, x.pattern(0, 3));
        x.shorten();
        Check.same("once in the order", 1, x.pattern(1, 3));
        Check.outside(x, "pattern -1", () -> x.pattern(-1, 0));
        Check.outside(x, "pattern 6", () -> x.pattern(6, 0));
        Check.illegal(x, "pattern what -1", () -> x.pattern(0, -1));
        Check.illegal(x, "pattern what 5", () -> x.pattern(0, 5));
        Check.outside(x, "pattern with both", () -> x.pattern(6, 5));
    }

    private static void patternPlayable() {
        ChannelLoom x = new ChannelLoom();
        playable("at first", x, 1, 0, 0, 0, 0, 0);
        x.setEffect(5, 0, 0, 5, 4);
        x.setEffect(4, 3, 3, 5, 3);
        x.setEffect(3, 1, 2, 5, 2);
        x.setEffect(2, 1, 2, 5, 1);
        playable("calls that nobody reaches", x, 1, 0, 0, 0, 0, 0);
        x.setEffect(0, 4, 0, 5, 5);
        playable("a call beyond the rows", x, 1, 0, 0, 0, 0, 0);
        x.setRows(0, 5);
        playable("a chain of calls downwards", x, 1, 1, 1, 1, 1, 1);
        x.setEffect(3, 1, 2, 5, 6);
        playable("a number that is no pattern", x, 1, 0, 0, 1, 1, 1);
        x.setEffect(3, 1, 2, 4, 2);
        playable("an effect that is no call", x, 1, 0, 0, 1, 1, 1);
        x.setOrder(0, 2);
        playable("another order", x, 0, 1, 1, 0, 0, 0);
        x.setEffect(1, 0, 0, 5, 2);
        playable("calls in a circle", x, 0, 1, 1, 0, 0, 0);
        x.setOrder(1, 4);
        playable("two places", x, 0, 1, 1, 1, 1, 0);
        x.setRows(4, 3);
        playable("a call behind fewer rows", x, 0, 1, 1, 0, 1, 0);
        x.shorten();
        playable("one place again", x, 0, 1, 1, 0, 0, 0);
    }

    private static void playable(String what, ChannelLoom x, int... due) {
        for (int pattern = 0; pattern < 6; pattern++) {
            Check.same(what + ": pattern " + pattern + " can be played", due[pattern], x.pattern(pattern, 4));
        }
    }

    private static void order() {
        ChannelLoom x = new ChannelLoom();
        Check.same("order at first", 0, x.order(0));
        Check.outside(x, "order 1 of 1", () -> x.order(1));
        Check.outside(x, "order -1", () -> x.order(-1));
        for (int place = 1; place < 8; place++) {
            x.setOrder(place, 6 - (place + 1) / 2);
        }
        Check.same("order 1", 5, x.order(1));
        Check.same("order 7", 2, x.order(7));
        Check.outside(x, "order 8 of 8", () -> x.order(8));
    }
}
