/** Promise 25, and that objects are apart. */
final class StateTest {
    private StateTest() {
    }

    static void run() {
        apart();
        undo();
        undoableCalls();
        undoBringsAllBack();
    }

    private static void apart() {
        ChannelLoom x = new ChannelLoom();
        ChannelLoom y = new ChannelLoom();
        long before = y.digest();
        x.setNote(0, 0, 0, 5, 5);
        x.play(1);
        Check.same("objects are apart", before, y.digest());
        Check.same("a new object is apart from those before", before, new ChannelLoom().digest());
        Check.same("the note of another object", 0, y.cell(0, 0, 0, 0));
    }

    private static void undo() {
        ChannelLoom x = new ChannelLoom();
        Check.refused(x, "undo of nothing", x::undo);
        for (int note = 1; note <= 6; note++) {
            x.setNote(0, 0, 0, note, note);
        }
        int[] remain = {3, 2, 1, 0};
        for (int i = 0; i < 4; i++) {
            Check.same("undo " + i, remain[i], x.undo());
            Check.same("the note behind undo " + i, 5 - i, x.cell(0, 0, 0, 0));
            Check.same("the volume behind undo " + i, 5 - i, x.cell(0, 0, 0, 1));
        }
        Check.refused(x, "undo of what was dropped", x::undo);
        x.setNote(0, 0, 0, 9, 9);
        x.setNote(0, 0, 0, 10, 9);
        Check.same("undo behind undo", 1, x.undo());
        x.setNote(0, 0, 0, 11, 9);
        x.setNote(0, 0, 0, 12, 9);
        Check.same("undo of the newest", 2, x.undo());
        Check.same("the note then", 11, x.cell(0, 0, 0, 0));
        Check.same("undo of the next", 1, x.undo());
        Check.same("the note then", 9, x.cell(0, 0, 0, 0));
        Check.same("undo of the first", 0, x.undo());
        Check.same("the note then", 2, x.cell(0, 0, 0, 0));
        Check.refused(x, "undo of nothing again", x::undo);
    }

    /** Each undoable call saves a state, even one that changes nothing; no other call does. */
    private static void undoableCalls() {
        ChannelLoom x = new ChannelLoom();
        saves("setNote", x, () -> x.setNote(0, 0, 0, 0, 15));
        saves("setEffect", x, () -> x.setEffect(0, 0, 0, 0, 0));
        saves("setRows", x, () -> x.setRows(0, 4));
        saves("setOrder", x, () -> x.setOrder(0, 0));
        saves("play", x, () -> x.play(1));
        saves("restart", x, x::restart);
        saves("steal", x, () -> x.steal(0, 1, 1));
        saves("giveBack", x, () -> x.giveBack(0));
        Songs.write(x, "5:.");
        saves("parse", x, x::parse);
        x.setOrder(1, 1);
        x.undo();
        x.setOrder(1, 1);
        Check.same("shorten", 1, x.shorten());
        Check.same("shorten saves", 1, x.undo());
        x.undo();
        x.append('5');
        x.parse();
        x.clearText();
        x.cell(0, 0, 0, 0);
        x.pattern(0, 0);
        x.order(0);
        x.channel(0, 0);
        x.value(0);
        x.hashOf(9);
        x.ticksToRound();
        x.silent(0, 9);
        x.deepest(0, 9);
        x.unheard(0, 9);
        x.meanVolume();
        x.digest();
        Check.refused(x, "no other call saves", x::undo);
    }

    private static void saves(String what, ChannelLoom x, Runnable call) {
        Check.refused(x, "undo before " + what, x::undo);
        long before = x.digest();
        call.run();
        Check.same(what + " saves one state", 0, x.undo());
        Check.same("the state behind the undo of " + what, before, x.digest());
    }

    private static void undoBringsAllBack() {
        ChannelLoom x = Songs.of("0:1e1,2e2,3f2,4f1/5a3/6,7g5", "1:9e2/8", "2:7,5e2/8/9");
        x.setOrder(1, 2);
        x.steal(3, 4, 60);
        x.steal(2, 8, 3);
        x.play(7);
        int heard = x.hashOf(500);
        x.play(500);
        x.restart();
        x.steal(1, 1, 99);
        Songs.write(x, "0:15/30g8");
        x.parse();
        for (int i = 0; i < 4; i++) {
            x.undo();
        }
        Check.same("what would be heard then", heard, x.hashOf(500));
        x.clearText();
        x.append('0');
        Check.same("the text does not come back", 1, x.clearText());
        Songs.stands("behind four undos", x, 0, 2, 1, 0);
        Check.same("stolen behind four undos", 53, x.channel(3, 2));

        // within a row: the cells as they were read come back, too
        ChannelLoom y = Songs.of("0:10v3f2,20e3");
        y.play(1);
        y.setNote(0, 0, 0, 1, 1);
        y.setEffect(0, 0, 1, 0, 0);
        y.play(10);
        y.undo();
        Songs.hears("the row behind undo", y, 0, 0, Songs.tone(10, 3));
        Songs.frames("the call behind undo", y, 1, 1, 3, 0);
    }
}
