/** Promises 16 to 21: the questions answer right and change nothing. */
final class WhatIfTest {
    private WhatIfTest() {
    }

    static void run() {
        hashOf();
        ticksToRound();
        silent();
        deepest();
        unheard();
        meanVolume();
        changeNothing();
    }

    private static void hashOf() {
        ChannelLoom x = Songs.of("0:5v3a1/61");
        Check.same("hashOf no ticks", 17, x.hashOf(0));
        int a = Songs.sound(80, 3);
        int b = Songs.sound(81, 3);
        Check.same("hashOf one tick", Songs.hashOfFirst(a), x.hashOf(1));
        Check.same("hashOf two ticks", Songs.hashOfFirst(a, b), x.hashOf(2));
        x.steal(0, 1, 1);
        Check.same("hashOf stolen ticks", Songs.hashOfFirst(271, b), x.hashOf(2));
        x.play(1);
        Check.same("hashOf from the next tick", Songs.hashOfFirst(b), x.hashOf(1));
        int asked = x.hashOf(500);
        Check.same("hashOf 500", asked, x.hashOf(500));
        Check.same("hashOf is that of play", asked, x.play(500));
        Check.illegal(x, "hashOf -1", () -> x.hashOf(-1));
        Check.illegal(x, "hashOf 501", () -> x.hashOf(501));
    }

    private static void ticksToRound() {
        ChannelLoom x = new ChannelLoom();
        Check.same("ticksToRound at first", 12, x.ticksToRound());
        x.play(1);
        Check.same("ticksToRound in a row", 11, x.ticksToRound());
        x.play(10);
        Check.same("ticksToRound in the last tick", 1, x.ticksToRound());
        x.play(1);
        Check.same("ticksToRound in another round", 12, x.ticksToRound());
        x.setEffect(0, 1, 2, 7, 8);
        Check.same("ticksToRound with a speed", 27, x.ticksToRound());
        x.setOrder(1, 1);
        x.setRows(1, 2);
        Check.same("ticksToRound of two places", 43, x.ticksToRound());
        x.setRows(0, 8);
        for (int place = 1; place < 8; place++) {
            x.setOrder(place, 0);
        }
        Check.same("ticksToRound of a long round", 3 + 63 * 8, x.ticksToRound());
        x.play(27);
        x.setRows(0, 1);
        Check.same("ticksToRound beyond the rows", 8 + 7 * 8, x.ticksToRound());
        ChannelLoom y = Songs.of("0:1g1");
        Check.same("ticksToRound of one tick", 1, y.ticksToRound());
    }

    private static void silent() {
        ChannelLoom x = Songs.of("0:61/1v3d1/61/.");
        Check.same("silent for a row", 3, x.silent(0, 3));
        Check.same("silent for a tick", 1, x.silent(0, 1));
        Check.same("silent and heard", 3, x.silent(0, 6));
        Check.same("silent again", 4, x.silent(0, 7));
        Check.same("silent for a round", 9, x.silent(0, 12));
        Check.same("silent for long", 374, x.silent(0, 500));
        Check.same("another channel", 500, x.silent(3, 500));
        x.steal(3, 1, 99);
        Check.same("a stolen channel is heard", 401, x.silent(3, 500));
        x.play(3);
        Check.same("silent from here", 0, x.silent(0, 3));
        ChannelLoom y = Songs.of("0:1v0c1");
        Check.same("silent at the volume 0", 1, y.silent(0, 3));
        ChannelLoom low = new ChannelLoom();
        low.setEffect(0, 0, 1, 3, 1);
        Check.same("heard at the pitch 0", 1, low.silent(1, 100));
        Check.outside(x, "silent channel -1", () -> x.silent(-1, 1));
        Check.outside(x, "silent channel 4", () -> x.silent(4, 1));
        Check.illegal(x, "silent ticks 0", () -> x.silent(0, 0));
        Check.illegal(x, "silent ticks 501", () -> x.silent(0, 501));
        Check.outside(x, "silent with both", () -> x.silent(4, 0));
    }

    private static void deepest() {
        ChannelLoom x = Songs.of("0:1/2,.,.,1e1/3/4", "1:1e2/.", "2:./.,.,.,1e3/.", "3:.");
        Check.same("deepest before a call", 0, x.deepest(3, 5));
        Check.same("deepest behind a call", 1, x.deepest(3, 6));
        Check.same("deepest of a frame in another column", 1, x.deepest(3, 500));
        Check.same("deepest of another channel", 0, x.deepest(0, 500));
        x.setEffect(1, 0, 3, 5, 2);
        Check.same("deepest of two", 2, x.deepest(3, 9));
        Check.same("deepest before the third", 2, x.deepest(3, 14));
        Check.same("deepest of three", 3, x.deepest(3, 15));
        Check.same("deepest for long", 3, x.deepest(3, 500));
        ChannelLoom y = Songs.of("0:1e1/././.", "1:.");
        y.play(5);
        Songs.frames("in a frame", y, 0, 1, 1, 0);
        Check.same("deepest behind the ticks alone", 0, y.deepest(0, 1));
        Check.outside(x, "deepest channel -1", () -> x.deepest(-1, 1));
        Check.outside(x, "deepest channel 4", () -> x.deepest(4, 1));
        Check.illegal(x, "deepest ticks 0", () -> x.deepest(0, 0));
        Check.illegal(x, "deepest ticks 501", () -> x.deepest(0, 501));
        Check.outside(x, "deepest with both", () -> x.deepest(4, 501));
    }

    private static void unheard() {
        ChannelLoom x = Songs.of("0:7,.,7v14,60/7/7/8");
        Check.same("unheard for three rows", 9, x.unheard(0, 7));
        Check.same("unheard by another note", 0, x.unheard(0, 8));
        Check.same("unheard of a silent channel", 0, x.unheard(1, 7));
        Check.same("unheard with another volume", 0, x.unheard(2, 7));
        Check.same("unheard for ever", 99, x.unheard(3, 60));
        x.steal(0, 20, 30);
        Check.same("unheard as if it were given back", 9, x.unheard(0, 7));
        Check.same("unheard by the note that steals it", 0, x.unheard(0, 20));
        Check.same("it is not given back", 30, x.channel(0, 2));
        x.play(1);
        Check.same("unheard from here", 8, x.unheard(0, 7));
        x.play(8);
        Check.same("unheard of another note", 3, x.unheard(0, 8));
        Check.outside(x, "unheard channel -1", () -> x.unheard(-1, 1));
        Check.outside(x, "unheard channel 4", () -> x.unheard(4, 1));
        Check.illegal(x, "unheard note 0", () -> x.unheard(0, 0));
        Check.illegal(x, "unheard note 61", () -> x.unheard(0, 61));
        Check.outside(x, "unheard with both", () -> x.unheard(4, 61));
        unheardNearTheLimit();
    }

    private static void unheardNearTheLimit() {
        ChannelLoom x = Songs.of("0:1g7/./././././.");
        for (int place = 1; place < 4; place++) {
            x.setOrder(place, 1);
        }
        x.setRows(1, 3);
        x.setOrder(4, 2);
        x.setNote(2, 0, 0, 61, 0);
        Check.same("112 ticks", 99, x.unheard(0, 1));
        x.play(12);
        Check.same("100 ticks", 99, x.unheard(0, 1));
        x.play(1);
        Check.same("99 ticks", 99, x.unheard(0, 1));
        x.play(1);
        Check.same("98 ticks", 98, x.unheard(0, 1));
    }

    private static void meanVolume() {
        ChannelLoom x = new ChannelLoom();
        Check.same("meanVolume at first", 0.0, x.meanVolume());
        x.setNote(0, 0, 0, 1, 15);
        x.setNote(0, 0, 1, 2, 2);
        x.setNote(0, 0, 3, 4, 1);
        x.play(1);
        Check.same("meanVolume", 4.5, x.meanVolume());
        x.setNote(0, 1, 1, 2, 3);
        x.steal(0, 1, 9);
        x.play(3);
        Check.same("meanVolume with a stolen channel", 4.75, x.meanVolume());
        x.setNote(0, 2, 2, 60, 15);
        x.setNote(0, 2, 1, 60, 15);
        x.setNote(0, 2, 3, 60, 15);
        x.play(3);
        Check.same("meanVolume at the most", 15.0, x.meanVolume());
    }

    private static void changeNothing() {
        ChannelLoom x = Songs.of("0:1e1,2e2,3,4f1/5a3/6,7g5", "1:9e2/8", "2:7,5e2/8/9");
        x.steal(3, 4, 60);
        x.play(7);
        long before = x.digest();
        x.hashOf(333);
        x.ticksToRound();
        x.silent(1, 400);
        x.deepest(2, 500);
        x.unheard(3, 8);
        x.meanVolume();
        Check.same("the questions change nothing", before, x.digest());
        Check.same("the digest is right behind them", Songs.digest(x, 11, 4), before);
    }
}
