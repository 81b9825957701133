/** Promises 10 to 15, and what the terms say of playing. */
final class PlayingTest {
    private PlayingTest() {
    }

    static void run() {
        play();
        playLimits();
        notes();
        pitchEffects();
        volumeEffects();
        delays();
        speeds();
        cellAsItWas();
        calls();
        fullFrames();
        callsByChannel();
        rounds();
        restart();
        steal();
        giveBack();
        channelAndValue();
    }

    private static void play() {
        ChannelLoom x = Songs.of("0:1v2,2v3,61,./.,.,4v5,.");
        int h = 17;
        int[] heard = {Songs.tone(1, 2), Songs.tone(2, 3), 0, 0};
        for (int tick = 0; tick < 2; tick++) {
            for (int channel = 0; channel < 4; channel++) {
                h = 31 * h + heard[channel];
            }
        }
        Check.same("play of two ticks", h, x.play(2));
        h = 17;
        for (int channel = 0; channel < 4; channel++) {
            h = 31 * h + heard[channel];
        }
        heard[2] = Songs.tone(4, 5);
        for (int channel = 0; channel < 4; channel++) {
            h = 31 * h + heard[channel];
        }
        Check.same("play begins its hash anew", h, x.play(2));
        Songs.stands("four ticks", x, 0, 1, 1, 0);
        Check.same("ticks", 4, x.value(4));
        Check.same("undo of play", 2, x.undo());
        Songs.stands("behind undo", x, 0, 0, 2, 0);
        Check.same("ticks behind undo", 2, x.value(4));
        Check.same("volume behind undo", 0, x.channel(2, 1));
        Check.same("play again", h, x.play(2));
        Check.same("a silent tick", Songs.hashOfFirst(0), new ChannelLoom().play(1));
    }

    private static void playLimits() {
        ChannelLoom x = new ChannelLoom();
        Check.illegal(x, "play of 0", () -> x.play(0));
        Check.illegal(x, "play of -1", () -> x.play(-1));
        Check.illegal(x, "play of 501", () -> x.play(501));
        Check.illegal(x, "play of very many", () -> x.play(Integer.MAX_VALUE));
        for (int i = 0; i < 199; i++) {
            x.play(500);
        }
        x.play(499);
        Check.same("ticks", 99999, x.value(4));
        Check.refused(x, "play beyond the limit", () -> x.play(2));
        Check.illegal(x, "play with both", () -> x.play(501));
        x.play(1);
        Check.same("ticks at the limit", 100000, x.value(4));
        Check.refused(x, "play at the limit", () -> x.play(1));
        Check.illegal(x, "play with both at the limit", () -> x.play(0));
        Check.same("hashOf at the limit", x.hashOf(1), Songs.hashOfFirst(0));
        Check.same("ticksToRound at the limit", 8, x.ticksToRound());
        Check.same("silent at the limit", 500, x.silent(0, 500));
        Check.same("deepest at the limit", 0, x.deepest(0, 500));
        Check.same("unheard at the limit", 0, x.unheard(0, 1));
        Check.same("restart at the limit", 100000, x.restart());
        x.play(500);
        Check.same("ticks behind restart", 500, x.value(4));
    }

    private static void notes() {
        ChannelLoom x = Songs.of("0:60v1/./61v9/./1v0/2");
        x.setRows(0, 6);
        Songs.hears("the greatest note", x, 0, 15361, 15361, 15361);
        Songs.hears("no note goes on", x, 0, 15361, 15361, 15361);
        Songs.hears("silence", x, 0, 0, 0, 0);
        Check.same("pitch behind silence", 960, x.channel(0, 0));
        Check.same("volume behind silence", 0, x.channel(0, 1));
        Songs.hears("no note behind silence", x, 0, 0, 0, 0);
        Songs.hears("a note without volume", x, 0, 0, 0, 0);
        Check.same("its pitch", 16, x.channel(0, 0));
        Songs.hears("a note with volume 15", x, 0, Songs.tone(2, 15));
    }

    private static void pitchEffects() {
        ChannelLoom x = Songs.of("0:60v1a9");
        Songs.hears("pitch up", x, 0, Songs.sound(960, 1), Songs.sound(969, 1), Songs.sound(978, 1));
        ChannelLoom up = new ChannelLoom();
        up.setNote(0, 0, 0, 60, 15);
        up.setEffect(0, 0, 0, 7, 8);
        up.setEffect(0, 1, 0, 1, 9);
        Songs.hears("no effect yet", up, 0, 15375, 15375, 15375, 15375, 15375, 15375, 15375, 15375);
        Songs.hears("pitch up to 999", up, 0, 15375, Songs.sound(969, 15), Songs.sound(978, 15), Songs.sound(987, 15),
                Songs.sound(996, 15), Songs.sound(999, 15), Songs.sound(999, 15), Songs.sound(999, 15));
        ChannelLoom down = Songs.of("0:1v3b9/5v5b7/5v5a0/5v5b0");
        Songs.hears("pitch down to 0", down, 0, Songs.sound(16, 3), Songs.sound(7, 3), Songs.sound(0, 3));
        Songs.hears("pitch down", down, 0, Songs.sound(80, 5), Songs.sound(73, 5), Songs.sound(66, 5));
        Songs.hears("pitch up by 0", down, 0, Songs.sound(80, 5), Songs.sound(80, 5), Songs.sound(80, 5));
        Songs.hears("pitch down by 0", down, 0, Songs.sound(80, 5), Songs.sound(80, 5), Songs.sound(80, 5));
    }

    private static void volumeEffects() {
        ChannelLoom x = Songs.of("0:3v4c5/3v4c6/3v4d3/3v4d2");
        Songs.hears("volume up", x, 0, Songs.tone(3, 4), Songs.tone(3, 9), Songs.tone(3, 14));
        Songs.hears("volume up to 15", x, 0, Songs.tone(3, 4), Songs.tone(3, 10), Songs.tone(3, 15));
        Songs.hears("volume down to 0", x, 0, Songs.tone(3, 4), Songs.tone(3, 1), 0);
        Songs.hears("volume down", x, 0, Songs.tone(3, 4), Songs.tone(3, 2), 0);
        ChannelLoom y = new ChannelLoom();
        y.setEffect(0, 0, 3, 3, 1);
        y.setRows(0, 1);
        Songs.hears("volume up without a note", y, 3, 0, 1, 2, 2, 3, 4);
    }

    private static void delays() {
        ChannelLoom x = Songs.of("0:5f0/6f1/7f2/8f3/9f9");
        Songs.hears("a delay of 0", x, 0, Songs.tone(5, 15), Songs.tone(5, 15), Songs.tone(5, 15));
        Songs.hears("a delay of 1", x, 0, Songs.tone(5, 15), Songs.tone(6, 15), Songs.tone(6, 15));
        Songs.hears("a delay of 2", x, 0, Songs.tone(6, 15), Songs.tone(6, 15), Songs.tone(7, 15));
        Songs.hears("a delay of 3", x, 0, Songs.tone(7, 15), Songs.tone(7, 15), Songs.tone(7, 15));
        Songs.hears("a delay of 9", x, 0, Songs.tone(7, 15), Songs.tone(7, 15), Songs.tone(7, 15));
        ChannelLoom y = Songs.of("0:1v1/61f2/61f0");
        Songs.hears("a note", y, 0, 257, 257, 257);
        Songs.hears("a silence that waits", y, 0, 257, 257, 0);
    }

    private static void speeds() {
        ChannelLoom x = Songs.of("0:1g1/2g8/3g0/4g9/5,5g2,5g4");
        Check.same("speed at first", 3, x.value(3));
        Songs.hears("speed 1", x, 0, Songs.tone(1, 15));
        Songs.stands("behind a row of one tick", x, 0, 1, 0, 0);
        Check.same("speed stays", 1, x.value(3));
        Songs.hears("speed 8", x, 0, Songs.tone(2, 15), Songs.tone(2, 15));
        Check.same("speed 8 in the row", 8, x.value(3));
        x.play(5);
        Songs.stands("in the last of eight ticks", x, 0, 1, 7, 0);
        x.play(1);
        Songs.stands("behind eight ticks", x, 0, 2, 0, 0);
        Songs.hears("speed 0 is none, its note begins", x, 0, Songs.tone(3, 15));
        Check.same("speed behind 0", 8, x.value(3));
        x.play(7);
        Songs.hears("speed 9 is none", x, 0, Songs.tone(4, 15));
        Check.same("speed behind 9", 8, x.value(3));
        x.play(7);
        x.play(1);
        Check.same("the last channel's speed", 4, x.value(3));
        x.play(3);
        Songs.stands("behind four ticks", x, 0, 0, 0, 1);
    }

    private static void cellAsItWas() {
        ChannelLoom x = Songs.of("0:10v3a2/.");
        x.play(1);
        x.setEffect(0, 0, 0, 3, 9);
        x.setNote(0, 0, 0, 20, 1);
        Songs.hears("the effect as it was", x, 0, Songs.sound(162, 3), Songs.sound(164, 3));
        ChannelLoom y = Songs.of("0:10v3f2");
        y.play(1);
        y.setNote(0, 0, 0, 20, 1);
        Songs.hears("the note as it was", y, 0, 0, Songs.tone(10, 3));
        ChannelLoom z = Songs.of("0:10e2/.");
        z.play(1);
        z.setEffect(0, 0, 0, 5, 3);
        z.play(2);
        Songs.frames("the call as it was", z, 0, 1, 2, 0);
        ChannelLoom none = Songs.of("0:10/.");
        none.play(2);
        none.setEffect(0, 0, 0, 5, 3);
        none.play(1);
        Songs.frames("no call as it was", none, 0, 0, -1, -1);
        none.play(3);
        none.play(1);
        none.restart();
        none.setEffect(0, 0, 0, 0, 0);
        none.play(3);
        Songs.frames("restart reads anew", none, 0, 0, -1, -1);
    }

    private static void calls() {
        ChannelLoom x = Songs.of("0:1e1/2/3/4", "1:11/12e2/13", "2:21/22");
        Songs.hears("the caller's row", x, 0, Songs.tone(1, 15), Songs.tone(1, 15), Songs.tone(1, 15));
        Songs.frames("called", x, 0, 1, 1, 0);
        Songs.stands("the player goes on", x, 0, 1, 0, 0);
        Songs.hears("the frame's first row", x, 0, Songs.tone(11, 15));
        x.play(2);
        Songs.frames("the frame's next row", x, 0, 1, 1, 1);
        Songs.hears("the frame's second row", x, 0, Songs.tone(12, 15));
        x.play(2);
        Songs.frames("called from a frame", x, 0, 2, 2, 0);
        Songs.stands("the player in the last row", x, 0, 3, 0, 0);
        Songs.hears("the second frame", x, 0, Songs.tone(21, 15));
        x.play(2);
        Songs.frames("the second frame's next row", x, 0, 2, 2, 1);
        Songs.stands("the player around", x, 0, 0, 0, 1);
        x.play(3);
        Songs.frames("back in the first frame, a row on", x, 0, 1, 1, 2);
        Songs.hears("the first frame's last row", x, 0, Songs.tone(13, 15));
        x.play(2);
        Songs.frames("back from all", x, 0, 0, -1, -1);
        Songs.stands("the player meanwhile", x, 0, 2, 0, 1);
        Songs.hears("the player's row", x, 0, Songs.tone(3, 15));
    }

    private static void fullFrames() {
        ChannelLoom x = Songs.of("0:1e1", "1:2e1/3/4");
        x.play(9);
        Songs.frames("three frames", x, 0, 3, 1, 0);
        x.play(3);
        Songs.frames("no fourth one", x, 0, 3, 1, 1);
        x.play(6);
        Songs.frames("the third is over", x, 0, 2, 1, 1);
        // a call in the last row of a frame takes its place, also if there were three
        ChannelLoom y = Songs.of("0:1e1", "1:1e2/.", "2:1e3/.", "3:1/1e4", "4:.");
        y.play(9);
        Songs.frames("three frames", y, 0, 3, 3, 0);
        y.play(6);
        Songs.frames("a call in the last row", y, 0, 3, 4, 0);
        y.play(3);
        Songs.frames("behind it", y, 0, 2, 2, 1);
        ChannelLoom z = Songs.of("0:1e6", "1:.");
        z.play(3);
        Songs.frames("a call of number 6", z, 0, 0, -1, -1);
        ChannelLoom self = Songs.of("0:1e0");
        self.play(3);
        Songs.frames("a call of itself", self, 0, 1, 0, 0);
        self.play(3);
        Songs.frames("a call of itself in its last row", self, 0, 1, 0, 0);
        ChannelLoom last = Songs.of("0:1e5", "5:7");
        Songs.hears("a call of pattern 5", last, 0, 271, 271, 271, Songs.tone(7, 15));
    }

    private static void callsByChannel() {
        ChannelLoom x = Songs.of("0:1,2e1/.,.,3e2,4e3", "1:11,12,13,14/.", "2:21,22,23,24", "3:31g5,32,33,34g2/./.");
        x.play(3);
        Songs.frames("channel 0", x, 0, 0, -1, -1);
        Songs.frames("channel 1", x, 1, 1, 1, 0);
        x.play(3);
        Songs.frames("channel 1 on", x, 1, 1, 1, 1);
        Songs.frames("channel 2", x, 2, 1, 2, 0);
        Songs.frames("channel 3", x, 3, 1, 3, 0);
        Check.same("channel 1 plays its own column", Songs.tone(12, 15), x.channel(1, 7));
        x.play(1);
        Check.same("channel 2 plays its own column", Songs.tone(23, 15), x.channel(2, 7));
        Check.same("channel 3 plays its own column", Songs.tone(34, 15), x.channel(3, 7));
        Check.same("channel 0 plays the order", Songs.tone(1, 15), x.channel(0, 7));
        Check.same("a frame's speed", 2, x.value(3));
    }

    private static void rounds() {
        ChannelLoom x = Songs.of("0:1/2", "3:31", "4:41/42/43");
        x.setOrder(1, 3);
        x.setOrder(2, 4);
        x.play(5);
        Songs.stands("place 0", x, 0, 1, 2, 0);
        x.play(1);
        Songs.stands("place 1", x, 1, 0, 0, 0);
        Check.same("the pattern at it", 3, x.value(7));
        Songs.hears("the pattern at place 1", x, 0, Songs.tone(31, 15));
        x.play(2);
        Songs.stands("place 2", x, 2, 0, 0, 0);
        Check.same("the pattern at it", 4, x.value(7));
        x.play(8);
        Songs.stands("the last tick", x, 2, 2, 2, 0);
        x.play(1);
        Songs.stands("a round is over", x, 0, 0, 0, 1);
        x.play(36);
        Songs.stands("three rounds are over", x, 0, 0, 0, 3);
        Check.same("ticks", 54, x.value(4));
    }

    private static void restart() {
        ChannelLoom x = Songs.of("0:1g2,5v5,6,7e1", "1:././.");
        x.setOrder(1, 1);
        x.setRows(2, 7);
        x.play(3);
        x.steal(2, 9, 50);
        x.play(2);
        Songs.stands("before restart", x, 1, 1, 1, 0);
        Check.same("restart", 5, x.restart());
        Songs.stands("behind restart", x, 0, 0, 0, 0);
        Check.same("speed", 3, x.value(3));
        Check.same("ticks", 0, x.value(4));
        Check.same("places stay", 2, x.value(6));
        Check.same("rows stay", 7, x.pattern(2, 0));
        Songs.cell("cells stay", x, 0, 0, 3, 7, 15, 5, 1);
        int[] fresh = {0, 0, 0, -1, 0, -1, -1, 0};
        for (int i = 0; i < 32; i++) {
            Check.same("channel " + i / 8 + " fact " + i % 8, fresh[i % 8], x.channel(i / 8, i % 8));
        }
        Check.same("restart again", 0, x.restart());
        Check.same("undo of restart", 3, x.undo());
        Check.same("undo of the first restart", 2, x.undo());
        Songs.stands("behind undo", x, 1, 1, 1, 0);
        Check.same("ticks behind undo", 5, x.value(4));
        Check.same("stolen behind undo", 48, x.channel(2, 2));
        Check.same("frames behind undo", 1, x.channel(3, 4));
        Check.same("heard behind undo", Songs.tone(9, 15), x.channel(2, 7));

        ChannelLoom y = Songs.of("0:5/.");
        y.play(3);
        y.play(3);
        Check.same("rounds before restart", 1, y.value(5));
        y.restart();
        Songs.stands("rounds behind restart", y, 0, 0, 0, 0);
    }

    private static void steal() {
        ChannelLoom x = Songs.of("0:5v3a1/61/.", "1:.");
        Check.same("steal", 0, x.steal(0, 60, 2));
        Check.same("ticks", 2, x.channel(0, 2));
        Check.same("note", 60, x.channel(0, 3));
        Songs.hears("stolen", x, 0, 15375);
        Check.same("ticks then", 1, x.channel(0, 2));
        Check.same("note for the last tick", 60, x.channel(0, 3));
        Check.same("pitch goes on", 80, x.channel(0, 0));
        Songs.hears("stolen still", x, 0, 15375);
        Check.same("no ticks left", 0, x.channel(0, 2));
        Check.same("no note then", -1, x.channel(0, 3));
        Songs.hears("come back", x, 0, Songs.sound(82, 3));
        Check.same("steal for long", 0, x.steal(0, 1, 99));
        Songs.hears("stolen in a silence", x, 0, 271, 271);
        Check.same("steal in place of it", 97, x.steal(0, 2, 1));
        Songs.hears("stolen by another", x, 0, 527, 0);
        Check.same("undo", 3, x.undo());
        x.undo();
        Check.same("undo of steal", 1, x.undo());
        Check.same("ticks behind undo", 97, x.channel(0, 2));
        Check.same("note behind undo", 1, x.channel(0, 3));
        Check.same("other channels", 0, x.channel(1, 2));
        Check.same("steal of the last channel", 0, x.steal(3, 7, 7));
        Check.same("the last channel", 7, x.channel(3, 2));
        Check.same("hash of stolen ticks", 31 * (31 * (31 * (31 * 17 + 271)) + 0) + Songs.tone(7, 15), x.play(1));
        Check.outside(x, "steal channel -1", () -> x.steal(-1, 1, 1));
        Check.outside(x, "steal channel 4", () -> x.steal(4, 1, 1));
        Check.illegal(x, "steal note 0", () -> x.steal(0, 0, 1));
        Check.illegal(x, "steal note 61", () -> x.steal(0, 61, 1));
        Check.illegal(x, "steal ticks 0", () -> x.steal(0, 1, 0));
        Check.illegal(x, "steal ticks 100", () -> x.steal(0, 1, 100));
        Check.illegal(x, "steal ticks -1", () -> x.steal(0, 1, -1));
        Check.outside(x, "steal with both", () -> x.steal(4, 0, 0));
    }

    private static void giveBack() {
        ChannelLoom x = Songs.of("0:5v3");
        Check.same("giveBack of what is not stolen", 0, x.giveBack(0));
        Check.same("it is undoable", 1, x.undo());
        x.steal(0, 9, 10);
        x.play(4);
        Check.same("giveBack", 6, x.giveBack(0));
        Check.same("ticks then", 0, x.channel(0, 2));
        Check.same("note then", -1, x.channel(0, 3));
        Check.same("heard stays", Songs.tone(9, 15), x.channel(0, 7));
        Songs.hears("given back", x, 0, Songs.tone(5, 3));
        x.undo();
        Check.same("undo of giveBack", 2, x.undo());
        Check.same("ticks behind undo", 6, x.channel(0, 2));
        Check.same("note behind undo", 9, x.channel(0, 3));
        x.steal(3, 1, 5);
        Check.same("giveBack of channel 3", 5, x.giveBack(3));
        Check.same("channel 0 is stolen still", 6, x.channel(0, 2));
        Check.outside(x, "giveBack -1", () -> x.giveBack(-1));
        Check.outside(x, "giveBack 4", () -> x.giveBack(4));
    }

    private static void channelAndValue() {
        ChannelLoom x = Songs.of("0:.,.,.,7v8e1/.,9v1", "1:8v9/.");
        Check.same("heard before any", 0, x.channel(3, 7));
        x.play(4);
        int[] due = {112, 8, 0, -1, 1, 1, 0, Songs.tone(7, 8)};
        for (int what = 0; what < 8; what++) {
            Check.same("channel(3, " + what + ")", due[what], x.channel(3, what));
        }
        int[] values = {0, 1, 1, 3, 4, 0, 1, 0};
        for (int what = 0; what < 8; what++) {
            Check.same("value(" + what + ")", values[what], x.value(what));
        }
        Check.outside(x, "channel -1", () -> x.channel(-1, 0));
        Check.outside(x, "channel 4", () -> x.channel(4, 0));
        Check.illegal(x, "channel what -1", () -> x.channel(0, -1));
        Check.illegal(x, "channel what 8", () -> x.channel(0, 8));
        Check.outside(x, "channel with both", () -> x.channel(4, 8));
        Check.illegal(x, "value -1", () -> x.value(-1));
        Check.illegal(x, "value 8", () -> x.value(8));
    }
}
