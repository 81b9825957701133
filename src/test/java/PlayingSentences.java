/** The sentences of the promises 10 to 15. */
final class PlayingSentences {
    private static final int NONE = ChannelLoom.NONE;
    private static final String NO_CHANNEL = "Throws `IndexOutOfBoundsException` if there is no such channel";
    private static final String NO_FACT = "Throws `IllegalArgumentException` if what is out of range";

    private PlayingSentences() {
    }

    static void run(Document d) {
        play(d);
        playLimit(d);
        restart(d);
        steal(d);
        stealWrong(d);
        giveBack(d);
        channel(d);
        channelFacts(d);
        value(d);
    }

    private static void play(Document d) {
        d.open("Promise 10: play");
        d.says("Lets ticks pass.", () -> {
            ChannelLoom x = Songs.of("0:1/2");
            x.play(1);
            Songs.stands("behind a tick", x, 0, 0, 1, 0);
            x.play(4);
            Songs.stands("behind five ticks", x, 0, 1, 2, 0);
            x.play(1);
            Songs.stands("behind six ticks", x, 0, 0, 0, 1);
            Check.same("the ticks", 6, x.value(4));
        });
        d.says("Undoable.", () -> {
            ChannelLoom x = Songs.of("0:1a1,2e1/3g5", "1:4/5");
            x.steal(3, 9, 9);
            x.play(5);
            int heard = x.hashOf(500);
            Check.same("what was heard to be", heard, x.play(500));
            Check.same("the states that remain", 3, x.undo());
            Songs.stands("behind undo", x, 0, 1, 2, 0);
            Check.same("the ticks", 5, x.value(4));
            Songs.frames("the frames", x, 1, 1, 1, 0);
            Check.same("the ticks for which it is stolen", 4, x.channel(3, 2));
            Check.same("it plays the same again", heard, x.play(500));
        });
        d.says("- `ticks`: 1 to 500", () -> Ranges.taken(ChannelLoom::new, 1, 500, (x, ticks) -> {
            x.play(ticks);
            Check.same("the ticks", ticks, x.value(4));
        }));
        d.says("Returns the hash of what is heard in them.", () -> {
            ChannelLoom x = Songs.of("0:5v3a1/61");
            Check.same("of a tick", Songs.hashOfFirst(Songs.sound(80, 3)), x.play(1));
            Check.same("of the next two, begun anew", Songs.hashOfFirst(Songs.sound(81, 3), Songs.sound(82, 3)), x.play(2));
            Check.same("of a silent row", Songs.hashOfFirst(0, 0, 0), x.play(3));
            x.steal(0, 60, 1);
            Check.same("of a stolen tick", Songs.hashOfFirst(15375, Songs.sound(81, 3)), x.play(2));
        });
        d.says("Throws `IllegalArgumentException` if ticks is out of range",
                () -> Ranges.illegal(Songs.of("0:1/2"), 1, 500, ChannelLoom::play));
    }

    private static ChannelLoom played(int ticks) {
        ChannelLoom x = Songs.of("0:1/2");
        for (int left = ticks; left > 0; left -= 500) {
            x.play(Math.min(left, 500));
        }
        return x;
    }

    private static void playLimit(Document d) {
        d.says("Throws `IllegalStateException` if there would be more than 100000 ticks", () -> {
            ChannelLoom x = played(99500);
            x.play(500);
            Check.same("the ticks at the limit", 100000, x.value(4));
            Check.refused(x, "one tick more", () -> x.play(1));
            Check.refused(x, "many ticks more", () -> x.play(500));
            Check.same("the states that remain", 3, x.undo());
            x.play(499);
            Check.refused(x, "two ticks where one is left", () -> x.play(2));
            Check.refused(x, "500 ticks where one is left", () -> x.play(500));
            x.play(1);
            Check.same("the ticks at the limit again", 100000, x.value(4));
            x.restart();
            x.play(500);
            Check.same("the ticks behind restart", 500, x.value(4));
        });
    }

    private static void restart(Document d) {
        d.open("Promise 11: restart");
        d.says("Goes back to the beginning: place, row, tick, channels (what was heard, too), "
                + "speed, ticks and rounds are as at first", () -> {
                    ChannelLoom x = Songs.of("0:1g2,5v5,6,7e1", "1:././.");
                    x.setOrder(1, 1);
                    x.play(11);
                    x.steal(2, 9, 50);
                    x.play(2);
                    Songs.stands("before it", x, 1, 1, 1, 1);
                    x.restart();
                    Songs.stands("behind it", x, 0, 0, 0, 0);
                    Check.same("the speed", 3, x.value(3));
                    Check.same("the ticks", 0, x.value(4));
                    int[] first = {0, 0, 0, NONE, 0, NONE, NONE, 0};
                    for (int i = 0; i < 32; i++) {
                        Check.same("channel " + i / 8 + " fact " + i % 8, first[i % 8], x.channel(i / 8, i % 8));
                    }
                });
        d.says("patterns and order stay", () -> {
            ChannelLoom x = Songs.of("4:1v2c3/4");
            x.setOrder(0, 4);
            x.setOrder(1, 3);
            x.play(5);
            x.restart();
            Check.same("the rows", 2, x.pattern(4, 0));
            Songs.cell("a cell", x, 4, 0, 0, 1, 2, 3, 3);
            Check.same("the places", 2, x.value(6));
            Check.same("the first place", 4, x.order(0));
            Check.same("the second place", 3, x.order(1));
            Songs.hears("it plays anew", x, 0, Songs.tone(1, 2), Songs.tone(1, 5));
        });
        d.says("Undoable.", () -> {
            ChannelLoom x = Songs.of("0:1e1/2", "1:3");
            x.restart();
            Check.same("even at the beginning", 2, x.undo());
            x.play(4);
            x.restart();
            Check.same("the states that remain", 3, x.undo());
            Songs.stands("behind undo", x, 0, 1, 1, 0);
            Check.same("the ticks", 4, x.value(4));
            Songs.frames("the frames", x, 0, 1, 1, 0);
            Check.same("what was heard", Songs.tone(3, 15), x.channel(0, 7));
        });
        d.says("Returns the number of ticks before.", () -> {
            ChannelLoom x = new ChannelLoom();
            Check.same("of a new object", 0, x.restart());
            x.play(500);
            x.play(1);
            Check.same("behind 501 ticks", 501, x.restart());
            Check.same("behind restart", 0, x.restart());
            Check.same("at the limit", 100000, played(100000).restart());
        });
    }

    private static void steal(Document d) {
        d.open("Promise 12: steal");
        d.says("Steals a channel, in place of what it was stolen by.", () -> {
            ChannelLoom x = Songs.of("0:7");
            x.steal(0, 60, 99);
            x.steal(0, 5, 2);
            Check.same("fewer ticks", 2, x.channel(0, 2));
            Check.same("another note", 5, x.channel(0, 3));
            x.steal(0, 5, 3);
            Check.same("more ticks", 3, x.channel(0, 2));
            x.steal(0, 4, 1);
            Songs.hears("the ticks don't add up", x, 0, Songs.tone(4, 15), Songs.tone(7, 15));
        });
        d.says("Undoable.", () -> {
            ChannelLoom x = new ChannelLoom();
            x.steal(2, 8, 9);
            x.steal(2, 8, 9);
            Check.same("the states that remain", 1, x.undo());
            Check.same("the ticks behind one undo", 9, x.channel(2, 2));
            Check.same("the note behind one undo", 8, x.channel(2, 3));
            Check.same("the states that remain", 0, x.undo());
            Check.same("the ticks behind two undos", 0, x.channel(2, 2));
            Check.same("the note behind two undos", NONE, x.channel(2, 3));
        });
        d.says("- `channel`: 0 to 3", () -> Ranges.taken(ChannelLoom::new, 0, 3, (x, channel) -> {
            x.steal(channel, 7, 5);
            for (int other = 0; other < 4; other++) {
                Check.same("the ticks", other == channel ? 5 : 0, x.channel(other, 2));
            }
        }));
        d.says("- `note`: 1 to 60", () -> Ranges.taken(ChannelLoom::new, 1, 60, (x, note) -> {
            x.steal(1, note, 1);
            Check.same("the note", note, x.channel(1, 3));
            Songs.hears("what is heard", x, 1, 256 * note + 15);
        }));
        d.says("- `ticks`: 1 to 99", () -> Ranges.taken(ChannelLoom::new, 1, 99, (x, ticks) -> {
            x.steal(1, 5, ticks);
            Check.same("the ticks", ticks, x.channel(1, 2));
            Check.same("the silent ticks behind them", 200 - ticks, x.silent(1, 200));
        }));
        d.says("Returns the ticks for which it was stolen still (0 if it was not).", () -> {
            ChannelLoom x = new ChannelLoom();
            Check.same("if it was not", 0, x.steal(1, 5, 99));
            Check.same("all of them", 99, x.steal(1, 6, 2));
            x.play(1);
            Check.same("the last one", 1, x.steal(1, 6, 2));
            x.play(2);
            Check.same("none", 0, x.steal(1, 6, 2));
            Check.same("another channel", 0, x.steal(2, 6, 2));
        });
    }

    private static void stealWrong(Document d) {
        d.says(NO_CHANNEL, () -> {
            ChannelLoom x = new ChannelLoom();
            x.steal(0, 9, 9);
            Ranges.outside(x, 0, 3, (y, channel) -> y.steal(channel, 1, 1));
        });
        d.says("Throws `IllegalArgumentException` if note or ticks is out of range", () -> {
            ChannelLoom x = new ChannelLoom();
            x.steal(0, 9, 9);
            Ranges.illegal(x, 1, 60, (y, note) -> y.steal(0, note, 1));
            Ranges.illegal(x, 1, 99, (y, ticks) -> y.steal(0, 1, ticks));
        });
    }

    private static void giveBack(Document d) {
        d.open("Promise 13: giveBack");
        d.says("Gives a stolen channel back.", () -> {
            ChannelLoom x = Songs.of("0:5v3");
            x.steal(0, 9, 10);
            x.play(1);
            x.giveBack(0);
            Check.same("the ticks", 0, x.channel(0, 2));
            Check.same("the note", NONE, x.channel(0, 3));
            Check.same("what was heard stays", Songs.tone(9, 15), x.channel(0, 7));
            Songs.hears("behind it", x, 0, Songs.tone(5, 3));
        });
        d.says("Undoable.", () -> {
            ChannelLoom x = new ChannelLoom();
            x.steal(2, 8, 9);
            x.giveBack(2);
            x.giveBack(2);
            Check.same("of a channel that is not stolen", 2, x.undo());
            Check.same("the ticks behind one undo", 0, x.channel(2, 2));
            Check.same("the states that remain", 1, x.undo());
            Check.same("the ticks behind two undos", 9, x.channel(2, 2));
            Check.same("the note behind two undos", 8, x.channel(2, 3));
        });
        d.says("- `channel`: 0 to 3", () -> Ranges.taken(PlayingSentences::allStolen, 0, 3, (x, channel) -> {
            x.giveBack(channel);
            for (int other = 0; other < 4; other++) {
                Check.same("the ticks", other == channel ? 0 : 5 + other, x.channel(other, 2));
            }
        }));
        d.says("Returns the ticks for which it was stolen still.", () -> {
            ChannelLoom x = new ChannelLoom();
            Check.same("of a channel that was not stolen", 0, x.giveBack(3));
            x.steal(3, 1, 99);
            Check.same("all of them", 99, x.giveBack(3));
            Check.same("of a channel that is given back", 0, x.giveBack(3));
            x.steal(3, 1, 2);
            x.play(1);
            Check.same("the last one", 1, x.giveBack(3));
            x.steal(3, 1, 2);
            x.play(2);
            Check.same("none", 0, x.giveBack(3));
        });
        d.says(NO_CHANNEL, () -> Ranges.outside(allStolen(), 0, 3, ChannelLoom::giveBack));
    }

    private static ChannelLoom allStolen() {
        ChannelLoom x = new ChannelLoom();
        for (int channel = 0; channel < 4; channel++) {
            x.steal(channel, channel + 1, channel + 5);
        }
        return x;
    }

    private static void channel(Document d) {
        d.open("Promise 14: channel");
        d.says("Returns something about a channel.", () -> {
            ChannelLoom x = Songs.of("0:.,.,7v8e1/9,9", "1:.,.,8v9/.");
            x.play(4);
            long before = x.digest();
            int[] due = {128, 9, 0, NONE, 1, 1, 0, Songs.tone(8, 9)};
            for (int what = 0; what < 8; what++) {
                Check.same("fact " + what, due[what], x.channel(2, what));
            }
            Check.same("nothing changes", before, x.digest());
        });
        d.says("- `channel`: 0 to 3", () -> Ranges.taken(() -> Songs.of("0:1v4,2v5,3v6,4v7"), 0, 3, (x, channel) -> {
            x.play(1);
            Check.same("its pitch", 16 * channel + 16, x.channel(channel, 0));
            Check.same("its volume", channel + 4, x.channel(channel, 1));
        }));
        d.says("Returns that value.", () -> Check.same("a value", 0, new ChannelLoom().channel(3, 0)));
        d.says(NO_CHANNEL, () -> Ranges.outside(new ChannelLoom(), 0, 3, (x, channel) -> x.channel(channel, 0)));
        d.says(NO_FACT, () -> Ranges.illegal(new ChannelLoom(), 0, 7, (x, what) -> x.channel(0, what)));
    }

    private static void channelFacts(Document d) {
        d.says("0 its pitch, 1 its volume", () -> {
            ChannelLoom x = Songs.of("0:60v15g8/0a9");
            Check.same("the pitch at first", 0, x.channel(0, 0));
            Check.same("the volume at first", 0, x.channel(0, 1));
            x.play(16);
            Check.same("the greatest pitch", 999, x.channel(0, 0));
            Check.same("the greatest volume", 15, x.channel(0, 1));
            x.steal(0, 1, 9);
            x.play(1);
            Check.same("the pitch of a stolen channel", 960, x.channel(0, 0));
        });
        d.says("2 the ticks for which it is stolen still, 3 the note by which it is stolen (NONE if it is not)", () -> {
            ChannelLoom x = new ChannelLoom();
            stolen("at first", x, 0, NONE);
            x.steal(3, 60, 2);
            stolen("for two ticks", x, 2, 60);
            x.play(1);
            stolen("for a tick still", x, 1, 60);
            x.play(1);
            stolen("no more", x, 0, NONE);
            x.steal(3, 1, 99);
            stolen("again", x, 99, 1);
            x.giveBack(3);
            stolen("given back", x, 0, NONE);
        });
        d.says("4 its frames, 5 and 6 the pattern and the row of its latest frame (NONE without one)", () -> {
            ChannelLoom x = Songs.of("0:1e5/2/3/4/5/6/7/8", "5:1/2e0/3");
            Songs.frames("without one", x, 0, 0, NONE, NONE);
            x.play(3);
            Songs.frames("in pattern 5, row 0", x, 0, 1, 5, 0);
            x.play(3);
            Songs.frames("in pattern 5, row 1", x, 0, 1, 5, 1);
            x.play(3);
            Songs.frames("in pattern 0, row 0", x, 0, 2, 0, 0);
            x.play(3);
            Songs.frames("the third", x, 0, 3, 5, 0);
            x.restart();
            Songs.frames("behind restart", x, 0, 0, NONE, NONE);
        });
        d.says("7 what was heard of it in the latest tick (0 before any)", () -> {
            ChannelLoom x = Songs.of("0:61,9v3a1");
            for (int channel = 0; channel < 4; channel++) {
                Check.same("before any", 0, x.channel(channel, 7));
            }
            x.play(3);
            Check.same("of a silent channel", 0, x.channel(0, 7));
            Check.same("of the latest of three ticks", Songs.sound(146, 3), x.channel(1, 7));
            x.steal(1, 2, 1);
            Check.same("a theft is not heard yet", Songs.sound(146, 3), x.channel(1, 7));
            x.hashOf(1);
            Check.same("a question is not heard", Songs.sound(146, 3), x.channel(1, 7));
            x.play(1);
            Check.same("of a stolen channel", Songs.tone(2, 15), x.channel(1, 7));
        });
    }

    private static void stolen(String what, ChannelLoom x, int ticks, int note) {
        Check.same(what + ": the ticks", ticks, x.channel(3, 2));
        Check.same(what + ": the note", note, x.channel(3, 3));
    }

    private static void value(Document d) {
        d.open("Promise 15: value");
        d.says("Returns a number.", () -> {
            ChannelLoom x = Songs.of("0:1g2/2");
            x.play(3);
            long before = x.digest();
            Check.same("a number", 2, x.value(3));
            Check.same("nothing changes", before, x.digest());
        });
        d.says("0 the place in the order, 1 the row, 2 the tick within the row, 3 the speed, 4 the ticks, 5 the rounds, "
                + "6 the places of the order, 7 the pattern at the place", () -> {
                    ChannelLoom x = Songs.of("0:1g2/2/3/4/5", "4:1/2/3/4/5/6/7");
                    x.setOrder(1, 4);
                    x.setOrder(2, 3);
                    x.play(5 * 2 + 7 * 2 + 4 * 2 + 5 * 2 + 6 * 2 + 1);
                    int[] due = {1, 6, 1, 2, 55, 1, 3, 4};
                    for (int what = 0; what < 8; what++) {
                        Check.same("value " + what, due[what], x.value(what));
                    }
                    x.setOrder(1, 5);
                    Check.same("another pattern at the place", 5, x.value(7));
                    Check.same("the same place", 1, x.value(0));
                });
        d.says("Returns that number.", () -> Check.same("a number", 3, new ChannelLoom().value(3)));
        d.says(NO_FACT, () -> Ranges.illegal(new ChannelLoom(), 0, 7, ChannelLoom::value));
    }
}
