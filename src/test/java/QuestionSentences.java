/** The sentences of the promises 16 to 21. */
final class QuestionSentences {
    private static final String NO_CHANNEL = "Throws `IndexOutOfBoundsException` if there is no such channel";
    private static final String NO_TICKS = "Throws `IllegalArgumentException` if ticks is out of range";

    private QuestionSentences() {
    }

    static void run(Document d) {
        hashOf(d);
        ticksToRound(d);
        silent(d);
        deepest(d);
        unheard(d);
        meanVolume(d);
    }

    /** All that a question could disturb: frames, a theft, a delay that waits, a speed, a text, saved states. */
    private static ChannelLoom busy() {
        ChannelLoom x = Songs.of("0:1e1,2e2,3f2,4f1/5a3/6,7g5,8f2", "1:9e2/8", "2:7,5e2/8/9");
        x.steal(3, 4, 60);
        x.play(7);
        return x;
    }

    private static void changesNothing(Runnable question, ChannelLoom x) {
        long before = x.digest();
        int heard = x.hashOf(500);
        question.run();
        Check.same("the state", before, x.digest());
        Check.same("what is heard then", heard, x.play(500));
    }

    private static void hashOf(Document d) {
        d.open("Promise 16: hashOf");
        d.says("Returns the hash of what would be heard in the next ticks", () -> {
            ChannelLoom x = Songs.of("0:5v3a1/61");
            Check.same("a tick", Songs.hashOfFirst(Songs.sound(80, 3)), x.hashOf(1));
            x.play(1);
            Check.same("the next four ticks", Songs.hashOfFirst(Songs.sound(81, 3), Songs.sound(82, 3), 0, 0), x.hashOf(4));
            changesNothing(() -> { }, busy());
            ChannelLoom y = busy();
            changesNothing(() -> y.hashOf(499), y);
        });
        d.says("(for these questions the limit of ticks does not matter)", () -> {
            ChannelLoom x = Songs.of("0:5v3g1,7/61,0e0");
            for (int i = 0; i < 200; i++) {
                x.play(500);
            }
            Check.refused(x, "the limit is reached", () -> x.play(1));
            int tick = 31 * (31 * (31 * (31 * 17 + Songs.tone(5, 3)) + Songs.tone(7, 15)));
            Check.same("hashOf", tick, x.hashOf(1));
            Check.same("ticksToRound", 2, x.ticksToRound());
            Check.same("silent", 250, x.silent(0, 500));
            Check.same("deepest", 1, x.deepest(1, 500));
            Check.same("unheard", 99, x.unheard(1, 7));
            Check.same("the ticks", 100000, x.value(4));
        });
        d.says("- `ticks`: 0 to 500", () -> Ranges.taken(() -> Songs.of("0:5v3a1/61"), 0, 500, (x, ticks) -> {
            int answer = x.hashOf(ticks);
            Check.same("of " + ticks + " ticks", ticks == 0 ? 17 : x.play(ticks), answer);
        }));
        d.says("Returns the hash (17 for no ticks).", () -> {
            Check.same("of a new object", 17, new ChannelLoom().hashOf(0));
            Check.same("of a busy one", 17, busy().hashOf(0));
        });
        d.says(NO_TICKS, () -> Ranges.illegal(busy(), 0, 500, ChannelLoom::hashOf));
    }

    private static void ticksToRound(Document d) {
        d.open("Promise 17: ticksToRound");
        d.says("Tells how many ticks there would be from now to the end of the round: until a round is over.", () -> {
            ChannelLoom x = Songs.of("0:1/2g5/3", "1:4g2/5");
            x.setOrder(1, 1);
            for (int due = 3 + 5 + 5 + 2 + 2; due >= 1; due--) {
                Check.same("from now", due, x.ticksToRound());
                x.play(1);
            }
            Songs.stands("the round is over", x, 0, 0, 0, 1);
            Check.same("the next round begins at another speed", 2 + 5 + 5 + 2 + 2, x.ticksToRound());
            ChannelLoom y = busy();
            changesNothing(y::ticksToRound, y);
        });
        d.says("Returns the number, 1 or more", () -> {
            ChannelLoom x = Songs.of("0:1g1");
            Check.same("of one row of one tick, before any", 1, x.ticksToRound());
            x.play(1);
            Check.same("and in the next round", 1, x.ticksToRound());
            ChannelLoom y = new ChannelLoom();
            y.play(11);
            Check.same("in the last tick", 1, y.ticksToRound());
            y.play(1);
            Check.same("at the end of a round it is the next one", 12, y.ticksToRound());
        });
        d.says("NONE if none is over in 1000 ticks.", () -> {
            // eight places of eight rows of eight ticks are the longest round: it is over in time
            ChannelLoom x = Songs.of("0:1g8/2/3/4/5/6/7/8");
            for (int place = 1; place < 8; place++) {
                x.setOrder(place, 0);
            }
            Check.same("the longest round", 512, x.ticksToRound());
            x.play(500);
            Check.same("the end of the longest round", 12, x.ticksToRound());
        });
    }

    private static void silent(Document d) {
        d.open("Promise 18: silent");
        String counts = "Counts the ticks among the next ones in which a channel would not be heard "
                + "(in which it would be heard as 0).";
        d.says(counts, () -> {
            ChannelLoom x = Songs.of("0:61/1v3d1/61/.");
            int[] due = {0, 1, 2, 3, 3, 3, 3, 4, 5, 6, 7, 8, 9, 10};
            for (int ticks = 1; ticks < due.length; ticks++) {
                Check.same("of " + ticks + " ticks", due[ticks], x.silent(0, ticks));
            }
            Check.same("a channel of volume 0", 500, Songs.of("0:60v0").silent(0, 500));
            Check.same("a channel of pitch 0 and volume 1", 1, Songs.of("0:.,0c1").silent(1, 100));
            ChannelLoom stolen = new ChannelLoom();
            stolen.steal(2, 1, 99);
            Check.same("a stolen channel is heard", 0, stolen.silent(2, 99));
            Check.same("until it comes back", 1, stolen.silent(2, 100));
            ChannelLoom y = busy();
            changesNothing(() -> y.silent(3, 499), y);
        });
        d.says("- `channel`: 0 to 3", () -> Ranges.taken(() -> Songs.of("0:1,2,3,4/61/.,61/.,.,61/.,.,.,61"), 0, 3,
                (x, channel) -> Check.same("its silent ticks", 12 - 3 * channel, x.silent(channel, 15))));
        d.says("- `ticks`: 1 to 500", () -> Ranges.taken(ChannelLoom::new, 1, 500,
                (x, ticks) -> Check.same("the silent ticks", ticks, x.silent(3, ticks))));
        d.says("Returns their number.", () -> {
            Check.same("none", 0, Songs.of("0:1").silent(0, 500));
            Check.same("all", 500, Songs.of("0:1").silent(1, 500));
        });
        d.says(NO_CHANNEL, () -> Ranges.outside(busy(), 0, 3, (x, channel) -> x.silent(channel, 1)));
        d.says(NO_TICKS, () -> Ranges.illegal(busy(), 1, 500, (x, ticks) -> x.silent(0, ticks)));
    }

    private static void deepest(Document d) {
        d.open("Promise 19: deepest");
        d.says("Finds the greatest number of frames that a channel would have behind some tick among the next ones.", () -> {
            ChannelLoom x = Songs.of("0:1e1/2/3/4/5/6/7/8", "1:1e2", "2:1e3/2", "3:1/2");
            int[] due = {0, 0, 0, 1, 1, 1, 1, 1, 1, 2};
            for (int ticks = 1; ticks < due.length; ticks++) {
                Check.same("behind " + ticks + " ticks", due[ticks], x.deepest(0, ticks));
            }
            ChannelLoom y = Songs.of("0:1e1/././.", "1:.");
            y.play(5);
            Songs.frames("a frame now", y, 0, 1, 1, 0);
            Check.same("that is over behind the next tick", 0, y.deepest(0, 1));
            Check.same("and comes again", 1, y.deepest(0, 10));
            ChannelLoom z = busy();
            changesNothing(() -> z.deepest(1, 499), z);
        });
        d.says("- `channel`: 0 to 3", () -> Ranges.taken(
                () -> Songs.of("0:1,2e1,3e2,4e3/././.", "1:././.", "2:.,.,0e1/.", "3:.,.,.,0e3/."), 0, 3,
                (x, channel) -> Check.same("its frames", channel, x.deepest(channel, 9))));
        d.says("- `ticks`: 1 to 500", () -> Ranges.taken(() -> Songs.of("0:1g8,2e1/././././././.", "1:."), 1, 500,
                (x, ticks) -> Check.same("the frames", ticks < 8 ? 0 : 1, x.deepest(1, ticks))));
        d.says("Returns their number.", () -> {
            Check.same("none", 0, Songs.of("0:1").deepest(0, 500));
            Check.same("three at the most", 3, Songs.of("0:1e0/2e0").deepest(0, 500));
        });
        d.says(NO_CHANNEL, () -> Ranges.outside(busy(), 0, 3, (x, channel) -> x.deepest(channel, 1)));
        d.says(NO_TICKS, () -> Ranges.illegal(busy(), 1, 500, (x, ticks) -> x.deepest(0, ticks)));
    }

    private static void unheard(Document d) {
        d.open("Promise 20: unheard");
        d.says("Tells for how many ticks a channel could be stolen by a note without that being heard", () -> {
            ChannelLoom x = Songs.of("0:7/7/7/8", "1:.");
            int due = x.unheard(0, 7);
            Check.same("three rows", 9, due);
            int heard = x.hashOf(12);
            x.steal(0, 7, due);
            Check.same("stolen for so long", heard, x.hashOf(12));
            x.steal(0, 7, due + 1);
            Check.holds("stolen for a tick more", heard != x.hashOf(12));
            ChannelLoom y = busy();
            changesNothing(() -> y.unheard(3, 4), y);
        });
        d.says("counts the next ticks, up to the first one in which the channel", () -> {
            ChannelLoom x = Songs.of("0:7/8/7/.");
            for (int tick = 0; tick < 3; tick++) {
                Check.same("not those behind the first one", 3 - tick, x.unheard(0, 7));
                x.play(1);
            }
            Check.same("none", 0, x.unheard(0, 7));
            Check.same("by the other note", 3, x.unheard(0, 8));
        });
        d.says("if it were given back now", () -> {
            ChannelLoom x = Songs.of("0:7/7/7/8");
            x.steal(0, 20, 30);
            Check.same("stolen by another note", 9, x.unheard(0, 7));
            Check.same("by the note that steals it", 0, x.unheard(0, 20));
            Check.same("it is stolen still", 30, x.channel(0, 2));
            Check.same("by the same note", 20, x.channel(0, 3));
        });
        d.says("would not be heard as a channel stolen by this note is", () -> {
            Check.same("the same note", 99, Songs.of("0:30").unheard(0, 30));
            Check.same("a note above", 0, Songs.of("0:30").unheard(0, 31));
            Check.same("a note below", 0, Songs.of("0:30").unheard(0, 29));
            Check.same("with another volume", 0, Songs.of("0:30v14").unheard(0, 30));
            Check.same("with a pitch one above in tick 1", 1, Songs.of("0:30a1").unheard(0, 30));
            Check.same("with a volume one below in tick 1", 1, Songs.of("0:30d1").unheard(0, 30));
            Check.same("a silent channel", 0, Songs.of("0:61").unheard(0, 1));
        });
        d.says("- `channel`: 0 to 3", () -> Ranges.taken(() -> Songs.of("0:1,1,1,1/2/.,2/.,.,2/.,.,.,2"), 0, 3,
                (x, channel) -> Check.same("its ticks", 3 + 3 * channel, x.unheard(channel, 1))));
        d.says("- `note`: 1 to 60", () -> Ranges.taken(ChannelLoom::new, 1, 60, (x, note) -> {
            x.setNote(0, 0, 0, note, 15);
            Check.same("of the same note", 99, x.unheard(0, note));
            Check.same("of another note", 0, x.unheard(0, note % 60 + 1));
        }));
        d.says("Returns their number, 0 to 99 (99 also if there are more).", () -> {
            ChannelLoom x = Songs.of("0:1g7/./././././.", "1:./././././././.", "2:61");
            x.setOrder(1, 1);
            x.setOrder(2, 2);
            // 7 and 8 rows of 7 ticks are 105
            int[] due = {99, 99, 99, 99, 99, 99, 99, 98, 97};
            for (int tick = 0; tick < due.length; tick++) {
                Check.same("of " + (105 - tick), due[tick], x.unheard(0, 1));
                x.play(1);
            }
            x.play(105 - due.length - 1);
            Check.same("of one", 1, x.unheard(0, 1));
            x.play(1);
            Check.same("of none", 0, x.unheard(0, 1));
            Check.same("for ever", 99, Songs.of("0:60").unheard(0, 60));
        });
        d.says(NO_CHANNEL, () -> Ranges.outside(busy(), 0, 3, (x, channel) -> x.unheard(channel, 1)));
        d.says("Throws `IllegalArgumentException` if note is out of range",
                () -> Ranges.illegal(busy(), 1, 60, (x, note) -> x.unheard(0, note)));
    }

    private static void meanVolume(Document d) {
        d.open("Promise 21: meanVolume");
        d.says("Returns the mean volume of the channels now (stolen or not).", () -> {
            ChannelLoom x = Songs.of("0:1v3,2v6,3v9,4v12/1v0,2v0");
            Check.same("before any tick", 0.0, x.meanVolume());
            x.play(1);
            Check.same("behind a tick", 7.5, x.meanVolume());
            x.steal(3, 60, 9);
            Check.same("with a stolen channel", 7.5, x.meanVolume());
            x.play(3);
            Check.same("with two silent ones", 5.25, x.meanVolume());
            ChannelLoom y = busy();
            changesNothing(y::meanVolume, y);
        });
        d.says("Returns the sum of their volumes, converted to double, divided by 4.0.", () -> {
            for (int sum = 0; sum <= 60; sum++) {
                ChannelLoom x = new ChannelLoom();
                for (int channel = 0; channel < 4; channel++) {
                    x.setNote(0, 0, channel, 1, Math.max(0, Math.min(15, sum - 15 * channel)));
                }
                x.play(1);
                Check.same("of the sum " + sum, 0.25 * sum, x.meanVolume());
            }
        });
    }
}
