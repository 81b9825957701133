import java.math.BigInteger;
import java.util.function.Supplier;

/** The sentences of the terms on undo and exceptions, and of the promises 25 and 26. */
final class StateSentences {
    private StateSentences() {
    }

    static void run(Document d) {
        d.open("Terms");
        savedStates(d);
        exceptions(d);
        undo(d);
        digest(d);
    }

    private static void savedStates(Document d) {
        d.says("Each successful call of a method whose description says \"undoable\" saves the state from before the call, "
                + "even if the call changes nothing", () -> {
                    ChannelLoom x = new ChannelLoom();
                    saves("setNote", x, () -> x.setNote(0, 0, 0, 0, 15));
                    saves("setEffect", x, () -> x.setEffect(0, 0, 0, 0, 0));
                    saves("setRows", x, () -> x.setRows(0, 4));
                    saves("setOrder", x, () -> x.setOrder(0, 0));
                    saves("play", x, () -> x.play(1));
                    saves("restart", x, x::restart);
                    saves("steal", x, () -> x.steal(0, 1, 1));
                    saves("giveBack", x, () -> x.giveBack(0));
                    Songs.write(x, "5:././././");
                    x.append('.');
                    saves("parse", x, x::parse);
                    ChannelLoom y = new ChannelLoom();
                    y.setOrder(1, 0);
                    y.shorten();
                    Check.same("the states that remain behind shorten", 1, y.undo());
                    Check.same("the places", 2, y.value(6));
                });
        d.says("at most 4 states are saved, and the oldest is dropped first", () -> {
            for (int calls = 1; calls <= 9; calls++) {
                ChannelLoom x = new ChannelLoom();
                for (int note = 1; note <= calls; note++) {
                    x.setNote(0, 0, 0, note, note);
                }
                for (int left = Math.min(calls, 4) - 1; left >= 0; left--) {
                    Check.same("the states that remain of " + calls, left, x.undo());
                    Check.same("the note", calls - Math.min(calls, 4) + left, x.cell(0, 0, 0, 0));
                }
                Check.refused(x, "no more of " + calls, x::undo);
            }
        });
        d.says("The saved state contains everything except the text.", () -> {
            ChannelLoom x = Songs.of("0:1e1,2e2,3f2,4f1/5a3/6,7g5", "1:9e2/8", "2:7,5e2/8/9");
            x.setOrder(1, 2);
            x.steal(3, 4, 60);
            x.play(40);
            Check.same("the rounds before", 2, x.value(5));
            int[] before = facts(x);
            int heard = x.hashOf(500);
            x.play(500);
            x.restart();
            x.setRows(1, 1);
            Songs.parsed(x, "0:15/30g8");
            for (int left = 3; left >= 0; left--) {
                Check.same("the states that remain", left, x.undo());
            }
            int[] behind = facts(x);
            for (int i = 0; i < before.length; i++) {
                Check.same("fact " + i, before[i], behind[i]);
            }
            Check.same("what would be heard", heard, x.hashOf(500));
            Check.same("the text", 9, x.clearText());
        });
    }

    /** What calls tell of the player, the channels, the patterns and the cells of pattern 0. */
    private static int[] facts(ChannelLoom x) {
        int[] facts = new int[8 + 32 + 30 + 64];
        for (int i = 0; i < 8; i++) {
            facts[i] = x.value(i);
        }
        for (int i = 0; i < 32; i++) {
            facts[8 + i] = x.channel(i / 8, i % 8);
        }
        for (int i = 0; i < 30; i++) {
            facts[40 + i] = x.pattern(i / 5, i % 5);
        }
        for (int i = 0; i < 64; i++) {
            facts[70 + i] = x.cell(0, i / 16, i / 4 % 4, i % 4);
        }
        return facts;
    }

    private static void saves(String what, ChannelLoom x, Runnable call) {
        Check.refused(x, "undo before " + what, x::undo);
        long before = x.digest();
        call.run();
        Check.same(what + " saves one state", 0, x.undo());
        Check.same("the state behind the undo of " + what, before, x.digest());
    }

    private static void exceptions(Document d) {
        d.says("A call that throws an exception changes nothing.", () -> {
            ChannelLoom one = Songs.of("0:1e1/2");
            Songs.write(one, "2:7");
            refusedCalls(one);
            Check.same("the text", 2, one.parse());
            Check.same("the saved states", 1, one.undo());
            ChannelLoom x = Songs.of("0:1e1/2", "1:3f2/4");
            x.steal(2, 9, 9);
            x.play(4);
            int heard = x.hashOf(500);
            refusedCalls(x);
            Check.same("what would be heard", heard, x.hashOf(500));
            Check.same("of four saved states", 3, x.undo());
            Check.same("the ticks behind one undo", 0, x.value(4));
            x.undo();
            x.undo();
            Check.same("the last one", 0, x.undo());
            Check.same("the oldest state is kept", 4, x.pattern(0, 0));
        });
        d.says("If several exceptions apply, the one that is listed first is thrown.", () -> {
            ChannelLoom x = Songs.of("0:1/2");
            Check.outside(x, "setNote, pattern", () -> x.setNote(6, 0, 0, 62, 16));
            Check.outside(x, "setNote, row", () -> x.setNote(0, 8, 0, -1, 0));
            Check.outside(x, "setNote, channel", () -> x.setNote(0, 0, -1, 0, -1));
            Check.outside(x, "setEffect, pattern", () -> x.setEffect(-1, 0, 0, 8, 10));
            Check.outside(x, "setEffect, row", () -> x.setEffect(0, -1, 0, -1, 0));
            Check.outside(x, "setEffect, channel", () -> x.setEffect(0, 0, 4, 0, -1));
            Check.outside(x, "setRows", () -> x.setRows(6, 0));
            Check.outside(x, "setOrder", () -> x.setOrder(2, 6));
            Check.outside(x, "setOrder below", () -> x.setOrder(-1, -1));
            Check.outside(x, "cell", () -> x.cell(0, 0, 4, 4));
            Check.outside(x, "pattern", () -> x.pattern(6, 5));
            Check.outside(x, "steal", () -> x.steal(4, 0, 100));
            Check.outside(x, "channel", () -> x.channel(-1, 8));
            Check.outside(x, "silent", () -> x.silent(4, 0));
            Check.outside(x, "deepest", () -> x.deepest(-1, 501));
            Check.outside(x, "unheard", () -> x.unheard(4, 61));
            for (int i = 0; i < 200; i++) {
                x.play(500);
            }
            Check.illegal(x, "play at the limit", () -> x.play(501));
            Check.illegal(x, "play of 0 at the limit", () -> x.play(0));
            for (int length = x.append('.'); length < 100; length = x.append('.')) {
                Check.holds("the text is not full", length < 100);
            }
            Check.illegal(x, "append to a full text", () -> x.append(128));
            Check.illegal(x, "append of -1 to a full text", () -> x.append(-1));
        });
        d.says("The constants: `NONE = -1`: There is no such thing.", () -> {
            Check.same("NONE", -1, ChannelLoom.NONE);
            Check.same("the note of a channel that is not stolen", -1, new ChannelLoom().channel(0, 3));
        });
    }

    /** One or two calls of each method that can throw, for an object with one place of the order. */
    private static void refusedCalls(ChannelLoom x) {
        Check.outside(x, "setNote", () -> x.setNote(0, 8, 0, 9, 9));
        Check.illegal(x, "setNote", () -> x.setNote(0, 0, 0, 9, 16));
        Check.outside(x, "setEffect", () -> x.setEffect(6, 0, 0, 1, 1));
        Check.illegal(x, "setEffect", () -> x.setEffect(0, 0, 0, 1, 10));
        Check.outside(x, "setRows", () -> x.setRows(6, 1));
        Check.illegal(x, "setRows", () -> x.setRows(0, 9));
        Check.outside(x, "setOrder", () -> x.setOrder(2, 1));
        Check.illegal(x, "setOrder", () -> x.setOrder(0, 6));
        Check.refused(x, "shorten", x::shorten);
        Check.outside(x, "cell", () -> x.cell(0, 0, 4, 0));
        Check.illegal(x, "cell", () -> x.cell(0, 0, 0, 4));
        Check.outside(x, "pattern", () -> x.pattern(6, 0));
        Check.illegal(x, "pattern", () -> x.pattern(0, 5));
        Check.outside(x, "order", () -> x.order(1));
        Check.illegal(x, "play", () -> x.play(501));
        Check.outside(x, "steal", () -> x.steal(4, 1, 1));
        Check.illegal(x, "steal", () -> x.steal(2, 1, 100));
        Check.outside(x, "giveBack", () -> x.giveBack(4));
        Check.outside(x, "channel", () -> x.channel(4, 0));
        Check.illegal(x, "channel", () -> x.channel(0, 8));
        Check.illegal(x, "value", () -> x.value(8));
        Check.illegal(x, "hashOf", () -> x.hashOf(501));
        Check.outside(x, "silent", () -> x.silent(4, 1));
        Check.illegal(x, "silent", () -> x.silent(0, 501));
        Check.outside(x, "deepest", () -> x.deepest(4, 1));
        Check.illegal(x, "deepest", () -> x.deepest(0, 501));
        Check.outside(x, "unheard", () -> x.unheard(4, 1));
        Check.illegal(x, "unheard", () -> x.unheard(0, 61));
        Check.illegal(x, "append", () -> x.append(128));
    }

    private static void undo(Document d) {
        d.open("Promise 25: undo");
        d.says("Restores the most recently saved state and removes it from the saved states.", () -> {
            ChannelLoom x = new ChannelLoom();
            x.setRows(0, 1);
            x.setRows(0, 2);
            x.undo();
            Check.same("the most recent one", 1, x.pattern(0, 0));
            x.setRows(0, 3);
            x.undo();
            Check.same("saved behind an undo", 1, x.pattern(0, 0));
            x.undo();
            Check.same("the one before", 4, x.pattern(0, 0));
            Check.refused(x, "none of them is left", x::undo);
        });
        d.says("Returns the number of saved states that remain.", () -> {
            ChannelLoom x = new ChannelLoom();
            for (int rows = 1; rows <= 8; rows++) {
                x.setRows(0, rows);
            }
            for (int left = 3; left >= 0; left--) {
                Check.same("the states that remain", left, x.undo());
            }
            x.setRows(0, 1);
            Check.same("of one", 0, x.undo());
        });
        d.says("Throws `IllegalStateException` if there is no saved state", () -> {
            ChannelLoom x = new ChannelLoom();
            Check.refused(x, "of a new object", x::undo);
            x.append('1');
            x.parse();
            x.clearText();
            x.ticksToRound();
            Check.refused(x, "behind calls that are not undoable", x::undo);
            x.restart();
            x.undo();
            Check.refused(x, "behind the last one", x::undo);
        });
    }

    private static void digest(Document d) {
        d.open("Promise 26: digest");
        d.says("Returns a hash of the state.", () -> {
            ChannelLoom x = Songs.of("0:1e1/2", "1:3/4");
            x.play(4);
            Check.same("twice the same", x.digest(), x.digest());
            Check.same("nothing changes", 2, x.undo());
        });
        d.says("Start with h = 3533 and, for each of the following values v, set h = 31 * h + v",
                () -> Check.same("of a new object", ofNew().longValue(), new ChannelLoom().digest()));
        d.says("the length of the text", () -> {
            for (int length = 0; length <= 100; length++) {
                String text = ".".repeat(length);
                digests("of " + length, length, 4, () -> texted(small(), text));
            }
        });
        d.says("value() for 0 to 7; for each pattern the values of pattern() for what = 0 to 4", () ->
                digests("of a song in its second round", 5, 4, () -> {
                    ChannelLoom x = Songs.of("0:1g2,2e4/.", "4:5/6", "3:7/8");
                    x.setOrder(1, 3);
                    x.play(9);
                    Check.same("the rounds", 1, x.value(5));
                    return x;
                }));
        d.says("for each of its rows and each channel, the values of cell() for what = 0 to 3", () -> {
            String text = "5:1v2c3,4,5,6v7g8/0/0/0/0/0/0,.,.,9v1d2";
            for (int rows = 1; rows <= 8; rows++) {
                int last = rows;
                digests("of " + rows + " rows", text.length(), 4, () -> {
                    ChannelLoom x = small();
                    Songs.parsed(x, text);
                    x.setRows(5, last);
                    x.setNote(5, 7, 3, 8, 7);
                    return x;
                });
            }
        });
        d.says("the patterns of the order", () -> {
            for (int places = 1; places <= 8; places++) {
                int last = places - 1;
                digests("of " + places + " places", 0, 4, () -> {
                    ChannelLoom x = small();
                    for (int place = 1; place < 8; place++) {
                        x.setOrder(place, place % 6);
                    }
                    for (int place = 7; place > last; place--) {
                        x.shorten();
                    }
                    return x;
                });
            }
        });
        d.says("for each channel the values of channel() for what = 0 to 7", () ->
                digests("of channels with frames, a theft and sounds", 5, 4, () -> {
                    ChannelLoom x = Songs.of("0:1e1,.,2a3,3v4/5", "1:6/7");
                    x.steal(3, 60, 99);
                    x.play(4);
                    return x;
                }));
        d.says("hashOf(40)", () -> {
            String text = "0:1a1,2g8/5a2,3v0c1";
            digests("of a song that changes in every tick", text.length(), 1, () -> Songs.of(text));
        });
        d.says("the number of saved states.", () -> {
            for (int calls = 0; calls <= 6; calls++) {
                int many = calls;
                digests("behind " + calls + " calls", 0, Math.min(calls, 4), () -> {
                    ChannelLoom x = new ChannelLoom();
                    for (int i = 0; i < many; i++) {
                        x.giveBack(0);
                    }
                    return x;
                });
            }
        });
        d.says("Returns the hash, with the overflow of long arithmetic ignored.", () -> {
            BigInteger h = ofNew();
            Check.holds("it is beyond a long", h.bitLength() > 64);
            Check.same("its lowest 64 bits", h.longValue(), new ChannelLoom().digest());
        });
    }

    /** Two objects that are made the same way: one tells its digest, the other what it is made of. */
    private static void digests(String what, int textLength, int saved, Supplier<ChannelLoom> made) {
        Check.same(what, Songs.digest(made.get(), textLength, saved), made.get().digest());
    }

    /** Patterns of one row each, so that few calls tell all of the state. */
    private static ChannelLoom small() {
        ChannelLoom x = new ChannelLoom();
        for (int pattern = 0; pattern < 6; pattern++) {
            x.setRows(pattern, 1);
        }
        return x;
    }

    private static ChannelLoom texted(ChannelLoom x, String text) {
        Songs.write(x, text);
        return x;
    }

    /** The digest of a new object, from the document's numbers alone. */
    private static BigInteger ofNew() {
        BigInteger h = with(BigInteger.valueOf(3533), 0);
        h = with(h, 0, 0, 0, 3, 0, 0, 1, 0);
        for (int pattern = 0; pattern < 6; pattern++) {
            int inOrder = pattern == 0 ? 1 : 0;
            h = with(h, 4, 0, 0, inOrder, inOrder);
            for (int cell = 0; cell < 16; cell++) {
                h = with(h, 0, 15, 0, 0);
            }
        }
        h = with(h, 0);
        for (int channel = 0; channel < 4; channel++) {
            h = with(h, 0, 0, 0, -1, 0, -1, -1, 0);
        }
        int silence = 17;
        for (int i = 0; i < 160; i++) {
            silence *= 31;
        }
        return with(h, silence, 0);
    }

    private static BigInteger with(BigInteger begun, int... values) {
        BigInteger h = begun;
        for (int v : values) {
            h = h.multiply(BigInteger.valueOf(31)).add(BigInteger.valueOf(v));
        }
        return h;
    }
}
