/** Small steps that several tests need. */
final class Songs {
    private Songs() {
    }

    /** What is heard of a channel that has this pitch and volume. */
    static int sound(int pitch, int volume) {
        return volume == 0 ? 0 : 16 * pitch + volume;
    }

    /** What is heard of a channel in which this note was begun. */
    static int tone(int note, int volume) {
        return sound(16 * note, volume);
    }

    /** The hash of ticks in which channel 0 alone is heard. */
    static int hashOfFirst(int... heard) {
        int hash = 17;
        for (int h : heard) {
            hash = 31 * hash + h;
            hash = 31 * 31 * 31 * hash;
        }
        return hash;
    }

    static void write(ChannelLoom x, String text) {
        x.clearText();
        for (int i = 0; i < text.length(); i++) {
            x.append(text.charAt(i));
        }
    }

    static int parsed(ChannelLoom x, String text) {
        write(x, text);
        return x.parse();
    }

    static ChannelLoom of(String... texts) {
        ChannelLoom x = new ChannelLoom();
        for (String text : texts) {
            int answer = parsed(x, text);
            if (answer < 0) {
                throw new IllegalArgumentException(text + " answers " + answer);
            }
        }
        return x;
    }

    /** Plays ticks one by one and gives what is heard of the channel in each. */
    static int[] heard(ChannelLoom x, int channel, int ticks) {
        int[] heard = new int[ticks];
        for (int i = 0; i < ticks; i++) {
            x.play(1);
            heard[i] = x.channel(channel, 7);
        }
        return heard;
    }

    static void hears(String what, ChannelLoom x, int channel, int... due) {
        for (int i = 0; i < due.length; i++) {
            x.play(1);
            Check.same(what + ", tick " + i, due[i], x.channel(channel, 7));
        }
    }

    static void stands(String what, ChannelLoom x, int place, int row, int tick, int rounds) {
        Check.same(what + ": place", place, x.value(0));
        Check.same(what + ": row", row, x.value(1));
        Check.same(what + ": tick", tick, x.value(2));
        Check.same(what + ": rounds", rounds, x.value(5));
    }

    static void frames(String what, ChannelLoom x, int channel, int count, int pattern, int row) {
        Check.same(what + ": frames", count, x.channel(channel, 4));
        Check.same(what + ": pattern of the latest frame", pattern, x.channel(channel, 5));
        Check.same(what + ": row of the latest frame", row, x.channel(channel, 6));
    }

    static void cell(String what, ChannelLoom x, int pattern, int row, int channel, int... due) {
        for (int i = 0; i < 4; i++) {
            Check.same(what + ": cell fact " + i, due[i], x.cell(pattern, row, channel, i));
        }
    }

    /** The hash of the state, by its description, from calls of the face. */
    static long digest(ChannelLoom x, int textLength, int saved) {
        long h = 31 * 3533L + textLength;
        for (int what = 0; what < 8; what++) {
            h = 31 * h + x.value(what);
        }
        for (int pattern = 0; pattern < 6; pattern++) {
            for (int what = 0; what < 5; what++) {
                h = 31 * h + x.pattern(pattern, what);
            }
            for (int row = 0; row < x.pattern(pattern, 0); row++) {
                for (int i = 0; i < 16; i++) {
                    h = 31 * h + x.cell(pattern, row, i / 4, i % 4);
                }
            }
        }
        for (int place = 0; place < x.value(6); place++) {
            h = 31 * h + x.order(place);
        }
        for (int i = 0; i < 32; i++) {
            h = 31 * h + x.channel(i / 8, i % 8);
        }
        h = 31 * h + x.hashOf(40);
        return 31 * h + saved;
    }
}
