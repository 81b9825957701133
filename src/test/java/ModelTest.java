import java.util.Random;
import java.util.function.LongSupplier;

/** Long runs of calls, made by a counted seed, answered by the program and by the model. */
final class ModelTest {
    private static final int RUNS = 1200;
    /** Nothing is promised of later calls. */
    private static final int CALLS = 512;

    private final Random random;
    private final ChannelLoom loom = new ChannelLoom();
    private final Model model = new Model();
    private final int run;
    private int calls = 0;

    private ModelTest(int run) {
        this.run = run;
        this.random = new Random(run);
    }

    static void run() {
        for (int run = 0; run < RUNS && Check.wrong() < 20; run++) {
            new ModelTest(run).compare();
        }
    }

    private void compare() {
        for (int i = 0; calls < CALLS && Check.wrong() < 20; i++) {
            call(i);
            if (i % 10 == 9) {
                same("digest", i, loom::digest, model::digest);
            }
        }
    }

    private void same(String call, int i, LongSupplier got, LongSupplier due) {
        if (calls == CALLS) {
            return;
        }
        calls++;
        String g = answer(got);
        String d = answer(due);
        Check.holds("model run " + run + " call " + i + ": " + call + " answered " + g + ", due is " + d, g.equals(d));
    }

    private static String answer(LongSupplier call) {
        try {
            return Long.toString(call.getAsLong());
        } catch (RuntimeException e) {
            return e.getClass().getSimpleName();
        }
    }

    /** A number of 0 to the bound, and now and then one beyond either side. */
    private int upTo(int most) {
        int roll = random.nextInt(40);
        return roll == 0 ? -1 : roll == 1 ? most + 1 : random.nextInt(most + 1);
    }

    private int from(int least, int most) {
        return least + upTo(most - least);
    }

    private void call(int i) {
        switch (random.nextInt(18)) {
            case 0, 1 -> setNote(i);
            case 2, 3 -> setEffect(i);
            case 4 -> setRows(i);
            case 5 -> setOrder(i);
            case 6 -> rare(i);
            case 7, 8, 9 -> play(i);
            case 10 -> steal(i);
            case 11 -> facts(i);
            case 12, 13 -> questions(i);
            case 14, 15 -> text(i);
            case 16 -> same("undo", i, loom::undo, model::undo);
            default -> moreQuestions(i);
        }
    }

    private void setNote(int i) {
        int[] a = {upTo(5), upTo(7), upTo(3), upTo(61), upTo(15)};
        same("setNote", i, () -> loom.setNote(a[0], a[1], a[2], a[3], a[4]), () -> model.setNote(a[0], a[1], a[2], a[3], a[4]));
    }

    private void setEffect(int i) {
        int effect = random.nextInt(3) == 0 ? 5 : upTo(7);
        int[] a = {upTo(5), upTo(7), upTo(3), effect, upTo(9)};
        same("setEffect", i, () -> loom.setEffect(a[0], a[1], a[2], a[3], a[4]), () -> model.setEffect(a[0], a[1], a[2], a[3], a[4]));
    }

    private void setRows(int i) {
        int pattern = upTo(5);
        int rows = from(1, 8);
        same("setRows", i, () -> loom.setRows(pattern, rows), () -> model.setRows(pattern, rows));
    }

    private void setOrder(int i) {
        int place = random.nextInt(2) == 0 ? model.value(6) : upTo(8);
        int pattern = upTo(5);
        same("setOrder", i, () -> loom.setOrder(place, pattern), () -> model.setOrder(place, pattern));
    }

    private void rare(int i) {
        int channel = upTo(3);
        switch (random.nextInt(4)) {
            case 0 -> same("shorten", i, loom::shorten, model::shorten);
            case 1 -> same("restart", i, loom::restart, model::restart);
            case 2 -> same("giveBack", i, () -> loom.giveBack(channel), () -> model.giveBack(channel));
            default -> same("clearText", i, loom::clearText, model::clearText);
        }
    }

    private void play(int i) {
        int ticks = random.nextInt(4) == 0 ? from(1, 500) : from(1, 20);
        same("play", i, () -> loom.play(ticks), () -> model.play(ticks));
    }

    private void steal(int i) {
        int[] a = {upTo(3), from(1, 60), from(1, 99)};
        same("steal", i, () -> loom.steal(a[0], a[1], a[2]), () -> model.steal(a[0], a[1], a[2]));
    }

    private void facts(int i) {
        int[] a = {upTo(5), upTo(7), upTo(3), upTo(3), upTo(4), upTo(7), upTo(7), upTo(7)};
        same("cell", i, () -> loom.cell(a[0], a[1], a[2], a[3]), () -> model.cell(a[0], a[1], a[2], a[3]));
        same("pattern", i, () -> loom.pattern(a[0], a[4]), () -> model.pattern(a[0], a[4]));
        same("order", i, () -> loom.order(a[5]), () -> model.order(a[5]));
        same("channel", i, () -> loom.channel(a[2], a[6]), () -> model.channel(a[2], a[6]));
        same("value", i, () -> loom.value(a[7]), () -> model.value(a[7]));
    }

    private void questions(int i) {
        int channel = upTo(3);
        int ticks = from(1, 500);
        switch (random.nextInt(3)) {
            case 0 -> same("hashOf", i, () -> loom.hashOf(ticks), () -> model.hashOf(ticks));
            case 1 -> same("silent", i, () -> loom.silent(channel, ticks), () -> model.silent(channel, ticks));
            default -> same("deepest", i, () -> loom.deepest(channel, ticks / 9), () -> model.deepest(channel, ticks / 9));
        }
    }

    private void moreQuestions(int i) {
        int channel = upTo(3);
        int note = random.nextInt(2) == 0 ? from(1, 60) : model.channel(random.nextInt(4), 0) / 16;
        same("ticksToRound", i, loom::ticksToRound, model::ticksToRound);
        same("unheard", i, () -> loom.unheard(channel, note), () -> model.unheard(channel, note));
        same("meanVolume", i, () -> Double.doubleToLongBits(loom.meanVolume()), () -> Double.doubleToLongBits(model.meanVolume()));
    }

    private void text(int i) {
        same("clearText", i, loom::clearText, model::clearText);
        StringBuilder text = new StringBuilder().append(random.nextInt(6)).append(':');
        int rows = 1 + random.nextInt(8);
        for (int row = 0; row < rows; row++) {
            text.append(row == 0 ? "" : "/");
            int cells = 1 + random.nextInt(4);
            for (int c = 0; c < cells; c++) {
                text.append(c == 0 ? "" : ",").append(cellText());
            }
        }
        if (random.nextInt(3) == 0) {
            text.setCharAt(random.nextInt(text.length()), "0123456789:.,/vagh "
                    .charAt(random.nextInt(19)));
        }
        if (random.nextInt(6) == 0) {
            text.setLength(random.nextInt(text.length()));
        }
        for (int at = 0; at < text.length(); at++) {
            int value = text.charAt(at);
            same("append", i, () -> loom.append(value), () -> model.append(value));
        }
        same("parse of " + text, i, loom::parse, model::parse);
    }

    private String cellText() {
        if (random.nextInt(3) == 0) {
            return ".";
        }
        String note = Integer.toString(random.nextInt(62));
        String volume = random.nextInt(3) == 0 ? "v" + (random.nextInt(3) == 0 ? "0" : "") + random.nextInt(10) : "";
        String effect = random.nextInt(2) == 0 ? "" : "abcdefg".charAt(random.nextInt(7)) + "" + random.nextInt(10);
        return note + volume + effect;
    }
}
