import java.util.Arrays;

/** Tells all that can be learnt of a machine, what it holds inside too; that uses the machine up. */
final class Probe {
    private static final int[] CODES = {1, 11, 12, 13, 77, 999999};
    private static final int[] GRAMS = {9, 10, 20, 30, 100, 101};

    private final Face face;
    private final StringBuilder all = new StringBuilder();

    private Probe(BottleReturn x) {
        face = Face.of(x);
    }

    static String tell(BottleReturn x) {
        Probe probe = new Probe(x);
        probe.see();
        probe.ask("cut", 0);
        probe.ask("power");
        probe.see();
        probe.readings();
        probe.stepsBack();
        probe.counters();
        probe.catalogue();
        return probe.all.toString();
    }

    private void ask(String name, int... a) {
        all.append(name).append(Arrays.toString(a)).append(Face.answer(face, name, a)).append(' ');
    }

    private void see() {
        all.append(Face.snapshot(face)).append('\n');
    }

    /** What waits on the belt is judged by its readings and by what was accepted before. */
    private void readings() {
        for (int step = 0; step < 110; step++) {
            ask("forward", 1);
            see();
        }
    }

    /** The step at which suspicion begins tells how many were counted. */
    private void stepsBack() {
        for (int step = 0; step < 110; step++) {
            ask("back", 1);
            see();
        }
        ask("forward", 300);
        ask("service");
    }

    private void counters() {
        ask("voucher");
        ask("enter", 5);
        ask("back", 1);
        for (int bin = 0; bin < 3; bin++) {
            ask("empty", bin, 200);
        }
        see();
    }

    private void catalogue() {
        for (int code : CODES) {
            for (int grams : GRAMS) {
                bring(code, grams, 60 + grams % 9);
                bring(code, grams, 52 + grams % 2);
            }
        }
        for (int code : CODES) {
            ask("kind", 38, code, 1, 0, 0, 1, 0);
        }
    }

    private void bring(int code, int grams, int eighth) {
        ask("enter", 5);
        ask("forward", 15);
        ask("code", code);
        ask("forward", 15);
        for (int i = 0; i < 8; i++) {
            ask("width", i < 7 ? 60 : eighth);
        }
        ask("forward", 15);
        ask("weigh", grams);
        ask("forward", 20);
        see();
        ask("forward", 50);
        see();
        ask("back", 300);
        ask("service");
    }
}
