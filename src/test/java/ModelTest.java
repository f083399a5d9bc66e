import java.util.Arrays;
import java.util.Random;
import java.util.TreeMap;

/**
 * Runs by fixed seeds, each call done on the machine and on the model: every answer and all that both
 * tell of themselves are the same. The runs are steered so that they come to every edge of the belt.
 */
public final class ModelTest {
    private static final int RUNS = 500;
    private static final int CALLS = 512;
    private static final int[] PLACES = {15, 30, 45, 104, 105};
    private static final int[] REARS = {4, 15, 30, 45, 60, 110};
    private static final int[] ODD = {-1, 0, 1, 3, 4, 5, 7, 8, 39, 40, 41, 200, 201, 255, 256, 300, 301,
        500, 501, 1000, 1001, 2040, 2041, 5000, 5001, 999999, 1000000, 99999999, 100000000,
        Integer.MIN_VALUE, Integer.MAX_VALUE};
    private static final TreeMap<String, Integer> SEEN = new TreeMap<>();

    private final int seed;
    private final Random random;
    private final Model model = new Model();
    private final BottleReturn machine = new BottleReturn();
    private final Face face = Face.of(machine);
    private int calls;
    private boolean differs;

    private ModelTest(int seed) {
        this.seed = seed;
        random = new Random(seed);
    }

    public static void main(String[] args) {
        for (int seed = 0; seed < RUNS; seed++) {
            new ModelTest(seed).run(CALLS);
        }
        for (int seed = 0; seed < 3; seed++) {
            new ModelTest(-1 - seed).collect();
        }
        for (int reason = 1; reason <= 9; reason++) {
            Bench.yes("refused for reason " + reason, SEEN.containsKey("refused " + reason));
        }
        for (String record : new String[] {"accepted", "paid", "bin", "voucher", "gift"}) {
            Bench.yes("record " + record, SEEN.containsKey("record " + record));
        }
        for (String call : new String[] {"forward", "voucher", "give", "power"}) {
            Bench.yes("off by " + call, SEEN.containsKey("off by " + call));
        }
        Bench.end();
    }

    private void run(int most) {
        stock();
        while (calls < most && !differs) {
            tick();
        }
        count();
    }

    /** A run towards sixty vouchers; no run of 512 calls can come there. */
    private void collect() {
        both("contour", 0, Bench.SIXTIES, Bench.SIXTIES, 8);
        both("kind", 0, 11, 25, 0, 10, 100, 0);
        while (model.call("total", 14) < 60 && calls < 3000 && !differs) {
            both("empty", 0, 1);
            bringIntoBin(calls);
            both("voucher");
        }
        Bench.same("vouchers are kept", model.call("total", 14), 60);
        run(calls + 1500);
    }

    private void bringIntoBin(int variant) {
        both("enter", 10);
        both("forward", 15);
        both("code", 11);
        both("forward", 15);
        for (int width : Bench.variant(variant)) {
            both("width", width);
        }
        both("forward", 15);
        both("weigh", 50);
        both("forward", 75);
    }

    private void count() {
        for (int reason = 1; reason <= 9; reason++) {
            if (model.call("total", reason) > 0) {
                SEEN.merge("refused " + reason, 1, Integer::sum);
            }
        }
        for (String record : model.journal()) {
            SEEN.merge("record " + record, 1, Integer::sum);
        }
    }

    private void both(String name, int... a) {
        if (differs) {
            return;
        }
        calls++;
        boolean wasOn = model.call("total", 16) == 1;
        String due = Face.answer(model, name, a);
        String got = Face.answer(face, name, a);
        String where = "seed " + seed + ", call " + calls + ", " + name + Arrays.toString(a);
        differs = !got.equals(due) || !Face.snapshot(face).equals(Face.snapshot(model));
        if (differs) {
            Bench.fault(where + " answered " + got + ", due is " + due);
            Bench.fault("  is  " + Face.snapshot(face));
            Bench.fault("  due " + Face.snapshot(model));
        }
        boolean isOff = model.call("total", 16) == 0;
        if (isOff && (wasOn || name.equals("power"))) {
            SEEN.merge("off by " + name, 1, Integer::sum);
        }
    }

    private int from(int least, int greatest) {
        return least + random.nextInt(greatest - least + 1);
    }

    private boolean oneIn(int n) {
        return random.nextInt(n) == 0;
    }

    /** Mostly a number from .. to, its ends more often than others; sometimes an odd one. */
    private int edgy(int least, int greatest) {
        return switch (random.nextInt(12)) {
            case 0 -> least;
            case 1 -> greatest;
            case 2 -> oneIn(4) ? least - 1 : least;
            case 3 -> oneIn(4) ? greatest + 1 : greatest;
            case 4 -> oneIn(8) ? ODD[random.nextInt(ODD.length)] : from(least, greatest);
            default -> from(least, greatest);
        };
    }

    private void stock() {
        for (int contour = 0; contour < 2; contour++) {
            both("contour", contour, Bench.SIXTIES, Bench.SIXTIES, 4);
        }
        for (int kind = 0; kind < 4; kind++) {
            both("kind", kind, 11 + kind, from(1, 500), from(0, 2), from(0, 40), from(60, 100), from(0, 1));
        }
        for (int bin = 0; bin < 3; bin++) {
            if (oneIn(2)) {
                both("empty", bin, from(0, 4));
            }
        }
    }

    private void tick() {
        if (model.call("total", 16) == 0 && !oneIn(4)) {
            bringPower();
        }
        if (model.call("total", 17) == 1 && !oneIn(4)) {
            both("back", oneIn(4) ? from(1, 60) : 300);
            both("service");
        }
        switch (random.nextInt(16)) {
            case 0, 1 -> both("enter", oneIn(5) ? edgy(5, 40) : from(5, 14));
            case 2, 3, 4, 5, 6, 7, 8, 9, 10 -> goOn();
            case 11 -> goBack();
            case 12, 13 -> money();
            case 14 -> both("cut", oneIn(3) ? edgy(0, 1000) : from(1, 6));
            default -> others();
        }
    }

    private void bringPower() {
        if (oneIn(2)) {
            both("cut", from(0, 3));
        }
        both("power");
    }

    private void goOn() {
        both("forward", stepsToEdge());
        if (!oneIn(25)) {
            readAll();
        }
    }

    private int front(int i) {
        return model.call("container", model.call("belt", i), 0);
    }

    private int rear(int i) {
        return front(i) - model.call("container", model.call("belt", i), 1);
    }

    /** How far it is to the next place where something happens; now and then one more or less. */
    private int stepsToEdge() {
        int steps = 300;
        for (int i = 0; i < model.call("total", 15); i++) {
            for (int place : PLACES) {
                steps = place > front(i) ? Math.min(steps, place - front(i)) : steps;
            }
            for (int place : REARS) {
                steps = place > rear(i) ? Math.min(steps, place - rear(i)) : steps;
            }
        }
        return switch (random.nextInt(30)) {
            case 0, 1, 2 -> steps - 1;
            case 3, 4, 5 -> steps + 1;
            case 6 -> edgy(0, 300);
            default -> steps;
        };
    }

    private void goBack() {
        int steps = from(0, 12);
        for (int i = 0; i < model.call("total", 15) && oneIn(2); i++) {
            steps = oneIn(2) ? rear(i) - 59 : front(i) + 1;
        }
        both("back", oneIn(8) ? edgy(0, 300) : Math.max(0, steps));
        if (model.call("total", 15) == 0 && oneIn(2)) {
            both("service");
        }
    }

    private void readAll() {
        for (int i = 0; i < model.call("total", 15); i++) {
            int number = model.call("belt", i);
            if (isOver(i, 15) && (model.call("container", number, 5) == 0 || oneIn(8))) {
                both("code", oneIn(40) ? edgy(1, 999999) : 11 + number % 4);
            }
            int widths = isOver(i, 30) ? model.call("container", number, 6) : 8;
            int left = oneIn(20) ? from(0, 9) : 8 - widths;
            for (int width = 0; width < left; width++) {
                both("width", oneIn(90) ? edgy(0, 255) : width == 7 ? 60 + number % 9 / 8 : 60);
            }
            if (isOver(i, 45)) {
                both("weigh", oneIn(20) ? edgy(0, 5000) : from(39, 61));
            }
        }
    }

    private boolean isOver(int i, int place) {
        return front(i) >= place && rear(i) < place;
    }

    private void money() {
        switch (random.nextInt(6)) {
            case 0, 1 -> both("voucher");
            case 2 -> both("give");
            case 3, 4 -> both("redeem", edgy(1, 8));
            default -> both("clear");
        }
    }

    private void others() {
        switch (random.nextInt(9)) {
            case 0 -> both("kind", edgy(0, 39), from(9, 16), edgy(1, 500), edgy(0, 2), edgy(0, 50),
                edgy(50, 100), edgy(0, 1));
            case 1 -> both("contour", edgy(0, 7), Bench.SIXTIES, random.nextInt(), edgy(0, 2040));
            case 2 -> both("contour", from(0, 1), Bench.SIXTIES, Bench.SIXTIES, edgy(0, 8));
            case 3, 4 -> both("empty", edgy(0, 2), oneIn(2) ? edgy(0, 200) : from(0, 4));
            case 5 -> both("check", edgy(0, 99999999), edgy(0, 99999999));
            case 6 -> both("container", edgy(0, 12), edgy(0, 6));
            case 7 -> both("about", edgy(0, 6), edgy(0, 3));
            default -> both("power");
        }
    }
}
