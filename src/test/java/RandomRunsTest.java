import java.util.Random;

/** Long runs of calls by a fixed seed: only the two exceptions come, and what must always hold does. */
public final class RandomRunsTest {
    private static final int RUNS = 400;
    private static final int CALLS = 512;
    private static final int[] ODD = {-1, 0, 1, 40, 41, 255, 256, 1000, 1001, 5001, Integer.MIN_VALUE, Integer.MAX_VALUE};

    private final Random random;
    private final int seed;
    private final BottleReturn x = Bench.stocked();
    private int calls = 4;
    private int variant;

    private RandomRunsTest(int seed) {
        this.seed = seed;
        random = new Random(seed);
    }

    public static void main(String[] args) {
        int cuts = 0;
        int paid = 0;
        for (int seed = 0; seed < RUNS; seed++) {
            RandomRunsTest run = new RandomRunsTest(seed);
            while (run.calls < CALLS) {
                cuts += run.x.total(16) == 0 ? 1 : 0;
                run.next();
            }
            paid += run.x.total(10);
        }
        Bench.yes("it went off often", cuts > RUNS);
        Bench.yes("many containers were paid", paid > 2 * RUNS);
        Bench.end();
    }

    private int any(int least, int greatest) {
        if (random.nextInt(60) == 0) {
            return ODD[random.nextInt(ODD.length)];
        }
        return least + random.nextInt(greatest - least + 1);
    }

    /** One call of the face, and what must hold behind it. */
    private void attempt(Runnable call) {
        calls++;
        boolean wasOn = x.total(16) == 1;
        String before = Bench.snapshot(x);
        try {
            call.run();
        } catch (IllegalStateException e) {
            Bench.yes("state only if off or with containers", !wasOn || x.total(15) > 0);
            Bench.yes("a call that throws changes nothing", before.equals(Bench.snapshot(x)));
        } catch (IllegalArgumentException e) {
            Bench.yes("a call that throws changes nothing", before.equals(Bench.snapshot(x)));
        }
        holds();
    }

    private void next() {
        switch (random.nextInt(20)) {
            case 0 -> attempt(() -> x.enter(any(5, 40)));
            case 1 -> attempt(() -> x.forward(any(0, 60)));
            case 2 -> attempt(() -> x.back(any(0, 20)));
            case 3 -> attempt(() -> x.voucher());
            case 4 -> attempt(() -> x.give());
            case 5 -> attempt(() -> x.redeem(any(1, 4)));
            case 6 -> attempt(() -> x.clear());
            case 7 -> attempt(() -> x.empty(any(0, 2), any(2, 5)));
            case 8 -> attempt(() -> x.service());
            case 9 -> attempt(() -> x.cut(any(0, 9)));
            case 10 -> attempt(this::powerOrNone);
            case 11 -> redefine();
            case 12 -> ask();
            case 13 -> attempt(() -> x.back(300));
            default -> bringOne();
        }
    }

    private void redefine() {
        int bin = any(0, 2);
        attempt(() -> x.kind(any(0, 3), any(11, 14), any(1, 500), bin, any(0, 40), any(60, 90), any(0, 0)));
        attempt(() -> x.contour(any(1, 7), random.nextInt(), random.nextInt(), any(0, 2040)));
    }

    private void bringOne() {
        int length = 5 + random.nextInt(36);
        variant++;
        attempt(this::powerOrNone);
        attempt(() -> x.enter(length));
        attempt(() -> x.forward(15));
        attempt(() -> x.code(any(11, 13)));
        attempt(() -> x.forward(15));
        for (int width : Bench.variant(variant)) {
            attempt(() -> x.width(width));
        }
        attempt(() -> x.forward(15));
        attempt(() -> x.weigh(any(50, 60)));
        attempt(() -> x.forward(any(20, 80)));
    }

    private void powerOrNone() {
        boolean on = x.total(16) == 1;
        int records = x.total(19);
        int written = x.power();
        Bench.same("records by power", written, on ? BottleReturn.NONE : x.total(19) - records);
    }

    private void ask() {
        attempt(() -> x.belt(any(0, 5)));
        attempt(() -> x.check(any(0, 1000), any(0, 1000)));
        attempt(() -> x.bin(any(0, 2), any(0, 1)));
        attempt(() -> x.total(any(0, 20)));
        attempt(() -> x.container(any(1, 9), any(0, 6)));
        attempt(() -> x.about(any(1, 9), any(0, 3)));
    }

    private void holds() {
        String run = " in run " + seed;
        int money = x.total(0) + x.total(12) + x.total(13);
        Bench.same("money" + run, money, x.total(11));
        Bench.yes("cut" + run, x.total(20) >= 0 && x.total(20) <= 1000);
        int before = 1000;
        int number = 0;
        for (int i = 0; i < x.total(15); i++) {
            int one = x.belt(i);
            Bench.yes("numbers grow" + run, one > number);
            int front = x.container(one, 0);
            Bench.yes("a space of four" + run, front <= before - 4);
            before = front - x.container(one, 1);
            number = one;
            rules(one, front, before, run);
        }
        Bench.same("end of the belt" + run, x.belt(x.total(15)), BottleReturn.NONE);
    }

    private void rules(int one, int front, int rear, String run) {
        boolean accepted = x.container(one, 2) == 10;
        boolean paid = x.container(one, 4) == 1;
        boolean on = x.total(16) == 1;
        Bench.yes("front" + run, front >= 0);
        Bench.yes("rear" + run, rear < 110 || !on && rear == 110);
        Bench.yes("accepted above the gate" + run, front < 105 || accepted);
        Bench.yes("paid above the gate" + run, paid == front >= 105 || !on && front == 105);
        Bench.yes("kind if accepted" + run, accepted == (x.container(one, 3) != BottleReturn.NONE));
        Bench.yes("judged behind 60" + run, rear >= 60 || x.container(one, 2) == 0);
    }
}
