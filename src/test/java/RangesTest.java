import java.util.ArrayList;
import java.util.Arrays;
import java.util.List;
import java.util.Set;
import java.util.function.Supplier;

/**
 * Every number that may be from .. to, in every call: the least and the greatest are taken, one below
 * and one above are refused; which exception comes first; a call that throws changes nothing.
 */
public final class RangesTest {
    private static final String STATE = "IllegalStateException";
    private static final String ARGUMENT = "IllegalArgumentException";
    private static final int LEAST = Integer.MIN_VALUE;
    private static final int GREATEST = Integer.MAX_VALUE;
    private static final Set<String> ANSWERS_WHILE_OFF =
        Set.of("cut", "power", "check", "about", "container", "belt", "bin", "total");
    private static final Set<String> NEEDS_EMPTY_BELT = Set.of("kind", "service");

    private record Call(String name, int... a) {
        String text() {
            return name + Arrays.toString(a);
        }
    }

    /** A right call, and for each of its numbers what it may be. */
    private record Ranged(Call right, int... ends) {
    }

    private record State(String name, boolean on, boolean emptyBelt, Supplier<BottleReturn> maker) {
    }

    private static final Ranged[] RANGES = {
        new Ranged(new Call("contour", 1, 5, 6, 7), 0, 7, LEAST, GREATEST, LEAST, GREATEST, 0, 2040),
        new Ranged(new Call("kind", 5, 77, 9, 1, 20, 30, 2),
            0, 39, 1, 999999, 1, 500, 0, 2, 0, 30, 20, 5000, 0, 7),
        new Ranged(new Call("kind", 5, 77, 9, 1, 5000, 5000, 2),
            0, 39, 1, 999999, 1, 500, 0, 2, 0, 5000, 5000, 5000, 0, 7),
        new Ranged(new Call("kind", 5, 77, 9, 1, 0, 0, 2),
            0, 39, 1, 999999, 1, 500, 0, 2, 0, 0, 0, 5000, 0, 7),
        new Ranged(new Call("enter", 10), 5, 40),
        new Ranged(new Call("code", 11), 1, 999999),
        new Ranged(new Call("width", 60), 0, 255),
        new Ranged(new Call("weigh", 50), 0, 5000),
        new Ranged(new Call("forward", 3), 0, 300),
        new Ranged(new Call("back", 3), 0, 300),
        new Ranged(new Call("empty", 1, 9), 0, 2, 0, 200),
        new Ranged(new Call("cut", 4), 0, 1000),
        new Ranged(new Call("check", 100, 253704), 0, 99999999, 0, 99999999),
        new Ranged(new Call("bin", 1, 1), 0, 2, 0, 1),
        new Ranged(new Call("total", 9), 0, 20),
        new Ranged(new Call("belt", 0), LEAST, GREATEST)};

    /** The vouchers 2 and 3 are kept and the containers 7 to 9 are on the belt of midway(). */
    private static final Ranged[] RANGES_MIDWAY = {
        new Ranged(new Call("redeem", 2), 2, 3),
        new Ranged(new Call("about", 2, 1), 2, 3, 0, 3),
        new Ranged(new Call("container", 8, 4), 7, 9, 0, 6)};

    private static final Call[] WITHOUT_NUMBERS =
        {new Call("voucher"), new Call("give"), new Call("clear"), new Call("service")};

    private static final State[] STATES = {
        new State("new", true, true, BottleReturn::new),
        new State("stocked", true, true, Bench::stocked),
        new State("midway", true, false, RangesTest::midway),
        new State("reading", true, false, RangesTest::reading),
        new State("blocked", true, false, RangesTest::blocked),
        new State("off", false, false, RangesTest::off),
        new State("off with an empty belt", false, true, RangesTest::offAndEmpty)};

    public static void main(String[] args) {
        midwayIsAsTold();
        endsAreTaken();
        wrongNumbersAreRefused();
        allNumbersWrong();
        offComesFirst();
        filledBeltComesBeforeNumbers();
        whatIsNotThere();
        Bench.end();
    }

    /** One accepted, one over all reading places; credit, vouchers, 30 steps back, and a cut. */
    private static BottleReturn midway() {
        BottleReturn x = Bench.stocked();
        for (int i = 0; i < 3; i++) {
            Bench.binGood(x, 11 + i, 0);
            x.voucher();
        }
        x.redeem(1);
        x.clear();
        x.redeem(3);
        Bench.binGood(x, 13, 1);
        for (int i = 0; i < 2; i++) {
            x.enter(5);
            x.forward(14);
            x.back(15);
        }
        Bench.readGood(x, 12, 0);
        Bench.readAll(x, 40, 11, Bench.variant(1), 50);
        x.enter(6);
        x.forward(2);
        x.cut(7);
        return x;
    }

    private static void midwayIsAsTold() {
        BottleReturn x = midway();
        Bench.same("first on the belt", x.belt(0), 7);
        Bench.same("last on the belt", x.belt(2), 9);
        Bench.same("on the belt", x.total(15), 3);
        Bench.same("7 is accepted", x.container(7, 2), 10);
        Bench.same("8 is over 45", x.container(8, 0), 47);
        Bench.same("8 is over 15", x.container(8, 0) - x.container(8, 1), 7);
        Bench.same("credit", x.total(0), 25);
        Bench.same("kept", x.total(14), 2);
        Bench.same("2 is kept", x.about(2, 3), 0);
        Bench.same("3 is redeemed", x.about(3, 3), 1);
        Bench.same("cut", x.total(20), 7);
    }

    /** One over all reading places that has a code, three widths and no weight. */
    private static BottleReturn reading() {
        BottleReturn x = Bench.stocked();
        x.enter(40);
        x.forward(47);
        x.code(13);
        for (int i = 0; i < 3; i++) {
            x.width(60);
        }
        return x;
    }

    private static BottleReturn blocked() {
        BottleReturn x = Bench.stocked();
        Bench.readAll(x, 10, 11, Bench.PLAIN, 5);
        x.forward(300);
        return x;
    }

    private static BottleReturn off() {
        BottleReturn x = midway();
        x.cut(1);
        x.forward(300);
        x.cut(3);
        return x;
    }

    private static BottleReturn offAndEmpty() {
        BottleReturn x = Bench.stocked();
        Bench.binGood(x, 12, 0);
        x.cut(1);
        x.voucher();
        return x;
    }

    private static List<Ranged> all() {
        List<Ranged> all = new ArrayList<>(Arrays.asList(RANGES));
        all.addAll(Arrays.asList(RANGES_MIDWAY));
        return all;
    }

    private static Call with(Call call, int i, int value) {
        int[] a = call.a().clone();
        a[i] = value;
        return new Call(call.name(), a);
    }

    private static List<Call> ends(Ranged ranged) {
        List<Call> ends = new ArrayList<>(List.of(ranged.right()));
        for (int i = 0; i < ranged.right().a().length; i++) {
            ends.add(with(ranged.right(), i, ranged.ends()[2 * i]));
            ends.add(with(ranged.right(), i, ranged.ends()[2 * i + 1]));
        }
        return ends;
    }

    private static List<Call> beyond(Ranged ranged) {
        List<Call> beyond = new ArrayList<>();
        for (int i = 0; i < ranged.right().a().length; i++) {
            int least = ranged.ends()[2 * i];
            int greatest = ranged.ends()[2 * i + 1];
            if (least != LEAST) {
                beyond.add(with(ranged.right(), i, least - 1));
                beyond.add(with(ranged.right(), i, LEAST));
            }
            if (greatest != GREATEST) {
                beyond.add(with(ranged.right(), i, greatest + 1));
                beyond.add(with(ranged.right(), i, GREATEST));
            }
        }
        return beyond;
    }

    /** Whether the state lets the call come to look at its numbers. */
    private static boolean lets(State state, Call call) {
        return (state.on() || ANSWERS_WHILE_OFF.contains(call.name()))
            && (state.emptyBelt() || !NEEDS_EMPTY_BELT.contains(call.name()));
    }

    private static void endsAreTaken() {
        for (State state : STATES) {
            boolean midway = state.name().equals("midway");
            for (Ranged ranged : midway ? all() : Arrays.asList(RANGES)) {
                for (Call call : ends(ranged)) {
                    String got = Face.answer(Face.of(state.maker().get()), call.name(), call.a());
                    Bench.no(state.name() + ": " + call.text() + " " + got,
                        lets(state, call) && got.endsWith("Exception"));
                }
            }
        }
    }

    private static void wrongNumbersAreRefused() {
        for (State state : STATES) {
            boolean midway = state.name().equals("midway");
            for (Ranged ranged : midway ? all() : Arrays.asList(RANGES)) {
                for (Call call : beyond(ranged)) {
                    refused(state, call, lets(state, call) ? ARGUMENT : STATE);
                }
            }
        }
    }

    private static void allNumbersWrong() {
        for (Ranged ranged : all()) {
            Call call = new Call(ranged.right().name(), ranged.right().a().clone());
            Arrays.fill(call.a(), -1);
            for (State state : STATES) {
                if (!call.name().equals("belt")) {
                    refused(state, call, lets(state, call) ? ARGUMENT : STATE);
                }
            }
        }
    }

    private static void offComesFirst() {
        List<Call> calls = new ArrayList<>(Arrays.asList(WITHOUT_NUMBERS));
        for (Ranged ranged : all()) {
            calls.addAll(ends(ranged));
            calls.addAll(beyond(ranged));
        }
        for (State state : STATES) {
            for (Call call : calls) {
                if (!state.on() && !ANSWERS_WHILE_OFF.contains(call.name())) {
                    refused(state, call, STATE);
                }
            }
        }
    }

    private static void filledBeltComesBeforeNumbers() {
        for (State state : STATES) {
            for (Ranged ranged : RANGES) {
                if (!state.emptyBelt() && NEEDS_EMPTY_BELT.contains(ranged.right().name())) {
                    ends(ranged).forEach(call -> refused(state, call, STATE));
                    beyond(ranged).forEach(call -> refused(state, call, STATE));
                }
            }
            if (!state.emptyBelt()) {
                refused(state, new Call("service"), STATE);
            }
        }
    }

    /** Vouchers and containers that are not there, however right the other number is. */
    private static void whatIsNotThere() {
        for (State state : STATES) {
            for (int none : new int[] {-1, 0, 99}) {
                refused(state, new Call("container", none, 0), ARGUMENT);
                refused(state, new Call("about", none, 0), ARGUMENT);
                refused(state, new Call("redeem", none), state.on() ? ARGUMENT : STATE);
            }
        }
        State midway = STATES[2];
        refused(midway, new Call("redeem", 1), ARGUMENT);
        refused(midway, new Call("about", 1, 0), ARGUMENT);
        refused(midway, new Call("container", 4, 0), ARGUMENT);
        refused(midway, new Call("container", 6, 0), ARGUMENT);
    }

    private static void refused(State state, Call call, String due) {
        BottleReturn x = state.maker().get();
        String got = Face.answer(Face.of(x), call.name(), call.a());
        String text = state.name() + ": " + call.text();
        Bench.yes(text + " answers " + got + ", due is " + due, got.equals(due));
        Bench.yes(text + " changes nothing", Probe.tell(x).equals(Probe.tell(state.maker().get())));
    }
}
