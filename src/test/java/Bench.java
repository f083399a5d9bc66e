/** What every test needs: comparing, awaiting exceptions, and bringing containers through a machine. */
final class Bench {
    static final int[] PLAIN = {60, 60, 60, 60, 60, 60, 60, 60};
    static final int SIXTIES = 0x3C3C3C3C;

    private static int wrong = 0;

    private Bench() {
    }

    static void same(String what, long got, long want) {
        if (got != want) {
            fault(what + " answered " + got + ", due is " + want);
        }
    }

    static void yes(String what, boolean got) {
        if (!got) {
            fault(what + " does not hold");
        }
    }

    static void no(String what, boolean got) {
        yes("not: " + what, !got);
    }

    static void fault(String text) {
        wrong++;
        System.out.println(text);
    }

    /** Every test's last call. */
    static void end() {
        if (wrong != 0) {
            System.out.println(wrong + " answers are not as due");
            System.exit(1);
        }
    }

    static void badState(BottleReturn x, String what, Runnable call) {
        refuses(x, what, call, IllegalStateException.class);
    }

    static void badArgument(BottleReturn x, String what, Runnable call) {
        refuses(x, what, call, IllegalArgumentException.class);
    }

    private static void refuses(BottleReturn x, String what, Runnable call, Class<?> due) {
        String before = snapshot(x);
        Class<?> got = null;
        try {
            call.run();
        } catch (RuntimeException e) {
            got = e.getClass();
        }
        if (got != due) {
            fault(what + " threw " + got + ", due is " + due);
        }
        if (!before.equals(snapshot(x))) {
            fault(what + " changed the machine");
        }
    }

    static String snapshot(BottleReturn x) {
        return Face.snapshot(Face.of(x));
    }

    /** Kinds 0, 1 and 2 with codes 11, 12 and 13, for bins 0, 1 and 2, all with contour 0. */
    static BottleReturn stocked() {
        BottleReturn x = new BottleReturn();
        x.contour(0, SIXTIES, SIXTIES, 8);
        x.kind(0, 11, 8, 0, 10, 100, 0);
        x.kind(1, 12, 500, 1, 10, 100, 0);
        x.kind(2, 13, 25, 2, 10, 100, 0);
        return x;
    }

    /** Eight widths that fit contour 0 and differ from those of another variant 0 .. 8. */
    static int[] variant(int variant) {
        int[] widths = PLAIN.clone();
        widths[7] += variant % 9;
        return widths;
    }

    /** Brings a container to front 45, with all readings. */
    static int readAll(BottleReturn x, int length, int code, int[] widths, int grams) {
        int number = x.enter(length);
        x.forward(15);
        x.code(code);
        x.forward(15);
        for (int width : widths) {
            x.width(width);
        }
        x.forward(15);
        x.weigh(grams);
        return number;
    }

    /** Brings a good container of length 10 to front 45; another variant each time. */
    static int readGood(BottleReturn x, int code, int variant) {
        return readAll(x, 10, code, variant(variant), 50);
    }

    /** Brings a good container of length 10 to front 70, where it is judged. */
    static int judgeGood(BottleReturn x, int code, int variant) {
        int number = readGood(x, code, variant);
        x.forward(25);
        return number;
    }

    /** Brings a good container all the way into its bin. */
    static int binGood(BottleReturn x, int code, int variant) {
        int number = judgeGood(x, code, variant);
        x.forward(50);
        return number;
    }

    /**
     * Brings two good containers on, the second when the first has its front at the distance, until
     * the second has its front at 45.
     */
    static void pair(BottleReturn x, int distance, int firstLength, int secondLength) {
        x.enter(firstLength);
        for (int front = 1; front <= distance + 45; front++) {
            x.forward(1);
            if (front == distance) {
                x.enter(secondLength);
            }
            readAt(x, front, 11, variant(0));
            readAt(x, front - distance, 12, variant(1));
        }
    }

    private static void readAt(BottleReturn x, int front, int code, int[] widths) {
        if (front == 15) {
            x.code(code);
        }
        if (front == 30) {
            for (int width : widths) {
                x.width(width);
            }
        }
        if (front == 45) {
            x.weigh(50);
        }
    }

    static int judgement(BottleReturn x, int number) {
        return x.container(number, 2);
    }
}
