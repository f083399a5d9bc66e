/** Promises 1 to 3: a new object, contour, kind. */
public final class CatalogueTest {
    public static void main(String[] args) {
        newObject();
        contourArguments();
        contourBytes();
        contourLimit();
        contourWhileBeltIsFull();
        contourNeverSet();
        kindArguments();
        kindCodeMoves();
        kindKeepsItsOwnCode();
        kindThatLostItsCode();
        kindNeedsEmptyBelt();
        kindDecides();
        allKinds();
        offComesFirst();
        Bench.end();
    }

    private static void newObject() {
        BottleReturn x = new BottleReturn();
        for (int what = 0; what <= 20; what++) {
            Bench.same("new total(" + what + ")", x.total(what), what == 16 ? 1 : 0);
        }
        for (int bin = 0; bin < 3; bin++) {
            Bench.same("new bin(" + bin + ", 0)", x.bin(bin, 0), 0);
            Bench.same("new bin(" + bin + ", 1)", x.bin(bin, 1), 30);
        }
        Bench.same("new belt(0)", x.belt(0), BottleReturn.NONE);
        Bench.same("new power()", x.power(), BottleReturn.NONE);
        Bench.same("NONE", BottleReturn.NONE, -1);
        Bench.same("no kind has the code", Bench.judgement(x, Bench.judgeGood(x, 11, 0)), 3);
    }

    private static void contourArguments() {
        BottleReturn x = new BottleReturn();
        Bench.badArgument(x, "contour -1", () -> x.contour(-1, 0, 0, 0));
        Bench.badArgument(x, "contour 8", () -> x.contour(8, 0, 0, 0));
        Bench.badArgument(x, "limit -1", () -> x.contour(0, 0, 0, -1));
        Bench.badArgument(x, "limit 2041", () -> x.contour(0, 0, 0, 2041));
        x.contour(0, -1, Integer.MIN_VALUE, 0);
        x.contour(7, Integer.MAX_VALUE, 0, 2040);
    }

    private static void contourBytes() {
        int[] widths = {0x01, 0xF2, 0x03, 0xF4, 0x85, 0x06, 0xF7, 0x08};
        BottleReturn x = new BottleReturn();
        x.contour(5, 0x01F203F4, 0x8506F708, 0);
        x.kind(0, 11, 8, 0, 10, 100, 5);
        Bench.same("just the contour", Bench.judgement(x, judged(x, widths)), 10);
        for (int i = 0; i < 8; i++) {
            int[] other = widths.clone();
            other[i] += 1;
            Bench.same("width " + i + " too great", Bench.judgement(x, judged(x, other)), 5);
            other[i] -= 2;
            Bench.same("width " + i + " too small", Bench.judgement(x, judged(x, other)), 5);
        }
    }

    private static int judged(BottleReturn x, int[] widths) {
        x.back(300);
        x.service();
        int number = Bench.readAll(x, 10, 11, widths, 50);
        x.forward(25);
        return number;
    }

    private static void contourLimit() {
        BottleReturn x = new BottleReturn();
        x.contour(0, Bench.SIXTIES, Bench.SIXTIES, 9);
        x.kind(0, 11, 8, 0, 10, 100, 0);
        int[] nine = {61, 59, 60, 63, 57, 60, 60, 59};
        int[] ten = {61, 59, 60, 63, 57, 60, 61, 59};
        Bench.same("nine apart", Bench.judgement(x, judged(x, nine)), 10);
        Bench.same("ten apart", Bench.judgement(x, judged(x, ten)), 5);
        x.contour(0, 0, 0, 2040);
        int[] greatest = {255, 255, 255, 255, 255, 255, 255, 255};
        Bench.same("2040 apart", Bench.judgement(x, judged(x, greatest)), 10);
        x.contour(0, 0, 0, 2039);
        Bench.same("2040 apart with limit 2039", Bench.judgement(x, judged(x, greatest)), 5);
    }

    private static void contourWhileBeltIsFull() {
        BottleReturn x = Bench.stocked();
        int number = Bench.readGood(x, 11, 0);
        x.contour(0, 0, 0, 0);
        x.forward(25);
        Bench.same("the contour is that of the judging", Bench.judgement(x, number), 5);
    }

    private static void contourNeverSet() {
        BottleReturn x = new BottleReturn();
        Bench.same("kind with a contour not set", x.kind(0, 11, 8, 0, 10, 100, 7), -1);
    }

    private static void kindArguments() {
        BottleReturn x = new BottleReturn();
        Bench.badArgument(x, "kind -1", () -> x.kind(-1, 1, 1, 0, 0, 0, 0));
        Bench.badArgument(x, "kind 40", () -> x.kind(40, 1, 1, 0, 0, 0, 0));
        Bench.badArgument(x, "code 0", () -> x.kind(0, 0, 1, 0, 0, 0, 0));
        Bench.badArgument(x, "code 1000000", () -> x.kind(0, 1000000, 1, 0, 0, 0, 0));
        Bench.badArgument(x, "deposit 0", () -> x.kind(0, 1, 0, 0, 0, 0, 0));
        Bench.badArgument(x, "deposit 501", () -> x.kind(0, 1, 501, 0, 0, 0, 0));
        Bench.badArgument(x, "bin -1", () -> x.kind(0, 1, 1, -1, 0, 0, 0));
        Bench.badArgument(x, "bin 3", () -> x.kind(0, 1, 1, 3, 0, 0, 0));
        Bench.badArgument(x, "low -1", () -> x.kind(0, 1, 1, 0, -1, 0, 0));
        Bench.badArgument(x, "low above high", () -> x.kind(0, 1, 1, 0, 2, 1, 0));
        Bench.badArgument(x, "high 5001", () -> x.kind(0, 1, 1, 0, 0, 5001, 0));
        Bench.badArgument(x, "high -1", () -> x.kind(0, 1, 1, 0, -2, -1, 0));
        Bench.badArgument(x, "contour -1", () -> x.kind(0, 1, 1, 0, 0, 0, -1));
        Bench.badArgument(x, "contour 8", () -> x.kind(0, 1, 1, 0, 0, 0, 8));
        Bench.same("a refused call gave no code", x.kind(1, 1, 1, 0, 0, 0, 0), -1);
        Bench.same("least of all", x.kind(0, 1, 1, 0, 0, 0, 0), 1);
        Bench.same("greatest of all", x.kind(39, 999999, 500, 2, 5000, 5000, 7), -1);
        Bench.same("greatest again", x.kind(39, 999999, 500, 2, 0, 5000, 7), 39);
    }

    private static void kindCodeMoves() {
        BottleReturn x = Bench.stocked();
        Bench.same("code 11 goes to kind 5", x.kind(5, 11, 9, 1, 10, 100, 0), 0);
        Bench.same("code 11 stays with kind 5", x.kind(5, 11, 9, 1, 10, 100, 0), 5);
        Bench.same("kind 5 gets another code", x.kind(5, 14, 9, 1, 10, 100, 0), -1);
        Bench.same("code 11 is free then", x.kind(6, 11, 7, 2, 10, 100, 0), -1);
        Bench.same("kind 0, without a code, has not code 1", x.kind(7, 1, 7, 2, 10, 100, 0), -1);
        Bench.same("code 14 goes to kind 0", x.kind(0, 14, 3, 0, 10, 100, 0), 5);
        int first = Bench.judgeGood(x, 11, 0);
        Bench.same("code 11 is kind 6", x.container(first, 3), 6);
        int second = Bench.judgeGood(x, 14, 1);
        Bench.same("code 14 is kind 0", x.container(second, 3), 0);
    }

    private static void kindKeepsItsOwnCode() {
        BottleReturn x = Bench.stocked();
        Bench.same("the same kind", x.kind(0, 11, 9, 2, 50, 50, 0), 0);
        int number = Bench.judgeGood(x, 11, 0);
        Bench.same("it has the code still", x.container(number, 3), 0);
        x.forward(50);
        Bench.same("with the new deposit", x.total(0), 9);
        Bench.same("and the new bin", x.bin(2, 0), 1);
        int light = Bench.readAll(x, 10, 11, Bench.variant(1), 49);
        x.forward(25);
        Bench.same("and the new weights", Bench.judgement(x, light), 4);
    }

    private static void kindThatLostItsCode() {
        BottleReturn x = Bench.stocked();
        Bench.same("code 11 goes to the greatest kind", x.kind(39, 11, 3, 2, 10, 100, 0), 0);
        Bench.same("kind 0 has none to lose", x.kind(0, 20, 8, 0, 10, 100, 0), BottleReturn.NONE);
        Bench.same("code 11 is still there", x.kind(39, 12, 3, 2, 10, 100, 0), 1);
        Bench.same("nobody has code 11 now", x.kind(1, 11, 8, 1, 10, 100, 0), BottleReturn.NONE);
        int number = Bench.judgeGood(x, 12, 0);
        Bench.same("code 12", x.container(number, 3), 39);
    }

    private static void kindNeedsEmptyBelt() {
        BottleReturn x = Bench.stocked();
        x.enter(5);
        Bench.badState(x, "kind with a container", () -> x.kind(0, 1, 1, 0, 0, 0, 0));
        Bench.badState(x, "bad kind with a container", () -> x.kind(40, 1, 1, 0, 0, 0, 0));
        x.back(1);
        Bench.same("kind behind it", x.kind(0, 1, 1, 0, 0, 0, 0), -1);
    }

    private static void kindDecides() {
        BottleReturn x = Bench.stocked();
        for (int kind = 0; kind < 3; kind++) {
            int number = Bench.judgeGood(x, 11 + kind, kind);
            Bench.same("kind of code " + (11 + kind), x.container(number, 3), kind);
            x.forward(50);
            Bench.same("bin of kind " + kind, x.bin(kind, 0), 1);
        }
        Bench.same("deposits", x.total(0), 8 + 500 + 25);
    }

    private static void allKinds() {
        BottleReturn x = new BottleReturn();
        for (int kind = 0; kind < 40; kind++) {
            Bench.same("new kind " + kind, x.kind(kind, 100 + kind, 1, 0, 0, 1, 0), -1);
        }
        for (int kind = 0; kind < 40; kind++) {
            Bench.same("same kind " + kind, x.kind(kind, 100 + kind, 1, 0, 0, 1, 0), kind);
        }
    }

    private static void offComesFirst() {
        BottleReturn x = Bench.stocked();
        x.cut(1);
        Bench.judgeGood(x, 11, 0);
        Bench.same("it is off", x.total(16), 0);
        Bench.badState(x, "contour", () -> x.contour(0, 0, 0, 0));
        Bench.badState(x, "bad contour", () -> x.contour(8, 0, 0, 0));
        Bench.badState(x, "kind", () -> x.kind(0, 1, 1, 0, 0, 0, 0));
        Bench.badState(x, "bad kind", () -> x.kind(40, 1, 1, 0, 0, 0, 0));
    }
}
