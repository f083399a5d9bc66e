/** Promises 4 to 9, 20 and 21: enter, code, width, weigh, forward, back, container, belt. */
public final class BeltTest {
    public static void main(String[] args) {
        enterArguments();
        enterNeedsSpace();
        enterBehindOneThatIsGone();
        enterAfresh();
        fullBelt();
        codes();
        widths();
        weights();
        readsTheOneAtThePlace();
        forwardSteps();
        forwardOfNothing();
        blocked();
        blockedByOneBehind();
        wayOfOne();
        lengths();
        backSteps();
        backLeavesThePaid();
        backForgets();
        judgedAnew();
        containerArguments();
        beltOrder();
        offComesFirst();
        Bench.end();
    }

    private static void enterArguments() {
        BottleReturn x = new BottleReturn();
        Bench.badArgument(x, "enter 4", () -> x.enter(4));
        Bench.badArgument(x, "enter 41", () -> x.enter(41));
        Bench.badArgument(x, "enter -5", () -> x.enter(-5));
        Bench.same("enter 5", x.enter(5), 1);
        x.back(1);
        Bench.same("enter 40", x.enter(40), 2);
        Bench.same("front", x.container(2, 0), 0);
        Bench.same("length", x.container(2, 1), 40);
        Bench.badArgument(x, "enter 4 without space", () -> x.enter(4));
    }

    private static void enterNeedsSpace() {
        BottleReturn x = new BottleReturn();
        x.enter(7);
        Bench.same("rear -7", x.enter(5), 0);
        x.forward(10);
        Bench.same("rear 3", x.enter(5), 0);
        Bench.same("on the belt", x.total(15), 1);
        x.forward(1);
        Bench.same("rear 4; no number was lost", x.enter(5), 2);
        Bench.same("on the belt", x.total(15), 2);
    }

    private static void enterBehindOneThatIsGone() {
        BottleReturn x = new BottleReturn();
        x.enter(5);
        x.forward(9);
        x.enter(5);
        Bench.same("the second goes back", x.back(1), 1);
        Bench.same("the first has its rear at 3", x.enter(5), 0);
        x.forward(1);
        Bench.same("the first has its rear at 4", x.enter(5), 3);
    }

    /** A new container has nothing of one that was on the belt before it. */
    private static void enterAfresh() {
        BottleReturn x = Bench.stocked();
        Bench.binGood(x, 11, 0);
        Bench.judgeGood(x, 11, 1);
        x.back(300);
        for (int number = 3; number <= 5; number++) {
            Bench.same("number", x.enter(7), number);
            int[] due = {0, 7, 0, BottleReturn.NONE, 0, 0, 0};
            for (int what = 0; what < due.length; what++) {
                Bench.same("container(" + number + ", " + what + ")", x.container(number, what), due[what]);
            }
            x.forward(15);
            x.code(11);
            x.forward(15);
            x.width(60);
            x.back(300);
        }
        Bench.same("a weight is not kept for the next", weightOfTheNext(), 4);
    }

    private static int weightOfTheNext() {
        BottleReturn x = Bench.stocked();
        Bench.readGood(x, 11, 0);
        x.back(300);
        x.enter(40);
        x.forward(35);
        x.code(11);
        for (int width : Bench.PLAIN) {
            x.width(width);
        }
        x.forward(65);
        return Bench.judgement(x, 2);
    }

    private static void fullBelt() {
        BottleReturn x = new BottleReturn();
        int entered = 0;
        for (int i = 0; i < 30; i++) {
            if (x.enter(5) != 0) {
                entered++;
            }
            x.forward(9);
        }
        Bench.same("as many as there is room up to 104", entered, 12);
        Bench.same("on the belt", x.total(15), 12);
        Bench.same("all come back", x.back(105), 12);
        Bench.same("on the belt then", x.total(15), 0);
    }

    private static void codes() {
        BottleReturn x = new BottleReturn();
        Bench.badArgument(x, "code 0", () -> x.code(0));
        Bench.badArgument(x, "code 1000000", () -> x.code(1000000));
        Bench.no("code on an empty belt", x.code(1));
        x.enter(10);
        x.forward(14);
        Bench.no("code at front 14", x.code(1));
        x.forward(1);
        Bench.yes("code at front 15", x.code(1));
        x.forward(9);
        Bench.yes("code at rear 14", x.code(999999));
        Bench.same("codes", x.container(1, 5), 2);
        x.forward(1);
        Bench.no("code at rear 15", x.code(1));
        x.back(1);
        Bench.yes("third code", x.code(1));
        Bench.no("fourth code", x.code(1));
        Bench.same("codes", x.container(1, 5), 3);
        Bench.badArgument(x, "code 0 with three", () -> x.code(0));
    }

    private static void widths() {
        BottleReturn x = new BottleReturn();
        Bench.badArgument(x, "width -1", () -> x.width(-1));
        Bench.badArgument(x, "width 256", () -> x.width(256));
        Bench.no("width on an empty belt", x.width(1));
        x.enter(10);
        x.forward(29);
        Bench.no("width at front 29", x.width(1));
        x.forward(1);
        Bench.yes("width at front 30", x.width(0));
        x.forward(9);
        for (int i = 2; i <= 8; i++) {
            Bench.yes("width at rear 29", x.width(255));
            Bench.same("widths", x.container(1, 6), i);
        }
        Bench.no("ninth width", x.width(1));
        Bench.same("widths", x.container(1, 6), 8);
        BottleReturn y = new BottleReturn();
        y.enter(10);
        y.forward(40);
        Bench.no("width at rear 30", y.width(1));
    }

    private static void weights() {
        BottleReturn x = Bench.stocked();
        Bench.badArgument(x, "weigh -1", () -> x.weigh(-1));
        Bench.badArgument(x, "weigh 5001", () -> x.weigh(5001));
        Bench.no("weigh on an empty belt", x.weigh(1));
        int number = Bench.readGood(x, 11, 0);
        x.back(1);
        Bench.no("weigh at front 44", x.weigh(0));
        x.forward(1);
        Bench.yes("weigh at front 45", x.weigh(0));
        Bench.yes("weigh again", x.weigh(5000));
        x.forward(9);
        Bench.yes("weigh at rear 44", x.weigh(99));
        x.forward(1);
        Bench.no("weigh at rear 45", x.weigh(5000));
        x.forward(15);
        Bench.same("the latest weight counts", Bench.judgement(x, number), 10);
    }

    private static void readsTheOneAtThePlace() {
        BottleReturn x = new BottleReturn();
        x.enter(10);
        x.forward(15);
        x.enter(10);
        x.forward(15);
        x.enter(10);
        x.forward(15);
        x.code(1);
        x.code(2);
        x.width(3);
        Bench.same("codes of 1", x.container(1, 5), 0);
        Bench.same("codes of 2", x.container(2, 5), 0);
        Bench.same("codes of 3", x.container(3, 5), 2);
        Bench.same("widths of 1", x.container(1, 6), 0);
        Bench.same("widths of 2", x.container(2, 6), 1);
        Bench.same("widths of 3", x.container(3, 6), 0);
    }

    private static void forwardSteps() {
        BottleReturn x = new BottleReturn();
        Bench.badArgument(x, "forward -1", () -> x.forward(-1));
        Bench.badArgument(x, "forward 301", () -> x.forward(301));
        x.enter(10);
        Bench.same("forward 0", x.forward(0), 0);
        Bench.same("front", x.container(1, 0), 0);
        Bench.same("forward 7", x.forward(7), 7);
        Bench.same("front", x.container(1, 0), 7);
        Bench.same("forward 300", x.forward(300), 97);
        Bench.same("front", x.container(1, 0), 104);
    }

    private static void forwardOfNothing() {
        BottleReturn x = new BottleReturn();
        Bench.same("forward of an empty belt", x.forward(300), 300);
    }

    private static void blocked() {
        BottleReturn x = new BottleReturn();
        x.enter(10);
        x.forward(103);
        Bench.same("blocked at 103", x.total(17), 0);
        x.forward(1);
        Bench.same("blocked at 104", x.total(17), 1);
        Bench.same("forward while blocked", x.forward(5), 0);
        Bench.badArgument(x, "forward 301 while blocked", () -> x.forward(301));
        x.back(1);
        Bench.same("blocked back at 103", x.total(17), 0);
        BottleReturn y = Bench.stocked();
        int good = Bench.judgeGood(y, 11, 0);
        y.forward(34);
        Bench.same("front of the good one", y.container(good, 0), 104);
        Bench.same("an accepted one does not block", y.total(17), 0);
    }

    private static void blockedByOneBehind() {
        BottleReturn x = Bench.stocked();
        Bench.readAll(x, 40, 11, Bench.variant(0), 50);
        x.enter(5);
        Bench.same("until the second blocks", x.forward(300), 104);
        Bench.same("front of the first", x.container(1, 0), 149);
        Bench.same("first is paid", x.container(1, 4), 1);
        Bench.same("blocked", x.total(17), 1);
        Bench.same("bin", x.bin(0, 0), 0);
    }

    private static void wayOfOne() {
        BottleReturn x = Bench.stocked();
        int number = Bench.readGood(x, 12, 0);
        x.forward(24);
        Bench.same("judgement at rear 59", Bench.judgement(x, number), 0);
        Bench.same("kind at rear 59", x.container(number, 3), BottleReturn.NONE);
        x.forward(1);
        Bench.same("judgement at rear 60", Bench.judgement(x, number), 10);
        Bench.same("kind at rear 60", x.container(number, 3), 1);
        Bench.same("records", x.total(19), 1);
        x.forward(34);
        Bench.same("paid at front 104", x.container(number, 4), 0);
        Bench.same("credit at front 104", x.total(0), 0);
        x.forward(1);
        Bench.same("paid at front 105", x.container(number, 4), 1);
        Bench.same("credit at front 105", x.total(0), 500);
        Bench.same("records", x.total(19), 2);
        x.forward(14);
        Bench.same("on the belt at rear 109", x.belt(0), number);
        Bench.same("bin at rear 109", x.bin(1, 0), 0);
        x.forward(1);
        Bench.same("on the belt at rear 110", x.belt(0), BottleReturn.NONE);
        Bench.same("bin at rear 110", x.bin(1, 0), 1);
        Bench.same("records", x.total(19), 3);
        Bench.same("paid once", x.total(10), 1);
        Bench.same("paid cents", x.total(11), 500);
    }

    private static void lengths() {
        for (int length = 5; length <= 40; length += 35) {
            BottleReturn x = Bench.stocked();
            Bench.readAll(x, length, 11, Bench.PLAIN, 50);
            x.forward(14 + length);
            Bench.same("before judging, length " + length, Bench.judgement(x, 1), 0);
            x.forward(1);
            Bench.same("judged, length " + length, Bench.judgement(x, 1), 10);
            x.forward(49);
            Bench.same("before the bin, length " + length, x.total(15), 1);
            x.forward(1);
            Bench.same("in the bin, length " + length, x.total(15), 0);
        }
    }

    private static void backSteps() {
        BottleReturn x = new BottleReturn();
        Bench.badArgument(x, "back -1", () -> x.back(-1));
        Bench.badArgument(x, "back 301", () -> x.back(301));
        Bench.same("back on an empty belt", x.back(300), 0);
        x.enter(5);
        x.forward(20);
        x.enter(5);
        x.forward(20);
        x.enter(5);
        Bench.same("back 0", x.back(0), 0);
        Bench.same("back 1", x.back(1), 1);
        Bench.same("back 19", x.back(19), 0);
        Bench.same("front of 2", x.container(2, 0), 0);
        Bench.same("front of 1", x.container(1, 0), 20);
        Bench.same("back 22", x.back(22), 2);
        Bench.same("on the belt", x.total(15), 0);
        Bench.same("numbers go on", x.enter(5), 4);
        Bench.same("a new one has front 0", x.container(4, 0), 0);
    }

    private static void backLeavesThePaid() {
        BottleReturn x = Bench.stocked();
        int first = Bench.judgeGood(x, 11, 0);
        x.forward(34);
        int second = x.enter(5);
        Bench.same("at 104 it still goes back", x.back(1), 1);
        Bench.same("front", x.container(first, 0), 103);
        x.forward(2);
        Bench.same("front", x.container(first, 0), 105);
        int third = x.enter(5);
        Bench.same("the second is gone", second + 1, third);
        x.forward(6);
        Bench.same("none is gone", x.back(4), 0);
        Bench.same("the paid one stays", x.container(first, 0), 111);
        Bench.same("the other goes back", x.container(third, 0), 2);
        Bench.same("it is gone", x.back(300), 1);
        Bench.same("the paid one stays", x.container(first, 0), 111);
        Bench.same("and is still accepted", Bench.judgement(x, first), 10);
        x.forward(9);
        Bench.same("it is paid once", x.total(10), 1);
        Bench.same("and comes into its bin", x.bin(0, 0), 1);
    }

    private static void backForgets() {
        BottleReturn x = Bench.stocked();
        int number = Bench.judgeGood(x, 11, 0);
        x.forward(7);
        x.back(7);
        Bench.same("accepted back at rear 60", Bench.judgement(x, number), 10);
        Bench.same("codes back at rear 60", x.container(number, 5), 1);
        x.back(1);
        Bench.same("judgement at rear 59", Bench.judgement(x, number), 0);
        Bench.same("kind at rear 59", x.container(number, 3), BottleReturn.NONE);
        Bench.same("codes at rear 59", x.container(number, 5), 0);
        Bench.same("widths at rear 59", x.container(number, 6), 0);
        x.forward(1);
        Bench.same("judged anew", Bench.judgement(x, number), 1);
        BottleReturn y = Bench.stocked();
        int other = Bench.readGood(y, 11, 0);
        y.forward(24);
        y.back(10);
        y.forward(11);
        Bench.same("back before rear 60 forgets nothing", Bench.judgement(y, other), 10);
    }

    private static void judgedAnew() {
        BottleReturn x = Bench.stocked();
        int number = Bench.judgeGood(x, 11, 0);
        x.back(50);
        Bench.same("front", x.container(number, 0), 20);
        Bench.yes("code again", x.code(12));
        x.forward(10);
        for (int width : Bench.PLAIN) {
            Bench.yes("width again", x.width(width));
        }
        x.forward(40);
        Bench.same("the weight was forgotten", Bench.judgement(x, number), 4);
        x.back(50);
        x.code(12);
        x.forward(10);
        for (int width : Bench.PLAIN) {
            x.width(width);
        }
        x.forward(15);
        x.weigh(50);
        x.forward(25);
        Bench.same("judged a third time, but suspicious now", Bench.judgement(x, number), 8);
    }

    private static void containerArguments() {
        BottleReturn x = new BottleReturn();
        Bench.badArgument(x, "container 0 on an empty belt", () -> x.container(0, 0));
        x.enter(5);
        Bench.badArgument(x, "container 0", () -> x.container(0, 0));
        Bench.badArgument(x, "container 2", () -> x.container(2, 0));
        Bench.badArgument(x, "container -1", () -> x.container(-1, 0));
        Bench.badArgument(x, "what -1", () -> x.container(1, -1));
        Bench.badArgument(x, "what 7", () -> x.container(1, 7));
        x.back(1);
        Bench.badArgument(x, "container that is gone", () -> x.container(1, 0));
    }

    private static void beltOrder() {
        BottleReturn x = Bench.stocked();
        Bench.readGood(x, 11, 0);
        x.enter(5);
        x.forward(9);
        x.enter(6);
        Bench.same("belt(-1)", x.belt(-1), BottleReturn.NONE);
        Bench.same("belt(0)", x.belt(0), 1);
        Bench.same("belt(1)", x.belt(1), 2);
        Bench.same("belt(2)", x.belt(2), 3);
        Bench.same("belt(3)", x.belt(3), BottleReturn.NONE);
        Bench.same("belt(max)", x.belt(Integer.MAX_VALUE), BottleReturn.NONE);
        Bench.same("belt(min)", x.belt(Integer.MIN_VALUE), BottleReturn.NONE);
        x.forward(66);
        Bench.same("belt(0) behind the first", x.belt(0), 2);
        Bench.same("belt(1) behind the first", x.belt(1), 3);
        Bench.same("belt(2) behind the first", x.belt(2), BottleReturn.NONE);
        Bench.same("length of 3", x.container(3, 1), 6);
        x.back(70);
        Bench.same("belt(0) behind the third", x.belt(0), 2);
        Bench.same("belt(1) behind the third", x.belt(1), BottleReturn.NONE);
        Bench.badArgument(x, "container in the bin", () -> x.container(1, 0));
    }

    private static void offComesFirst() {
        BottleReturn x = Bench.stocked();
        x.cut(1);
        int number = Bench.judgeGood(x, 11, 0);
        Bench.badState(x, "enter", () -> x.enter(5));
        Bench.badState(x, "bad enter", () -> x.enter(4));
        Bench.badState(x, "code", () -> x.code(1));
        Bench.badState(x, "bad code", () -> x.code(0));
        Bench.badState(x, "width", () -> x.width(1));
        Bench.badState(x, "bad width", () -> x.width(256));
        Bench.badState(x, "weigh", () -> x.weigh(1));
        Bench.badState(x, "bad weigh", () -> x.weigh(-1));
        Bench.badState(x, "forward", () -> x.forward(0));
        Bench.badState(x, "bad forward", () -> x.forward(301));
        Bench.badState(x, "back", () -> x.back(0));
        Bench.badState(x, "bad back", () -> x.back(301));
        Bench.same("belt(0) while it is off", x.belt(0), number);
        Bench.same("front while it is off", x.container(number, 0), 70);
    }
}
