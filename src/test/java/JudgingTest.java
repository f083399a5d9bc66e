/** The terms JUDGED and SUSPICIOUS, and what total (promise 23) counts of them. */
public final class JudgingTest {
    public static void main(String[] args) {
        noCode();
        codesDiffer();
        noKind();
        weights();
        widths();
        room();
        roomOnTheBelt();
        roomOfAnotherBin();
        roomBelowWhatIsThere();
        fullOfVouchers();
        suspicious();
        suspicionCountsOnlyMoves();
        suspicionEndsWithABin();
        suspicionEndsInTheSameStep();
        alike();
        alikeCountsTheAcceptedOnly();
        alikeInEveryWidth();
        alikeThoughForgotten();
        alikeCountsEachAcceptance();
        firstReasonWins();
        totalCountsEach();
        Bench.end();
    }

    private static int judgedAs(BottleReturn x, int code, int[] widths, int grams) {
        int number = Bench.readAll(x, 10, code, widths, grams);
        x.forward(25);
        int judgement = Bench.judgement(x, number);
        int kind = x.container(number, 3);
        Bench.same("kind only if accepted", kind == BottleReturn.NONE ? 0 : 1, judgement == 10 ? 1 : 0);
        return judgement;
    }

    private static void noCode() {
        BottleReturn x = Bench.stocked();
        x.enter(10);
        x.forward(70);
        Bench.same("no code", Bench.judgement(x, 1), 1);
        Bench.same("total(1)", x.total(1), 1);
        Bench.same("a refusal is no record", x.total(19), 0);
    }

    private static void codesDiffer() {
        int[][] read = {{11, 12, 0}, {11, 11, 12}, {11, 12, 11}, {12, 11, 11}, {11, 11, 11}};
        for (int i = 0; i < read.length; i++) {
            BottleReturn x = Bench.stocked();
            x.enter(10);
            x.forward(15);
            for (int code : read[i]) {
                if (code != 0) {
                    x.code(code);
                }
            }
            x.forward(55);
            Bench.same("codes " + i, Bench.judgement(x, 1), i < 4 ? 2 : 4);
            Bench.same("total(2) of codes " + i, x.total(2), i < 4 ? 1 : 0);
        }
    }

    private static void noKind() {
        BottleReturn x = Bench.stocked();
        Bench.same("no kind", judgedAs(x, 14, Bench.PLAIN, 50), 3);
        Bench.same("total(3)", x.total(3), 1);
        BottleReturn y = Bench.stocked();
        y.kind(0, 20, 8, 0, 10, 100, 0);
        Bench.same("a kind's earlier code", judgedAs(y, 11, Bench.PLAIN, 50), 3);
    }

    private static void weights() {
        int[] grams = {9, 10, 100, 101};
        int[] due = {4, 10, 10, 4};
        for (int i = 0; i < grams.length; i++) {
            Bench.same("weight " + grams[i], judgedAs(Bench.stocked(), 11, Bench.PLAIN, grams[i]), due[i]);
        }
        BottleReturn x = new BottleReturn();
        x.contour(0, Bench.SIXTIES, Bench.SIXTIES, 0);
        x.kind(0, 11, 1, 0, 0, 0, 0);
        Bench.same("weight 0 of 0 .. 0", judgedAs(x, 11, Bench.PLAIN, 0), 10);
        BottleReturn y = new BottleReturn();
        y.kind(0, 11, 1, 0, 0, 5000, 0);
        y.enter(10);
        y.forward(15);
        y.code(11);
        y.forward(55);
        Bench.same("no weight", Bench.judgement(y, 1), 4);
        Bench.same("total(4)", y.total(4), 1);
    }

    private static void widths() {
        int[] seven = {60, 60, 60, 60, 60, 60, 60};
        int[] eightApart = {61, 59, 61, 59, 61, 59, 61, 59};
        int[] nineApart = {61, 59, 61, 59, 61, 59, 61, 58};
        Bench.same("no widths", judgedAs(Bench.stocked(), 11, new int[0], 50), 5);
        Bench.same("seven widths", judgedAs(Bench.stocked(), 11, seven, 50), 5);
        Bench.same("as far as the limit", judgedAs(Bench.stocked(), 11, eightApart, 50), 10);
        BottleReturn x = Bench.stocked();
        Bench.same("above the limit", judgedAs(x, 11, nineApart, 50), 5);
        Bench.same("total(5)", x.total(5), 1);
    }

    private static void room() {
        BottleReturn x = Bench.stocked();
        x.empty(0, 1);
        Bench.binGood(x, 11, 0);
        Bench.same("bin", x.bin(0, 0), 1);
        int refused = Bench.judgeGood(x, 11, 1);
        Bench.same("no room", Bench.judgement(x, refused), 6);
        Bench.same("total(6)", x.total(6), 1);
        x.back(300);
        x.service();
        Bench.same("another bin has room", judgedAs(x, 12, Bench.PLAIN, 50), 10);
        x.forward(50);
        x.empty(0, 0);
        Bench.same("room 0", judgedAs(x, 11, Bench.PLAIN, 50), 6);
    }

    private static void roomOnTheBelt() {
        BottleReturn x = Bench.stocked();
        x.empty(0, 2);
        Bench.binGood(x, 11, 0);
        int second = Bench.readAll(x, 40, 11, Bench.variant(1), 50);
        int third = Bench.readGood(x, 11, 2);
        x.forward(10);
        Bench.same("one in the bin", Bench.judgement(x, second), 10);
        x.forward(15);
        Bench.same("one in the bin, a paid one on the belt", Bench.judgement(x, third), 6);
        Bench.same("the one on the belt", x.belt(0), second);
    }

    private static void roomOfAnotherBin() {
        BottleReturn x = Bench.stocked();
        x.empty(1, 1);
        Bench.pair(x, 45, 40, 10);
        x.forward(25);
        Bench.same("one for another bin", x.container(1, 3), 0);
        Bench.same("takes no room", x.container(2, 3), 1);
        BottleReturn y = Bench.stocked();
        y.kind(1, 12, 500, 0, 10, 100, 0);
        y.empty(0, 1);
        Bench.pair(y, 45, 40, 10);
        y.forward(25);
        Bench.same("one of another kind", y.container(1, 3), 0);
        Bench.same("takes room in the same bin", Bench.judgement(y, 2), 6);
    }

    private static void roomBelowWhatIsThere() {
        BottleReturn y = Bench.stocked();
        y.kind(1, 12, 500, 0, 10, 100, 0);
        Bench.pair(y, 20, 10, 5);
        y.forward(20);
        Bench.same("both accepted", Bench.judgement(y, 1) + Bench.judgement(y, 2), 20);
        y.empty(0, 1);
        int third = Bench.readAll(y, 5, 11, Bench.variant(2), 50);
        y.forward(20);
        Bench.same("two in a bin with room for one", y.bin(0, 0), 2);
        Bench.same("no room", Bench.judgement(y, third), 6);
    }

    private static void fullOfVouchers() {
        BottleReturn x = Bench.stocked();
        x.empty(0, 200);
        for (int i = 1; i <= 60; i++) {
            Bench.binGood(x, 11, i);
            Bench.same("voucher", x.voucher(), i);
        }
        Bench.same("kept", x.total(14), 60);
        Bench.same("60 are kept", judgedAs(x, 11, Bench.variant(0), 50), 7);
        Bench.same("total(7)", x.total(7), 1);
        x.redeem(7);
        x.back(300);
        x.service();
        Bench.same("60 are kept, one of them redeemed", judgedAs(x, 11, Bench.variant(0), 50), 7);
        x.clear();
        x.back(300);
        x.service();
        Bench.same("59 are kept", judgedAs(x, 11, Bench.variant(0), 50), 10);
    }

    private static void suspicious() {
        BottleReturn x = Bench.stocked();
        x.enter(10);
        x.forward(70);
        x.back(50);
        Bench.same("50 steps", x.total(18), 0);
        x.back(1);
        Bench.same("51 steps", x.total(18), 1);
        x.back(20);
        Bench.same("judged while suspicious", judgedAs(x, 11, Bench.PLAIN, 50), 8);
        Bench.same("total(8)", x.total(8), 1);
        x.back(300);
        Bench.yes("service() of a suspicious one", x.service());
        Bench.same("behind service()", x.total(18), 0);
        Bench.same("judged behind service()", judgedAs(x, 11, Bench.PLAIN, 50), 10);
    }

    private static void suspicionCountsOnlyMoves() {
        BottleReturn x = Bench.stocked();
        x.back(300);
        Bench.same("steps on an empty belt", x.total(18), 0);
        x.enter(10);
        x.back(300);
        Bench.same("one step that moved", x.total(18), 0);
        Bench.judgeGood(x, 11, 0);
        x.forward(40);
        x.back(300);
        Bench.same("steps with a paid one alone", x.total(18), 0);
        x.enter(10);
        x.forward(5);
        x.back(300);
        x.forward(5);
        x.enter(10);
        x.back(300);
        Bench.same("one and six and one", x.total(18), 0);
    }

    private static void suspicionEndsWithABin() {
        BottleReturn x = Bench.stocked();
        int good = Bench.judgeGood(x, 11, 0);
        x.forward(30);
        x.back(30);
        x.forward(30);
        x.back(30);
        Bench.same("60 steps", x.total(18), 1);
        Bench.same("it is still accepted", Bench.judgement(x, good), 10);
        x.forward(49);
        Bench.same("before the bin", x.total(18), 1);
        x.forward(1);
        Bench.same("bin", x.bin(0, 0), 1);
        Bench.same("behind the bin", x.total(18), 0);
        x.enter(10);
        x.forward(60);
        x.back(50);
        Bench.same("50 steps since the bin", x.total(18), 0);
        x.back(1);
        Bench.same("51 steps since the bin", x.total(18), 1);
    }

    private static void suspicionEndsInTheSameStep() {
        for (int distance = 49; distance <= 50; distance++) {
            BottleReturn x = Bench.stocked();
            Bench.pair(x, distance, 10, 10);
            for (int i = 0; i < 3; i++) {
                x.back(20);
                x.forward(20);
            }
            Bench.same("suspicious", x.total(18), 1);
            x.forward(25);
            boolean first = distance == 50;
            Bench.same("in the bin", x.bin(0, 0), first ? 1 : 0);
            Bench.same("judged " + distance + " behind", Bench.judgement(x, 2), first ? 10 : 8);
        }
    }

    private static void alike() {
        BottleReturn x = Bench.stocked();
        for (int i = 1; i <= 3; i++) {
            Bench.same("alike " + i, judgedAs(x, 10 + i, Bench.PLAIN, 50), 10);
            x.forward(50);
        }
        Bench.same("alike 4", judgedAs(x, 11, Bench.PLAIN, 50), 9);
        Bench.same("total(9)", x.total(9), 1);
        x.back(300);
        x.service();
        Bench.same("another", judgedAs(x, 11, Bench.variant(1), 50), 10);
        x.forward(50);
        for (int i = 1; i <= 3; i++) {
            Bench.same("alike again " + i, judgedAs(x, 10 + i, Bench.PLAIN, 50), 10);
            x.forward(50);
        }
        Bench.same("alike again 4", judgedAs(x, 12, Bench.PLAIN, 50), 9);
    }

    private static void alikeCountsTheAcceptedOnly() {
        BottleReturn x = Bench.stocked();
        x.contour(1, 0, 0, 0);
        x.kind(3, 14, 1, 0, 0, 5000, 1);
        int[] zeros = new int[8];
        Bench.same("zeros at first", judgedAs(x, 14, zeros, 50), 10);
        x.forward(50);
        Bench.same("zeros 2", judgedAs(x, 14, zeros, 50), 10);
        x.forward(50);
        Bench.same("refused, not counted", judgedAs(x, 11, zeros, 50), 5);
        x.back(300);
        x.service();
        Bench.same("refused with others", judgedAs(x, 11, Bench.variant(0), 5), 4);
        x.back(300);
        x.service();
        Bench.same("zeros 3", judgedAs(x, 14, zeros, 50), 10);
        x.forward(50);
        Bench.same("zeros 4", judgedAs(x, 14, zeros, 50), 9);
    }

    private static void alikeInEveryWidth() {
        for (int i = 0; i < 8; i++) {
            BottleReturn x = Bench.stocked();
            for (int j = 0; j < 3; j++) {
                Bench.binGood(x, 11, 0);
            }
            int[] other = Bench.PLAIN.clone();
            other[i]++;
            Bench.same("another width " + i, judgedAs(x, 11, other, 50), 10);
        }
    }

    private static void alikeThoughForgotten() {
        BottleReturn x = Bench.stocked();
        for (int i = 0; i < 3; i++) {
            Bench.same("accepted, then back", judgedAs(x, 11, Bench.PLAIN, 50), 10);
            x.back(300);
            x.service();
        }
        Bench.same("alike to three that went back", judgedAs(x, 11, Bench.PLAIN, 50), 9);
    }

    /** The second goes back from rear 60 to 14, where all three places read it anew. */
    private static void alikeCountsEachAcceptance() {
        BottleReturn x = Bench.stocked();
        Bench.binGood(x, 11, 0);
        int twice = Bench.readAll(x, 40, 11, Bench.PLAIN, 50);
        x.forward(55);
        Bench.same("accepted", Bench.judgement(x, twice), 10);
        x.back(46);
        readAgain(x);
        x.forward(46);
        Bench.same("accepted again", Bench.judgement(x, twice), 10);
        Bench.same("three records of acceptance", x.total(19), 3 + 2);
        x.forward(50);
        Bench.same("alike to three acceptances of two", judgedAs(x, 11, Bench.PLAIN, 50), 9);
    }

    private static void readAgain(BottleReturn x) {
        Bench.yes("code again", x.code(11));
        for (int width : Bench.PLAIN) {
            Bench.yes("width again", x.width(width));
        }
        Bench.yes("weigh again", x.weigh(50));
    }

    private static void firstReasonWins() {
        BottleReturn x = Bench.stocked();
        for (int i = 0; i < 3; i++) {
            Bench.binGood(x, 11, 0);
        }
        x.empty(0, 0);
        x.enter(10);
        x.forward(60);
        x.back(300);
        Bench.same("it is suspicious", x.total(18), 1);
        Bench.same("no kind before weight", judgedAs(x, 14, new int[0], 1), 3);
        x.back(300);
        Bench.same("weight before widths", judgedAs(x, 11, new int[0], 1), 4);
        x.back(300);
        Bench.same("widths before room", judgedAs(x, 11, new int[0], 50), 5);
        x.back(300);
        Bench.same("room before suspicion", judgedAs(x, 11, Bench.PLAIN, 50), 6);
        x.back(300);
        x.empty(0, 1);
        Bench.same("suspicion before likeness", judgedAs(x, 11, Bench.PLAIN, 50), 8);
        x.back(300);
        x.service();
        Bench.same("likeness", judgedAs(x, 11, Bench.PLAIN, 50), 9);
    }

    private static void totalCountsEach() {
        BottleReturn x = Bench.stocked();
        x.enter(10);
        for (int i = 1; i <= 3; i++) {
            x.forward(70);
            Bench.same("refused so often", x.total(1), i);
            x.back(70);
        }
        Bench.same("the same one", x.belt(0), 1);
        for (int reason = 2; reason <= 9; reason++) {
            Bench.same("total(" + reason + ")", x.total(reason), 0);
        }
    }
}
