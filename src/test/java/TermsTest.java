/** The document's 'Terms', in their order: a test for each sentence that names a boundary case. */
public final class TermsTest {
    public static void main(String[] args) {
        numbersAsTheyEntered();
        overAPlace();
        overNoPlaceInTheGap();
        threeCodesOverOnePlace();
        eightWidthsOverOnePlace();
        weightInPlaceOfAnother();
        leastAndGreatestKind();
        weightsOfAKind();
        blockedAt104();
        blockedDoesNoStep();
        judgedOnce();
        threeInOneStep();
        cutAtTheBinBeforeAJudgement();
        thirteenOnTheBelt();
        backStopsAt105();
        backToRear59();
        backToRear59WithoutJudgement();
        backBelow0();
        twoUnknownCodes();
        reasonsInTheirOrder();
        thirtyInABin();
        lastRoom();
        refusedTakesNoRoom();
        goneBackTakesNoRoom();
        judgedAtFiftySteps();
        alikeToEachOfThree();
        alikeAcrossKinds();
        recordsOfFiveSorts();
        cutAtTheNthRecord();
        powerAroundTheGate();
        powerOnAnEmptyBelt();
        numberOfAVoucher();
        Bench.end();
    }

    /** Steps one by one, reading each container of a row, entered at the distance, as it comes by. */
    private static void row(BottleReturn x, int count, int length, int distance, int steps) {
        for (int step = 0; step < steps; step++) {
            if (step % distance == 0 && step / distance < count) {
                x.enter(length);
            }
            x.forward(1);
            for (int i = 0; i < count; i++) {
                readAt(x, step + 1 - i * distance, i);
            }
        }
    }

    private static void readAt(BottleReturn x, int front, int i) {
        if (front == 15) {
            x.code(11 + i % 3);
        }
        if (front == 45) {
            x.weigh(50);
        }
        for (int width = 0; front == 30 && width < 8; width++) {
            x.width(Bench.variant(i)[width]);
        }
    }

    private static void numbersAsTheyEntered() {
        BottleReturn x = new BottleReturn();
        for (int number = 1; number <= 20; number++) {
            Bench.same("number", x.enter(5), number);
            Bench.same("the next has no room yet", x.enter(5), 0);
            Bench.same("front", x.container(number, 0), 0);
            x.back(number % 2);
            x.forward(9);
            if (number % 5 == 0) {
                x.back(300);
            }
        }
    }

    private static boolean reads(BottleReturn x, int place) {
        return place == 15 ? x.code(11) : place == 30 ? x.width(60) : x.weigh(50);
    }

    private static void overAPlace() {
        for (int place = 15; place <= 45; place += 15) {
            for (int length : new int[] {5, 6, 39, 40}) {
                BottleReturn x = new BottleReturn();
                x.enter(length);
                x.forward(place - 1);
                String text = "length " + length + " at place " + place + ", ";
                Bench.no(text + "front one below", reads(x, place));
                x.forward(1);
                Bench.yes(text + "front at it", reads(x, place));
                x.forward(length - 1);
                Bench.yes(text + "rear one below", reads(x, place));
                x.forward(1);
                Bench.no(text + "rear at it", reads(x, place));
                x.back(1);
                Bench.yes(text + "rear one below again", reads(x, place));
                x.back(length);
                Bench.no(text + "front one below again", reads(x, place));
            }
        }
    }

    private static void overNoPlaceInTheGap() {
        for (int place = 15; place <= 45; place += 15) {
            BottleReturn x = new BottleReturn();
            x.enter(5);
            x.forward(9);
            x.enter(5);
            x.forward(place - 5);
            for (int front = place + 4; front <= place + 9; front++) {
                boolean inTheGap = front > place + 4 && front < place + 9;
                boolean read = reads(x, place);
                Bench.yes("place " + place + ", front of the first " + front, read != inTheGap);
                x.forward(1);
            }
        }
    }

    private static void threeCodesOverOnePlace() {
        BottleReturn x = new BottleReturn();
        x.enter(40);
        x.forward(15);
        for (int i = 1; i <= 5; i++) {
            Bench.yes("code " + i, x.code(i) == i <= 3);
            Bench.same("codes", x.container(1, 5), Math.min(i, 3));
        }
        Bench.same("widths", x.container(1, 6), 0);
    }

    private static void eightWidthsOverOnePlace() {
        BottleReturn x = new BottleReturn();
        x.enter(40);
        x.forward(30);
        for (int i = 1; i <= 10; i++) {
            Bench.yes("width " + i, x.width(i) == i <= 8);
            Bench.same("widths", x.container(1, 6), Math.min(i, 8));
        }
        Bench.same("codes", x.container(1, 5), 0);
    }

    private static void weightInPlaceOfAnother() {
        int[][] weights = {{50, 101}, {101, 50}, {0, 9, 10}, {100, 5000, 101}, {9, 100}};
        int[] due = {4, 10, 10, 4, 10};
        for (int i = 0; i < weights.length; i++) {
            BottleReturn x = Bench.stocked();
            Bench.readAll(x, 10, 11, Bench.PLAIN, 50);
            for (int grams : weights[i]) {
                Bench.yes("weighed", x.weigh(grams));
            }
            x.forward(25);
            Bench.same("the last weight of run " + i, Bench.judgement(x, 1), due[i]);
        }
    }

    private static void leastAndGreatestKind() {
        int[] nothing = new int[8];
        int[] most = {255, 255, 255, 255, 255, 255, 255, 255};
        BottleReturn x = new BottleReturn();
        x.contour(0, 0, 0, 0);
        x.contour(7, -1, -1, 0);
        x.kind(0, 1, 1, 0, 0, 0, 0);
        x.kind(39, 999999, 500, 2, 5000, 5000, 7);
        x.empty(2, 200);
        Bench.readAll(x, 5, 1, nothing, 0);
        x.forward(20);
        Bench.same("least kind", x.container(1, 3), 0);
        Bench.same("all of 300 steps", x.forward(300), 300);
        Bench.same("least deposit", x.total(0), 1);
        Bench.same("bin of the least", x.bin(0, 0), 1);
        Bench.readAll(x, 40, 999999, most, 5000);
        x.forward(55);
        Bench.same("greatest kind", x.container(2, 3), 39);
        x.forward(300);
        Bench.same("greatest deposit", x.total(0), 501);
        Bench.same("bin of the greatest", x.bin(2, 0), 1);
        Bench.same("none in the other", x.bin(1, 0), 0);
    }

    private static void weightsOfAKind() {
        int[][] kinds = {{0, 0}, {0, 1}, {20, 20}, {4999, 5000}, {5000, 5000}};
        for (int[] kind : kinds) {
            for (int grams = Math.max(0, kind[0] - 1); grams <= Math.min(5000, kind[1] + 1); grams++) {
                BottleReturn x = new BottleReturn();
                x.contour(0, Bench.SIXTIES, Bench.SIXTIES, 0);
                x.kind(0, 11, 1, 0, kind[0], kind[1], 0);
                Bench.readAll(x, 10, 11, Bench.PLAIN, grams);
                x.forward(25);
                boolean fits = grams >= kind[0] && grams <= kind[1];
                Bench.same(grams + " of " + kind[0] + " .. " + kind[1], Bench.judgement(x, 1), fits ? 10 : 4);
            }
        }
    }

    private static void blockedAt104() {
        for (int length = 5; length <= 40; length += 35) {
            BottleReturn x = new BottleReturn();
            x.enter(length);
            Bench.same("steps to 103", x.forward(103), 103);
            Bench.same("not blocked at 103", x.total(17), 0);
            Bench.same("a step to 104", x.forward(1), 1);
            Bench.same("blocked at 104", x.total(17), 1);
            for (int n = 0; n <= 300; n += 100) {
                Bench.same("no step", x.forward(n), 0);
            }
            Bench.same("refused for no code", x.container(1, 2), 1);
            Bench.same("front", x.container(1, 0), 104);
            x.back(1);
            Bench.same("a step again", x.forward(300), 1);
        }
    }

    /** The first is paid, the second is refused, the third would be judged by the next step. */
    private static void blockedDoesNoStep() {
        BottleReturn x = Bench.stocked();
        Bench.readAll(x, 40, 11, Bench.PLAIN, 50);
        x.enter(5);
        x.forward(40);
        x.enter(5);
        x.forward(64);
        Bench.same("front of the second", x.container(2, 0), 104);
        Bench.same("front of the third", x.container(3, 0), 64);
        String before = Bench.snapshot(x);
        Bench.same("no step", x.forward(300), 0);
        Bench.yes("nothing moves", before.equals(Bench.snapshot(x)));
        Bench.same("the third is not judged", x.container(3, 2), 0);
        Bench.same("the first is not in its bin", x.bin(0, 0), 0);
        x.back(46);
        Bench.same("the first stays", x.container(1, 0), 149);
        Bench.same("it comes into its bin by the next step", x.forward(1), 1);
        Bench.same("bin", x.bin(0, 0), 1);
    }

    private static void judgedOnce() {
        BottleReturn x = Bench.stocked();
        x.enter(10);
        x.forward(70);
        for (int i = 0; i < 5; i++) {
            x.forward(9);
            x.back(9);
            Bench.same("refused still", Bench.judgement(x, 1), 1);
        }
        Bench.same("refused once", x.total(1), 1);
        BottleReturn y = Bench.stocked();
        Bench.judgeGood(y, 11, 0);
        for (int i = 0; i < 5; i++) {
            y.forward(9);
            y.back(9);
            Bench.same("accepted still", Bench.judgement(y, 1), 10);
        }
        Bench.same("accepted once", y.total(19), 1);
        y.forward(50);
        Bench.same("paid once", y.total(10), 1);
        Bench.same("three records", y.total(19), 3);
    }

    /** By one step the first comes into its bin, the second is paid and the third is judged. */
    private static void threeInOneStep() {
        for (int cut = 0; cut <= 4; cut++) {
            BottleReturn x = Bench.stocked();
            x.enter(10);
            for (int step = 1; step <= 119; step++) {
                x.forward(1);
                if (step == 15 || step == 50) {
                    x.enter(10);
                }
                readAt(x, step, 0);
                readAt(x, step - 15, 1);
                readAt(x, step - 50, 2);
            }
            Bench.same("records before", x.total(19), 3);
            x.cut(cut);
            Bench.same("a step", x.forward(1), 1);
            int written = cut == 0 ? 3 : cut - 1;
            String text = "cut " + cut + ": ";
            Bench.same(text + "records", x.total(19), 3 + written);
            Bench.same(text + "in the bin", x.bin(0, 0), written > 0 ? 1 : 0);
            Bench.same(text + "credit", x.total(0), written > 1 ? 508 : 8);
            Bench.same(text + "third", Bench.judgement(x, 3), written > 2 ? 10 : 0);
            Bench.same(text + "front of the third", x.container(3, 0), 70);
            Bench.same(text + "on", x.total(16), cut == 0 || cut == 4 ? 1 : 0);
            Bench.same(text + "left", x.total(20), cut == 4 ? 1 : 0);
            if (x.total(16) == 0) {
                Bench.same(text + "power", x.power(), Math.max(0, 2 - written));
                Bench.same(text + "credit then", x.total(0), 508);
                Bench.same(text + "bin then", x.bin(0, 0), 1);
                Bench.same(text + "third then", x.container(3, 2) + x.container(3, 5), 0);
            }
        }
    }

    private static void cutAtTheBinBeforeAJudgement() {
        for (int cut = 0; cut <= 1; cut++) {
            BottleReturn x = Bench.stocked();
            Bench.pair(x, 50, 10, 10);
            x.forward(24);
            x.cut(cut);
            x.forward(1);
            Bench.same("first on the belt", x.belt(0), 2 - cut);
            Bench.same("second", Bench.judgement(x, 2), cut == 0 ? 10 : 0);
            Bench.same("codes of the second", x.container(2, 5), 1);
        }
    }

    /** As many as can be: the first with its rear at 109, the last with its front at 6. */
    private static void thirteenOnTheBelt() {
        BottleReturn x = Bench.stocked();
        row(x, 13, 5, 9, 114);
        Bench.same("on the belt", x.total(15), 13);
        for (int i = 0; i < 13; i++) {
            Bench.same("number", x.belt(i), i + 1);
            Bench.same("front", x.container(i + 1, 0), 114 - 9 * i);
        }
        Bench.same("the fourteenth", x.enter(5), 0);
        x.forward(1);
        Bench.same("one is in its bin", x.total(15), 12);
        x.forward(2);
        Bench.same("another", x.enter(5), 14);
        Bench.same("last on the belt", x.belt(12), 14);
        Bench.same("all that are not paid go back", x.back(300), 12);
        Bench.same("a paid one stays", x.belt(0), 2);
    }

    private static void backStopsAt105() {
        for (int front = 103; front <= 106; front++) {
            BottleReturn x = Bench.stocked();
            Bench.judgeGood(x, 11, 0);
            x.forward(front - 70);
            Bench.same("gone from " + front, x.back(300), front < 105 ? 1 : 0);
            Bench.same("paid from " + front, x.total(10), front < 105 ? 0 : 1);
            Bench.same("on the belt from " + front, x.total(15), front < 105 ? 0 : 1);
        }
    }

    private static void backToRear59() {
        for (int length = 5; length <= 40; length += 35) {
            BottleReturn x = Bench.stocked();
            Bench.readAll(x, length, 11, Bench.PLAIN, 50);
            x.forward(15 + length);
            x.forward(1);
            x.back(1);
            Bench.same("rear 60 keeps the judgement", Bench.judgement(x, 1), 10);
            Bench.same("rear 60 keeps the kind", x.container(1, 3), 0);
            Bench.same("rear 60 keeps the readings", x.container(1, 5) + x.container(1, 6), 9);
            x.back(1);
            Bench.same("rear 59 loses the judgement", Bench.judgement(x, 1), 0);
            Bench.same("rear 59 loses the kind", x.container(1, 3), BottleReturn.NONE);
            Bench.same("rear 59 loses the readings", x.container(1, 5) + x.container(1, 6), 0);
            Bench.same("front", x.container(1, 0), 59 + length);
            x.forward(1);
            Bench.same("judged anew, without a code", Bench.judgement(x, 1), 1);
            x.back(1);
            Bench.same("a refusal is lost, too", Bench.judgement(x, 1), 0);
            x.forward(1);
            Bench.same("each refusal counts", x.total(1), 2);
        }
    }

    private static void backToRear59WithoutJudgement() {
        BottleReturn x = Bench.stocked();
        Bench.readGood(x, 11, 0);
        x.cut(1);
        x.forward(25);
        x.power();
        Bench.same("rear 60 without a judgement", Bench.judgement(x, 1), 0);
        Bench.same("none is gone", x.back(1), 0);
        Bench.same("front", x.container(1, 0), 69);
        Bench.same("none still", Bench.judgement(x, 1), 0);
        x.back(50);
        Bench.yes("a code anew", x.code(11));
        x.forward(26);
        Bench.same("rear 35 keeps it", x.container(1, 5), 1);
    }

    private static void backBelow0() {
        for (int front = 0; front <= 3; front++) {
            BottleReturn x = new BottleReturn();
            x.enter(40);
            x.forward(front);
            Bench.same("none is gone at 0", x.back(front), 0);
            Bench.same("front 0", x.container(1, 0), 0);
            Bench.same("it is gone below", x.back(1), 1);
            Bench.same("on the belt", x.total(15), 0);
            Bench.same("not twice", x.back(1), 0);
        }
    }

    private static void twoUnknownCodes() {
        int[][] codes = {{98, 99}, {11, 99}, {99, 11}, {98, 98, 99}, {98, 98, 98}};
        for (int i = 0; i < codes.length; i++) {
            BottleReturn x = Bench.stocked();
            x.enter(10);
            x.forward(15);
            for (int code : codes[i]) {
                x.code(code);
            }
            x.forward(55);
            Bench.same("codes " + i, Bench.judgement(x, 1), i < 4 ? 2 : 3);
        }
    }

    /**
     * A machine for which all of 6 to 9 hold; then one after the other is mended. More than 512 calls:
     * no shorter run can come to 60 vouchers.
     */
    private static void reasonsInTheirOrder() {
        BottleReturn x = Bench.stocked();
        x.empty(2, 200);
        for (int i = 0; i < 57; i++) {
            Bench.binGood(x, 13, 1 + i % 8);
            x.voucher();
        }
        for (int i = 0; i < 3; i++) {
            Bench.binGood(x, 13, 0);
            x.voucher();
        }
        x.empty(0, 0);
        x.enter(10);
        x.forward(60);
        x.back(300);
        Bench.same("kept", x.total(14), 60);
        Bench.same("suspicious", x.total(18), 1);
        Bench.same("1", judged(x, new int[0], new int[0], 9), 1);
        Bench.same("2", judged(x, new int[] {98, 99}, new int[0], 9), 2);
        Bench.same("3", judged(x, new int[] {98}, new int[0], 9), 3);
        Bench.same("4", judged(x, new int[] {11}, new int[0], 9), 4);
        Bench.same("5", judged(x, new int[] {11}, new int[0], 10), 5);
        Bench.same("6", judged(x, new int[] {11}, Bench.PLAIN, 10), 6);
        x.empty(0, 1);
        Bench.same("7", judged(x, new int[] {11}, Bench.PLAIN, 10), 7);
        x.redeem(1);
        x.clear();
        Bench.same("8", judged(x, new int[] {11}, Bench.PLAIN, 10), 8);
        x.service();
        Bench.same("9", judged(x, new int[] {11}, Bench.PLAIN, 10), 9);
        x.service();
        Bench.same("accepted", judged(x, new int[] {11}, Bench.variant(1), 10), 10);
        for (int reason = 1; reason <= 9; reason++) {
            Bench.same("total(" + reason + ")", x.total(reason), 1);
        }
    }

    /** The judgement; then it goes back. */
    private static int judged(BottleReturn x, int[] codes, int[] widths, int grams) {
        int number = x.enter(40);
        x.forward(46);
        for (int code : codes) {
            x.code(code);
        }
        for (int width : widths) {
            x.width(width);
        }
        x.weigh(grams);
        x.forward(54);
        int judgement = Bench.judgement(x, number);
        x.back(300);
        return judgement;
    }

    private static void thirtyInABin() {
        BottleReturn x = new BottleReturn();
        int calls = 2;
        x.contour(0, Bench.SIXTIES, Bench.SIXTIES, 8);
        x.kind(0, 11, 8, 1, 10, 100, 0);
        for (int i = 0; i < 38; i++) {
            if (i < 31) {
                x.enter(5);
            }
            x.forward(15);
            boolean code = x.code(11);
            boolean weight = x.weigh(50);
            for (int width = 0; width < 8 && i > 0 && i < 32; width++) {
                x.width(Bench.variant(i)[width]);
            }
            Bench.yes("codes", code == i < 31);
            Bench.yes("weights", weight == (i >= 2 && i < 33));
            calls += 12;
        }
        Bench.yes("within 512 calls", calls <= 512);
        Bench.same("in the bin", x.bin(1, 0), 30);
        Bench.same("paid", x.total(10), 30);
        Bench.same("the 31st is refused", x.total(6), 1);
        Bench.same("it is on the belt", x.belt(0), 31);
        Bench.same("for no room", Bench.judgement(x, 31), 6);
    }

    private static void lastRoom() {
        for (int room = 0; room <= 3; room++) {
            BottleReturn x = Bench.stocked();
            x.empty(0, room);
            int[] due = new int[4];
            for (int i = 0; i < 4; i++) {
                int number = Bench.judgeGood(x, 11, i);
                due[i] = Bench.judgement(x, number);
                x.forward(50);
                x.back(300);
                x.service();
            }
            for (int i = 0; i < 4; i++) {
                Bench.same("room " + room + ", container " + i, due[i], i < room ? 10 : 6);
            }
            Bench.same("in the bin", x.bin(0, 0), room);
        }
    }

    private static void refusedTakesNoRoom() {
        BottleReturn x = Bench.stocked();
        x.kind(0, 11, 8, 0, 60, 100, 0);
        x.kind(1, 12, 500, 0, 10, 50, 0);
        x.empty(0, 1);
        Bench.pair(x, 15, 10, 5);
        x.forward(20);
        Bench.same("the first is refused for its weight", Bench.judgement(x, 1), 4);
        Bench.same("the second has the room", Bench.judgement(x, 2), 10);
    }

    /** Both are for one room; the first, accepted, goes back as far as rear 60 or 59. */
    private static void goneBackTakesNoRoom() {
        for (int back = 5; back <= 6; back++) {
            BottleReturn x = Bench.stocked();
            x.kind(1, 12, 500, 0, 10, 100, 0);
            x.empty(0, 1);
            Bench.pair(x, 30, 10, 5);
            x.back(back);
            boolean keeps = back == 5;
            Bench.same("rear of the first", x.container(1, 0) - 10, keeps ? 60 : 59);
            x.forward(20 + back);
            Bench.same("the first, back by " + back, Bench.judgement(x, 1), keeps ? 10 : 1);
            Bench.same("the second, back by " + back, Bench.judgement(x, 2), keeps ? 6 : 10);
        }
    }

    private static void judgedAtFiftySteps() {
        for (int more = 0; more <= 1; more++) {
            BottleReturn x = Bench.stocked();
            int number = Bench.readGood(x, 11, 0);
            for (int i = 0; i < 5; i++) {
                x.back(10);
                x.forward(10);
            }
            x.back(more);
            x.forward(25 + more);
            Bench.same(50 + more + " steps back", Bench.judgement(x, number), more == 0 ? 10 : 8);
            Bench.same("suspicious", x.total(18), more);
            Bench.same("total(8)", x.total(8), more);
        }
    }

    /** Which of a row of variants is refused, each brought into its bin if it is accepted. */
    private static String alike(int... variants) {
        BottleReturn x = Bench.stocked();
        StringBuilder all = new StringBuilder();
        for (int variant : variants) {
            int number = Bench.judgeGood(x, 11, variant);
            all.append(Bench.judgement(x, number) == 10 ? '+' : (char) ('0' + Bench.judgement(x, number)));
            x.forward(50);
            x.back(300);
            x.service();
        }
        return all.toString();
    }

    private static void alikeToEachOfThree() {
        Bench.yes("three, then one", alike(0, 0, 0, 0).equals("+++9"));
        Bench.yes("it stays so", alike(0, 0, 0, 0, 0).equals("+++99"));
        Bench.yes("another between", alike(0, 0, 1, 0, 0, 0, 0).equals("++++++9"));
        Bench.yes("another behind three", alike(0, 0, 0, 1, 0, 0, 0, 0).equals("+++++++9"));
        Bench.yes("a refused one is none of them", alike(0, 0, 0, 0, 1, 1, 1, 1).equals("+++9+++9"));
        Bench.yes("the first of three", alike(1, 0, 0, 0, 0).equals("++++9"));
        Bench.yes("two", alike(0, 0, 1, 1, 0, 0, 1, 1).equals("++++++++"));
    }

    private static void alikeAcrossKinds() {
        BottleReturn x = Bench.stocked();
        for (int i = 0; i < 4; i++) {
            int number = Bench.judgeGood(x, 11 + i % 3, 0);
            Bench.same("of another kind " + i, Bench.judgement(x, number), i < 3 ? 10 : 9);
            x.forward(50);
        }
    }

    private static void recordsOfFiveSorts() {
        BottleReturn x = Bench.stocked();
        x.cut(1000);
        int written = 0;
        Bench.judgeGood(x, 11, 0);
        Bench.same("accepted", x.total(19), ++written);
        x.forward(35);
        Bench.same("paid", x.total(19), ++written);
        x.forward(15);
        Bench.same("into the bin", x.total(19), ++written);
        x.voucher();
        Bench.same("voucher", x.total(19), ++written);
        Bench.binGood(x, 11, 1);
        x.give();
        written += 4;
        Bench.same("gift", x.total(19), written);
        x.voucher();
        x.give();
        x.redeem(1);
        x.redeem(1);
        x.clear();
        x.empty(0, 1);
        x.service();
        x.kind(4, 15, 1, 0, 0, 1, 0);
        x.contour(1, 0, 0, 0);
        x.power();
        x.enter(10);
        x.forward(15);
        x.code(11);
        x.forward(55);
        x.back(300);
        Bench.same("all else is no record", x.total(19), written);
        Bench.same("what is left of the cut", x.total(20), 1000 - written);
    }

    /** A voucher is the fourth record of a container's way. */
    private static void cutAtTheNthRecord() {
        int[] steps = {25, 60, 75, 300, 300};
        for (int n = 1; n <= 5; n++) {
            BottleReturn x = Bench.stocked();
            Bench.readGood(x, 12, 0);
            x.cut(n);
            Bench.same("steps with cut " + n, x.forward(300), steps[n - 1]);
            Bench.same("on behind the belt", x.total(16), n > 3 ? 1 : 0);
            if (n > 3) {
                Bench.same("voucher with cut " + n, x.voucher(), n - 4);
            }
            Bench.same("records with cut " + n, x.total(19), n - 1);
            Bench.same("on", x.total(16), n == 5 ? 1 : 0);
            Bench.same("left", x.total(20), n == 5 ? 1 : 0);
            Bench.same("credit", x.total(0), n == 3 || n == 4 ? 500 : 0);
            Bench.same("power", x.power(), n == 5 ? BottleReturn.NONE : n == 2 || n == 3 ? 1 : 0);
            Bench.same("cut behind power", x.total(20), n == 5 ? 1 : 0);
        }
    }

    /** The second's acceptance is not written when the first has its front at 104 or 105. */
    private static void powerAroundTheGate() {
        for (int distance = 39; distance <= 40; distance++) {
            BottleReturn x = Bench.stocked();
            Bench.pair(x, distance, 10, 5);
            x.cut(distance - 38);
            x.forward(300);
            int front = distance + 65;
            Bench.same("front of the first", x.container(1, 0), front);
            Bench.same("off", x.total(16), 0);
            Bench.same("power", x.power(), 0);
            Bench.same("judgement at " + front, Bench.judgement(x, 1), front < 105 ? 0 : 10);
            Bench.same("kind at " + front, x.container(1, 3), front < 105 ? BottleReturn.NONE : 0);
            Bench.same("codes at " + front, x.container(1, 5), front < 105 ? 0 : 1);
            Bench.same("widths at " + front, x.container(1, 6), front < 105 ? 0 : 8);
            Bench.same("blocked at " + front, x.total(17), front < 105 ? 1 : 0);
            Bench.same("steps from " + front, x.forward(15), front < 105 ? 0 : 15);
        }
    }

    private static void powerOnAnEmptyBelt() {
        BottleReturn x = Bench.stocked();
        Bench.binGood(x, 11, 0);
        x.cut(1);
        x.give();
        x.cut(1);
        Bench.same("no record", x.power(), 0);
        Bench.same("on", x.total(16), 1);
        Bench.same("the new cut is left", x.total(20), 1);
        Bench.same("on already", x.power(), BottleReturn.NONE);
        Bench.same("off again", x.give(), 0);
        Bench.same("power", x.power(), 0);
        Bench.same("the credit is there", x.give(), 8);
    }

    private static void numberOfAVoucher() {
        BottleReturn x = Bench.stocked();
        int[] codes = {11, 12, 13};
        int[] sums = {8, 500, 25};
        for (int i = 0; i < 30; i++) {
            x.empty(i % 3, 1);
            Bench.binGood(x, codes[i % 3], i);
            int serial = x.voucher();
            long number = x.about(serial, 1) * 100000000L + x.about(serial, 2);
            Bench.same("serial", number / 10000000000L, serial);
            Bench.same("sum", number / 10000 % 1000000, sums[i % 3]);
            Bench.same("37", number / 100 % 100, 37);
            Bench.same("modulo 97", number % 97, 1);
            Bench.yes("02 to 98", number % 100 >= 2 && number % 100 <= 98);
            Bench.yes("it checks itself", x.check(x.about(serial, 1), x.about(serial, 2)));
            for (int other = 0; other <= 99; other++) {
                int low = x.about(serial, 2) - (int) (number % 100) + other;
                boolean right = (other - number % 100) % 97 == 0;
                Bench.yes("last digits " + other, x.check(x.about(serial, 1), low) == right);
            }
        }
    }
}
