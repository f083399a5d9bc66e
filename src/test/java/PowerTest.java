/** Promises 16 and 17, and the journal: cut, power, and what each record not written leaves. */
public final class PowerTest {
    public static void main(String[] args) {
        cutArguments();
        cutCountsDown();
        cutIsTakenBack();
        cutAtAcceptance();
        cutAtPayment();
        cutAtTheBin();
        cutAtVoucher();
        cutAtGift();
        nothingBehindTheCut();
        noRefusalBehindTheCut();
        powerForgets();
        powerKeepsAtPayment();
        powerFreesRoom();
        powerPaysThenBins();
        powerIsCut();
        suspicionIsKept();
        notAcceptedIsNotLatest();
        likenessIsKept();
        blockedWhileOff();
        Bench.end();
    }

    private static void cutArguments() {
        BottleReturn x = new BottleReturn();
        Bench.badArgument(x, "cut -1", () -> x.cut(-1));
        Bench.badArgument(x, "cut 1001", () -> x.cut(1001));
        x.cut(1000);
        Bench.same("cut 1000", x.total(20), 1000);
        x.cut(0);
        Bench.same("cut 0", x.total(20), 0);
        Bench.same("power while it is on", x.power(), BottleReturn.NONE);
        Bench.same("it is on", x.total(16), 1);
    }

    private static void cutCountsDown() {
        BottleReturn x = Bench.stocked();
        x.cut(5);
        Bench.binGood(x, 11, 0);
        Bench.same("left of it behind three records", x.total(20), 2);
        Bench.same("records", x.total(19), 3);
        Bench.same("voucher", x.voucher(), 1);
        Bench.same("left of it", x.total(20), 1);
        Bench.same("without credit there is no record", x.voucher() + x.give(), 0);
        Bench.same("it is on", x.total(16), 1);
        int number = Bench.readGood(x, 11, 1);
        Bench.same("the step in which it goes off", x.forward(300), 25);
        Bench.same("it is off", x.total(16), 0);
        Bench.same("left of it", x.total(20), 0);
        Bench.same("records", x.total(19), 4);
        Bench.same("front", x.container(number, 0), 70);
    }

    private static void cutIsTakenBack() {
        BottleReturn x = Bench.stocked();
        x.cut(1);
        x.cut(0);
        Bench.binGood(x, 11, 0);
        Bench.same("it is on", x.total(16), 1);
        x.cut(1);
        x.cut(2);
        Bench.same("give", x.give(), 8);
        Bench.same("left of it", x.total(20), 1);
    }

    private static void cutAtAcceptance() {
        BottleReturn x = Bench.stocked();
        int number = Bench.readGood(x, 11, 0);
        x.cut(1);
        Bench.same("steps", x.forward(100), 25);
        Bench.same("front went up", x.container(number, 0), 70);
        Bench.same("judgement", Bench.judgement(x, number), 0);
        Bench.same("kind", x.container(number, 3), BottleReturn.NONE);
        Bench.same("readings stay until power()", x.container(number, 6), 8);
        Bench.same("power", x.power(), 0);
        Bench.same("readings", x.container(number, 5) + x.container(number, 6), 0);
        Bench.same("power again", x.power(), BottleReturn.NONE);
        Bench.same("it is never judged", x.forward(100), 34);
        Bench.same("but blocks", x.total(17), 1);
        Bench.same("not judged", Bench.judgement(x, number), 0);
    }

    private static void cutAtPayment() {
        BottleReturn x = Bench.stocked();
        int number = Bench.readGood(x, 12, 0);
        x.cut(2);
        Bench.same("steps", x.forward(100), 60);
        Bench.same("front", x.container(number, 0), 105);
        Bench.same("paid", x.container(number, 4), 0);
        Bench.same("accepted", Bench.judgement(x, number), 10);
        Bench.same("credit", x.total(0), 0);
        Bench.same("power", x.power(), 1);
        Bench.same("paid then", x.container(number, 4), 1);
        Bench.same("credit then", x.total(0), 500);
        Bench.same("still accepted", Bench.judgement(x, number), 10);
        Bench.same("its kind", x.container(number, 3), 1);
        Bench.same("its readings", x.container(number, 6), 8);
        x.forward(15);
        Bench.same("bin", x.bin(1, 0), 1);
        Bench.same("paid once", x.total(10), 1);
        Bench.same("paid in all", x.total(11), 500);
    }

    private static void cutAtTheBin() {
        BottleReturn x = Bench.stocked();
        int number = Bench.readGood(x, 13, 0);
        x.cut(3);
        Bench.same("steps", x.forward(100), 75);
        Bench.same("rear", x.container(number, 0) - x.container(number, 1), 110);
        Bench.same("bin", x.bin(2, 0), 0);
        Bench.same("credit", x.total(0), 25);
        Bench.same("records", x.total(19), 2);
        Bench.same("power", x.power(), 1);
        Bench.same("bin then", x.bin(2, 0), 1);
        Bench.same("belt", x.belt(0), BottleReturn.NONE);
        Bench.same("credit then", x.total(0), 25);
        Bench.same("records then", x.total(19), 3);
    }

    private static void cutAtVoucher() {
        BottleReturn x = Bench.stocked();
        Bench.binGood(x, 13, 0);
        x.cut(1);
        Bench.same("voucher", x.voucher(), 0);
        Bench.same("it is off", x.total(16), 0);
        Bench.same("credit", x.total(0), 25);
        Bench.same("kept", x.total(14), 0);
        Bench.same("in vouchers", x.total(12), 0);
        Bench.same("power", x.power(), 0);
        Bench.same("no serial was lost", x.voucher(), 1);
        Bench.same("sum", x.about(1, 0), 25);
    }

    private static void cutAtGift() {
        BottleReturn x = Bench.stocked();
        Bench.binGood(x, 13, 0);
        x.cut(1);
        Bench.same("give", x.give(), 0);
        Bench.same("it is off", x.total(16), 0);
        Bench.same("given", x.total(13), 0);
        x.power();
        Bench.same("give then", x.give(), 25);
    }

    private static void nothingBehindTheCut() {
        BottleReturn x = Bench.stocked();
        Bench.pair(x, 40, 30, 5);
        x.forward(19);
        Bench.same("front of 1", x.container(1, 0), 104);
        Bench.same("rear of 2", x.container(2, 0) - 5, 59);
        x.cut(1);
        Bench.same("the payment is cut", x.forward(3), 1);
        Bench.same("1 is not paid", x.container(1, 4), 0);
        Bench.same("front of 2 went up", x.container(2, 0), 65);
        Bench.same("2 is not judged behind that", Bench.judgement(x, 2), 0);
        Bench.same("its code is there", x.container(2, 5), 1);
        Bench.same("power pays 1", x.power(), 1);
        Bench.same("the code of 2 is forgotten", x.container(2, 5), 0);
        Bench.same("2 is not judged by that", Bench.judgement(x, 2), 0);
        x.back(1);
        x.forward(1);
        Bench.same("judged at last", Bench.judgement(x, 2), 1);
    }

    private static void noRefusalBehindTheCut() {
        BottleReturn x = Bench.stocked();
        x.empty(1, 0);
        Bench.pair(x, 40, 30, 5);
        x.forward(19);
        x.cut(1);
        x.forward(1);
        Bench.same("no refusal behind the cut", x.total(6), 0);
        BottleReturn y = Bench.stocked();
        y.empty(1, 0);
        Bench.pair(y, 40, 30, 5);
        y.forward(19);
        y.cut(2);
        y.forward(1);
        Bench.same("a refusal without the cut", y.total(6), 1);
    }

    private static void powerForgets() {
        BottleReturn x = Bench.stocked();
        Bench.pair(x, 39, 10, 5);
        x.cut(1);
        Bench.same("off at the judging of 2", x.forward(300), 20);
        Bench.same("front of 1", x.container(1, 0), 104);
        Bench.same("1 is accepted while it is off", Bench.judgement(x, 1), 10);
        Bench.same("not blocked by it", x.total(17), 0);
        Bench.same("power", x.power(), 0);
        Bench.same("1 lost its judgement", Bench.judgement(x, 1), 0);
        Bench.same("and its kind", x.container(1, 3), BottleReturn.NONE);
        Bench.same("and its readings", x.container(1, 5) + x.container(1, 6), 0);
        Bench.same("blocked by it", x.total(17), 1);
        Bench.same("no step", x.forward(300), 0);
        Bench.same("records", x.total(19), 1);
    }

    private static void powerKeepsAtPayment() {
        BottleReturn x = Bench.stocked();
        Bench.pair(x, 40, 10, 5);
        x.cut(2);
        Bench.same("off at the judging of 2", x.forward(300), 20);
        Bench.same("front of 1", x.container(1, 0), 105);
        Bench.same("1 is paid", x.container(1, 4), 1);
        Bench.same("power", x.power(), 0);
        Bench.same("1 is accepted still", Bench.judgement(x, 1), 10);
        Bench.same("with its readings", x.container(1, 5) + x.container(1, 6), 9);
        Bench.same("2 is not", x.container(2, 5) + x.container(2, 6), 0);
        x.forward(15);
        Bench.same("1 comes into its bin", x.bin(0, 0), 1);
    }

    private static void powerFreesRoom() {
        BottleReturn x = Bench.stocked();
        x.kind(1, 12, 500, 0, 10, 100, 0);
        x.empty(0, 2);
        Bench.pair(x, 30, 10, 5);
        x.cut(1);
        x.forward(300);
        x.power();
        x.back(300);
        x.service();
        Bench.pair(x, 30, 10, 5);
        x.forward(20);
        Bench.same("both accepted then", Bench.judgement(x, 3) + Bench.judgement(x, 4), 20);
    }

    private static void powerPaysThenBins() {
        BottleReturn x = Bench.stocked();
        Bench.pair(x, 45, 40, 40);
        x.forward(59);
        Bench.same("front of 1", x.container(1, 0), 149);
        Bench.same("front of 2", x.container(2, 0), 104);
        Bench.same("2 is accepted", Bench.judgement(x, 2), 10);
        x.cut(1);
        Bench.same("step", x.forward(300), 1);
        Bench.same("1 is on the belt", x.belt(0), 1);
        Bench.same("2 is not paid, though at 105", x.container(2, 4), 0);
        Bench.same("credit", x.total(0), 8);
        x.cut(2);
        Bench.same("power pays 2, and is cut at the bin", x.power(), 1);
        Bench.same("credit then", x.total(0), 508);
        Bench.same("2 is paid", x.container(2, 4), 1);
        Bench.same("1 is on the belt still", x.belt(0), 1);
        Bench.same("it is off", x.total(16), 0);
        Bench.same("cut", x.total(20), 0);
        Bench.same("power bins 1", x.power(), 1);
        Bench.same("bin", x.bin(0, 0), 1);
        Bench.same("belt", x.belt(0), 2);
        Bench.same("2 is accepted still", Bench.judgement(x, 2), 10);
        x.forward(40);
        Bench.same("front of 2", x.container(2, 0), 145);
        x.forward(5);
        Bench.same("bin of 2", x.bin(1, 0), 1);
        Bench.same("paid", x.total(10), 2);
        Bench.same("paid cents", x.total(11), 508);
        Bench.same("records", x.total(19), 6);
        bothInOnePower();
    }

    private static void bothInOnePower() {
        BottleReturn x = Bench.stocked();
        Bench.pair(x, 45, 40, 40);
        x.forward(59);
        x.cut(1);
        x.forward(1);
        x.cut(3);
        Bench.same("power", x.power(), 2);
        Bench.same("cut", x.total(20), 1);
        Bench.same("credit", x.total(0), 508);
        Bench.same("bin", x.bin(0, 0), 1);
        Bench.same("it is on", x.total(16), 1);
    }

    private static void powerIsCut() {
        BottleReturn x = Bench.stocked();
        Bench.readGood(x, 11, 0);
        x.cut(2);
        x.forward(300);
        x.cut(1);
        Bench.same("cut while it is off", x.total(20), 1);
        Bench.same("power", x.power(), 0);
        Bench.same("off anew", x.total(16), 0);
        Bench.same("cut", x.total(20), 0);
        Bench.same("credit", x.total(0), 0);
        Bench.same("power", x.power(), 1);
        Bench.same("credit then", x.total(0), 8);
        Bench.same("on", x.total(16), 1);
    }

    private static void suspicionIsKept() {
        BottleReturn x = Bench.stocked();
        Bench.judgeGood(x, 11, 0);
        x.forward(30);
        x.back(30);
        x.forward(30);
        x.back(30);
        Bench.same("suspicious", x.total(18), 1);
        x.cut(2);
        x.forward(300);
        Bench.same("off at the bin", x.container(1, 0), 120);
        Bench.same("suspicious while off", x.total(18), 1);
        x.cut(1);
        x.power();
        Bench.same("suspicious still", x.total(18), 1);
        x.power();
        Bench.same("not behind the bin", x.total(18), 0);
    }

    private static void notAcceptedIsNotLatest() {
        BottleReturn x = Bench.stocked();
        for (int i = 0; i < 3; i++) {
            x.cut(1);
            Bench.judgeGood(x, 11, 0);
            Bench.same("off", x.total(16), 0);
            x.power();
            x.back(300);
            x.service();
        }
        for (int i = 0; i < 3; i++) {
            int number = Bench.judgeGood(x, 11, 0);
            Bench.same("accepted " + i, Bench.judgement(x, number), 10);
            x.forward(50);
        }
        int number = Bench.judgeGood(x, 11, 0);
        Bench.same("the fourth", Bench.judgement(x, number), 9);
    }

    private static void likenessIsKept() {
        BottleReturn x = Bench.stocked();
        for (int i = 0; i < 3; i++) {
            Bench.binGood(x, 11, 0);
        }
        x.cut(1);
        Bench.same("give", x.give(), 0);
        Bench.same("power", x.power(), 0);
        Bench.same("the fourth alike", Bench.judgement(x, Bench.judgeGood(x, 11, 0)), 9);
    }

    private static void blockedWhileOff() {
        BottleReturn x = Bench.stocked();
        Bench.binGood(x, 11, 0);
        x.enter(10);
        Bench.same("steps", x.forward(300), 104);
        x.cut(1);
        Bench.same("voucher", x.voucher(), 0);
        Bench.same("it is off", x.total(16), 0);
        Bench.same("blocked while off", x.total(17), 1);
        Bench.same("power", x.power(), 0);
        Bench.same("still blocked", x.total(17), 1);
        Bench.same("no step", x.forward(1), 0);
        x.back(1);
        Bench.same("not blocked at 103", x.total(17), 0);
    }
}
