/** Promises 10 to 15, 18, 19, 22, 23: vouchers, gifts, bins, service and what is told of them. */
public final class MoneyTest {
    public static void main(String[] args) {
        voucherTakesTheCredit();
        giveTakesTheCredit();
        redeemOnce();
        clearForgets();
        clearKeepsTheOthers();
        sixtyVouchers();
        numbers();
        sumsAroundTenThousand();
        check();
        about();
        emptyBins();
        service();
        binArguments();
        totalArguments();
        offComesFirst();
        offWithAnEmptyBelt();
        Bench.end();
    }

    private static void voucherTakesTheCredit() {
        BottleReturn x = Bench.stocked();
        Bench.same("voucher without credit", x.voucher(), 0);
        Bench.same("no record of that", x.total(19), 0);
        Bench.binGood(x, 12, 0);
        Bench.binGood(x, 13, 1);
        Bench.same("credit", x.total(0), 525);
        Bench.same("voucher", x.voucher(), 1);
        Bench.same("credit then", x.total(0), 0);
        Bench.same("sum", x.about(1, 0), 525);
        Bench.same("records", x.total(19), 7);
        Bench.same("in vouchers", x.total(12), 525);
        Bench.same("kept", x.total(14), 1);
        Bench.same("voucher without new credit", x.voucher(), 0);
        Bench.binGood(x, 11, 2);
        Bench.same("second voucher", x.voucher(), 2);
        Bench.same("in vouchers", x.total(12), 533);
        Bench.same("given away", x.total(13), 0);
        Bench.same("paid in all", x.total(11), 533);
        Bench.same("how many were paid", x.total(10), 3);
    }

    private static void giveTakesTheCredit() {
        BottleReturn x = Bench.stocked();
        Bench.same("give without credit", x.give(), 0);
        Bench.same("no record of that", x.total(19), 0);
        Bench.binGood(x, 13, 0);
        Bench.same("give", x.give(), 25);
        Bench.same("give again", x.give(), 0);
        Bench.same("credit", x.total(0), 0);
        Bench.same("records", x.total(19), 4);
        Bench.binGood(x, 11, 1);
        Bench.same("give more", x.give(), 8);
        Bench.same("given away", x.total(13), 33);
        Bench.same("in vouchers", x.total(12), 0);
        Bench.same("kept", x.total(14), 0);
    }

    private static BottleReturn withVouchers(int count) {
        BottleReturn x = Bench.stocked();
        x.empty(2, 200);
        for (int i = 1; i <= count; i++) {
            Bench.binGood(x, 13, i);
            Bench.same("serial", x.voucher(), i);
        }
        return x;
    }

    private static void redeemOnce() {
        BottleReturn x = withVouchers(2);
        int records = x.total(19);
        Bench.badArgument(x, "redeem 0", () -> x.redeem(0));
        Bench.badArgument(x, "redeem 3", () -> x.redeem(3));
        Bench.badArgument(x, "redeem -1", () -> x.redeem(-1));
        Bench.same("redeem", x.redeem(2), 25);
        Bench.same("redeem again", x.redeem(2), 0);
        Bench.same("redeemed", x.about(2, 3), 1);
        Bench.same("the other is not", x.about(1, 3), 0);
        Bench.same("it is still kept", x.total(14), 2);
        Bench.same("no record of that", x.total(19), records);
        Bench.same("in vouchers", x.total(12), 50);
    }

    private static void clearForgets() {
        BottleReturn x = withVouchers(1);
        Bench.same("nothing to forget", x.clear(), 0);
        Bench.same("kept", x.total(14), 1);
        x.redeem(1);
        Bench.same("clear", x.clear(), 1);
        Bench.same("kept", x.total(14), 0);
        Bench.same("in vouchers in all", x.total(12), 25);
        Bench.badArgument(x, "redeem a forgotten one", () -> x.redeem(1));
        Bench.badArgument(x, "about a forgotten one", () -> x.about(1, 0));
        Bench.binGood(x, 11, 5);
        Bench.same("serials go on", x.voucher(), 2);
        Bench.same("a new one is not redeemed", x.about(2, 3), 0);
    }

    private static void clearKeepsTheOthers() {
        BottleReturn x = Bench.stocked();
        for (int i = 1; i <= 5; i++) {
            Bench.binGood(x, 10 + (i - 1) % 3 + 1, i);
            x.voucher();
        }
        x.redeem(1);
        x.redeem(4);
        Bench.same("clear", x.clear(), 2);
        Bench.same("clear again", x.clear(), 0);
        Bench.same("sum of 2", x.about(2, 0), 500);
        Bench.same("sum of 3", x.about(3, 0), 25);
        Bench.same("sum of 5", x.about(5, 0), 500);
        Bench.same("redeem 3", x.redeem(3), 25);
        Bench.same("2 was not redeemed", x.about(2, 3), 0);
        Bench.same("5 was not redeemed", x.about(5, 3), 0);
        Bench.badArgument(x, "redeem 4", () -> x.redeem(4));
    }

    /** More than 512 calls: no shorter run can reach 60 vouchers. */
    private static void sixtyVouchers() {
        BottleReturn x = withVouchers(59);
        Bench.readGood(x, 13, 60);
        Bench.readGood(x, 13, 61);
        x.forward(25);
        Bench.same("60th", x.voucher(), 60);
        x.forward(35);
        int records = x.total(19);
        Bench.same("credit", x.total(0), 25);
        Bench.same("no 61st", x.voucher(), 0);
        Bench.same("no record of that", x.total(19), records);
        Bench.same("the credit stays", x.total(0), 25);
        Bench.badArgument(x, "redeem 61 with 60 kept", () -> x.redeem(61));
        Bench.badArgument(x, "about 61 with 60 kept", () -> x.about(61, 0));
        Bench.same("the 60th", x.about(60, 0), 25);
        x.redeem(30);
        Bench.same("no 61st while the redeemed is kept", x.voucher(), 0);
        x.clear();
        Bench.same("61st", x.voucher(), 61);
    }

    private static void numbers() {
        BottleReturn x = new BottleReturn();
        x.contour(0, Bench.SIXTIES, Bench.SIXTIES, 8);
        int[] seen = new int[100];
        for (int i = 1; i <= 300; i++) {
            x.kind(0, 11, 1 + i * 37 % 500, 0, 10, 100, 0);
            x.empty(0, 1);
            Bench.binGood(x, 11, i);
            int sum = x.total(0);
            int serial = x.voucher();
            int high = x.about(serial, 1);
            int low = x.about(serial, 2);
            String digits = String.format("%08d%08d", high, low);
            String due = String.format("%06d%06d37", serial, sum);
            Bench.yes("digits of " + digits, digits.startsWith(due) && digits.length() == 16);
            Bench.same("modulo 97 of " + digits, Long.parseLong(digits) % 97, 1);
            Bench.yes("two last digits of " + digits, low % 100 >= 2 && low % 100 <= 98);
            Bench.yes("check of " + digits, x.check(high, low));
            seen[low % 100]++;
            x.redeem(serial);
            x.clear();
        }
        Bench.yes("a number that ends in 02", seen[2] > 0);
        Bench.yes("a number that ends in 98", seen[98] > 0);
    }

    /** The sum's six digits are parted: two are among the eight first ones, four among the last. */
    private static void sumsAroundTenThousand() {
        int[] sums = {1, 99, 100, 9999, 10000, 10001, 19999, 20000};
        int[] first = {100, 100, 100, 100, 101, 101, 101, 102};
        int[] last = {137, 9937, 10037, 999937, 37, 137, 999937, 37};
        for (int i = 0; i < sums.length; i++) {
            BottleReturn x = new BottleReturn();
            x.contour(0, Bench.SIXTIES, Bench.SIXTIES, 8);
            x.empty(0, 200);
            for (int left = sums[i]; left > 0; left -= Math.min(left, 500)) {
                x.kind(0, 11, Math.min(left, 500), 0, 10, 100, 0);
                Bench.binGood(x, 11, left / 500);
            }
            x.voucher();
            Bench.same("sum", x.about(1, 0), sums[i]);
            Bench.same("first digits with sum " + sums[i], x.about(1, 1), first[i]);
            Bench.same("last but two with sum " + sums[i], x.about(1, 2) / 100, last[i]);
            Bench.yes("check with sum " + sums[i], x.check(x.about(1, 1), x.about(1, 2)));
        }
    }

    private static void check() {
        BottleReturn x = new BottleReturn();
        Bench.badArgument(x, "high -1", () -> x.check(-1, 0));
        Bench.badArgument(x, "high 100000000", () -> x.check(100000000, 0));
        Bench.badArgument(x, "low -1", () -> x.check(0, -1));
        Bench.badArgument(x, "low 100000000", () -> x.check(0, 100000000));
        Bench.yes("000001 000025 37 04", x.check(100, 253704));
        Bench.no("check digits 05", x.check(100, 253705));
        Bench.no("38 in place of 37", x.check(100, 253804));
        Bench.no("another digit", x.check(200, 253704));
        Bench.no("0", x.check(0, 0));
        Bench.no("1: 1 modulo 97, but no 37", x.check(0, 1));
        Bench.no("1 modulo 97, but no 37", x.check(99999999, lowWith(99999999, 36)));
        Bench.yes("greatest first digits", x.check(99999999, lowWith(99999999, 37)));
        Bench.yes("least first digits", x.check(0, lowWith(0, 37)));
    }

    /** Eight last digits with these two at the place of the 37 that make the number 1 modulo 97. */
    private static int lowWith(int high, int mark) {
        for (int last = 2; last <= 98; last++) {
            int low = 99990000 + mark * 100 + last;
            if ((high * 100000000L + low) % 97 == 1) {
                return low;
            }
        }
        return 0;
    }

    private static void about() {
        BottleReturn x = withVouchers(2);
        Bench.badArgument(x, "about 0", () -> x.about(0, 0));
        Bench.badArgument(x, "about 3", () -> x.about(3, 0));
        Bench.badArgument(x, "what -1", () -> x.about(1, -1));
        Bench.badArgument(x, "what 4", () -> x.about(1, 4));
        Bench.same("first digits", x.about(1, 1), 100);
        Bench.same("last digits", x.about(1, 2), 253704);
        Bench.same("first digits of 2", x.about(2, 1), 200);
    }

    private static void emptyBins() {
        BottleReturn x = Bench.stocked();
        Bench.badArgument(x, "bin -1", () -> x.empty(-1, 1));
        Bench.badArgument(x, "bin 3", () -> x.empty(3, 1));
        Bench.badArgument(x, "room -1", () -> x.empty(0, -1));
        Bench.badArgument(x, "room 201", () -> x.empty(0, 201));
        Bench.binGood(x, 12, 0);
        Bench.binGood(x, 12, 1);
        Bench.same("empty", x.empty(1, 200), 2);
        Bench.same("empty again", x.empty(1, 0), 0);
        Bench.same("what it has", x.bin(1, 0), 0);
        Bench.same("its room", x.bin(1, 1), 0);
        Bench.same("room of another", x.bin(0, 1), 30);
        x.empty(1, 1);
        Bench.judgeGood(x, 12, 2);
        Bench.same("emptied with one on the belt", x.empty(1, 0), 0);
        x.forward(50);
        Bench.same("the accepted one comes in still", x.bin(1, 0), 1);
    }

    private static void service() {
        BottleReturn x = Bench.stocked();
        Bench.no("service of a new one", x.service());
        x.enter(5);
        Bench.badState(x, "service with a container", () -> x.service());
        x.forward(29);
        x.back(30);
        Bench.no("service at 30 steps", x.service());
        x.enter(5);
        x.forward(29);
        x.back(30);
        Bench.same("counted anew", x.total(18), 0);
        x.enter(5);
        x.forward(20);
        x.back(20);
        Bench.same("50 steps", x.total(18), 0);
        x.back(1);
        Bench.yes("service at 51 steps", x.service());
        Bench.no("service again", x.service());
    }

    private static void binArguments() {
        BottleReturn x = new BottleReturn();
        Bench.badArgument(x, "bin -1", () -> x.bin(-1, 0));
        Bench.badArgument(x, "bin 3", () -> x.bin(3, 0));
        Bench.badArgument(x, "what -1", () -> x.bin(0, -1));
        Bench.badArgument(x, "what 2", () -> x.bin(0, 2));
        x.empty(2, 200);
        Bench.same("room 200", x.bin(2, 1), 200);
    }

    private static void totalArguments() {
        BottleReturn x = new BottleReturn();
        Bench.badArgument(x, "total -1", () -> x.total(-1));
        Bench.badArgument(x, "total 21", () -> x.total(21));
        x.enter(5);
        x.forward(9);
        x.enter(5);
        Bench.same("containers on the belt", x.total(15), 2);
    }

    private static void offComesFirst() {
        BottleReturn x = withVouchers(1);
        x.redeem(1);
        x.cut(1);
        Bench.judgeGood(x, 11, 5);
        Bench.badState(x, "voucher", () -> x.voucher());
        Bench.badState(x, "give", () -> x.give());
        Bench.badState(x, "redeem", () -> x.redeem(1));
        Bench.badState(x, "bad redeem", () -> x.redeem(2));
        Bench.badState(x, "clear", () -> x.clear());
        Bench.badState(x, "empty", () -> x.empty(0, 1));
        Bench.badState(x, "bad empty", () -> x.empty(3, 1));
        Bench.badState(x, "service", () -> x.service());
        Bench.same("about while it is off", x.about(1, 0), 25);
        Bench.yes("check while it is off", x.check(100, 253704));
        Bench.same("bin while it is off", x.bin(2, 0), 1);
        Bench.same("total while it is off", x.total(14), 1);
        Bench.badArgument(x, "bad about", () -> x.about(2, 0));
        Bench.badArgument(x, "bad check", () -> x.check(-1, 0));
        Bench.badArgument(x, "bad bin", () -> x.bin(3, 0));
        Bench.badArgument(x, "bad total", () -> x.total(21));
        Bench.badArgument(x, "bad container", () -> x.container(99, 0));
    }

    private static void offWithAnEmptyBelt() {
        BottleReturn x = Bench.stocked();
        Bench.binGood(x, 11, 0);
        x.cut(1);
        x.voucher();
        Bench.same("belt", x.belt(0), BottleReturn.NONE);
        Bench.badState(x, "service", () -> x.service());
        Bench.badState(x, "kind", () -> x.kind(0, 1, 1, 0, 0, 0, 0));
        Bench.badState(x, "enter", () -> x.enter(5));
    }
}
