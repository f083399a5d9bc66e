import java.util.ArrayList;
import java.util.List;
import java.util.Set;
import java.util.TreeMap;

/** The document once more, as near to its words as can be and without a thought of speed or room. */
final class Model implements Face {
    private static final Set<String> NEEDS_POWER = Set.of("contour", "kind", "enter", "code", "width",
        "weigh", "forward", "back", "voucher", "give", "redeem", "clear", "empty", "service");
    private static final int NONE = -1;

    private record Contour(List<Integer> widths, int limit) {
    }

    private record Kind(int code, int deposit, int bin, int low, int high, int contour) {
        Kind withoutCode() {
            return new Kind(NONE, deposit, bin, low, high, contour);
        }
    }

    /** Ends a call at the record that is not written. */
    private static final class PowerGone extends RuntimeException {
        private static final long serialVersionUID = 1;
    }

    private static final class One {
        int number;
        int length;
        int front;
        List<Integer> codes = new ArrayList<>();
        List<Integer> widths = new ArrayList<>();
        List<Integer> weight = new ArrayList<>();
        int judgement;
        int kind = NONE;
        boolean paid;

        int rear() {
            return front - length;
        }

        void lose() {
            codes.clear();
            widths.clear();
            weight.clear();
            judgement = 0;
            kind = NONE;
        }
    }

    private static final class Voucher {
        final int sum;
        final String number;
        boolean redeemed;

        Voucher(int serial, int sum) {
            this.sum = sum;
            int last = 2;
            while (Long.parseLong(withLast(serial, last)) % 97 != 1) {
                last++;
            }
            number = withLast(serial, last);
        }

        private String withLast(int serial, int last) {
            return String.format("%06d%06d37%02d", serial, sum, last);
        }
    }

    private final TreeMap<Integer, Contour> contours = new TreeMap<>();
    private final TreeMap<Integer, Kind> kinds = new TreeMap<>();
    private final TreeMap<Integer, One> belt = new TreeMap<>();
    private final TreeMap<Integer, Voucher> vouchers = new TreeMap<>();
    private final List<List<Integer>> accepted = new ArrayList<>();
    private final List<String> journal = new ArrayList<>();
    private final int[] held = new int[3];
    private final int[] rooms = {30, 30, 30};
    private final int[] refused = new int[10];
    private int entered;
    private int serials;
    private int credit;
    private int paid;
    private int cents;
    private int inVouchers;
    private int given;
    private int stepsBack;
    private int cut;
    private boolean on = true;

    @Override
    public int call(String name, int... a) {
        state(on || !NEEDS_POWER.contains(name));
        return switch (name) {
            case "contour" -> contour(a[0], a[1], a[2], a[3]);
            case "kind" -> kind(a);
            case "enter" -> enter(a[0]);
            case "code" -> read(within(a[0], 1, 999999), 15);
            case "width" -> read(within(a[0], 0, 255), 30);
            case "weigh" -> read(within(a[0], 0, 5000), 45);
            case "forward" -> forward(within(a[0], 0, 300));
            case "back" -> back(within(a[0], 0, 300));
            case "voucher" -> voucher();
            case "give" -> give();
            case "redeem" -> redeem(a[0]);
            case "clear" -> clear();
            case "empty" -> empty(within(a[0], 0, 2), within(a[1], 0, 200));
            case "service" -> service();
            case "cut" -> setCut(within(a[0], 0, 1000));
            case "power" -> power();
            case "check" -> check(within(a[0], 0, 99999999), within(a[1], 0, 99999999));
            case "about" -> about(a[0], a[1]);
            case "container" -> container(a[0], a[1]);
            case "belt" -> a[0] < 0 || a[0] >= belt.size() ? NONE : numbers().get(a[0]);
            case "bin" -> bin(within(a[0], 0, 2), within(a[1], 0, 1));
            case "total" -> total(within(a[0], 0, 20));
            default -> throw new AssertionError(name);
        };
    }

    /** For the steering of a run: the journal's records, as texts. */
    List<String> journal() {
        return journal;
    }

    private static void state(boolean right) {
        if (!right) {
            throw new IllegalStateException();
        }
    }

    private static void argument(boolean right) {
        if (!right) {
            throw new IllegalArgumentException();
        }
    }

    private static int within(int value, int least, int greatest) {
        argument(least <= value && value <= greatest);
        return value;
    }

    private List<Integer> numbers() {
        return new ArrayList<>(belt.keySet());
    }

    private List<One> ones() {
        return new ArrayList<>(belt.values());
    }

    private int contour(int contour, int first, int second, int limit) {
        within(contour, 0, 7);
        within(limit, 0, 2040);
        List<Integer> widths = new ArrayList<>();
        for (String four : List.of(String.format("%08x", first), String.format("%08x", second))) {
            for (int i = 0; i < 8; i += 2) {
                widths.add(Integer.parseInt(four.substring(i, i + 2), 16));
            }
        }
        contours.put(contour, new Contour(widths, limit));
        return 0;
    }

    private int kind(int[] a) {
        state(belt.isEmpty());
        within(a[0], 0, 39);
        within(a[1], 1, 999999);
        within(a[2], 1, 500);
        within(a[3], 0, 2);
        within(a[4], 0, 5000);
        within(a[5], 0, 5000);
        argument(a[4] <= a[5]);
        within(a[6], 0, 7);
        int before = kindWith(a[1]);
        if (before != NONE) {
            kinds.put(before, kinds.get(before).withoutCode());
        }
        kinds.put(a[0], new Kind(a[1], a[2], a[3], a[4], a[5], a[6]));
        return before;
    }

    private int kindWith(int code) {
        for (int kind : kinds.keySet()) {
            if (kinds.get(kind).code() == code) {
                return kind;
            }
        }
        return NONE;
    }

    private int enter(int length) {
        within(length, 5, 40);
        if (!belt.isEmpty() && belt.lastEntry().getValue().rear() < 4) {
            return 0;
        }
        One one = new One();
        one.number = ++entered;
        one.length = length;
        belt.put(one.number, one);
        return one.number;
    }

    private int read(int value, int place) {
        for (One one : ones()) {
            if (one.rear() < place && !(one.front < place)) {
                return place == 15 ? take(one.codes, 3, value)
                    : place == 30 ? take(one.widths, 8, value) : weigh(one, value);
            }
        }
        return 0;
    }

    private static int take(List<Integer> readings, int most, int value) {
        if (readings.size() == most) {
            return 0;
        }
        readings.add(value);
        return 1;
    }

    private static int weigh(One one, int grams) {
        one.weight.clear();
        return take(one.weight, 1, grams);
    }

    private boolean isBlocked() {
        return ones().stream().anyMatch(one -> one.front == 104 && one.judgement != 10);
    }

    private int forward(int n) {
        for (int done = 0; done < n; done++) {
            if (isBlocked()) {
                return done;
            }
            try {
                stepForward();
            } catch (PowerGone e) {
                return done + 1;
            }
        }
        return n;
    }

    private void stepForward() {
        for (One one : ones()) {
            one.front++;
        }
        for (One one : ones()) {
            if (one.rear() == 60) {
                judge(one);
            }
            if (one.front == 105) {
                pay(one);
            }
            if (one.rear() == 110) {
                comeIntoBin(one);
            }
        }
    }

    private int back(int n) {
        int gone = 0;
        for (int i = 0; i < n; i++) {
            List<One> moving = ones();
            moving.removeIf(one -> one.front >= 105);
            stepsBack += moving.isEmpty() ? 0 : 1;
            for (One one : moving) {
                one.front--;
                if (one.rear() == 59) {
                    one.lose();
                }
                if (one.front < 0) {
                    belt.remove(one.number);
                    gone++;
                }
            }
        }
        return gone;
    }

    private void judge(One one) {
        int reason = reason(one);
        if (reason == 0) {
            record("accepted");
            one.judgement = 10;
            one.kind = kindWith(one.codes.get(0));
            accepted.add(List.copyOf(one.widths));
        } else {
            one.judgement = reason;
            refused[reason]++;
        }
    }

    /** Why it is refused, or 0. */
    private int reason(One one) {
        if (one.codes.isEmpty()) {
            return 1;
        }
        if (Set.copyOf(one.codes).size() > 1) {
            return 2;
        }
        if (kindWith(one.codes.get(0)) == NONE) {
            return 3;
        }
        Kind kind = kinds.get(kindWith(one.codes.get(0)));
        if (one.weight.isEmpty() || one.weight.get(0) < kind.low() || one.weight.get(0) > kind.high()) {
            return 4;
        }
        Contour contour = contours.getOrDefault(kind.contour(), new Contour(List.of(0, 0, 0, 0, 0, 0, 0, 0), 0));
        if (one.widths.size() < 8 || apart(one.widths, contour.widths()) > contour.limit()) {
            return 5;
        }
        long coming = ones().stream()
            .filter(other -> other.judgement == 10 && kinds.get(other.kind).bin() == kind.bin()).count();
        if (held[kind.bin()] + coming >= rooms[kind.bin()]) {
            return 6;
        }
        if (vouchers.size() >= 60) {
            return 7;
        }
        if (stepsBack > 50) {
            return 8;
        }
        int all = accepted.size();
        if (all >= 3 && accepted.subList(all - 3, all).stream().allMatch(one.widths::equals)) {
            return 9;
        }
        return 0;
    }

    private static int apart(List<Integer> some, List<Integer> others) {
        int sum = 0;
        for (int i = 0; i < 8; i++) {
            int more = Math.max(some.get(i), others.get(i));
            int less = Math.min(some.get(i), others.get(i));
            sum += more - less;
        }
        return sum;
    }

    private void pay(One one) {
        record("paid");
        one.paid = true;
        paid++;
        credit += kinds.get(one.kind).deposit();
        cents += kinds.get(one.kind).deposit();
    }

    private void comeIntoBin(One one) {
        record("bin");
        held[kinds.get(one.kind).bin()]++;
        belt.remove(one.number);
        stepsBack = 0;
    }

    private void record(String text) {
        if (cut > 0) {
            cut--;
            if (cut == 0) {
                on = false;
                throw new PowerGone();
            }
        }
        journal.add(text);
    }

    private boolean isRecorded(String text) {
        try {
            record(text);
            return true;
        } catch (PowerGone e) {
            return false;
        }
    }

    private int voucher() {
        if (credit == 0 || vouchers.size() >= 60 || !isRecorded("voucher")) {
            return 0;
        }
        serials++;
        vouchers.put(serials, new Voucher(serials, credit));
        inVouchers += credit;
        credit = 0;
        return serials;
    }

    private int give() {
        if (credit == 0 || !isRecorded("gift")) {
            return 0;
        }
        int sum = credit;
        credit = 0;
        given += sum;
        return sum;
    }

    private int redeem(int serial) {
        argument(vouchers.containsKey(serial));
        Voucher voucher = vouchers.get(serial);
        int sum = voucher.redeemed ? 0 : voucher.sum;
        voucher.redeemed = true;
        return sum;
    }

    private int clear() {
        int before = vouchers.size();
        vouchers.values().removeIf(voucher -> voucher.redeemed);
        return before - vouchers.size();
    }

    private int empty(int bin, int room) {
        int before = held[bin];
        held[bin] = 0;
        rooms[bin] = room;
        return before;
    }

    private int service() {
        state(belt.isEmpty());
        int was = stepsBack > 50 ? 1 : 0;
        stepsBack = 0;
        return was;
    }

    private int setCut(int n) {
        cut = n;
        return 0;
    }

    private int bin(int bin, int what) {
        return what == 0 ? held[bin] : rooms[bin];
    }

    private int power() {
        if (on) {
            return NONE;
        }
        on = true;
        int before = journal.size();
        for (One one : ones()) {
            if (one.front < 105) {
                one.lose();
            }
        }
        try {
            ones().stream().filter(one -> one.front >= 105 && !one.paid).forEach(this::pay);
            ones().stream().filter(one -> one.rear() >= 110).forEach(this::comeIntoBin);
        } catch (PowerGone e) {
            return journal.size() - before;
        }
        return journal.size() - before;
    }

    private static int check(int high, int low) {
        String number = String.format("%08d%08d", high, low);
        return number.startsWith("37", 12) && Long.parseLong(number) % 97 == 1 ? 1 : 0;
    }

    private int about(int serial, int what) {
        argument(vouchers.containsKey(serial));
        within(what, 0, 3);
        Voucher voucher = vouchers.get(serial);
        return switch (what) {
            case 0 -> voucher.sum;
            case 1 -> Integer.parseInt(voucher.number.substring(0, 8));
            case 2 -> Integer.parseInt(voucher.number.substring(8));
            default -> voucher.redeemed ? 1 : 0;
        };
    }

    private int container(int number, int what) {
        argument(belt.containsKey(number));
        within(what, 0, 6);
        One one = belt.get(number);
        int[] all = {one.front, one.length, one.judgement, one.kind, one.paid ? 1 : 0,
            one.codes.size(), one.widths.size()};
        return all[what];
    }

    private int total(int what) {
        if (what >= 1 && what <= 9) {
            return refused[what];
        }
        int[] all = {paid, cents, inVouchers, given, vouchers.size(), belt.size(), on ? 1 : 0,
            isBlocked() ? 1 : 0, stepsBack > 50 ? 1 : 0, journal.size(), cut};
        return what == 0 ? credit : all[what - 10];
    }
}
