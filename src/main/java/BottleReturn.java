/**
 * A machine that takes bottles back: containers on a belt are read, judged once, paid once, and end
 * in a bin, or come back; a journal keeps all money through cuts of the power.
 */
public final class BottleReturn {
    public static final int NONE = -1;

    private static final int KINDS = 40;
    private static final int CONTOURS = 8;
    private static final int BINS = 3;
    private static final int CODES = 3;
    private static final int WIDTHS = 8;
    private static final int MOST_VOUCHERS = 60;
    // Fronts stand at least 9 apart and none is above 150, so the belt never has more than 13.
    private static final int MOST_ON_BELT = 16;

    private static final int GREATEST_CODE = 999999;
    private static final int GREATEST_DEPOSIT = 500;
    private static final int GREATEST_WEIGHT = 5000;
    private static final int GREATEST_WIDTH = 255;
    private static final int GREATEST_LIMIT = WIDTHS * GREATEST_WIDTH;
    private static final int LEAST_LENGTH = 5;
    private static final int GREATEST_LENGTH = 40;
    private static final int MOST_STEPS = 300;
    private static final int GREATEST_CUT = 1000;
    private static final int FIRST_ROOM = 30;
    private static final int GREATEST_ROOM = 200;
    private static final int EIGHT_DIGITS = 99999999;

    private static final int LEAST_REAR_TO_ENTER = 4;
    private static final int CODE_PLACE = 15;
    private static final int WIDTH_PLACE = 30;
    private static final int WEIGHT_PLACE = 45;
    private static final int JUDGING_REAR = 60;
    private static final int GATE = 104;
    private static final int PAYING_FRONT = GATE + 1;
    private static final int BIN_REAR = 110;

    private static final int NOT_JUDGED = 0;
    private static final int NO_CODE = 1;
    private static final int CODES_DIFFER = 2;
    private static final int NO_KIND = 3;
    private static final int WRONG_WEIGHT = 4;
    private static final int WRONG_WIDTHS = 5;
    private static final int NO_ROOM = 6;
    private static final int TOO_MANY_VOUCHERS = 7;
    private static final int MACHINE_SUSPICIOUS = 8;
    private static final int ALIKE_TOO_OFTEN = 9;
    private static final int ACCEPTED = 10;

    private static final int STEPS_BACK_ALLOWED = 50;
    private static final int ALIKE_ALLOWED = 3;

    private static final int NUMBER_MARK = 37;
    private static final int NUMBER_MODULUS = 97;

    private final Catalogue catalogue;
    private final Belt onBelt;
    private final Bins bins;
    private final Vouchers vouchers;
    private final Journal journal;
    private final Latest latest;
    private final int[] refused;
    private int credit;
    private int paidCount;
    private int paidCents;
    private int givenCents;
    private int stepsBack;

    public BottleReturn() {
        catalogue = new Catalogue();
        onBelt = new Belt();
        bins = new Bins();
        vouchers = new Vouchers();
        journal = new Journal();
        latest = new Latest();
        refused = new int[ACCEPTED];
    }

    public void contour(int contour, int first, int second, int limit)
            throws IllegalStateException, IllegalArgumentException {
        requireOn();
        require(isIndex(contour, CONTOURS));
        require(isWithin(limit, 0, GREATEST_LIMIT));
        catalogue.setContour(contour, first, second, limit);
    }

    public int kind(int kind, int code, int deposit, int bin, int low, int high, int contour)
            throws IllegalStateException, IllegalArgumentException {
        requireOn();
        requireEmptyBelt();
        require(isIndex(kind, KINDS));
        require(isWithin(code, 1, GREATEST_CODE));
        require(isWithin(deposit, 1, GREATEST_DEPOSIT));
        require(isIndex(bin, BINS));
        require(isWithin(high, 0, GREATEST_WEIGHT));
        require(isWithin(low, 0, high));
        require(isIndex(contour, CONTOURS));
        int before = catalogue.kindWith(code);
        catalogue.dropCode(before);
        catalogue.setKind(kind, code, deposit, bin, low, high, contour);
        return before;
    }

    public int enter(int length) throws IllegalStateException, IllegalArgumentException {
        requireOn();
        require(isWithin(length, LEAST_LENGTH, GREATEST_LENGTH));
        return onBelt.putIn(length);
    }

    public boolean code(int code) throws IllegalStateException, IllegalArgumentException {
        requireOn();
        require(isWithin(code, 1, GREATEST_CODE));
        Container read = onBelt.over(CODE_PLACE);
        return read != null && read.codes.take(code);
    }

    public boolean width(int width) throws IllegalStateException, IllegalArgumentException {
        requireOn();
        require(isWithin(width, 0, GREATEST_WIDTH));
        Container measured = onBelt.over(WIDTH_PLACE);
        return measured != null && measured.widths.take(width);
    }

    public boolean weigh(int grams) throws IllegalStateException, IllegalArgumentException {
        requireOn();
        require(isWithin(grams, 0, GREATEST_WEIGHT));
        Container weighed = onBelt.over(WEIGHT_PLACE);
        if (weighed == null) {
            return false;
        }
        weighed.weight = grams;
        return true;
    }

    public int forward(int n) throws IllegalStateException, IllegalArgumentException {
        requireOn();
        require(isWithin(n, 0, MOST_STEPS));
        int done = 0;
        while (done < n && journal.on && !onBelt.isBlocked()) {
            stepForward();
            done++;
        }
        return done;
    }

    public int back(int n) throws IllegalStateException, IllegalArgumentException {
        requireOn();
        require(isWithin(n, 0, MOST_STEPS));
        int before = onBelt.count;
        for (int i = 0; i < n; i++) {
            if (onBelt.moveDown()) {
                stepsBack++;
            }
        }
        return before - onBelt.count;
    }

    public int voucher() throws IllegalStateException {
        requireOn();
        if (credit == 0 || vouchers.isFull() || !journal.write()) {
            return 0;
        }
        int serial = vouchers.issue(credit);
        credit = 0;
        return serial;
    }

    public int give() throws IllegalStateException {
        requireOn();
        if (credit == 0 || !journal.write()) {
            return 0;
        }
        int given = credit;
        givenCents += given;
        credit = 0;
        return given;
    }

    public int redeem(int serial) throws IllegalStateException, IllegalArgumentException {
        requireOn();
        int place = vouchers.placeOf(serial);
        require(isIndex(place, vouchers.kept));
        return vouchers.payOut(place);
    }

    public int clear() throws IllegalStateException {
        requireOn();
        return vouchers.forgetRedeemed();
    }

    public int empty(int bin, int room) throws IllegalStateException, IllegalArgumentException {
        requireOn();
        require(isIndex(bin, BINS));
        require(isWithin(room, 0, GREATEST_ROOM));
        int held = bins.held[bin];
        bins.held[bin] = 0;
        bins.rooms[bin] = room;
        return held;
    }

    public boolean service() throws IllegalStateException {
        requireOn();
        requireEmptyBelt();
        boolean was = isSuspicious();
        stepsBack = 0;
        return was;
    }

    public void cut(int n) throws IllegalArgumentException {
        require(isWithin(n, 0, GREATEST_CUT));
        journal.cut = n;
    }

    public int power() {
        if (journal.on) {
            return NONE;
        }
        int before = journal.records;
        journal.on = true;
        onBelt.forgetBefore(PAYING_FRONT);
        payUnpaid();
        binWaiting();
        return journal.records - before;
    }

    public boolean check(int high, int low) throws IllegalArgumentException {
        require(isWithin(high, 0, EIGHT_DIGITS));
        require(isWithin(low, 0, EIGHT_DIGITS));
        long number = high * (EIGHT_DIGITS + 1L) + low;
        return low / 100 % 100 == NUMBER_MARK && number % NUMBER_MODULUS == 1;
    }

    public int about(int serial, int what) throws IllegalArgumentException {
        int place = vouchers.placeOf(serial);
        require(isIndex(place, vouchers.kept));
        switch (what) {
            case 0:
                return vouchers.sums[place];
            case 1:
                return vouchers.firstDigits(place);
            case 2:
                return vouchers.lastDigits(place);
            case 3:
                return asNumber(vouchers.redeemed[place]);
            default:
                throw new IllegalArgumentException();
        }
    }

    public int container(int number, int what) throws IllegalArgumentException {
        Container asked = onBelt.withNumber(number);
        if (asked == null) {
            throw new IllegalArgumentException();
        }
        switch (what) {
            case 0:
                return asked.front;
            case 1:
                return asked.length;
            case 2:
                return asked.judgement;
            case 3:
                return asked.kind;
            case 4:
                return asNumber(asked.paid);
            case 5:
                return asked.codes.count;
            case 6:
                return asked.widths.count;
            default:
                throw new IllegalArgumentException();
        }
    }

    public int belt(int i) {
        return isIndex(i, onBelt.count) ? onBelt.row[i].number : NONE;
    }

    public int bin(int bin, int what) throws IllegalArgumentException {
        require(isIndex(bin, BINS));
        require(isWithin(what, 0, 1));
        return what == 0 ? bins.held[bin] : bins.rooms[bin];
    }

    public int total(int what) throws IllegalArgumentException {
        if (isWithin(what, NO_CODE, ALIKE_TOO_OFTEN)) {
            return refused[what];
        }
        switch (what) {
            case 0:
                return credit;
            case 10:
                return paidCount;
            case 11:
                return paidCents;
            case 12:
                return vouchers.cents;
            case 13:
                return givenCents;
            case 14:
                return vouchers.kept;
            case 15:
                return onBelt.count;
            case 16:
                return asNumber(journal.on);
            case 17:
                return asNumber(onBelt.isBlocked());
            case 18:
                return asNumber(isSuspicious());
            case 19:
                return journal.records;
            case 20:
                return journal.cut;
            default:
                throw new IllegalArgumentException();
        }
    }

    private void requireOn() {
        if (!journal.on) {
            throw new IllegalStateException();
        }
    }

    private void requireEmptyBelt() {
        if (onBelt.count > 0) {
            throw new IllegalStateException();
        }
    }

    private static void require(boolean holds) {
        if (!holds) {
            throw new IllegalArgumentException();
        }
    }

    private static boolean isIndex(int i, int size) {
        return i >= 0 && i < size;
    }

    private static boolean isWithin(int value, int least, int greatest) {
        return value >= least && value <= greatest;
    }

    private static int asNumber(boolean answer) {
        return answer ? 1 : 0;
    }

    private boolean isSuspicious() {
        return stepsBack > STEPS_BACK_ALLOWED;
    }

    private void stepForward() {
        onBelt.moveUp();
        int place = 0;
        for (int left = onBelt.count; left > 0 && journal.on; left--) {
            if (!leavesOnArrival(place)) {
                place++;
            }
        }
    }

    private boolean leavesOnArrival(int place) {
        Container arrived = onBelt.row[place];
        if (arrived.rear() == JUDGING_REAR) {
            judge(arrived);
        } else if (arrived.front == PAYING_FRONT) {
            pay(arrived);
        } else if (arrived.rear() == BIN_REAR) {
            return intoBin(place);
        }
        return false;
    }

    private void judge(Container judged) {
        int kind = catalogue.kindOf(judged);
        int judgement = judgementByReadings(judged, kind);
        if (judgement == ACCEPTED) {
            judgement = judgementByState(judged, kind);
        }
        if (judgement != ACCEPTED) {
            judged.judgement = judgement;
            refused[judgement]++;
        } else if (journal.write()) {
            judged.judgement = ACCEPTED;
            judged.kind = kind;
            latest.note(judged.widths);
        }
    }

    private int judgementByReadings(Container judged, int kind) {
        if (judged.codes.count == 0) {
            return NO_CODE;
        }
        if (!judged.codes.isUniform()) {
            return CODES_DIFFER;
        }
        if (kind == NONE) {
            return NO_KIND;
        }
        if (!catalogue.allowsWeight(kind, judged.weight)) {
            return WRONG_WEIGHT;
        }
        if (!catalogue.allowsWidths(kind, judged.widths)) {
            return WRONG_WIDTHS;
        }
        return ACCEPTED;
    }

    private int judgementByState(Container judged, int kind) {
        int bin = catalogue.bins[kind];
        if (bins.held[bin] + acceptedFor(bin) >= bins.rooms[bin]) {
            return NO_ROOM;
        }
        if (vouchers.isFull()) {
            return TOO_MANY_VOUCHERS;
        }
        if (isSuspicious()) {
            return MACHINE_SUSPICIOUS;
        }
        if (latest.areAllLike(judged.widths)) {
            return ALIKE_TOO_OFTEN;
        }
        return ACCEPTED;
    }

    private int acceptedFor(int bin) {
        int accepted = 0;
        for (int i = 0; i < onBelt.count; i++) {
            int kind = onBelt.row[i].kind;
            if (kind != NONE && catalogue.bins[kind] == bin) {
                accepted++;
            }
        }
        return accepted;
    }

    private void pay(Container paid) {
        if (paid.kind == NONE || !journal.write()) {
            return;
        }
        int deposit = catalogue.deposits[paid.kind];
        paid.paid = true;
        credit += deposit;
        paidCents += deposit;
        paidCount++;
    }

    private boolean intoBin(int place) {
        int kind = onBelt.row[place].kind;
        if (kind == NONE || !journal.write()) {
            return false;
        }
        bins.held[catalogue.bins[kind]]++;
        onBelt.takeOff(place);
        stepsBack = 0;
        return true;
    }

    private void payUnpaid() {
        for (int i = 0; i < onBelt.count && journal.on; i++) {
            Container next = onBelt.row[i];
            if (next.front >= PAYING_FRONT && !next.paid) {
                pay(next);
            }
        }
    }

    private void binWaiting() {
        int place = 0;
        for (int left = onBelt.count; left > 0 && journal.on; left--) {
            boolean waits = onBelt.row[place].rear() >= BIN_REAR;
            if (!waits || !intoBin(place)) {
                place++;
            }
        }
    }

    /** Numbers read from one container, up to a bound. */
    private static final class Row {
        final int[] values;
        int count;

        Row(int bound) {
            values = new int[bound];
        }

        boolean isFull() {
            return count >= values.length;
        }

        boolean take(int value) {
            if (isFull()) {
                return false;
            }
            values[count] = value;
            count++;
            return true;
        }

        boolean isUniform() {
            for (int i = 1; i < count; i++) {
                if (values[i] != values[0]) {
                    return false;
                }
            }
            return true;
        }
    }

    private static final class Container {
        final Row codes = new Row(CODES);
        final Row widths = new Row(WIDTHS);
        int number;
        int length;
        int front;
        int weight;
        int judgement;
        int kind;
        boolean paid;

        void begin(int newNumber, int newLength) {
            number = newNumber;
            length = newLength;
            front = 0;
            paid = false;
            forget();
        }

        void forget() {
            codes.count = 0;
            widths.count = 0;
            weight = NONE;
            judgement = NOT_JUDGED;
            kind = NONE;
        }

        int rear() {
            return front - length;
        }

        boolean isOver(int place) {
            return rear() < place && front >= place;
        }
    }

    /** The containers by their numbers; those taken off wait behind the others to be used again. */
    private static final class Belt {
        final Container[] row = new Container[MOST_ON_BELT];
        int count;
        int entered;

        Belt() {
            for (int i = 0; i < row.length; i++) {
                row[i] = new Container();
            }
        }

        int putIn(int length) {
            if (count >= row.length) {
                return 0;
            }
            if (count > 0 && row[count - 1].rear() < LEAST_REAR_TO_ENTER) {
                return 0;
            }
            entered++;
            row[count].begin(entered, length);
            count++;
            return entered;
        }

        void takeOff(int place) {
            Container taken = row[place];
            count--;
            for (int i = place; i < count; i++) {
                row[i] = row[i + 1];
            }
            row[count] = taken;
        }

        Container over(int place) {
            for (int i = 0; i < count; i++) {
                if (row[i].isOver(place)) {
                    return row[i];
                }
            }
            return null;
        }

        Container withNumber(int number) {
            for (int i = 0; i < count; i++) {
                if (row[i].number == number) {
                    return row[i];
                }
            }
            return null;
        }

        boolean isBlocked() {
            for (int i = 0; i < count; i++) {
                if (row[i].front == GATE && row[i].judgement != ACCEPTED) {
                    return true;
                }
            }
            return false;
        }

        void moveUp() {
            for (int i = 0; i < count; i++) {
                row[i].front++;
            }
        }

        /** Whether the step moved anything. */
        boolean moveDown() {
            boolean moved = false;
            // From the last on, so that one that is gone shifts none that is still to move.
            for (int i = count - 1; i >= 0; i--) {
                if (row[i].front < PAYING_FRONT) {
                    moved = true;
                    moveDownAt(i);
                }
            }
            return moved;
        }

        void moveDownAt(int place) {
            Container moving = row[place];
            moving.front--;
            if (moving.rear() == JUDGING_REAR - 1) {
                moving.forget();
            }
            if (moving.front < 0) {
                takeOff(place);
            }
        }

        void forgetBefore(int front) {
            for (int i = 0; i < count; i++) {
                if (row[i].front < front) {
                    row[i].forget();
                }
            }
        }
    }

    private static final class Catalogue {
        final int[] codes = new int[KINDS];
        final int[] deposits = new int[KINDS];
        final int[] bins = new int[KINDS];
        final int[] lows = new int[KINDS];
        final int[] highs = new int[KINDS];
        final int[] contours = new int[KINDS];
        final int[][] widths = new int[CONTOURS][WIDTHS];
        final int[] limits = new int[CONTOURS];

        void setContour(int contour, int first, int second, int limit) {
            for (int i = 0; i < WIDTHS; i++) {
                int four = i < 4 ? first : second;
                widths[contour][i] = four >>> (24 - i % 4 * 8) & GREATEST_WIDTH;
            }
            limits[contour] = limit;
        }

        void setKind(int kind, int code, int deposit, int bin, int low, int high, int contour) {
            codes[kind] = code;
            deposits[kind] = deposit;
            bins[kind] = bin;
            lows[kind] = low;
            highs[kind] = high;
            contours[kind] = contour;
        }

        void dropCode(int kind) {
            if (kind != NONE) {
                codes[kind] = 0;
            }
        }

        int kindWith(int code) {
            for (int i = 0; i < KINDS; i++) {
                if (codes[i] == code) {
                    return i;
                }
            }
            return NONE;
        }

        int kindOf(Container read) {
            return read.codes.count == 0 ? NONE : kindWith(read.codes.values[0]);
        }

        boolean allowsWeight(int kind, int weight) {
            return weight != NONE && isWithin(weight, lows[kind], highs[kind]);
        }

        boolean allowsWidths(int kind, Row measured) {
            if (!measured.isFull()) {
                return false;
            }
            int contour = contours[kind];
            int apart = 0;
            for (int i = 0; i < WIDTHS; i++) {
                apart += Math.abs(measured.values[i] - widths[contour][i]);
            }
            return apart <= limits[contour];
        }
    }

    private static final class Bins {
        final int[] held = new int[BINS];
        final int[] rooms = new int[BINS];

        Bins() {
            for (int i = 0; i < BINS; i++) {
                rooms[i] = FIRST_ROOM;
            }
        }
    }

    /** The widths accepted last, and how often they were so in a row: that tells of the last three. */
    private static final class Latest {
        final int[] widths = new int[WIDTHS];
        int times;

        void note(Row accepted) {
            if (times > 0 && isLike(accepted)) {
                times++;
                return;
            }
            System.arraycopy(accepted.values, 0, widths, 0, WIDTHS);
            times = 1;
        }

        boolean areAllLike(Row measured) {
            return times >= ALIKE_ALLOWED && isLike(measured);
        }

        boolean isLike(Row measured) {
            for (int i = 0; i < WIDTHS; i++) {
                if (measured.values[i] != widths[i]) {
                    return false;
                }
            }
            return true;
        }
    }

    private static final class Vouchers {
        final int[] serials = new int[MOST_VOUCHERS];
        final int[] sums = new int[MOST_VOUCHERS];
        final boolean[] redeemed = new boolean[MOST_VOUCHERS];
        int kept;
        int issued;
        int cents;

        boolean isFull() {
            return kept >= MOST_VOUCHERS;
        }

        int issue(int sum) {
            issued++;
            keep(issued, sum, false);
            cents += sum;
            return issued;
        }

        void keep(int serial, int sum, boolean wasRedeemed) {
            serials[kept] = serial;
            sums[kept] = sum;
            redeemed[kept] = wasRedeemed;
            kept++;
        }

        int placeOf(int serial) {
            for (int i = 0; i < kept; i++) {
                if (serials[i] == serial) {
                    return i;
                }
            }
            return NONE;
        }

        int payOut(int place) {
            if (redeemed[place]) {
                return 0;
            }
            redeemed[place] = true;
            return sums[place];
        }

        int forgetRedeemed() {
            int before = kept;
            kept = 0;
            for (int i = 0; i < before; i++) {
                if (!redeemed[i]) {
                    keep(serials[i], sums[i], false);
                }
            }
            return before - kept;
        }

        int firstDigits(int place) {
            return serials[place] * 100 + sums[place] / 10000;
        }

        int lastDigits(int place) {
            int unchecked = sums[place] % 10000 * 10000 + NUMBER_MARK * 100;
            long number = firstDigits(place) * (EIGHT_DIGITS + 1L) + unchecked;
            return unchecked + NUMBER_MODULUS + 1 - (int) (number % NUMBER_MODULUS);
        }
    }

    private static final class Journal {
        int records;
        int cut;
        boolean on = true;

        /** Whether the record was written; if not, the power is gone with it. */
        boolean write() {
            if (cut == 1) {
                cut = 0;
                on = false;
                return false;
            }
            if (cut > 1) {
                cut--;
            }
            records++;
            return true;
        }
    }
}
