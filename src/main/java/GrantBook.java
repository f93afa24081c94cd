/**
 * A grant book: budget lines with dates, vouchers that fit or do not, money moved between lines,
 * overhead on a base with a ceiling, match that has to be kept in proportion, claims to date, and
 * costs that are refused later.
 */
public final class GrantBook {
    private static final int LAST_DAY = 9999;
    private static final int MOST_LINES = 12;
    private static final int MOST_VOUCHERS = 100;
    private static final int MOST_CLAIMS = 40;
    private static final int MOST_AT_ONCE = 10000000;
    private static final int MOST_IN_ALL = 100000000;

    private int grantAmount = 1000000;
    private int grantShare = 75;
    private int overheadRate = 10;
    private int overheadCeiling = 50000;

    private final Line[] lineRows = new Line[MOST_LINES];
    private int lineCount = 0;
    private final Voucher[] voucherRows = new Voucher[MOST_VOUCHERS];
    private int voucherCount = 0;
    private int allMatch = 0;
    private final int[] payments = new int[MOST_CLAIMS];
    private int claimCount = 0;
    private int lastClaimDay = 0;
    private int paidInAll = 0;

    public GrantBook() {
    }

    // ---- budget

    public void setGrant(int amount, int share, int overhead, int ceiling)
            throws IllegalArgumentException, IllegalStateException {
        checkRange(amount, 0, MOST_IN_ALL);
        checkRange(share, 1, 100);
        checkRange(overhead, 0, 100);
        checkRange(ceiling, 0, MOST_IN_ALL);
        if (claimCount > 0) {
            throw new IllegalStateException("a claim was made");
        }
        grantAmount = amount;
        grantShare = share;
        overheadRate = overhead;
        overheadCeiling = ceiling;
    }

    public int addLine(int budget, int first, int last, boolean isInBase)
            throws IllegalArgumentException, IllegalStateException {
        checkRange(budget, 0, MOST_AT_ONCE);
        checkDay(first);
        checkRange(last, first, LAST_DAY);
        int number = lineCount;
        if (number < 0 || number >= lineRows.length) {
            throw new IllegalStateException("no more lines can be added");
        }
        lineRows[number] = new Line(budget, first, last, isInBase);
        lineCount = number + 1;
        return number;
    }

    public int extend(int line, int last) throws IndexOutOfBoundsException, IllegalArgumentException {
        Line extended = findLine(line);
        int lastBefore = extended.last;
        checkRange(last, lastBefore, LAST_DAY);
        extended.last = last;
        extended.reckon();
        return lastBefore;
    }

    public int move(int line, int to, int amount)
            throws IndexOutOfBoundsException, IllegalArgumentException, IllegalStateException {
        Line giver = findLine(line);
        Line taker = findLine(to);
        checkRange(amount, 1, MOST_AT_ONCE);
        if (giver == taker) {
            throw new IllegalArgumentException("money is moved to another line");
        }
        if (giver.movedAway + amount > giver.budget / 10) {
            throw new IllegalStateException("at most a tenth of a budget can be moved away");
        }
        giver.movedAway += amount;
        taker.movedIn += amount;
        giver.reckon();
        taker.reckon();
        return giver.roomNow();
    }

    public int lines() {
        return lineCount;
    }

    public int room(int line) throws IndexOutOfBoundsException {
        return findLine(line).roomNow();
    }

    public int left(int line) throws IndexOutOfBoundsException {
        Line asked = findLine(line);
        return asked.roomNow() - asked.eligibleUpTo(LAST_DAY);
    }

    // ---- vouchers and match

    public int spend(int line, int day, int amount)
            throws IndexOutOfBoundsException, IllegalArgumentException, IllegalStateException {
        Line spent = findLine(line);
        checkDay(day);
        checkRange(amount, 1, MOST_AT_ONCE);
        int number = voucherCount;
        if (number < 0 || number >= voucherRows.length) {
            throw new IllegalStateException("no more vouchers can be added");
        }
        Voucher added = new Voucher(spent, day, amount);
        voucherRows[number] = added;
        voucherCount = number + 1;
        spent.putInOrder(added);
        spent.reckon();
        return number;
    }

    public int refuse(int voucher) throws IndexOutOfBoundsException, IllegalStateException {
        Voucher asked = findVoucher(voucher);
        if (asked.isRefused) {
            throw new IllegalStateException("the voucher is refused");
        }
        return -eligibleMoreWith(asked, true);
    }

    public int admit(int voucher) throws IndexOutOfBoundsException, IllegalStateException {
        Voucher asked = findVoucher(voucher);
        if (!asked.isRefused) {
            throw new IllegalStateException("the voucher is not refused");
        }
        return eligibleMoreWith(asked, false);
    }

    public int match(int amount) throws IllegalArgumentException, IllegalStateException {
        checkRange(amount, 1, MOST_AT_ONCE);
        if (allMatch + amount > MOST_IN_ALL) {
            throw new IllegalStateException("all match would be too much");
        }
        allMatch += amount;
        return allMatch;
    }

    public int vouchers() {
        return voucherCount;
    }

    public boolean fits(int voucher) throws IndexOutOfBoundsException {
        Voucher asked = findVoucher(voucher);
        return asked.line.accepts(asked);
    }

    public int eligible(int voucher) throws IndexOutOfBoundsException {
        return findVoucher(voucher).eligible;
    }

    // ---- claims

    public int costs(int day) throws IllegalArgumentException {
        checkDay(day);
        return costsUpTo(day);
    }

    public int overhead(int day) throws IllegalArgumentException {
        checkDay(day);
        return overheadUpTo(day);
    }

    public int earned(int day) throws IllegalArgumentException {
        checkDay(day);
        return earnedUpTo(day);
    }

    public int missingMatch(int day) throws IllegalArgumentException {
        checkDay(day);
        long missing = leastMatchFor(earnedButForMatch(day)) - allMatch;
        return (int) Math.max(missing, 0);
    }

    public int claim(int day) throws IllegalArgumentException, IllegalStateException {
        checkRange(day, lastClaimDay, LAST_DAY);
        int number = claimCount;
        if (number < 0 || number >= payments.length) {
            throw new IllegalStateException("no more claims can be made");
        }
        int payment = earnedUpTo(day) - paidInAll;
        payments[number] = payment;
        claimCount = number + 1;
        lastClaimDay = day;
        paidInAll += payment;
        return payment;
    }

    public int claims() {
        return claimCount;
    }

    public int paid(int claim) throws IndexOutOfBoundsException {
        if (claim < 0 || claim >= claimCount || claim >= payments.length) {
            throw new IndexOutOfBoundsException("no such claim");
        }
        return payments[claim];
    }

    public int unsettled() {
        return claimCount == 0 ? 0 : earnedUpTo(lastClaimDay) - paidInAll;
    }

    // ---- what the calls share

    private static void checkRange(int value, int least, int most) {
        if (value < least || value > most) {
            throw new IllegalArgumentException("an argument is out of range");
        }
    }

    private static void checkDay(int day) {
        checkRange(day, 0, LAST_DAY);
    }

    private Line findLine(int number) {
        Line found = number >= 0 && number < lineRows.length ? lineRows[number] : null;
        if (found == null) {
            throw new IndexOutOfBoundsException("no such line");
        }
        return found;
    }

    private Voucher findVoucher(int number) {
        Voucher found = number >= 0 && number < voucherRows.length ? voucherRows[number] : null;
        if (found == null) {
            throw new IndexOutOfBoundsException("no such voucher");
        }
        return found;
    }

    /** Refuses a voucher, or takes that back, and returns how much more is eligible then. */
    private static int eligibleMoreWith(Voucher voucher, boolean isRefused) {
        // Lines do not share room, so that nothing changes on the other ones.
        Line line = voucher.line;
        int before = line.eligibleUpTo(LAST_DAY);
        voucher.isRefused = isRefused;
        line.reckon();
        return line.eligibleUpTo(LAST_DAY) - before;
    }

    private int costsUpTo(int day) {
        return eligibleInAll(day, false);
    }

    private int overheadUpTo(int day) {
        long uncapped = (long) overheadRate * eligibleInAll(day, true) / 100;
        return (int) Math.min(uncapped, overheadCeiling);
    }

    private int eligibleInAll(int day, boolean onlyInBase) {
        int sum = 0;
        for (Line line : lineRows) {
            if (line != null && (line.isInBase || !onlyInBase)) {
                sum += line.eligibleUpTo(day);
            }
        }
        return sum;
    }

    private int earnedUpTo(int day) {
        long earned = earnedButForMatch(day);
        int ownShare = 100 - grantShare;
        if (ownShare > 0) {
            earned = Math.min(earned, (long) allMatch * grantShare / ownShare);
        }
        return (int) earned;
    }

    /** The earned amount up to a day, as it would be if match did not bound it. */
    private long earnedButForMatch(int day) {
        long base = (long) costsUpTo(day) + overheadUpTo(day);
        return Math.min(base * grantShare / 100, grantAmount);
    }

    /** The least match with which so much can be earned. */
    private long leastMatchFor(long earned) {
        int ownShare = 100 - grantShare;
        // Rounded up, because a cent of match less would bound the earned amount.
        return grantShare > 0 ? (earned * ownShare + grantShare - 1) / grantShare : 0;
    }

    /** A budget line with the chain of its vouchers. */
    private static final class Line {
        final int budget;
        final int first;
        int last;
        final boolean isInBase;
        int movedIn = 0;
        int movedAway = 0;
        Voucher earliest = null;

        Line(int budget, int first, int last, boolean isInBase) {
            this.budget = budget;
            this.first = first;
            this.last = last;
            this.isInBase = isInBase;
        }

        int roomNow() {
            return budget + movedIn - movedAway;
        }

        boolean accepts(Voucher voucher) {
            return !voucher.isRefused && voucher.day >= first && voucher.day <= last;
        }

        void putInOrder(Voucher added) {
            // Behind all those of its day too: a new voucher has the highest number.
            Voucher ahead = null;
            for (Voucher v = earliest; v != null && v.day <= added.day; v = v.next) {
                ahead = v;
            }
            if (ahead == null) {
                added.next = earliest;
                earliest = added;
            } else {
                added.next = ahead.next;
                ahead.next = added;
            }
        }

        /** Finds anew what is eligible of each voucher; due after every change of the line. */
        void reckon() {
            // Never below 0: nine tenths of the budget stay, and no voucher takes more than the rest.
            int rest = roomNow();
            for (Voucher v = earliest; v != null; v = v.next) {
                v.eligible = accepts(v) ? Math.min(v.amount, rest) : 0;
                rest -= v.eligible;
            }
        }

        int eligibleUpTo(int day) {
            int sum = 0;
            for (Voucher v = earliest; v != null && v.day <= day; v = v.next) {
                sum += v.eligible;
            }
            return sum;
        }
    }

    /** A voucher, a link in the chain of its line: by rising days, those of a day by rising numbers. */
    private static final class Voucher {
        final Line line;
        final int day;
        final int amount;
        boolean isRefused = false;
        int eligible = 0;
        Voucher next = null;

        Voucher(Line line, int day, int amount) {
            this.line = line;
            this.day = day;
            this.amount = amount;
        }
    }
}
