/** Promises 9 to 15: a test for each sentence that names a boundary case; the sentence stands ahead of it. */
public final class VouchersEdgesTest {
    private static final int MIN = Integer.MIN_VALUE;
    private static final int MAX = Integer.MAX_VALUE;

    public static void main(String[] args) {
        promise9();
        promise10();
        promise11();
        promise12();
        promise13();
        promise14();
        promise15();
        Check.end("VouchersEdgesTest");
    }

    // ---- promise 9

    private static void promise9() {
        spendDayEnds();
        spendAmountEnds();
        spendNoSuchLine();
        spendOutOfRange();
        spendAtMostAHundred();
        spendWhichComesFirst();
    }

    /** "day: 0 to 9999": of all days, not of those of the line alone. */
    private static void spendDayEnds() {
        GrantBook book = Books.withLine(100, 5000, 5000);
        int[] days = {0, 1, 4999, 5000, 5001, 9998, 9999};
        for (int i = 0; i < days.length; i++) {
            Check.due("the number of a voucher on day " + days[i], book.spend(0, days[i], 1), i);
        }
        Check.due("costs of the one that fits", book.costs(9999), 1);
        GrantBook whole = Books.withLine(100, 0, 9999);
        whole.spend(0, 0, 1);
        whole.spend(0, 9999, 20);
        Check.due("on the first of all days", whole.costs(0), 1);
        Check.due("on the last of all days", whole.costs(9999), 21);
    }

    /** "amount: 1 to 10000000". */
    private static void spendAmountEnds() {
        int[] amounts = {1, 2, 9999999, 10000000};
        for (int amount : amounts) {
            GrantBook book = Books.withLine(10000000, 0, 9999);
            Check.due("the voucher's number", book.spend(0, 5, amount), 0);
            Check.due("what is eligible of " + amount, book.eligible(0), amount);
        }
    }

    /** "Throws IndexOutOfBoundsException if there is no such line". */
    private static void spendNoSuchLine() {
        for (int line : new int[] {-1, 3, 4, 11, 12, MIN, MAX}) {
            Check.refused(Books::busy, "spend(" + line + ", 20, 5)", Check.NO_SUCH, b -> b.spend(line, 20, 5));
        }
        Check.refused(Books::unused, "spend(0, 20, 5)", Check.NO_SUCH, b -> b.spend(0, 20, 5));
        Check.due("the last line of three", Books.busy().spend(2, 20, 5), 7);
        for (int line : Check.outside(0, 11)) {
            Check.refused(VouchersEdgesTest::twelveLines, "spend(" + line + ", 20, 5)", Check.NO_SUCH, b -> b.spend(line, 20, 5));
        }
        Check.due("the last line of twelve", twelveLines().spend(11, 20, 5), 0);
    }

    private static GrantBook twelveLines() {
        GrantBook book = new GrantBook();
        for (int i = 0; i < 12; i++) {
            book.addLine(1000, 0, 9999, true);
        }
        return book;
    }

    /** "Throws IllegalArgumentException if day or amount is out of range". */
    private static void spendOutOfRange() {
        for (int day : Check.outside(0, 9999)) {
            Check.refused(Books::busy, "spend(0, " + day + ", 5)", Check.BAD_ARGUMENT, b -> b.spend(0, day, 5));
        }
        for (int amount : Check.outside(1, 10000000)) {
            Check.refused(Books::busy, "spend(0, 20, " + amount + ")", Check.BAD_ARGUMENT, b -> b.spend(0, 20, amount));
        }
        Check.refused(Books::claimed, "spend(0, 20, -1)", Check.BAD_ARGUMENT, b -> b.spend(0, 20, -1));
    }

    /** "there are at most 100", "Throws IllegalStateException if there are 100": refused and unfit ones count. */
    private static void spendAtMostAHundred() {
        GrantBook book = Books.withLine(1000, 10, 20);
        for (int i = 0; i < 99; i++) {
            book.spend(0, i, 1);
            book.refuse(i);
        }
        Check.due("the hundredth voucher", book.spend(0, 15, 7), 99);
        Check.due("what is eligible of it", book.eligible(99), 7);
        Check.throwsJust(book, "one more", Check.BAD_STATE, b -> b.spend(0, 15, 8));
        Check.due("costs of the hundredth alone", book.costs(9999), 7);
        Check.refused(Books::full, "one more", Check.BAD_STATE, b -> b.spend(0, 20, 5));
        Check.refused(Books::full, "the lowest", Check.BAD_STATE, b -> b.spend(0, 0, 1));
        Check.refused(Books::full, "the highest", Check.BAD_STATE, b -> b.spend(11, 9999, 10000000));
    }

    /** "if several apply, the one that it lists first is thrown". */
    private static void spendWhichComesFirst() {
        Check.Story[] stories = {Books::busy, Books::full};
        for (Check.Story story : stories) {
            Check.refused(story, "no line, bad day", Check.NO_SUCH, b -> b.spend(12, -1, 5));
            Check.refused(story, "no line, bad amount", Check.NO_SUCH, b -> b.spend(-1, 20, 0));
            Check.refused(story, "no line, bad day and amount", Check.NO_SUCH, b -> b.spend(12, 10000, 10000001));
            Check.refused(story, "bad day", Check.BAD_ARGUMENT, b -> b.spend(0, 10000, 5));
            Check.refused(story, "bad amount", Check.BAD_ARGUMENT, b -> b.spend(0, 20, 0));
        }
        Check.refused(Books::full, "no line with 100", Check.NO_SUCH, b -> b.spend(12, 20, 5));
        Check.refused(Books::unused, "no line at all", Check.NO_SUCH, b -> b.spend(0, -1, 0));
    }

    // ---- promise 10

    private static void promise10() {
        refuseNoSuchVoucher();
        refuseTheFirstAndLast();
        refuseTwice();
        refuseWithNothingLess();
        refuseWithSomeOfItTakenUp();
        refuseChangesNoOtherLine();
    }

    /** "Throws IndexOutOfBoundsException if there is no such voucher". */
    private static void refuseNoSuchVoucher() {
        for (int voucher : new int[] {-1, 7, 8, 99, 100, MIN, MAX}) {
            Check.refused(Books::busy, "refuse(" + voucher + ")", Check.NO_SUCH, b -> b.refuse(voucher));
        }
        for (int voucher : Check.outside(0, 99)) {
            Check.refused(Books::full, "refuse(" + voucher + ")", Check.NO_SUCH, b -> b.refuse(voucher));
        }
        Check.refused(Books::unused, "refuse(0)", Check.NO_SUCH, b -> b.refuse(0));
        Check.refused(() -> Books.withLine(5, 0, 9), "refuse(0) with a line", Check.NO_SUCH, b -> b.refuse(0));
    }

    private static void refuseTheFirstAndLast() {
        Check.due("refuse the first of seven", Books.busy().refuse(0), 36000);
        Check.due("refuse the last but one of seven", Books.busy().refuse(5), 15);
        GrantBook book = Books.withLine(10000000, 0, 9999);
        for (int i = 0; i < 100; i++) {
            book.spend(0, i, 1 + i);
        }
        Check.due("refuse the first of a hundred", book.refuse(0), 1);
        Check.due("refuse the last of a hundred", book.refuse(99), 100);
    }

    /** "Throws IllegalStateException if it is refused". */
    private static void refuseTwice() {
        Check.refused(Books::busy, "refuse(6) again", Check.BAD_STATE, b -> b.refuse(6));
        Check.refused(Books::full, "refuse(7) again", Check.BAD_STATE, b -> b.refuse(7));
        Check.refused(Books::full, "refuse(99) again", Check.BAD_STATE, b -> b.refuse(99));
        Check.Story refusedOutside = () -> {
            GrantBook book = Books.busy();
            book.refuse(2);
            return book;
        };
        Check.refused(refusedOutside, "one outside the days again", Check.BAD_STATE, b -> b.refuse(2));
        GrantBook book = Books.busy();
        book.admit(6);
        Check.due("after it was admitted", book.refuse(6), 999);
    }

    /** "Returns how much less is eligible of all vouchers, together": 0 if others take all of it up. */
    private static void refuseWithNothingLess() {
        GrantBook book = Books.withLine(100, 10, 20);
        book.spend(0, 9, 50);
        book.spend(0, 21, 50);
        book.spend(0, 10, 40);
        book.spend(0, 15, 100);
        book.spend(0, 20, 1);
        Check.due("one ahead of the first day", book.refuse(0), 0);
        Check.due("one behind the last day", book.refuse(1), 0);
        Check.due("one that fits without room", book.refuse(4), 0);
        Check.due("one whose room another takes", book.refuse(2), 0);
        Check.due("which has all of it then", book.eligible(3), 100);
    }

    /** "how much less ... of all vouchers, together": not of the refused one alone. */
    private static void refuseWithSomeOfItTakenUp() {
        int[][] rest = {{60, 39, 60}, {60, 40, 60}, {60, 41, 59}, {60, 99, 1}, {60, 100, 0}, {60, 101, 0}};
        for (int[] r : rest) {
            GrantBook book = Books.withLine(100, 0, 9999);
            book.spend(0, 1, r[0]);
            book.spend(0, 2, r[1]);
            Check.due("60 refused ahead of " + r[1], book.refuse(0), r[2]);
        }
    }

    private static void refuseChangesNoOtherLine() {
        GrantBook book = twelveLines();
        book.spend(0, 1, 600);
        book.spend(11, 2, 600);
        book.spend(11, 3, 600);
        Check.due("the room of another line is not taken up", book.refuse(0), 600);
        Check.due("the last one of another line", book.eligible(2), 400);
    }

    // ---- promise 11

    private static void promise11() {
        admitNoSuchVoucher();
        admitTheFirstAndLast();
        admitNotRefused();
        admitWithNothingMore();
        admitWithSomeOfItTakenAway();
        admitAfterAnExtension();
    }

    /** "Throws IndexOutOfBoundsException if there is no such voucher". */
    private static void admitNoSuchVoucher() {
        for (int voucher : new int[] {-1, 7, 8, 99, 100, MIN, MAX}) {
            Check.refused(Books::busy, "admit(" + voucher + ")", Check.NO_SUCH, b -> b.admit(voucher));
        }
        for (int voucher : Check.outside(0, 99)) {
            Check.refused(Books::full, "admit(" + voucher + ")", Check.NO_SUCH, b -> b.admit(voucher));
        }
        Check.refused(Books::unused, "admit(0)", Check.NO_SUCH, b -> b.admit(0));
        Check.refused(() -> Books.withLine(5, 0, 9), "admit(0) with a line", Check.NO_SUCH, b -> b.admit(0));
    }

    private static void admitTheFirstAndLast() {
        GrantBook book = Books.withLine(10000000, 0, 9999);
        for (int i = 0; i < 100; i++) {
            book.spend(0, i, 1 + i);
        }
        book.refuse(0);
        book.refuse(99);
        Check.due("admit the first of a hundred", book.admit(0), 1);
        Check.due("admit the last of a hundred", book.admit(99), 100);
        Check.due("all of them", book.costs(9999), 5050);
    }

    /** "Throws IllegalStateException if it is not refused": never, not any more, or only outside the days. */
    private static void admitNotRefused() {
        Check.refused(Books::busy, "admit one never refused", Check.BAD_STATE, b -> b.admit(0));
        Check.refused(Books::busy, "admit one outside the days", Check.BAD_STATE, b -> b.admit(2));
        Check.refused(Books::full, "admit the first of a hundred", Check.BAD_STATE, b -> b.admit(0));
        Check.Story admitted = () -> {
            GrantBook book = Books.busy();
            book.admit(6);
            return book;
        };
        Check.refused(admitted, "admit again", Check.BAD_STATE, b -> b.admit(6));
    }

    /** "Returns how much more is eligible of all vouchers, together": 0 if all of it is taken from others. */
    private static void admitWithNothingMore() {
        GrantBook book = Books.withLine(100, 10, 20);
        book.spend(0, 9, 50);
        book.spend(0, 10, 40);
        book.spend(0, 15, 100);
        book.spend(0, 20, 1);
        for (int i = 0; i < 4; i++) {
            book.refuse(i);
        }
        Check.due("one ahead of the first day", book.admit(0), 0);
        Check.due("one that takes all the room", book.admit(2), 100);
        Check.due("one behind it, without room", book.admit(3), 0);
        Check.due("one ahead of it, whose room was taken", book.admit(1), 0);
        Check.due("which has it again", book.eligible(1), 40);
        Check.due("and leaves the rest", book.eligible(2), 60);
    }

    /** "how much more ... of all vouchers, together": not of the admitted one alone. */
    private static void admitWithSomeOfItTakenAway() {
        int[][] rest = {{39, 60}, {40, 60}, {41, 59}, {99, 1}, {100, 0}, {101, 0}};
        for (int[] r : rest) {
            GrantBook book = Books.withLine(100, 0, 9999);
            book.spend(0, 1, 60);
            book.spend(0, 2, r[0]);
            book.refuse(0);
            Check.due("60 admitted ahead of " + r[0], book.admit(0), r[1]);
        }
    }

    private static void admitAfterAnExtension() {
        GrantBook book = Books.withLine(100, 10, 20);
        book.spend(0, 21, 30);
        book.refuse(0);
        book.extend(0, 21);
        Check.due("a refused one is not let in by days", book.fits(0), false);
        Check.due("but by this", book.admit(0), 30);
    }

    // ---- promise 12

    private static void promise12() {
        matchAmountEnds();
        matchOutOfRange();
        matchAtMostInAll();
        matchFarAbove();
        matchOutOfRangeComesFirst();
    }

    /** "amount: 1 to 10000000"; "Returns all match then". */
    private static void matchAmountEnds() {
        Check.due("the lowest", new GrantBook().match(1), 1);
        Check.due("the highest", new GrantBook().match(10000000), 10000000);
        GrantBook book = new GrantBook();
        book.match(9999999);
        book.match(10000000);
        Check.due("all of it", book.match(1), 20000000);
    }

    /** "Throws IllegalArgumentException if amount is out of range". */
    private static void matchOutOfRange() {
        Check.Story[] stories = {Books::unused, Books::busy, Books::claimed};
        for (Check.Story story : stories) {
            for (int amount : Check.outside(1, 10000000)) {
                Check.refused(story, "match(" + amount + ")", Check.BAD_ARGUMENT, b -> b.match(amount));
            }
            Check.refused(story, "match(-1)", Check.BAD_ARGUMENT, b -> b.match(-1));
        }
    }

    private static Check.Story toldInAll(int match) {
        return () -> {
            GrantBook book = Books.withLine(10000000, 0, 9999);
            book.spend(0, 0, 10000000);
            int told = 0;
            while (told < match) {
                told = book.match(Math.min(10000000, match - told));
            }
            return book;
        };
    }

    /** "Throws IllegalStateException if all match would be above 100000000": to it is allowed. */
    private static void matchAtMostInAll() {
        Check.due("1 to the most", toldInAll(99999999).tell().match(1), 100000000);
        Check.refused(toldInAll(99999999), "2 with 99999999", Check.BAD_STATE, b -> b.match(2));
        Check.due("10000000 to the most", toldInAll(90000000).tell().match(10000000), 100000000);
        Check.refused(toldInAll(90000001), "10000000 with 90000001", Check.BAD_STATE, b -> b.match(10000000));
        Check.due("one less", toldInAll(90000001).tell().match(9999999), 100000000);
        Check.refused(toldInAll(100000000), "1 with the most", Check.BAD_STATE, b -> b.match(1));
    }

    private static void matchFarAbove() {
        Check.refused(toldInAll(100000000), "10000000 with the most", Check.BAD_STATE, b -> b.match(10000000));
        Check.refused(Books::full, "1 with the most of all", Check.BAD_STATE, b -> b.match(1));
        GrantBook book = toldInAll(99999999).tell();
        Check.throwsJust(book, "2 with 99999999", Check.BAD_STATE, b -> b.match(2));
        Check.due("what was refused does not count", book.match(1), 100000000);
    }

    /** "if several apply, the one that it lists first is thrown". */
    private static void matchOutOfRangeComesFirst() {
        for (int amount : Check.outside(1, 10000000)) {
            Check.refused(Books::full, "match(" + amount + ") with the most", Check.BAD_ARGUMENT, b -> b.match(amount));
        }
    }

    // ---- promise 13

    /** "Returns the number of vouchers": from none to the most; one whose spending was refused does not count. */
    private static void promise13() {
        GrantBook book = Books.withLine(10, 5, 6);
        for (int i = 0; i < 100; i++) {
            Check.due("vouchers()", book.vouchers(), i);
            if (i % 10 == 0) {
                Check.throwsJust(book, "a bad voucher", Check.BAD_ARGUMENT, b -> b.spend(0, 5, 0));
                Check.due("vouchers() after it", book.vouchers(), i);
            }
            book.spend(0, i, 1);
        }
        Check.due("vouchers() at the most", book.vouchers(), 100);
        Check.throwsJust(book, "one more", Check.BAD_STATE, b -> b.spend(0, 5, 1));
        Check.due("vouchers() after one too many", book.vouchers(), 100);
        book.refuse(99);
        Check.due("vouchers() with a refused one", book.vouchers(), 100);
    }

    // ---- promise 14

    private static void promise14() {
        fitsNoSuchVoucher();
        fitsFromTheFirstToTheLastDay();
        fitsOnALineOfOneDay();
        fitsUnlessRefused();
        fitsWithoutRoom();
    }

    /** "Throws IndexOutOfBoundsException if there is no such voucher". */
    private static void fitsNoSuchVoucher() {
        for (int voucher : new int[] {-1, 7, 8, 99, 100, MIN, MAX}) {
            Check.refused(Books::busy, "fits(" + voucher + ")", Check.NO_SUCH, b -> b.fits(voucher));
        }
        for (int voucher : Check.outside(0, 99)) {
            Check.refused(Books::full, "fits(" + voucher + ")", Check.NO_SUCH, b -> b.fits(voucher));
        }
        Check.refused(Books::unused, "fits(0)", Check.NO_SUCH, b -> b.fits(0));
        Check.due("the first of a hundred: day 0", Books.full().fits(0), true);
        Check.due("the last of a hundred: refused", Books.full().fits(99), false);
    }

    /** "It fits, if its day is from the first to the last day of its line". */
    private static void fitsFromTheFirstToTheLastDay() {
        GrantBook book = Books.withLine(100, 10, 20);
        book.addLine(100, 0, 9999, true);
        int[] days = {0, 9, 10, 11, 19, 20, 21, 9999};
        boolean[] want = {false, false, true, true, true, true, false, false};
        for (int i = 0; i < days.length; i++) {
            int voucher = book.spend(0, days[i], 1);
            Check.due("day " + days[i] + " of 10 to 20", book.fits(voucher), want[i]);
            int open = book.spend(1, days[i], 1);
            Check.due("day " + days[i] + " of 0 to 9999", book.fits(open), true);
        }
    }

    private static void fitsOnALineOfOneDay() {
        for (int day : new int[] {0, 500, 9999}) {
            GrantBook book = Books.withLine(100, day, day);
            Check.due("on it", book.fits(book.spend(0, day, 1)), true);
            Check.due("on day 1", book.fits(book.spend(0, 1, 1)), false);
            Check.due("around it", book.fits(book.spend(0, day == 0 ? 1 : day - 1, 1)), false);
            Check.due("on the other side", book.fits(book.spend(0, day == 9999 ? 0 : day + 1, 1)), false);
        }
    }

    /** "and it is not refused". */
    private static void fitsUnlessRefused() {
        GrantBook book = Books.withLine(100, 10, 20);
        for (int day : new int[] {10, 20, 21}) {
            int voucher = book.spend(0, day, 1);
            book.refuse(voucher);
            Check.due("refused, day " + day, book.fits(voucher), false);
            book.admit(voucher);
            Check.due("admitted, day " + day, book.fits(voucher), day <= 20);
        }
    }

    private static void fitsWithoutRoom() {
        GrantBook book = Books.withLine(0, 0, 9999);
        book.spend(0, 5, 1);
        Check.due("one with nothing eligible", book.fits(0), true);
    }

    // ---- promise 15

    private static void promise15() {
        eligibleNoSuchVoucher();
        eligibleUpToTheRoom();
        eligibleNotBelowNothing();
        eligibleByRisingDays();
        eligibleOfTheSameDayByNumbers();
        eligibleOfOthersNothing();
        eligibleOfTheLineAlone();
        eligibleOfAHundred();
    }

    /** "Throws IndexOutOfBoundsException if there is no such voucher". */
    private static void eligibleNoSuchVoucher() {
        for (int voucher : new int[] {-1, 7, 8, 99, 100, MIN, MAX}) {
            Check.refused(Books::busy, "eligible(" + voucher + ")", Check.NO_SUCH, b -> b.eligible(voucher));
        }
        for (int voucher : Check.outside(0, 99)) {
            Check.refused(Books::full, "eligible(" + voucher + ")", Check.NO_SUCH, b -> b.eligible(voucher));
        }
        Check.refused(Books::unused, "eligible(0)", Check.NO_SUCH, b -> b.eligible(0));
    }

    /** "its amount, but not more than the room of its line less what is eligible of the vouchers ... ahead of it". */
    private static void eligibleUpToTheRoom() {
        int[][] want = {{99, 99, 1}, {100, 100, 0}, {101, 100, 0}, {1, 1, 5}, {10000000, 100, 0}};
        for (int[] w : want) {
            GrantBook book = Books.withLine(100, 0, 9999);
            book.spend(0, 1, w[0]);
            book.spend(0, 2, 5);
            Check.due("of " + w[0] + " with the room 100", book.eligible(0), w[1]);
            Check.due("of 5 behind it", book.eligible(1), w[2]);
        }
    }

    /** "and not below 0": though more was spent than is left after a move. */
    private static void eligibleNotBelowNothing() {
        GrantBook book = Books.withLine(100, 0, 9999);
        book.addLine(0, 0, 9999, true);
        book.spend(0, 1, 95);
        book.spend(0, 2, 5);
        book.spend(0, 3, 5);
        book.spend(1, 1, 12);
        book.move(0, 1, 10);
        int[] want = {90, 0, 0, 10};
        for (int i = 0; i < want.length; i++) {
            Check.due("eligible(" + i + ") after the move", book.eligible(i), want[i]);
        }
    }

    /** "The vouchers are gone through by rising days": whatever their numbers. */
    private static void eligibleByRisingDays() {
        GrantBook book = Books.withLine(100, 0, 9999);
        int[] days = {9999, 5, 6, 4, 0};
        int[][] want = {{60}, {40, 60}, {0, 60, 40}, {0, 40, 0, 60}, {0, 0, 0, 40, 60}};
        for (int i = 0; i < days.length; i++) {
            book.spend(0, days[i], 60);
            for (int v = 0; v <= i; v++) {
                Check.due("eligible(" + v + ") of " + (i + 1), book.eligible(v), want[i][v]);
            }
        }
    }

    /** "those of the same day by rising numbers". */
    private static void eligibleOfTheSameDayByNumbers() {
        for (int day : new int[] {0, 5, 9999}) {
            GrantBook book = Books.withLine(100, 0, 9999);
            book.spend(0, day, 50);
            book.spend(0, day, 49);
            book.spend(0, day, 48);
            book.spend(0, day, 47);
            int[] want = {50, 49, 1, 0};
            for (int i = 0; i < want.length; i++) {
                Check.due("eligible(" + i + ") on day " + day, book.eligible(i), want[i]);
            }
            book.refuse(1);
            book.admit(1);
            Check.due("a refusal taken back changes no place", book.eligible(2), 1);
        }
    }

    /** "Of others nothing is eligible." */
    private static void eligibleOfOthersNothing() {
        GrantBook book = Books.withLine(100, 10, 20);
        book.spend(0, 9, 80);
        book.spend(0, 10, 80);
        book.spend(0, 15, 30);
        book.spend(0, 21, 1);
        book.refuse(1);
        int[] want = {0, 0, 30, 0};
        for (int i = 0; i < want.length; i++) {
            Check.due("eligible(" + i + ")", book.eligible(i), want[i]);
        }
    }

    /** "of the vouchers of the line ahead of it": those of other lines take no room. */
    private static void eligibleOfTheLineAlone() {
        GrantBook book = twelveLines();
        for (int line = 11; line >= 0; line--) {
            book.spend(line, 5, 600);
        }
        for (int line = 0; line < 12; line++) {
            int voucher = book.spend(line, 6, 600);
            Check.due("the first one of its line", book.eligible(11 - line), 600);
            Check.due("the next one of its line", book.eligible(voucher), 400);
        }
    }

    private static void eligibleOfAHundred() {
        GrantBook book = Books.withLine(10000000, 0, 9999);
        for (int i = 0; i < 100; i++) {
            book.spend(0, 99 - i, i == 0 ? 10000000 : 100000);
        }
        Check.due("the first told, the last by day", book.eligible(0), 100000);
        Check.due("the last told, the first by day", book.eligible(99), 100000);
        book.refuse(99);
        Check.due("the last by day takes what is free", book.eligible(0), 200000);
        Check.due("all of the room", book.left(0), 0);
    }
}
