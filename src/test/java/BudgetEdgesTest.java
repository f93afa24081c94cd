/** Promises 1 to 8: a test for each sentence that names a boundary case; the sentence stands ahead of it. */
public final class BudgetEdgesTest {
    private static final int MIN = Integer.MIN_VALUE;
    private static final int MAX = Integer.MAX_VALUE;

    public static void main(String[] args) {
        promise1();
        promise2();
        promise3();
        promise4();
        promise5();
        promise6();
        promise7();
        promise8();
        Check.end("BudgetEdgesTest");
    }

    // ---- promise 1

    private static void promise1() {
        newHasNoLines();
        newHasNoVouchers();
        newHasNoMatch();
        newHasNoClaims();
        amountAtFirst();
        shareAtFirst();
        overheadRateAtFirst();
        ceilingAtFirst();
    }

    /** "No lines". */
    private static void newHasNoLines() {
        Check.due("lines of a new object", new GrantBook().lines(), 0);
        for (int line : new int[] {0, 1, 11, 12, -1, MIN, MAX}) {
            Check.refused(Books::unused, "room(" + line + ")", Check.NO_SUCH, b -> b.room(line));
        }
    }

    /** "No ... vouchers". */
    private static void newHasNoVouchers() {
        Check.due("vouchers of a new object", new GrantBook().vouchers(), 0);
        Check.due("costs of a new object", new GrantBook().costs(9999), 0);
        for (int voucher : new int[] {0, 1, 99, 100, -1, MIN, MAX}) {
            Check.refused(Books::unused, "eligible(" + voucher + ")", Check.NO_SUCH, b -> b.eligible(voucher));
        }
    }

    /** "No ... match". */
    private static void newHasNoMatch() {
        Check.due("all match after the first is told", new GrantBook().match(1), 1);
        GrantBook book = Books.withLine(1000, 0, 9999);
        book.spend(0, 0, 1000);
        Check.due("nothing is earned without match", book.earned(9999), 0);
    }

    /** "No ... claims". */
    private static void newHasNoClaims() {
        GrantBook book = new GrantBook();
        Check.due("claims of a new object", book.claims(), 0);
        Check.due("unsettled of a new object", book.unsettled(), 0);
        for (int claim : new int[] {0, 1, 39, 40, -1, MIN, MAX}) {
            Check.refused(Books::unused, "paid(" + claim + ")", Check.NO_SUCH, b -> b.paid(claim));
        }
        Check.due("the first claim may be for day 0", book.claim(0), 0);
    }

    private static GrantBook unsetWithCosts(int amount) {
        GrantBook book = Books.withLine(10000000, 0, 9999);
        book.spend(0, 0, amount);
        return book;
    }

    /** "an amount, 1000000 at first". */
    private static void amountAtFirst() {
        GrantBook below = unsetWithCosts(1283332);
        below.match(10000000);
        Check.due("below the amount", below.earned(0), 999999);
        GrantBook at = unsetWithCosts(1283334);
        at.match(10000000);
        Check.due("at the amount", at.earned(0), 1000000);
        GrantBook above = unsetWithCosts(1283336);
        above.match(10000000);
        Check.due("above the amount", above.earned(0), 1000000);
    }

    /** "a share in percent, 75 at first". */
    private static void shareAtFirst() {
        GrantBook book = unsetWithCosts(1000);
        Check.due("825 need 275", book.missingMatch(0), 275);
        book.match(275);
        Check.due("75 percent of 1100", book.earned(0), 825);
    }

    /** "an overhead rate in percent, 10 at first". */
    private static void overheadRateAtFirst() {
        Check.due("of 9", unsetWithCosts(9).overhead(0), 0);
        Check.due("of 10", unsetWithCosts(10).overhead(0), 1);
        Check.due("of 1000", unsetWithCosts(1000).overhead(0), 100);
    }

    /** "and a ceiling for overhead, 50000 at first". */
    private static void ceilingAtFirst() {
        Check.due("below the ceiling", unsetWithCosts(499999).overhead(0), 49999);
        Check.due("at the ceiling", unsetWithCosts(500000).overhead(0), 50000);
        Check.due("above the ceiling", unsetWithCosts(500010).overhead(0), 50000);
    }

    // ---- promise 2

    private static void promise2() {
        grantAmountEnds();
        grantShareEnds();
        grantOverheadEnds();
        grantCeilingEnds();
        grantOutOfRange();
        grantIsKeptAfterAClaim();
        grantOutOfRangeComesFirst();
        grantIsSetAgainWithoutAClaim();
    }

    /** Costs of 120000000, all of them in the base, and the most match. */
    private static GrantBook bookAtTheMost() {
        GrantBook book = new GrantBook();
        for (int line = 0; line < 12; line++) {
            book.addLine(10000000, 0, 9999, true);
            book.spend(line, 0, 10000000);
        }
        for (int i = 0; i < 10; i++) {
            book.match(10000000);
        }
        return book;
    }

    /** "amount: 0 to 100000000". */
    private static void grantAmountEnds() {
        GrantBook book = bookAtTheMost();
        for (int amount : new int[] {0, 1, 99999999, 100000000}) {
            book.setGrant(amount, 100, 0, 0);
            Check.due("earned of the amount " + amount, book.earned(0), amount);
        }
    }

    /** "share: 1 to 100". */
    private static void grantShareEnds() {
        GrantBook book = bookAtTheMost();
        int[][] earned = {{1, 1010101}, {2, 2040816}, {99, 100000000}, {100, 100000000}};
        for (int[] e : earned) {
            book.setGrant(100000000, e[0], 0, 0);
            Check.due("earned with the share " + e[0], book.earned(0), e[1]);
        }
    }

    /** "overhead: 0 to 100". */
    private static void grantOverheadEnds() {
        GrantBook book = unsetWithCosts(1000);
        int[][] overhead = {{0, 0}, {1, 10}, {99, 990}, {100, 1000}};
        for (int[] o : overhead) {
            book.setGrant(0, 1, o[0], 100000000);
            Check.due("overhead with the rate " + o[0], book.overhead(0), o[1]);
        }
    }

    /** "ceiling: 0 to 100000000". */
    private static void grantCeilingEnds() {
        GrantBook book = bookAtTheMost();
        for (int ceiling : new int[] {0, 1, 99999999, 100000000}) {
            book.setGrant(0, 1, 100, ceiling);
            Check.due("overhead with the ceiling " + ceiling, book.overhead(0), ceiling);
        }
    }

    /** "Throws IllegalArgumentException if an argument is out of range". */
    private static void grantOutOfRange() {
        for (int amount : Check.outside(0, 100000000)) {
            Check.refused(Books::busy, "setGrant amount " + amount, Check.BAD_ARGUMENT, b -> b.setGrant(amount, 50, 5, 5));
        }
        for (int share : Check.outside(1, 100)) {
            Check.refused(Books::busy, "setGrant share " + share, Check.BAD_ARGUMENT, b -> b.setGrant(5, share, 5, 5));
        }
        for (int overhead : Check.outside(0, 100)) {
            Check.refused(Books::busy, "setGrant overhead " + overhead, Check.BAD_ARGUMENT, b -> b.setGrant(5, 50, overhead, 5));
        }
        for (int ceiling : Check.outside(0, 100000000)) {
            Check.refused(Books::busy, "setGrant ceiling " + ceiling, Check.BAD_ARGUMENT, b -> b.setGrant(5, 50, 5, ceiling));
        }
    }

    /** "Throws IllegalStateException if a claim was made": one, of any pay, or as many as there can be. */
    private static void grantIsKeptAfterAClaim() {
        Check.Story withClaimOfNothing = () -> {
            GrantBook book = new GrantBook();
            book.claim(0);
            return book;
        };
        Check.Story[] stories = {withClaimOfNothing, Books::claimed, Books::full};
        for (Check.Story story : stories) {
            Check.refused(story, "setGrant after a claim", Check.BAD_STATE, b -> b.setGrant(5, 50, 5, 5));
            Check.refused(story, "the lowest after a claim", Check.BAD_STATE, b -> b.setGrant(0, 1, 0, 0));
            Check.refused(story, "the highest after a claim", Check.BAD_STATE,
                b -> b.setGrant(100000000, 100, 100, 100000000));
        }
    }

    /** "if several apply, the one that it lists first is thrown". */
    private static void grantOutOfRangeComesFirst() {
        Check.refused(Books::claimed, "bad amount after a claim", Check.BAD_ARGUMENT, b -> b.setGrant(-1, 50, 5, 5));
        Check.refused(Books::claimed, "bad share after a claim", Check.BAD_ARGUMENT, b -> b.setGrant(5, 0, 5, 5));
        Check.refused(Books::claimed, "bad overhead after a claim", Check.BAD_ARGUMENT, b -> b.setGrant(5, 50, 101, 5));
        Check.refused(Books::claimed, "bad ceiling after a claim", Check.BAD_ARGUMENT, b -> b.setGrant(5, 50, 5, 100000001));
    }

    /** A claim that was refused was not made. */
    private static void grantIsSetAgainWithoutAClaim() {
        GrantBook book = Books.busy();
        Check.throwsJust(book, "claim(10000)", Check.BAD_ARGUMENT, b -> b.claim(10000));
        book.setGrant(7, 100, 0, 0);
        Check.due("the grant set after a refused claim", book.earned(9999), 7);
        book.setGrant(8, 100, 0, 0);
        Check.due("and set again", book.earned(9999), 8);
    }

    // ---- promise 3

    private static void promise3() {
        budgetEnds();
        firstEnds();
        lastEnds();
        lineOutOfRange();
        lineBaseOrNot();
        atMostTwelveLines();
        lineOutOfRangeComesFirst();
    }

    /** "budget: 0 to 10000000". */
    private static void budgetEnds() {
        GrantBook book = new GrantBook();
        int[] budgets = {0, 1, 9999999, 10000000};
        for (int i = 0; i < budgets.length; i++) {
            Check.due("the line's number", book.addLine(budgets[i], 0, 9999, true), i);
            Check.due("its room", book.room(i), budgets[i]);
        }
    }

    /** "first: 0 to 9999". */
    private static void firstEnds() {
        for (int first : new int[] {0, 1, 9998, 9999}) {
            GrantBook book = Books.withLine(100, first, 9999);
            book.spend(0, first, 1);
            Check.due("a voucher on the first day " + first, book.fits(0), true);
            if (first > 0) {
                book.spend(0, first - 1, 1);
                Check.due("a voucher ahead of the first day " + first, book.fits(1), false);
            }
        }
    }

    /** "last: first to 9999". */
    private static void lastEnds() {
        int[][] days = {{0, 0}, {0, 1}, {0, 9999}, {50, 50}, {50, 51}, {9998, 9998}, {9998, 9999}, {9999, 9999}};
        for (int[] d : days) {
            GrantBook book = Books.withLine(100, d[0], d[1]);
            book.spend(0, d[1], 1);
            Check.due("a voucher on the last day " + d[1], book.fits(0), true);
            if (d[1] < 9999) {
                book.spend(0, d[1] + 1, 1);
                Check.due("a voucher behind the last day " + d[1], book.fits(1), false);
            }
        }
    }

    /** "Throws IllegalArgumentException if an argument is out of range". */
    private static void lineOutOfRange() {
        for (int budget : Check.outside(0, 10000000)) {
            Check.refused(Books::busy, "addLine budget " + budget, Check.BAD_ARGUMENT, b -> b.addLine(budget, 0, 9, true));
        }
        for (int first : Check.outside(0, 9999)) {
            Check.refused(Books::busy, "addLine first " + first, Check.BAD_ARGUMENT, b -> b.addLine(5, first, 9999, true));
            Check.refused(Books::busy, "addLine of one day " + first, Check.BAD_ARGUMENT, b -> b.addLine(5, first, first, true));
        }
        for (int first : new int[] {0, 50, 9999}) {
            for (int last : Check.outside(first, 9999)) {
                Check.refused(Books::busy, "addLine first " + first + " last " + last, Check.BAD_ARGUMENT,
                    b -> b.addLine(5, first, last, false));
            }
        }
    }

    /** "isInBase: whether it is in the base for overhead". */
    private static void lineBaseOrNot() {
        GrantBook book = new GrantBook();
        book.addLine(1000, 0, 9999, false);
        book.spend(0, 0, 100);
        Check.due("overhead of a line that is not in the base", book.overhead(0), 0);
        book.addLine(1000, 0, 9999, true);
        book.spend(1, 0, 200);
        Check.due("overhead of a line in the base", book.overhead(0), 20);
    }

    /** "there are at most 12", "Throws IllegalStateException if there are 12". */
    private static void atMostTwelveLines() {
        GrantBook book = new GrantBook();
        for (int i = 0; i < 11; i++) {
            book.addLine(i, 0, 0, true);
        }
        Check.due("the twelfth line", book.addLine(77, 0, 0, true), 11);
        Check.due("its room", book.room(11), 77);
        Check.throwsJust(book, "a thirteenth line", Check.BAD_STATE, b -> b.addLine(78, 0, 0, true));
        Check.due("the room of the twelfth", book.room(11), 77);
        Check.refused(Books::full, "a thirteenth line", Check.BAD_STATE, b -> b.addLine(5, 0, 9, true));
        Check.refused(Books::full, "the lowest", Check.BAD_STATE, b -> b.addLine(0, 0, 0, false));
        Check.refused(Books::full, "the highest", Check.BAD_STATE, b -> b.addLine(10000000, 9999, 9999, true));
    }

    /** "if several apply, the one that it lists first is thrown". */
    private static void lineOutOfRangeComesFirst() {
        Check.refused(Books::full, "bad budget with 12", Check.BAD_ARGUMENT, b -> b.addLine(-1, 0, 9, true));
        Check.refused(Books::full, "bad first with 12", Check.BAD_ARGUMENT, b -> b.addLine(5, -1, 9, true));
        Check.refused(Books::full, "bad last with 12", Check.BAD_ARGUMENT, b -> b.addLine(5, 9, 8, true));
    }

    // ---- promise 4

    private static void promise4() {
        extendEnds();
        extendToItsLastDay();
        extendOutOfRange();
        extendNoSuchLine();
        extendNoSuchLineComesFirst();
        extendTakesVouchersIn();
    }

    /** "last: from its last day to 9999"; "Returns its last day before". */
    private static void extendEnds() {
        GrantBook book = Books.withLine(100, 10, 20);
        Check.due("to its last day", book.extend(0, 20), 20);
        Check.due("by one day", book.extend(0, 21), 20);
        Check.due("to one day ahead of the end", book.extend(0, 9998), 21);
        Check.due("to the end of all days", book.extend(0, 9999), 9998);
        Check.due("and again", book.extend(0, 9999), 9999);
        Check.due("of a line that ends on day 0", Books.withLine(100, 0, 0).extend(0, 1), 0);
    }

    /** "its last day itself changes nothing". */
    private static void extendToItsLastDay() {
        Check.keeps(Books::busy, "extend(0, 50)", b -> Check.due("extend(0, 50)", b.extend(0, 50), 50));
        Check.keeps(Books::busy, "extend(1, 9999)", b -> Check.due("extend(1, 9999)", b.extend(1, 9999), 9999));
        Check.keeps(Books::claimed, "extend(2, 30)", b -> Check.due("extend(2, 30)", b.extend(2, 30), 30));
    }

    /** "Throws IllegalArgumentException if last is out of range". */
    private static void extendOutOfRange() {
        for (int last : Check.outside(50, 9999)) {
            Check.refused(Books::busy, "extend(0, " + last + ")", Check.BAD_ARGUMENT, b -> b.extend(0, last));
        }
        for (int last : new int[] {0, 9, 10, -1}) {
            Check.refused(Books::busy, "extend(0, " + last + ")", Check.BAD_ARGUMENT, b -> b.extend(0, last));
        }
        Check.refused(Books::busy, "extend(1, 9998)", Check.BAD_ARGUMENT, b -> b.extend(1, 9998));
        Check.refused(Books::busy, "extend(1, 10000)", Check.BAD_ARGUMENT, b -> b.extend(1, 10000));
        Check.refused(() -> Books.withLine(5, 0, 0), "extend(0, -1)", Check.BAD_ARGUMENT, b -> b.extend(0, -1));
        GrantBook book = Books.withLine(100, 10, 20);
        book.extend(0, 30);
        Check.throwsJust(book, "back to the first last day", Check.BAD_ARGUMENT, b -> b.extend(0, 29));
    }

    /** "Throws IndexOutOfBoundsException if there is no such line". */
    private static void extendNoSuchLine() {
        for (int line : new int[] {-1, 3, 11, 12, MIN, MAX}) {
            Check.refused(Books::busy, "extend(" + line + ", 60)", Check.NO_SUCH, b -> b.extend(line, 60));
        }
        for (int line : Check.outside(0, 11)) {
            Check.refused(Books::full, "extend(" + line + ", 9999)", Check.NO_SUCH, b -> b.extend(line, 9999));
        }
        Check.refused(Books::unused, "extend(0, 5)", Check.NO_SUCH, b -> b.extend(0, 5));
        Check.due("the last line of twelve", Books.full().extend(11, 9999), 9011);
    }

    /** "if several apply, the one that it lists first is thrown". */
    private static void extendNoSuchLineComesFirst() {
        for (int last : Check.outside(0, 9999)) {
            Check.refused(Books::busy, "extend(3, " + last + ")", Check.NO_SUCH, b -> b.extend(3, last));
            Check.refused(Books::busy, "extend(-1, " + last + ")", Check.NO_SUCH, b -> b.extend(-1, last));
        }
    }

    /** "Lets a line go on to a later last day": the first day that is let in and the first that is not. */
    private static void extendTakesVouchersIn() {
        GrantBook book = Books.withLine(100, 10, 20);
        for (int day : new int[] {21, 25, 26}) {
            book.spend(0, day, 1);
        }
        book.extend(0, 25);
        Check.due("one day behind the former last day", book.eligible(0), 1);
        Check.due("on the last day", book.eligible(1), 1);
        Check.due("behind it", book.eligible(2), 0);
    }

    // ---- promise 5

    private static void promise5() {
        moveAmountEnds();
        moveNoSuchLine();
        moveAmountOutOfRange();
        moveToTheSameLine();
        moveAtMostATenth();
        moveAtMostATenthInAll();
        moveATenthOfTheBudgetNotTheRoom();
        moveWhichComesFirst();
        moveWithTwelveLines();
    }

    private static GrantBook withTwoLines(int budget) {
        GrantBook book = Books.withLine(budget, 0, 9999);
        book.addLine(50, 0, 9999, false);
        return book;
    }

    /** "amount: 1 to 10000000": the highest is in range, but a tenth of every budget is below it. */
    private static void moveAmountEnds() {
        GrantBook book = withTwoLines(10000000);
        Check.due("move 1", book.move(0, 1, 1), 9999999);
        Check.due("the room that took it", book.room(1), 51);
        Check.due("all that is left of a tenth", book.move(0, 1, 999999), 9000000);
        Check.due("the room that took it all", book.room(1), 1000050);
        Check.refused(() -> withTwoLines(10000000), "move 10000000", Check.BAD_STATE, b -> b.move(0, 1, 10000000));
        Check.refused(() -> withTwoLines(10000000), "move 9999999", Check.BAD_STATE, b -> b.move(0, 1, 9999999));
    }

    /** "Throws IndexOutOfBoundsException if there is no such line": either of the two. */
    private static void moveNoSuchLine() {
        for (int line : new int[] {-1, 3, 11, 12, MIN, MAX}) {
            Check.refused(Books::busy, "move(" + line + ", 0, 5)", Check.NO_SUCH, b -> b.move(line, 0, 5));
            Check.refused(Books::busy, "move(0, " + line + ", 5)", Check.NO_SUCH, b -> b.move(0, line, 5));
        }
        for (int line : Check.outside(0, 11)) {
            Check.refused(Books::full, "move(" + line + ", 11, 5)", Check.NO_SUCH, b -> b.move(line, 11, 5));
            Check.refused(Books::full, "move(11, " + line + ", 5)", Check.NO_SUCH, b -> b.move(11, line, 5));
        }
        Check.refused(Books::unused, "move(0, 1, 5)", Check.NO_SUCH, b -> b.move(0, 1, 5));
    }

    /** "Throws IllegalArgumentException if amount is out of range". */
    private static void moveAmountOutOfRange() {
        for (int amount : Check.outside(1, 10000000)) {
            Check.refused(Books::busy, "move(0, 1, " + amount + ")", Check.BAD_ARGUMENT, b -> b.move(0, 1, amount));
        }
        Check.refused(Books::busy, "move(0, 1, -1)", Check.BAD_ARGUMENT, b -> b.move(0, 1, -1));
    }

    /** "... or both are the same line". */
    private static void moveToTheSameLine() {
        for (int line = 0; line < 3; line++) {
            int same = line;
            Check.refused(Books::busy, "move to the same line " + line, Check.BAD_ARGUMENT, b -> b.move(same, same, 1));
        }
        Check.refused(Books::full, "move(11, 11, 1)", Check.BAD_ARGUMENT, b -> b.move(11, 11, 1));
    }

    /** "Throws IllegalStateException if more than a tenth of the budget of the first one would be moved away from it". */
    private static void moveAtMostATenth() {
        for (int budget : new int[] {0, 1, 9, 10, 11, 19, 20, 99, 100, 109, 9999999, 10000000}) {
            int tenth = budget / 10;
            Check.refused(() -> withTwoLines(budget), "more than a tenth of " + budget, Check.BAD_STATE,
                b -> b.move(0, 1, tenth + 1));
            if (tenth > 0) {
                GrantBook book = withTwoLines(budget);
                Check.due("a tenth of " + budget, book.move(0, 1, tenth), budget - tenth);
                Check.throwsJust(book, "one more than a tenth of " + budget, Check.BAD_STATE, b -> b.move(0, 1, 1));
            }
        }
    }

    /** "In all, at most a tenth of its budget can be moved away from a line": by all moves, to whichever line. */
    private static void moveAtMostATenthInAll() {
        Check.Story movedByThirds = () -> {
            GrantBook book = withTwoLines(1000);
            book.addLine(0, 0, 9999, true);
            book.move(0, 1, 33);
            book.move(0, 2, 33);
            return book;
        };
        Check.due("the rest of the tenth", movedByThirds.tell().move(0, 1, 34), 900);
        Check.refused(movedByThirds, "one more than the rest", Check.BAD_STATE, b -> b.move(0, 1, 35));
        Check.refused(movedByThirds, "one more than the rest elsewhere", Check.BAD_STATE, b -> b.move(0, 2, 35));
        GrantBook book = movedByThirds.tell();
        Check.throwsJust(book, "a refused move", Check.BAD_STATE, b -> b.move(0, 1, 35));
        Check.due("a refused move takes nothing of the tenth", book.move(0, 2, 34), 900);
    }

    /** "a tenth of its budget": neither what was moved in nor what came back is budget. */
    private static void moveATenthOfTheBudgetNotTheRoom() {
        Check.Story movedToAndFro = () -> {
            GrantBook book = withTwoLines(1000);
            book.move(0, 1, 100);
            book.move(1, 0, 5);
            return book;
        };
        Check.refused(movedToAndFro, "what came back", Check.BAD_STATE, b -> b.move(0, 1, 1));
        Check.refused(movedToAndFro, "a tenth of the larger room", Check.BAD_STATE, b -> b.move(1, 0, 1));
        GrantBook taken = withTwoLines(1000);
        taken.move(1, 0, 5);
        Check.throwsJust(taken, "with more room no more", Check.BAD_STATE, b -> b.move(0, 1, 101));
        Check.due("with more room as much", taken.move(0, 1, 100), 905);
    }

    /** "if several apply, the one that it lists first is thrown". */
    private static void moveWhichComesFirst() {
        for (int amount : new int[] {0, 10000001, 10000000}) {
            Check.refused(Books::busy, "no line, amount " + amount, Check.NO_SUCH, b -> b.move(3, 0, amount));
            Check.refused(Books::busy, "no line to, amount " + amount, Check.NO_SUCH, b -> b.move(0, 3, amount));
            Check.refused(Books::busy, "no line, twice, amount " + amount, Check.NO_SUCH, b -> b.move(3, 3, amount));
            Check.refused(Books::busy, "same line, amount " + amount, Check.BAD_ARGUMENT, b -> b.move(0, 0, amount));
        }
        Check.refused(Books::busy, "too high and more than a tenth", Check.BAD_ARGUMENT, b -> b.move(2, 1, 10000001));
        Check.refused(Books::busy, "same line and more than a tenth", Check.BAD_ARGUMENT, b -> b.move(2, 2, 3));
    }

    /** "to: another line": from the first to the last line and back. */
    private static void moveWithTwelveLines() {
        GrantBook book = Books.full();
        Check.due("from the last to the first line", book.move(11, 0, 900001), 8100010);
        Check.due("the room of the first line", book.room(0), 9000000 - 800000 + 900001);
        Check.due("from the first to the last line", book.move(0, 11, 100000), 9000001);
        Check.due("the room of the last line", book.room(11), 8200010);
    }

    // ---- promise 6

    /** "Returns the number of lines": from none to the most; a refused one does not count. */
    private static void promise6() {
        GrantBook book = new GrantBook();
        for (int i = 0; i < 12; i++) {
            Check.due("lines()", book.lines(), i);
            Check.throwsJust(book, "a bad line", Check.BAD_ARGUMENT, b -> b.addLine(-1, 0, 0, true));
            Check.due("lines() after a refused one", book.lines(), i);
            book.addLine(0, 0, 0, false);
        }
        Check.due("lines() at the most", book.lines(), 12);
        Check.throwsJust(book, "one more", Check.BAD_STATE, b -> b.addLine(0, 0, 0, true));
        Check.due("lines() after one too many", book.lines(), 12);
    }

    // ---- promise 7

    private static void promise7() {
        roomNoSuchLine();
        roomOfTheFirstAndLast();
        roomAtTheEnds();
    }

    /** "Throws IndexOutOfBoundsException if there is no such line". */
    private static void roomNoSuchLine() {
        for (int line : new int[] {-1, 3, 4, 11, 12, MIN, MAX}) {
            Check.refused(Books::busy, "room(" + line + ")", Check.NO_SUCH, b -> b.room(line));
        }
        for (int line : Check.outside(0, 11)) {
            Check.refused(Books::full, "room(" + line + ")", Check.NO_SUCH, b -> b.room(line));
        }
        Check.refused(Books::unused, "room(0)", Check.NO_SUCH, b -> b.room(0));
    }

    private static void roomOfTheFirstAndLast() {
        Check.due("room(0) of three", Books.busy().room(0), 96000);
        Check.due("room(2) of three", Books.busy().room(2), 1020);
        Check.due("room(0) of twelve", Books.full().room(0), 8200000);
        Check.due("room(11) of twelve", Books.full().room(11), 9000011);
    }

    /** "Its room is its budget, plus what was moved to it, less what was moved away from it." */
    private static void roomAtTheEnds() {
        GrantBook book = new GrantBook();
        for (int i = 0; i < 12; i++) {
            book.addLine(i == 0 ? 0 : 10000000, 0, 9999, true);
        }
        Check.due("room of a budget of 0", book.room(0), 0);
        for (int i = 1; i < 12; i++) {
            Check.due("the least room of the highest budget", book.move(i, 0, 1000000), 9000000);
        }
        Check.due("room of a budget of 0 and eleven tenths", book.room(0), 11000000);
    }

    // ---- promise 8

    private static void promise8() {
        leftNoSuchLine();
        leftOfARoomUsedUp();
        leftOfAllVouchers();
        leftOfALineWithoutRoom();
        leftCountsWhatIsEligible();
    }

    /** "Throws IndexOutOfBoundsException if there is no such line". */
    private static void leftNoSuchLine() {
        for (int line : new int[] {-1, 3, 4, 11, 12, MIN, MAX}) {
            Check.refused(Books::busy, "left(" + line + ")", Check.NO_SUCH, b -> b.left(line));
        }
        for (int line : Check.outside(0, 11)) {
            Check.refused(Books::full, "left(" + line + ")", Check.NO_SUCH, b -> b.left(line));
        }
        Check.refused(Books::unused, "left(0)", Check.NO_SUCH, b -> b.left(0));
    }

    /** "Returns the room of a line, less what is eligible of all its vouchers": down to 0, not below. */
    private static void leftOfARoomUsedUp() {
        int[][] left = {{99, 1}, {100, 0}, {101, 0}, {10000000, 0}};
        for (int[] l : left) {
            GrantBook book = Books.withLine(100, 0, 9999);
            Check.due("left of an unspent line", book.left(0), 100);
            book.spend(0, 5, l[0]);
            Check.due("left after " + l[0] + " of 100", book.left(0), l[1]);
            book.refuse(0);
            Check.due("left after all is refused", book.left(0), 100);
        }
    }

    /** "of all its vouchers": those of the first and of the last of all days too. */
    private static void leftOfAllVouchers() {
        GrantBook book = Books.withLine(100, 0, 9999);
        book.addLine(100, 0, 9999, true);
        book.spend(0, 0, 1);
        book.spend(0, 9999, 20);
        Check.due("left of the line", book.left(0), 79);
        Check.due("left of the other one", book.left(1), 100);
    }

    private static void leftOfALineWithoutRoom() {
        GrantBook book = Books.withLine(0, 0, 9999);
        Check.due("left of a budget of 0", book.left(0), 0);
        book.spend(0, 0, 10000000);
        Check.due("left of a budget of 0, spent on", book.left(0), 0);
    }

    private static void leftCountsWhatIsEligible() {
        GrantBook book = withTwoLines(100);
        book.spend(0, 0, 95);
        Check.due("ahead of the move", book.left(0), 5);
        book.move(0, 1, 5);
        Check.due("all the rest is moved away", book.left(0), 0);
        book.move(0, 1, 5);
        Check.due("even what was spent is moved away", book.left(0), 0);
        Check.due("which bounds what is eligible", book.eligible(0), 90);
    }
}
