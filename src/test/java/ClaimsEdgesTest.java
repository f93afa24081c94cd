/** Promises 16 to 23: a test for each sentence that names a boundary case; the sentence stands ahead of it. */
public final class ClaimsEdgesTest {
    private static final int MIN = Integer.MIN_VALUE;
    private static final int MAX = Integer.MAX_VALUE;

    public static void main(String[] args) {
        promise16();
        promise17();
        promise18();
        promise19();
        promise20();
        promise21();
        promise22();
        promise23();
        Check.end("ClaimsEdgesTest");
    }

    /** A book with costs of this amount on day 5, all in the base, and no match. */
    private static GrantBook spent(int amount, int share, int overhead, int ceiling) {
        GrantBook book = Books.withLine(10000000, 0, 9999);
        book.setGrant(100000000, share, overhead, ceiling);
        book.spend(0, 5, amount);
        return book;
    }

    /** Costs of 120000000 on day 5, all in the base, and no match. */
    private static GrantBook spentTheMost(int share, int overhead, int ceiling) {
        GrantBook book = new GrantBook();
        book.setGrant(100000000, share, overhead, ceiling);
        for (int line = 0; line < 12; line++) {
            book.addLine(10000000, 0, 9999, true);
            book.spend(line, 5, 10000000);
        }
        return book;
    }

    private static void tellMostMatch(GrantBook book) {
        for (int i = 0; i < 10; i++) {
            book.match(10000000);
        }
    }

    private static GrantBook onDays(int... days) {
        GrantBook book = Books.withLine(10000000, 0, 9999);
        book.setGrant(100000000, 100, 10, 50000);
        int amount = 10;
        for (int day : days) {
            book.spend(0, day, amount);
            amount *= 10;
        }
        return book;
    }

    // ---- promise 16

    private static void promise16() {
        costsDayEnds();
        costsDayOutOfRange();
        costsOfThatDayAndEarlier();
        costsOfNothing();
        costsAtTheMost();
    }

    /** "day: 0 to 9999". */
    private static void costsDayEnds() {
        GrantBook book = onDays(0, 1, 9998, 9999);
        int[][] want = {{0, 10}, {1, 110}, {9997, 110}, {9998, 1110}, {9999, 11110}};
        for (int[] w : want) {
            Check.due("costs(" + w[0] + ")", book.costs(w[0]), w[1]);
        }
    }

    /** "Throws IllegalArgumentException if day is out of range". */
    private static void costsDayOutOfRange() {
        for (int day : Check.outside(0, 9999)) {
            Check.refused(Books::unused, "costs(" + day + ")", Check.BAD_ARGUMENT, b -> b.costs(day));
            Check.refused(Books::claimed, "costs(" + day + ")", Check.BAD_ARGUMENT, b -> b.costs(day));
        }
    }

    /** "The costs up to a day are what is eligible of all vouchers of that day and earlier ones, together". */
    private static void costsOfThatDayAndEarlier() {
        GrantBook book = onDays(500);
        Check.due("on the day ahead", book.costs(499), 0);
        Check.due("on that day", book.costs(500), 10);
        Check.due("on the day behind", book.costs(501), 10);
        book.addLine(100, 0, 9999, false);
        book.spend(1, 500, 3);
        book.spend(1, 501, 4);
        Check.due("of all lines", book.costs(500), 13);
        book.refuse(1);
        Check.due("without a refused one", book.costs(500), 10);
    }

    private static void costsOfNothing() {
        Check.due("without lines", new GrantBook().costs(0), 0);
        Check.due("without vouchers", Books.withLine(100, 0, 9999).costs(9999), 0);
        GrantBook book = Books.withLine(0, 0, 9999);
        book.spend(0, 0, 10000000);
        Check.due("without room", book.costs(9999), 0);
    }

    private static void costsAtTheMost() {
        GrantBook book = spentTheMost(100, 0, 0);
        Check.due("twelve lines used up", book.costs(9999), 120000000);
        for (int voucher = 12; voucher < 100; voucher++) {
            book.spend(voucher % 12, 5, 10000000);
        }
        Check.due("a hundred of the highest amount", book.costs(9999), 120000000);
    }

    // ---- promise 17

    private static void promise17() {
        overheadDayEnds();
        overheadDayOutOfRange();
        overheadRoundedDown();
        overheadAtMostTheCeiling();
        overheadOfTheBaseAlone();
        overheadDoesNotWrapAround();
    }

    /** "day: 0 to 9999". */
    private static void overheadDayEnds() {
        GrantBook book = onDays(0, 1, 9998, 9999);
        int[][] want = {{0, 1}, {1, 11}, {9997, 11}, {9998, 111}, {9999, 1111}};
        for (int[] w : want) {
            Check.due("overhead(" + w[0] + ")", book.overhead(w[0]), w[1]);
        }
    }

    /** "Throws IllegalArgumentException if day is out of range". */
    private static void overheadDayOutOfRange() {
        for (int day : Check.outside(0, 9999)) {
            Check.refused(Books::unused, "overhead(" + day + ")", Check.BAD_ARGUMENT, b -> b.overhead(day));
            Check.refused(Books::claimed, "overhead(" + day + ")", Check.BAD_ARGUMENT, b -> b.overhead(day));
        }
    }

    /** "Divisions are rounded down": once, for all vouchers together. */
    private static void overheadRoundedDown() {
        int[][] want = {{1, 0}, {9, 0}, {10, 1}, {11, 1}, {19, 1}, {20, 2}, {99, 9}, {100, 10}};
        for (int[] w : want) {
            Check.due("10 percent of " + w[0], spent(w[0], 50, 10, 1000).overhead(5), w[1]);
        }
        GrantBook book = spent(9, 50, 10, 1000);
        book.addLine(100, 0, 9999, true);
        book.spend(1, 5, 9);
        book.spend(0, 4, 2);
        Check.due("10 percent of 9, 9 and 2", book.overhead(5), 2);
    }

    /** "but at most the ceiling". */
    private static void overheadAtMostTheCeiling() {
        int[][] want = {{99, 99}, {100, 100}, {101, 100}, {1000, 100}, {10000000, 100}, {0, 0}, {1, 1}};
        for (int[] w : want) {
            Check.due("ceiling " + w[0], spent(1000, 50, 10, w[0]).overhead(5), w[1]);
        }
    }

    /** "of those of lines in the base". */
    private static void overheadOfTheBaseAlone() {
        GrantBook book = spent(1000, 50, 10, 5000);
        book.addLine(1000, 0, 9999, false);
        book.spend(1, 5, 1000);
        Check.due("the line outside of it does not count", book.overhead(5), 100);
        book.refuse(0);
        Check.due("nothing in the base", book.overhead(5), 0);
    }

    private static void overheadDoesNotWrapAround() {
        Check.due("100 percent of 120000000", spentTheMost(50, 100, 100000000).overhead(5), 100000000);
        Check.due("83 percent of 120000000", spentTheMost(50, 83, 100000000).overhead(5), 99600000);
        Check.due("18 percent of 120000000", spentTheMost(50, 18, 100000000).overhead(5), 21600000);
        Check.due("17 percent of 120000000", spentTheMost(50, 17, 100000000).overhead(5), 20400000);
    }

    // ---- promise 18

    private static void promise18() {
        earnedDayEnds();
        earnedDayOutOfRange();
        earnedRoundedDown();
        earnedAtMostTheAmount();
        earnedAtMostWithMatch();
        earnedMatchRoundedDown();
        earnedWithTheShareOf100();
        earnedDoesNotWrapAround();
        earnedOfNothing();
    }

    /** "day: 0 to 9999". */
    private static void earnedDayEnds() {
        GrantBook book = onDays(0, 1, 9998, 9999);
        int[][] want = {{0, 11}, {1, 121}, {9997, 121}, {9998, 1221}, {9999, 12221}};
        for (int[] w : want) {
            Check.due("earned(" + w[0] + ")", book.earned(w[0]), w[1]);
        }
    }

    /** "Throws IllegalArgumentException if day is out of range". */
    private static void earnedDayOutOfRange() {
        for (int day : Check.outside(0, 9999)) {
            Check.refused(Books::unused, "earned(" + day + ")", Check.BAD_ARGUMENT, b -> b.earned(day));
            Check.refused(Books::claimed, "earned(" + day + ")", Check.BAD_ARGUMENT, b -> b.earned(day));
        }
    }

    /** "the share in percent of costs and overhead ... together, divided by 100": rounded down, once. */
    private static void earnedRoundedDown() {
        int[][] want = {{1, 0}, {2, 1}, {3, 1}, {4, 2}, {199, 99}, {200, 100}, {201, 100}};
        for (int[] w : want) {
            GrantBook book = spent(w[0], 50, 0, 0);
            book.match(1000);
            Check.due("50 percent of " + w[0], book.earned(5), w[1]);
        }
        GrantBook book = spent(19, 50, 10, 1000);
        book.match(1000);
        Check.due("50 percent of 19 and 1 together", book.earned(5), 10);
    }

    /** "but at most the amount of the grant". */
    private static void earnedAtMostTheAmount() {
        int[][] want = {{0, 0}, {1, 1}, {549, 549}, {550, 550}, {551, 550}, {100000000, 550}};
        for (int[] w : want) {
            GrantBook book = spent(1000, 50, 10, 1000);
            book.setGrant(w[0], 50, 10, 1000);
            book.match(10000);
            Check.due("the amount " + w[0], book.earned(5), w[1]);
        }
    }

    /** "if the share is below 100, at most match * share / (100 - share), where match is all match that was told". */
    private static void earnedAtMostWithMatch() {
        GrantBook book = spent(1000, 60, 10, 1000);
        Check.due("no match", book.earned(5), 0);
        int[][] want = {{438, 657}, {1, 658}, {1, 660}, {1, 660}, {1000, 660}};
        for (int[] w : want) {
            int all = book.match(w[0]);
            Check.due("match of " + all, book.earned(5), w[1]);
        }
    }

    private static void earnedMatchRoundedDown() {
        int[][] want = {{1, 2}, {2, 4}, {3, 6}, {33, 67}, {34, 69}};
        for (int[] w : want) {
            GrantBook book = spent(10000, 67, 0, 0);
            book.match(w[0]);
            Check.due(w[0] + " * 67 / 33", book.earned(5), w[1]);
        }
        GrantBook low = spent(10000, 1, 0, 0);
        low.match(98);
        Check.due("98 * 1 / 99", low.earned(5), 0);
        low.match(1);
        Check.due("99 * 1 / 99", low.earned(5), 1);
    }

    /** "if the share is below 100": with 99 match bounds, with 100 it does not. */
    private static void earnedWithTheShareOf100() {
        GrantBook book = spent(1000, 100, 10, 1000);
        Check.due("the share 100 without match", book.earned(5), 1100);
        book.setGrant(100000000, 99, 10, 1000);
        Check.due("the share 99 without match", book.earned(5), 0);
        book.match(1);
        Check.due("the share 99 with 1", book.earned(5), 99);
        book.setGrant(100000000, 100, 10, 1000);
        Check.due("the share 100 with 1", book.earned(5), 1100);
    }

    private static void earnedDoesNotWrapAround() {
        Check.due("100 percent of 220000000", spentTheMost(100, 100, 100000000).earned(5), 100000000);
        GrantBook book = spentTheMost(99, 100, 100000000);
        tellMostMatch(book);
        Check.due("99 percent with the most match", book.earned(5), 100000000);
        GrantBook less = spentTheMost(45, 100, 100000000);
        tellMostMatch(less);
        Check.due("45 percent of 220000000, by match", less.earned(5), 81818181);
        GrantBook least = spentTheMost(1, 100, 100000000);
        tellMostMatch(least);
        Check.due("1 percent, by match", least.earned(5), 1010101);
        GrantBook few = spentTheMost(22, 0, 0);
        tellMostMatch(few);
        Check.due("22 percent of 120000000", few.earned(5), 26400000);
    }

    private static void earnedOfNothing() {
        GrantBook book = new GrantBook();
        tellMostMatch(book);
        Check.due("match alone earns nothing", book.earned(9999), 0);
        Check.due("costs of a later day earn nothing", spent(1000, 100, 10, 1000).earned(4), 0);
    }

    // ---- promise 19

    private static void promise19() {
        missingDayEnds();
        missingDayOutOfRange();
        missingIsTheLeast();
        missingNotBelowNothing();
        missingWithTheShareOf100();
        missingIfTheAmountBounds();
        missingDoesNotWrapAround();
    }

    /** "day: 0 to 9999". */
    private static void missingDayEnds() {
        GrantBook book = onDays(0, 1, 9998, 9999);
        book.setGrant(100000000, 50, 0, 0);
        int[][] want = {{0, 5}, {1, 55}, {9997, 55}, {9998, 555}, {9999, 5555}};
        for (int[] w : want) {
            Check.due("missingMatch(" + w[0] + ")", book.missingMatch(w[0]), w[1]);
        }
    }

    /** "Throws IllegalArgumentException if day is out of range": with the share 100 too. */
    private static void missingDayOutOfRange() {
        for (int day : Check.outside(0, 9999)) {
            Check.refused(Books::unused, "missingMatch(" + day + ")", Check.BAD_ARGUMENT, b -> b.missingMatch(day));
            Check.refused(Books::claimed, "missingMatch(" + day + ")", Check.BAD_ARGUMENT, b -> b.missingMatch(day));
            Check.refused(() -> spent(10, 100, 0, 0), "missingMatch(" + day + ")", Check.BAD_ARGUMENT, b -> b.missingMatch(day));
        }
    }

    /** "the least match with which it would not": one less bounds the earned amount. */
    private static void missingIsTheLeast() {
        int[][] shares = {{1, 990}, {2, 980}, {33, 670}, {50, 500}, {60, 400}, {67, 330}, {75, 250}, {98, 20}, {99, 10}};
        for (int[] s : shares) {
            GrantBook book = spent(1000, s[0], 0, 0);
            Check.due("missing with the share " + s[0], book.missingMatch(5), s[1]);
            book.match(s[1] - 1);
            Check.due("one is missing", book.missingMatch(5), 1);
            Check.due("so match bounds", book.earned(5) < s[0] * 10, true);
            book.match(1);
            Check.due("none is missing", book.missingMatch(5), 0);
            Check.due("so match does not bound", book.earned(5), s[0] * 10);
        }
        missingIsRoundedUp();
    }

    /** The least match is rounded up: 5 earn 3, but the match of 1 would let no more than 2 be earned. */
    private static void missingIsRoundedUp() {
        int[][] rounded = {{1, 0}, {2, 1}, {3, 1}, {4, 1}, {5, 2}, {200, 66}, {201, 66}, {202, 67}};
        for (int[] r : rounded) {
            Check.due("the share 67 of " + r[0], spent(r[0], 67, 0, 0).missingMatch(5), r[1]);
        }
    }

    /** "less all match, if that is above 0". */
    private static void missingNotBelowNothing() {
        GrantBook book = spent(1000, 50, 0, 0);
        int[][] want = {{499, 1}, {1, 0}, {1, 0}, {10000000, 0}};
        for (int[] w : want) {
            book.match(w[0]);
            Check.due("missing after " + w[0] + " more", book.missingMatch(5), w[1]);
        }
        Check.due("on a day without costs", book.missingMatch(4), 0);
        Check.due("of a new object", new GrantBook().missingMatch(0), 0);
    }

    /** "0 with the share 100". */
    private static void missingWithTheShareOf100() {
        Check.due("without match", spent(10000000, 100, 100, 100000000).missingMatch(5), 0);
        Check.due("at the most", spentTheMost(100, 100, 100000000).missingMatch(5), 0);
        Check.due("the share 99 has some", spentTheMost(99, 100, 100000000).missingMatch(5), 1010102);
    }

    /** "so that it does not bound the earned amount": what the amount of the grant bounds needs no more match. */
    private static void missingIfTheAmountBounds() {
        int[][] want = {{0, 0}, {1, 1}, {2, 2}, {499, 499}, {500, 500}, {501, 500}};
        for (int[] w : want) {
            GrantBook book = spent(1000, 50, 0, 0);
            book.setGrant(w[0], 50, 0, 0);
            Check.due("missing for the amount " + w[0], book.missingMatch(5), w[1]);
        }
    }

    private static void missingDoesNotWrapAround() {
        Check.due("the share 1 of 220000000", spentTheMost(1, 100, 100000000).missingMatch(5), 217800000);
        Check.due("the share 45 of 220000000", spentTheMost(45, 100, 100000000).missingMatch(5), 121000000);
        Check.due("the share 46: bound by the amount", spentTheMost(46, 100, 100000000).missingMatch(5), 117391305);
        GrantBook book = spentTheMost(1, 100, 100000000);
        tellMostMatch(book);
        Check.due("more than can be told", book.missingMatch(5), 117800000);
    }

    // ---- promise 20

    private static void promise20() {
        claimDayEndsWithoutOne();
        claimDayFromTheLast();
        claimDayOutOfRange();
        claimOfTheLastOfAllDays();
        claimBelowNothing();
        claimAtMostForty();
        claimOutOfRangeComesFirst();
        claimRefusedKeepsTheDay();
        claimFromEndToEnd();
    }

    /** "day: ... 0 without one, up to 9999". */
    private static void claimDayEndsWithoutOne() {
        for (int day : new int[] {0, 1, 9998, 9999}) {
            Check.due("the first claim, for day " + day, onDays(0).claim(day), 11);
        }
        for (int day : Check.outside(0, 9999)) {
            Check.refused(Books::busy, "claim(" + day + ")", Check.BAD_ARGUMENT, b -> b.claim(day));
            Check.refused(Books::unused, "claim(" + day + ")", Check.BAD_ARGUMENT, b -> b.claim(day));
        }
    }

    /** "day: the day of the last claim": not of the first one, nor of the highest pay. */
    private static void claimDayFromTheLast() {
        Check.due("claimed(): for the last day again", Books.claimed().claim(40), 0);
        Check.refused(Books::claimed, "for the day ahead of it", Check.BAD_ARGUMENT, b -> b.claim(39));
        Check.refused(Books::claimed, "for the day of the first", Check.BAD_ARGUMENT, b -> b.claim(10));
        GrantBook book = onDays(0, 5, 6);
        Check.due("claim(5)", book.claim(5), 121);
        Check.due("claim(5) again", book.claim(5), 0);
        Check.due("claim(6)", book.claim(6), 1100);
        Check.throwsJust(book, "claim(5) after claim(6)", Check.BAD_ARGUMENT, b -> b.claim(5));
    }

    /** "Throws IllegalArgumentException if day is out of range". */
    private static void claimDayOutOfRange() {
        for (int day : Check.outside(40, 9999)) {
            Check.refused(Books::claimed, "claim(" + day + ") after 40", Check.BAD_ARGUMENT, b -> b.claim(day));
        }
        for (int day : new int[] {0, -1}) {
            Check.refused(Books::claimed, "claim(" + day + ") after 40", Check.BAD_ARGUMENT, b -> b.claim(day));
        }
    }

    private static void claimOfTheLastOfAllDays() {
        Check.Story toTheEnd = () -> {
            GrantBook book = onDays(0, 9999);
            book.claim(9999);
            return book;
        };
        Check.due("for the last of all days again", toTheEnd.tell().claim(9999), 0);
        Check.refused(toTheEnd, "claim(9998)", Check.BAD_ARGUMENT, b -> b.claim(9998));
        Check.refused(toTheEnd, "claim(10000)", Check.BAD_ARGUMENT, b -> b.claim(10000));
        Check.Story ofTheFirst = () -> {
            GrantBook book = onDays(0, 9999);
            book.claim(0);
            return book;
        };
        Check.refused(ofTheFirst, "claim(-1) after claim(0)", Check.BAD_ARGUMENT, b -> b.claim(-1));
        Check.due("claim(1) after claim(0)", ofTheFirst.tell().claim(1), 0);
    }

    /** "a claim can be below 0": down to all that was paid. */
    private static void claimBelowNothing() {
        GrantBook book = spentTheMost(100, 0, 0);
        Check.due("all of the amount", book.claim(5), 100000000);
        for (int voucher = 0; voucher < 12; voucher++) {
            book.refuse(voucher);
        }
        Check.due("all of it back", book.claim(5), -100000000);
        Check.due("nothing then", book.claim(5), 0);
        book.admit(0);
        Check.due("some of it again", book.claim(5), 10000000);
    }

    /** "Throws IllegalStateException if there are 40 claims". */
    private static void claimAtMostForty() {
        GrantBook book = onDays(0, 40);
        for (int i = 0; i < 39; i++) {
            Check.due("claim(" + i + ")", book.claim(i), i == 0 ? 11 : 0);
        }
        Check.due("the fortieth", book.claim(40), 110);
        Check.throwsJust(book, "one more", Check.BAD_STATE, b -> b.claim(40));
        Check.throwsJust(book, "one more, for the last day", Check.BAD_STATE, b -> b.claim(9999));
        Check.due("the fortieth stays", book.paid(39), 110);
        Check.refused(Books::full, "one more for the same day", Check.BAD_STATE, b -> b.claim(5000));
        Check.refused(Books::full, "one more for the day behind it", Check.BAD_STATE, b -> b.claim(5001));
        Check.refused(Books::full, "one more for the last of all days", Check.BAD_STATE, b -> b.claim(9999));
    }

    /** "if several apply, the one that it lists first is thrown". */
    private static void claimOutOfRangeComesFirst() {
        for (int day : Check.outside(5000, 9999)) {
            Check.refused(Books::full, "claim(" + day + ") with 40", Check.BAD_ARGUMENT, b -> b.claim(day));
        }
        Check.refused(Books::full, "claim(0) with 40", Check.BAD_ARGUMENT, b -> b.claim(0));
        Check.refused(Books::full, "claim(-1) with 40", Check.BAD_ARGUMENT, b -> b.claim(-1));
    }

    private static void claimRefusedKeepsTheDay() {
        GrantBook book = onDays(0, 5, 6);
        book.claim(5);
        Check.throwsJust(book, "claim(10000)", Check.BAD_ARGUMENT, b -> b.claim(10000));
        Check.throwsJust(book, "claim(4)", Check.BAD_ARGUMENT, b -> b.claim(4));
        Check.due("the last day is still 5", book.claim(5), 0);
        Check.due("two claims were made", book.claims(), 2);
    }

    /** "pays the earned amount up to this day, less all that was paid by claims before". */
    private static void claimFromEndToEnd() {
        GrantBook book = onDays(0, 1, 9998, 9999);
        int[][] want = {{0, 11}, {1, 110}, {9997, 0}, {9998, 1100}, {9999, 11000}};
        int all = 0;
        for (int[] w : want) {
            Check.due("claim(" + w[0] + ")", book.claim(w[0]), w[1]);
            all += w[1];
        }
        Check.due("all that was paid", book.earned(9999), all);
    }

    // ---- promise 21

    /** "Returns the number of claims": from none to the most; a refused one does not count. */
    private static void promise21() {
        GrantBook book = new GrantBook();
        for (int i = 0; i < 40; i++) {
            Check.due("claims()", book.claims(), i);
            Check.throwsJust(book, "a bad claim", Check.BAD_ARGUMENT, b -> b.claim(10000));
            Check.due("claims() after it", book.claims(), i);
            book.claim(7);
        }
        Check.due("claims() at the most", book.claims(), 40);
        Check.throwsJust(book, "one more", Check.BAD_STATE, b -> b.claim(7));
        Check.due("claims() after one too many", book.claims(), 40);
    }

    // ---- promise 22

    private static void promise22() {
        paidNoSuchClaim();
        paidOfTheFirstAndLast();
        paidStays();
    }

    /** "Throws IndexOutOfBoundsException if there is no such claim". */
    private static void paidNoSuchClaim() {
        for (int claim : new int[] {-1, 2, 3, 39, 40, MIN, MAX}) {
            Check.refused(Books::claimed, "paid(" + claim + ")", Check.NO_SUCH, b -> b.paid(claim));
        }
        for (int claim : Check.outside(0, 39)) {
            Check.refused(Books::full, "paid(" + claim + ")", Check.NO_SUCH, b -> b.paid(claim));
        }
        Check.refused(Books::unused, "paid(0)", Check.NO_SUCH, b -> b.paid(0));
        Check.refused(Books::busy, "paid(0) without a claim", Check.NO_SUCH, b -> b.paid(0));
    }

    private static void paidOfTheFirstAndLast() {
        GrantBook book = onDays(0, 39, 40);
        for (int day = 0; day < 40; day++) {
            book.claim(day);
        }
        Check.due("paid(0) of forty", book.paid(0), 11);
        Check.due("paid(1) of forty", book.paid(1), 0);
        Check.due("paid(39) of forty", book.paid(39), 110);
    }

    /** "Returns what a claim paid": below 0 too, and whatever came later. */
    private static void paidStays() {
        GrantBook book = onDays(0, 1);
        book.claim(0);
        book.refuse(0);
        book.claim(0);
        book.claim(1);
        book.refuse(1);
        int[] want = {11, -11, 110};
        for (int i = 0; i < want.length; i++) {
            Check.due("paid(" + i + ")", book.paid(i), want[i]);
        }
    }

    // ---- promise 23

    private static void promise23() {
        unsettledWithoutAClaim();
        unsettledForTheDayOfTheLast();
        unsettledOnTheFirstAndLastOfAllDays();
        unsettledBelowNothing();
        unsettledWithForty();
        unsettledIsWhatTheNextPays();
    }

    /** "0 without a claim": though something is earned. */
    private static void unsettledWithoutAClaim() {
        Check.due("of a new object", new GrantBook().unsettled(), 0);
        GrantBook book = onDays(0);
        Check.due("day 0 earns", book.earned(0), 11);
        Check.due("but no claim was made", book.unsettled(), 0);
        Check.throwsJust(book, "claim(10000)", Check.BAD_ARGUMENT, b -> b.claim(10000));
        Check.due("nor by a refused one", book.unsettled(), 0);
    }

    /** "for the day of the last one": costs of the day behind it are not in it. */
    private static void unsettledForTheDayOfTheLast() {
        GrantBook book = onDays(0);
        book.claim(4);
        book.claim(5);
        book.spend(0, 6, 700);
        Check.due("one day behind", book.unsettled(), 0);
        book.spend(0, 5, 100);
        Check.due("that day", book.unsettled(), 110);
        book.spend(0, 4, 10);
        Check.due("an earlier day", book.unsettled(), 121);
    }

    private static void unsettledOnTheFirstAndLastOfAllDays() {
        GrantBook first = new GrantBook();
        first.setGrant(1000, 100, 0, 0);
        first.addLine(1000, 0, 9999, true);
        first.claim(0);
        first.spend(0, 1, 5);
        Check.due("behind the first of all days", first.unsettled(), 0);
        first.spend(0, 0, 7);
        Check.due("on the first of all days", first.unsettled(), 7);
        first.claim(9999);
        first.spend(0, 9999, 9);
        Check.due("on the last of all days", first.unsettled(), 9);
    }

    private static void unsettledBelowNothing() {
        GrantBook book = spentTheMost(100, 0, 0);
        book.claim(5);
        Check.due("just after a claim", book.unsettled(), 0);
        for (int voucher = 0; voucher < 12; voucher++) {
            book.refuse(voucher);
        }
        Check.due("all that was paid is owed", book.unsettled(), -100000000);
    }

    /** "what the next claim ... would pay": told even if no further one can be made. */
    private static void unsettledWithForty() {
        GrantBook book = onDays(0, 1);
        for (int i = 0; i < 40; i++) {
            book.claim(1);
        }
        Check.due("after the fortieth", book.unsettled(), 0);
        book.refuse(1);
        Check.due("after a refusal", book.unsettled(), -110);
    }

    private static void unsettledIsWhatTheNextPays() {
        GrantBook book = Books.claimed();
        book.refuse(0);
        int owed = book.unsettled();
        Check.due("less is owed", owed < 0, true);
        Check.due("the next claim pays it", book.claim(40), owed);
        Check.due("and nothing stays open", book.unsettled(), 0);
        Check.keeps(Books::full, "unsettled()", b -> b.unsettled());
    }
}
