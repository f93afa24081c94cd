/** Promises 16 to 23: costs, overhead, what is earned, and claims; ClaimsEdgesTest has the boundary cases. */
public final class ClaimsTest {
    public static void main(String[] args) {
        promise16Costs();
        promise17Overhead();
        promise17OverheadAtTheMost();
        promise18Earned();
        promise18EarnedRoundedDown();
        promise18EarnedAtTheMost();
        promise19MissingMatch();
        promise19MissingMatchIsTheLeast();
        promise20Claim();
        promise21Claims();
        promise22Paid();
        promise23Unsettled();
        promise23UnsettledWithForty();
        Check.end("ClaimsTest");
    }

    /** A line in the base and one that is not, with vouchers on days 0, 5, 10 and 9999. */
    private static GrantBook bookWithCosts() {
        GrantBook book = new GrantBook();
        book.addLine(100000, 0, 9999, true);
        book.addLine(100000, 0, 9999, false);
        book.spend(0, 5, 1000);
        book.spend(1, 5, 200);
        book.spend(0, 0, 30);
        book.spend(1, 9999, 4);
        book.spend(0, 10, 509);
        return book;
    }

    private static void promise16Costs() {
        GrantBook book = bookWithCosts();
        int[][] want = {{0, 30}, {1, 30}, {4, 30}, {5, 1230}, {9, 1230}, {10, 1739}, {9998, 1739}, {9999, 1743}};
        for (int[] w : want) {
            Check.due("costs(" + w[0] + ")", book.costs(w[0]), w[1]);
        }
        book.refuse(0);
        Check.due("costs without a refused one", book.costs(5), 230);
    }

    private static void promise17Overhead() {
        GrantBook book = bookWithCosts();
        int[][] want = {{0, 3}, {4, 3}, {5, 103}, {10, 153}, {9999, 153}};
        for (int[] w : want) {
            Check.due("overhead(" + w[0] + ")", book.overhead(w[0]), w[1]);
        }
        book.setGrant(1000, 50, 33, 100000);
        Check.due("rounded down once, of the sum", book.overhead(5), 339);
        book.setGrant(1000, 50, 33, 339);
        Check.due("at the ceiling", book.overhead(5), 339);
        book.setGrant(1000, 50, 33, 338);
        Check.due("above the ceiling", book.overhead(5), 338);
        Check.due("below it on other days", book.overhead(0), 9);
        book.setGrant(1000, 50, 0, 338);
        Check.due("no rate, no overhead", book.overhead(9999), 0);
        book.setGrant(1000, 50, 100, 0);
        Check.due("no ceiling, no overhead", book.overhead(9999), 0);
    }

    private static GrantBook bookAtTheMost(int share, int overhead, int ceiling) {
        GrantBook book = new GrantBook();
        book.setGrant(100000000, share, overhead, ceiling);
        for (int line = 0; line < 12; line++) {
            book.addLine(10000000, 0, 9999, true);
            book.spend(line, 100, 10000000);
        }
        return book;
    }

    private static void promise17OverheadAtTheMost() {
        GrantBook book = bookAtTheMost(100, 100, 100000000);
        Check.due("the highest costs", book.costs(100), 120000000);
        Check.due("the highest overhead", book.overhead(100), 100000000);
        Check.due("a middle rate", bookAtTheMost(100, 79, 100000000).overhead(100), 94800000);
    }

    private static void promise18Earned() {
        GrantBook book = bookWithCosts();
        Check.due("no match", book.earned(9999), 0);
        book.match(10);
        Check.due("match bounds", book.earned(9999), 30);
        Check.due("and on the first day does not", book.earned(0), 24);
        book.match(10000);
        Check.due("of costs and overhead", book.earned(5), 999);
        Check.due("up to the last day", book.earned(9999), 1422);
        book.setGrant(1421, 75, 10, 50000);
        Check.due("at most the amount", book.earned(9999), 1421);
        Check.due("not on earlier days", book.earned(5), 999);
        GrantBook alone = bookWithCosts();
        alone.setGrant(100000, 100, 10, 50000);
        Check.due("the share 100 needs no match", alone.earned(9999), 1896);
        alone.setGrant(100000, 99, 10, 50000);
        Check.due("the share 99 does", alone.earned(9999), 0);
    }

    private static void promise18EarnedRoundedDown() {
        GrantBook book = new GrantBook();
        book.addLine(1000, 0, 9999, true);
        book.spend(0, 0, 199);
        book.setGrant(1000, 33, 1, 1000);
        book.match(1000);
        Check.due("33 percent of 199 and 1", book.earned(0), 66);
        book.setGrant(1000, 67, 0, 1000);
        Check.due("67 percent of 199", book.earned(0), 133);
        GrantBook poor = new GrantBook();
        poor.addLine(1000, 0, 9999, true);
        poor.spend(0, 0, 1000);
        poor.setGrant(1000, 67, 0, 0);
        poor.match(1);
        Check.due("1 * 67 / 33", poor.earned(0), 2);
        poor.match(1);
        Check.due("2 * 67 / 33", poor.earned(0), 4);
        poor.match(98);
        Check.due("100 * 67 / 33", poor.earned(0), 203);
    }

    private static void promise18EarnedAtTheMost() {
        Check.due("the amount", bookAtTheMost(100, 100, 100000000).earned(100), 100000000);
        GrantBook book = bookAtTheMost(99, 100, 100000000);
        for (int i = 0; i < 10; i++) {
            book.match(10000000);
        }
        Check.due("with all match", book.earned(100), 100000000);
        Check.due("a share of 1", bookAtTheMost(1, 100, 100000000).missingMatch(100), 217800000);
        GrantBook half = bookAtTheMost(45, 100, 100000000);
        half.match(10000000);
        Check.due("45 percent, bound by match", half.earned(100), 8181818);
        Check.due("missing for 99000000", half.missingMatch(100), 111000000);
    }

    private static void promise19MissingMatch() {
        GrantBook book = bookWithCosts();
        Check.due("without match", book.missingMatch(5), 333);
        book.match(332);
        Check.due("one is missing", book.missingMatch(5), 1);
        Check.due("that bounds", book.earned(5), 996);
        book.match(1);
        Check.due("none is missing", book.missingMatch(5), 0);
        Check.due("it does not bound", book.earned(5), 999);
        Check.due("on a later day more", book.missingMatch(9999), 141);
        book.match(10000);
        Check.due("never below 0", book.missingMatch(9999), 0);
        GrantBook capped = bookWithCosts();
        capped.setGrant(300, 75, 10, 50000);
        Check.due("the amount bounds first", capped.missingMatch(9999), 100);
        capped.setGrant(0, 75, 10, 50000);
        Check.due("nothing to earn", capped.missingMatch(9999), 0);
        capped.setGrant(300, 100, 10, 50000);
        Check.due("the share 100", capped.missingMatch(9999), 0);
    }

    private static void promise19MissingMatchIsTheLeast() {
        for (int share = 1; share <= 100; share++) {
            for (int amount = 1; amount < 400; amount += 37) {
                GrantBook book = new GrantBook();
                book.setGrant(1000, share, 10, 1000);
                book.addLine(1000, 0, 9999, true);
                book.spend(0, 3, amount);
                int wanted = share * (amount + amount / 10) / 100;
                int missing = book.missingMatch(3);
                if (missing > 1) {
                    book.match(missing - 1);
                    Check.due("one is missing, share " + share, book.missingMatch(3), 1);
                }
                if (missing > 0) {
                    Check.due("less is earned, share " + share, book.earned(3) < wanted, true);
                    book.match(1);
                }
                Check.due("no match is missing, share " + share, book.missingMatch(3), 0);
                Check.due("all is earned, share " + share, book.earned(3), wanted);
            }
        }
    }

    private static void promise20Claim() {
        GrantBook book = bookWithCosts();
        book.match(10000);
        Check.due("claim(0)", book.claim(0), 24);
        Check.due("claim(0) again pays nothing", book.claim(0), 0);
        Check.due("claim(5) pays the difference", book.claim(5), 975);
        book.refuse(0);
        Check.due("claim(5) is below 0", book.claim(5), -825);
        book.admit(0);
        Check.due("a claim for the last day", book.claim(9999), 1248);
        Check.due("all paid is all earned", book.earned(9999), 24 + 975 - 825 + 1248);
        Check.due("nothing more", book.claim(9999), 0);
    }

    private static void promise21Claims() {
        GrantBook book = new GrantBook();
        for (int i = 0; i < 40; i++) {
            Check.due("claims()", book.claims(), i);
            book.claim(7);
        }
        Check.due("claims() at the most", book.claims(), 40);
    }

    private static void promise22Paid() {
        GrantBook book = bookWithCosts();
        book.match(10000);
        book.claim(0);
        book.claim(5);
        book.refuse(0);
        Check.due("what was paid stays", book.paid(1), 975);
        book.claim(5);
        Check.due("paid(0)", book.paid(0), 24);
        Check.due("paid(1)", book.paid(1), 975);
        Check.due("paid(2)", book.paid(2), -825);
    }

    private static void promise23Unsettled() {
        GrantBook book = bookWithCosts();
        book.match(10000);
        Check.due("without a claim", book.unsettled(), 0);
        book.claim(5);
        Check.due("just after a claim", book.unsettled(), 0);
        book.spend(1, 6, 1000);
        Check.due("later days do not count", book.unsettled(), 0);
        book.spend(1, 5, 1000);
        Check.due("more for that day", book.unsettled(), 750);
        book.refuse(0);
        Check.due("less for that day", book.unsettled(), -75);
        Check.due("it changes nothing", book.unsettled(), -75);
        Check.due("the next claim for that day pays it", book.claim(5), -75);
        Check.due("and settles it", book.unsettled(), 0);
    }

    private static void promise23UnsettledWithForty() {
        GrantBook book = bookWithCosts();
        book.match(10000);
        for (int i = 0; i < 40; i++) {
            book.claim(5);
        }
        book.refuse(1);
        Check.due("though no claim can follow", book.unsettled(), -150);
    }
}
