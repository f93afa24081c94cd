/** Promises 9 to 15: vouchers and match, with ordinary inputs; VouchersEdgesTest has the boundary cases. */
public final class VouchersTest {
    public static void main(String[] args) {
        promise9Spend();
        promise10Refuse();
        promise11Admit();
        promise12Match();
        promise13Vouchers();
        promise14Fits();
        promise15EligibleByDayThenNumber();
        promise15EligibleOfEachLine();
        promise15EligibleWithMoves();
        Check.end("VouchersTest");
    }

    private static GrantBook bookWithLine(int budget, int first, int last) {
        GrantBook book = new GrantBook();
        book.addLine(budget, first, last, true);
        return book;
    }

    private static GrantBook bookWithTwoVouchers() {
        GrantBook book = bookWithLine(100, 10, 20);
        book.spend(0, 15, 70);
        book.spend(0, 16, 50);
        return book;
    }

    private static void promise9Spend() {
        GrantBook book = bookWithLine(10000000, 10, 20);
        Check.due("the first voucher", book.spend(0, 10, 1), 0);
        Check.due("a voucher that does not fit", book.spend(0, 0, 5), 1);
        Check.due("on the last of all days", book.spend(0, 9999, 5), 2);
        Check.due("the highest amount", book.spend(0, 20, 10000000), 3);
        Check.due("of the first", book.eligible(0), 1);
        Check.due("of the last", book.eligible(3), 9999999);
        Check.due("in all", book.costs(9999), 10000000);
    }

    private static void promise10Refuse() {
        GrantBook book = bookWithTwoVouchers();
        book.addLine(100, 10, 20, true);
        book.spend(1, 15, 40);
        book.spend(0, 9, 40);
        Check.due("the second one had 30", book.eligible(1), 30);
        Check.due("70 go, 20 come", book.refuse(0), 50);
        Check.due("of the refused one", book.eligible(0), 0);
        Check.due("of the one behind it", book.eligible(1), 50);
        Check.due("the other line stays", book.eligible(2), 40);
        Check.due("one that does not fit", book.refuse(3), 0);
        Check.due("the last one of the line", book.refuse(1), 50);
        Check.due("nothing is left of it", book.costs(9999), 40);
        refuseWithNoChangeInAll();
    }

    private static void refuseWithNoChangeInAll() {
        GrantBook book = bookWithLine(100, 0, 9999);
        book.spend(0, 9999, 500);
        book.spend(0, 0, 60);
        Check.due("the large one behind it takes all", book.refuse(1), 0);
        Check.due("of the large one", book.eligible(0), 100);
        Check.due("then it is the only one", book.refuse(0), 100);
    }

    private static void promise11Admit() {
        GrantBook book = bookWithTwoVouchers();
        book.refuse(0);
        book.refuse(1);
        Check.due("admit the second", book.admit(1), 50);
        Check.due("admit the first: 70 come, 20 go", book.admit(0), 50);
        Check.due("of the first", book.eligible(0), 70);
        Check.due("of the second", book.eligible(1), 30);
        Check.due("it fits again", book.fits(0), true);
        int outside = book.spend(0, 21, 5);
        book.refuse(outside);
        Check.due("one that does not fit even then", book.admit(outside), 0);
        Check.due("by its day", book.fits(outside), false);
    }

    private static void promise12Match() {
        GrantBook book = bookWithLine(1000, 0, 9999);
        book.setGrant(1000, 50, 0, 0);
        book.spend(0, 5, 1000);
        Check.due("the lowest amount", book.match(1), 1);
        Check.due("earned with it", book.earned(5), 1);
        Check.due("all match", book.match(99), 100);
        Check.due("earned with all of it", book.earned(5), 100);
        book.claim(5);
        Check.due("after a claim", book.match(100), 200);
        Check.due("it is settled by the next", book.unsettled(), 100);
    }

    private static void promise13Vouchers() {
        GrantBook book = bookWithLine(10, 5, 6);
        for (int i = 0; i < 100; i++) {
            Check.due("vouchers()", book.vouchers(), i);
            book.spend(0, i, 1);
        }
        book.refuse(5);
        Check.due("vouchers() at the most", book.vouchers(), 100);
    }

    private static void promise14Fits() {
        GrantBook book = bookWithLine(1, 10, 20);
        int[] days = {9, 10, 11, 19, 20, 21, 0, 9999};
        boolean[] want = {false, true, true, true, true, false, false, false};
        for (int i = 0; i < days.length; i++) {
            book.spend(0, days[i], 5);
            Check.due("fits on day " + days[i], book.fits(i), want[i]);
        }
        Check.due("it fits with nothing eligible", book.eligible(4), 0);
        book.refuse(1);
        Check.due("not if refused", book.fits(1), false);
        book.admit(1);
        Check.due("again if admitted", book.fits(1), true);
        book.extend(0, 21);
        Check.due("with a later last day", book.fits(5), true);
    }

    private static void promise15EligibleByDayThenNumber() {
        GrantBook book = bookWithLine(100, 0, 9999);
        book.spend(0, 50, 30);
        book.spend(0, 50, 30);
        book.spend(0, 20, 30);
        book.spend(0, 50, 30);
        book.spend(0, 10, 5);
        book.spend(0, 60, 1);
        int[] want = {30, 30, 30, 5, 5, 0};
        for (int i = 0; i < want.length; i++) {
            Check.due("eligible(" + i + ")", book.eligible(i), want[i]);
        }
        book.spend(0, 0, 40);
        int[] then = {25, 0, 30, 0, 5, 0, 40};
        for (int i = 0; i < then.length; i++) {
            Check.due("eligible(" + i + ") then", book.eligible(i), then[i]);
        }
        book.spend(0, 15, 10);
        int[] last = {15, 0, 30, 0, 5, 0, 40, 10};
        for (int i = 0; i < last.length; i++) {
            Check.due("eligible(" + i + ") with one between them", book.eligible(i), last[i]);
        }
    }

    private static void promise15EligibleOfEachLine() {
        GrantBook book = bookWithLine(100, 0, 9999);
        book.addLine(50, 0, 9999, false);
        book.spend(0, 5, 80);
        book.spend(1, 5, 40);
        book.spend(0, 6, 30);
        book.spend(1, 4, 20);
        int[] want = {80, 30, 20, 20};
        for (int i = 0; i < want.length; i++) {
            Check.due("eligible(" + i + ")", book.eligible(i), want[i]);
        }
        book.refuse(1);
        Check.due("the other line is not asked", book.eligible(2), 20);
    }

    private static void promise15EligibleWithMoves() {
        GrantBook book = bookWithLine(100, 0, 9999);
        book.addLine(100, 0, 9999, false);
        book.spend(0, 5, 95);
        book.spend(0, 6, 95);
        book.spend(1, 5, 200);
        book.move(0, 1, 10);
        Check.due("less room", book.eligible(0), 90);
        Check.due("and none", book.eligible(1), 0);
        Check.due("more room", book.eligible(2), 110);
        book.move(1, 0, 10);
        Check.due("room again", book.eligible(1), 5);
        Check.due("less room again", book.eligible(2), 100);
    }
}
