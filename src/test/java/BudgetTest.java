/** Promises 1 to 8: a new object and the budget, with ordinary inputs; BudgetEdgesTest has the boundary cases. */
public final class BudgetTest {
    public static void main(String[] args) {
        promise1NewObject();
        promise1GrantAtFirst();
        promise2SetGrant();
        promise3AddLine();
        promise4Extend();
        promise5Move();
        promise6Lines();
        promise7Room();
        promise8Left();
        promise8LeftWithLateVouchers();
        Check.end("BudgetTest");
    }

    private static void promise1NewObject() {
        GrantBook book = new GrantBook();
        Check.due("lines()", book.lines(), 0);
        Check.due("vouchers()", book.vouchers(), 0);
        Check.due("claims()", book.claims(), 0);
        Check.due("unsettled()", book.unsettled(), 0);
        Check.due("costs(9999)", book.costs(9999), 0);
        Check.due("overhead(9999)", book.overhead(9999), 0);
        Check.due("earned(9999)", book.earned(9999), 0);
        Check.due("missingMatch(9999)", book.missingMatch(9999), 0);
        Check.due("match(1) on a new object", book.match(1), 1);
        Check.due("another object has no match of it", new GrantBook().match(2), 2);
    }

    private static void promise1GrantAtFirst() {
        GrantBook book = new GrantBook();
        book.addLine(10000000, 0, 9999, true);
        book.spend(0, 0, 1000);
        Check.due("overhead at first is 10 percent", book.overhead(0), 100);
        Check.due("no match, nothing earned", book.earned(0), 0);
        Check.due("the share at first is 75: 825 need 275", book.missingMatch(0), 275);
        book.spend(0, 1, 498999);
        Check.due("just below the ceiling at first", book.overhead(1), 49999);
        book.spend(0, 2, 1);
        Check.due("at the ceiling", book.overhead(2), 50000);
        book.spend(0, 3, 9000000);
        Check.due("above the ceiling", book.overhead(3), 50000);
        book.match(10000000);
        Check.due("the amount at first", book.earned(3), 1000000);
    }

    private static void promise2SetGrant() {
        GrantBook book = new GrantBook();
        book.addLine(10000, 0, 9999, true);
        book.spend(0, 7, 1000);
        book.match(10000000);
        book.setGrant(2000, 50, 20, 150);
        Check.due("overhead with the ceiling set", book.overhead(7), 150);
        Check.due("earned with the share set", book.earned(7), 575);
        book.setGrant(2000, 50, 20, 250);
        Check.due("overhead with the rate set", book.overhead(7), 200);
        book.setGrant(99, 50, 20, 250);
        Check.due("earned with the amount set", book.earned(7), 99);
        book.setGrant(0, 1, 0, 0);
        Check.due("the lowest grant: overhead", book.overhead(7), 0);
        Check.due("the lowest grant: earned", book.earned(7), 0);
        book.setGrant(100000000, 100, 100, 100000000);
        Check.due("the highest grant: overhead", book.overhead(7), 1000);
        Check.due("the highest grant: earned", book.earned(7), 2000);
    }

    private static void promise3AddLine() {
        GrantBook book = new GrantBook();
        Check.due("the first line", book.addLine(0, 0, 0, true), 0);
        Check.due("the second line", book.addLine(10000000, 9999, 9999, false), 1);
        Check.due("the third line", book.addLine(5, 0, 9999, true), 2);
        Check.due("room of the lowest budget", book.room(0), 0);
        Check.due("room of the highest budget", book.room(1), 10000000);
        book.spend(0, 0, 1);
        book.spend(1, 9998, 2);
        book.spend(1, 9999, 2);
        book.spend(2, 0, 3);
        Check.due("nothing of a budget of 0", book.eligible(0), 0);
        Check.due("ahead of the first day", book.fits(1), false);
        Check.due("on the first and last day", book.fits(2), true);
        Check.due("the base is of the first and third line", baseOf(book), 3);
    }

    private static int baseOf(GrantBook book) {
        book.setGrant(0, 1, 100, 100000000);
        return book.overhead(9999);
    }

    private static void promise4Extend() {
        GrantBook book = new GrantBook();
        book.addLine(100, 10, 20, true);
        book.addLine(100, 10, 20, true);
        book.spend(0, 21, 30);
        book.spend(1, 21, 30);
        Check.due("extend to its last day", book.extend(0, 20), 20);
        Check.due("nothing is changed by it", book.fits(0), false);
        Check.due("extend by a day", book.extend(0, 21), 20);
        Check.due("the voucher fits then", book.fits(0), true);
        Check.due("and is eligible", book.eligible(0), 30);
        Check.due("the other line stays", book.fits(1), false);
        Check.due("extend to the end", book.extend(0, 9999), 21);
        Check.due("once more", book.extend(0, 9999), 9999);
        book.claim(9999);
        Check.due("extend after a claim", book.extend(1, 22), 20);
        Check.due("what is eligible is found anew", book.eligible(1), 30);
        extendLetsAheadVouchersTakeRoom();
    }

    private static void extendLetsAheadVouchersTakeRoom() {
        GrantBook book = new GrantBook();
        book.addLine(100, 0, 5, true);
        book.spend(0, 6, 80);
        book.spend(0, 7, 80);
        book.spend(0, 5, 50);
        Check.due("one voucher of the line's days", book.costs(9999), 50);
        book.extend(0, 6);
        Check.due("the rest of the room", book.eligible(0), 50);
        book.extend(0, 7);
        Check.due("no room for the last one", book.eligible(1), 0);
        Check.due("which fits all the same", book.fits(1), true);
    }

    private static void promise5Move() {
        GrantBook book = new GrantBook();
        book.addLine(1009, 0, 9999, true);
        book.addLine(50, 0, 9999, false);
        book.addLine(10000000, 0, 9999, false);
        book.addLine(10000000, 0, 9999, false);
        Check.due("move 60 of 100", book.move(0, 1, 60), 949);
        Check.due("room of the other one", book.room(1), 110);
        Check.due("move the other 40", book.move(0, 2, 40), 909);
        Check.throwsJust(book, "one more", Check.BAD_STATE, b -> b.move(0, 1, 1));
        Check.due("move back", book.move(1, 0, 5), 105);
        Check.due("room with what came back", book.room(0), 914);
        Check.throwsJust(book, "what came back gives no leave", Check.BAD_STATE, b -> b.move(0, 1, 1));
        Check.throwsJust(book, "what was moved in gives no leave", Check.BAD_STATE, b -> b.move(1, 0, 1));
        Check.due("a tenth of the highest budget", book.move(3, 2, 1000000), 9000000);
        Check.due("room of the other one", book.room(2), 11000040);
    }

    private static void promise6Lines() {
        GrantBook book = new GrantBook();
        for (int i = 0; i < 12; i++) {
            Check.due("lines()", book.lines(), i);
            book.addLine(1, 0, 0, false);
        }
        Check.due("lines() at the most", book.lines(), 12);
    }

    private static void promise7Room() {
        GrantBook book = new GrantBook();
        book.addLine(300, 0, 5, true);
        book.addLine(200, 0, 5, true);
        book.spend(0, 3, 50);
        book.spend(0, 6, 50);
        Check.due("vouchers take no room away", book.room(0), 300);
        book.move(0, 1, 30);
        book.move(1, 0, 20);
        Check.due("room with both ways", book.room(0), 290);
        Check.due("room of the other", book.room(1), 210);
    }

    private static void promise8Left() {
        GrantBook book = new GrantBook();
        book.addLine(300, 5, 10, true);
        book.addLine(200, 5, 10, true);
        Check.due("left of an unspent line", book.left(0), 300);
        book.spend(0, 5, 100);
        book.spend(0, 4, 100);
        Check.due("only what is eligible counts", book.left(0), 200);
        Check.due("each line by itself", book.left(1), 200);
        book.move(0, 1, 30);
        Check.due("left after a move away", book.left(0), 170);
        Check.due("left after a move in", book.left(1), 230);
        book.spend(0, 6, 5000);
        Check.due("never below 0", book.left(0), 0);
        book.refuse(0);
        Check.due("the large one takes it all", book.left(0), 0);
        book.refuse(2);
        Check.due("all refused", book.left(0), 270);
    }

    private static void promise8LeftWithLateVouchers() {
        GrantBook book = new GrantBook();
        book.addLine(100, 0, 9999, true);
        book.spend(0, 9999, 10);
        book.spend(0, 0, 10);
        Check.due("all vouchers, of the last day too", book.left(0), 80);
    }
}
