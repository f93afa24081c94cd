/** "What it is" and "Terms": the sentences that hold for all promises and name a boundary case. */
public final class TermsEdgesTest {
    private static final int CALLS = 512;

    public static void main(String[] args) {
        theLastOfAllCallsThatChanges();
        theLastOfAllCallsThatAsks();
        allCallsAreRefused();
        theFullBookIsFull();
        numbersFromNothing();
        daysOfAllCalls();
        foundAnewFromAllVouchers();
        eachObjectByItself();
        Check.end("TermsEdgesTest");
    }

    /** A book that was asked so many calls: a line, a hundred vouchers, forty claims, and many questions. */
    private static GrantBook asked(int calls) {
        GrantBook book = new GrantBook();
        int made = 2;
        book.setGrant(100000000, 100, 0, 0);
        book.addLine(10000000, 0, 9999, true);
        for (int i = 0; i < 100; i++, made++) {
            book.spend(0, i, 1 + i);
        }
        for (int i = 0; i < 39; i++, made++) {
            book.claim(i);
        }
        for (; made < calls; made++) {
            book.earned(made);
        }
        return book;
    }

    /** "at most 512 calls after it has been made". */
    private static void theLastOfAllCallsThatChanges() {
        Check.due("refuse", asked(CALLS - 1).refuse(99), 100);
        Check.due("claim", asked(CALLS - 1).claim(99), 5050 - 780);
        Check.due("match", asked(CALLS - 1).match(5), 5);
        Check.due("addLine", asked(CALLS - 1).addLine(1, 0, 0, true), 1);
        Check.due("extend", asked(CALLS - 1).extend(0, 9999), 9999);
        Check.throwsJust(asked(CALLS - 1), "one more voucher", Check.BAD_STATE, b -> b.spend(0, 0, 1));
        Check.throwsJust(asked(CALLS - 1), "setGrant", Check.BAD_STATE, b -> b.setGrant(1, 1, 1, 1));
    }

    private static void theLastOfAllCallsThatAsks() {
        Check.due("left", asked(CALLS - 1).left(0), 10000000 - 5050);
        Check.due("eligible", asked(CALLS - 1).eligible(99), 100);
        Check.due("costs", asked(CALLS - 1).costs(9999), 5050);
        Check.due("earned", asked(CALLS - 1).earned(49), 1275);
        Check.due("unsettled", asked(CALLS - 1).unsettled(), 0);
        Check.due("paid", asked(CALLS - 1).paid(38), 39);
        Check.throwsJust(asked(CALLS - 1), "paid(39)", Check.NO_SUCH, b -> b.paid(39));
    }

    /** "A call that throws changes nothing": not if all 512 calls but the last throw. */
    private static void allCallsAreRefused() {
        GrantBook book = new GrantBook();
        for (int i = 0; i < CALLS - 1; i++) {
            Check.throwsJust(book, "a bad line", Check.BAD_ARGUMENT, b -> b.addLine(0, 1, 0, true));
        }
        Check.due("the first good one", book.addLine(0, 0, 0, true), 0);
    }

    /** "at most 12", "at most 100" and "40 claims": what the other tests call full. */
    private static void theFullBookIsFull() {
        GrantBook book = Books.full();
        Check.due("lines", book.lines(), 12);
        Check.due("vouchers", book.vouchers(), 100);
        Check.due("claims", book.claims(), 40);
    }

    /** "Lines are numbered from 0", "Vouchers are numbered from 0"; claims are too. */
    private static void numbersFromNothing() {
        GrantBook book = new GrantBook();
        Check.due("the first line", book.addLine(5, 0, 0, true), 0);
        Check.due("the first voucher", book.spend(0, 0, 3), 0);
        book.match(9);
        book.claim(0);
        Check.due("room(0)", book.room(0), 5);
        Check.due("eligible(0)", book.eligible(0), 3);
        Check.due("paid(0)", book.paid(0), 2);
        Check.throwsJust(book, "room(1)", Check.NO_SUCH, b -> b.room(1));
        Check.throwsJust(book, "eligible(1)", Check.NO_SUCH, b -> b.eligible(1));
        Check.throwsJust(book, "paid(1)", Check.NO_SUCH, b -> b.paid(1));
    }

    /** "Days are 0 to 9999": one line, voucher and claim for each of the ends. */
    private static void daysOfAllCalls() {
        for (int day : new int[] {0, 9999}) {
            GrantBook book = new GrantBook();
            book.setGrant(1000, 100, 10, 1000);
            book.addLine(100, day, day, true);
            Check.due("extend", book.extend(0, day), day);
            book.spend(0, day, 50);
            Check.due("costs", book.costs(day), 50);
            Check.due("overhead", book.overhead(day), 5);
            Check.due("earned", book.earned(day), 55);
            Check.due("missingMatch", book.missingMatch(day), 0);
            Check.due("claim", book.claim(day), 55);
        }
    }

    /** "what is eligible is always found anew from all vouchers, and each claim settles the difference". */
    private static void foundAnewFromAllVouchers() {
        GrantBook book = new GrantBook();
        book.setGrant(100000, 100, 0, 0);
        book.addLine(1000, 10, 20, true);
        book.addLine(0, 0, 9999, true);
        book.spend(0, 21, 500);
        book.spend(0, 20, 700);
        book.spend(1, 20, 30);
        Check.due("a claim", book.claim(30), 700);
        book.extend(0, 21);
        Check.due("after an extension", book.claim(30), 300);
        book.move(0, 1, 100);
        Check.due("after a move: 100 less and 30 more", book.claim(30), -70);
        book.spend(0, 10, 300);
        Check.due("after an earlier voucher, without room", book.claim(30), 0);
        Check.due("which took it from the later ones", book.eligible(1), 600);
        book.refuse(2);
        Check.due("after a refusal", book.claim(30), -30);
        book.admit(2);
        Check.due("after it was taken back", book.claim(30), 30);
        Check.due("all that was paid", book.earned(30), 700 + 300 - 70 - 30 + 30);
    }

    private static void eachObjectByItself() {
        GrantBook one = Books.full();
        GrantBook other = new GrantBook();
        Check.due("lines of another object", other.lines(), 0);
        Check.due("match of another object", other.match(1), 1);
        other.setGrant(1, 1, 1, 1);
        Check.due("the first one keeps its claims", one.claims(), 40);
        Check.due("and its overhead", one.overhead(9999), 2000000);
    }
}
