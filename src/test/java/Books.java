/** Books at some points of their lives, for questions that must hold at each of them. */
final class Books {
    private Books() {
    }

    static GrantBook unused() {
        return new GrantBook();
    }

    /** A line of these days; nothing is spent. */
    static GrantBook withLine(int budget, int first, int last) {
        GrantBook book = new GrantBook();
        book.addLine(budget, first, last, true);
        return book;
    }

    /** Three lines, seven vouchers (the last one refused), moves and match, but no claim. */
    static GrantBook busy() {
        GrantBook book = new GrantBook();
        book.setGrant(900000, 60, 15, 20000);
        book.addLine(100000, 10, 50, true);
        book.addLine(50009, 0, 9999, false);
        book.addLine(20, 30, 30, true);
        book.spend(0, 10, 60000);
        book.spend(0, 50, 60000);
        book.spend(0, 51, 10);
        book.spend(1, 0, 700);
        book.spend(1, 9999, 333);
        book.spend(2, 30, 15);
        book.spend(1, 20, 999);
        book.refuse(6);
        book.move(0, 1, 4000);
        book.move(1, 2, 1000);
        book.match(20000);
        return book;
    }

    /** The busy one with two claims, the last one for day 40. */
    static GrantBook claimed() {
        GrantBook book = busy();
        book.claim(10);
        book.claim(40);
        return book;
    }

    /** As many lines, vouchers, match and claims as there can be; the last claim is for day 5000. */
    static GrantBook full() {
        GrantBook book = new GrantBook();
        book.setGrant(100000000, 60, 15, 2000000);
        for (int i = 0; i < 12; i++) {
            book.addLine(9000000 + i, i, 9000 + i, i % 3 != 0);
        }
        for (int i = 0; i < 100; i++) {
            book.spend(i % 12, i * 97 % 10000, 1000000 + i);
        }
        book.refuse(7);
        book.refuse(99);
        book.move(0, 1, 800000);
        for (int i = 0; i < 10; i++) {
            book.match(10000000);
        }
        for (int i = 1; i <= 40; i++) {
            book.claim(i * 125);
        }
        return book;
    }
}
