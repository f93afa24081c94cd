import java.util.function.IntSupplier;

/**
 * What tells two books apart: one view asks for all answers, the others go on with changes, which show
 * what no answer tells at once. Each takes a book of its own, so that a full one stays within 512 calls.
 */
enum View {
    ANSWERS {
        @Override
        String of(GrantBook book) {
            StringBuilder text = new StringBuilder();
            int lines = book.lines();
            text.append("lines ").append(lines);
            for (int i = 0; i < lines; i++) {
                text.append(" [room ").append(book.room(i)).append(" left ").append(book.left(i)).append(']');
            }
            int vouchers = book.vouchers();
            text.append(" vouchers ").append(vouchers);
            for (int i = 0; i < vouchers; i++) {
                text.append(" [").append(book.fits(i)).append(' ').append(book.eligible(i)).append(']');
            }
            for (int day : DAYS) {
                appendDay(text, book, day);
            }
            int claims = book.claims();
            text.append(" claims ").append(claims);
            for (int i = 0; i < claims; i++) {
                text.append(" [").append(book.paid(i)).append(']');
            }
            return text.append(" unsettled ").append(book.unsettled()).toString();
        }
    },

    /** Last days, what can still be moved away, all match, and the terms of the grant. */
    BUDGET {
        @Override
        String of(GrantBook book) {
            StringBuilder text = new StringBuilder();
            append(text, "match", () -> book.match(1));
            int lines = book.lines();
            for (int i = 0; i < lines; i++) {
                int line = i;
                append(text, "extend", () -> book.extend(line, 9999));
                // Halved amounts, so that each that is left to be moved away answers in its own way.
                for (int amount = 1 << 19; amount > 0; amount /= 2) {
                    int moved = amount;
                    append(text, "move", () -> book.move(line, (line + 1) % lines, moved));
                }
            }
            append(text, "addLine", () -> book.addLine(10000000, 0, 9999, true));
            for (int amount : new int[] {1000, 9000000}) {
                append(text, "spend", () -> book.spend(lines, 0, amount));
                appendDay(text, book, 0);
            }
            return text.toString();
        }
    },

    /** Refusals, the day of the last claim, and whether the grant can be set. */
    CLAIMS {
        @Override
        String of(GrantBook book) {
            StringBuilder text = new StringBuilder();
            int vouchers = book.vouchers();
            for (int i = 0; i < vouchers; i++) {
                int voucher = i;
                append(text, "admit", () -> book.admit(voucher));
                append(text, "refuse", () -> book.refuse(voucher));
            }
            append(text, "setGrant", () -> {
                book.setGrant(5000, 100, 10, 300);
                return 0;
            });
            append(text, "admit", () -> book.admit(0));
            for (int day : DAYS) {
                append(text, "claim", () -> book.claim(day));
            }
            return text.append(" unsettled ").append(book.unsettled()).toString();
        }
    };

    private static final int[] DAYS = {0, 9, 10, 39, 40, 41, 50, 4999, 5000, 9998, 9999};

    abstract String of(GrantBook book);

    private static void appendDay(StringBuilder text, GrantBook book, int day) {
        text.append(" day ").append(day).append(" [").append(book.costs(day)).append(' ').append(book.overhead(day));
        text.append(' ').append(book.earned(day)).append(' ').append(book.missingMatch(day)).append(']');
    }

    private static void append(StringBuilder text, String call, IntSupplier answer) {
        text.append(' ').append(call).append(' ');
        try {
            text.append(answer.getAsInt());
        } catch (RuntimeException e) {
            text.append("throws.").append(e.getClass().getSimpleName());
        }
    }
}
