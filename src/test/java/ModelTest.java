import java.util.function.LongSupplier;

/**
 * All promises: long runs of mixed calls, each asked of a GrantBook and of the PlainModel, right and
 * wrong arguments alike. The runs are drawn by a fixed rule, so that they are the same every time.
 */
public final class ModelTest {
    private static final int RUNS = 400;
    private static final int CALLS = 512;

    private static long drawn;

    private final int run;
    private final GrantBook book = new GrantBook();
    private final PlainModel model = new PlainModel();
    private final int days;
    private final int most;
    private final boolean isTidy;
    private final StringBuilder story = new StringBuilder();
    private boolean isWrong = false;

    private ModelTest(int run) {
        this.run = run;
        this.days = new int[] {12, 60, 9999}[run % 3];
        this.most = new int[] {300, 20000, 10000000}[run / 3 % 3];
        this.isTidy = run % 2 == 0;
    }

    public static void main(String[] args) {
        for (int run = 0; run < RUNS; run++) {
            drawn = 7919L * run + 13;
            new ModelTest(run).play();
        }
        Check.end("ModelTest");
    }

    private void play() {
        for (int call = 0; call < CALLS && !isWrong; call++) {
            step();
        }
    }

    /** A number from 0 to below the bound, by a linear congruence. */
    private static int draw(int bound) {
        drawn = drawn * 6364136223846793005L + 1442695040888963407L;
        return (int) Math.floorMod(drawn >>> 33, (long) bound);
    }

    private int day() {
        return odd() ? new int[] {-1, 0, 9999, 10000, Integer.MIN_VALUE, Integer.MAX_VALUE}[draw(6)] : draw(days + 1);
    }

    private int amount() {
        return odd() ? new int[] {-1, 0, 1, 10000000, 10000001, Integer.MIN_VALUE, Integer.MAX_VALUE}[draw(7)] : 1 + draw(most);
    }

    private int number(int count) {
        return odd() || count == 0 ? new int[] {-1, count, 12, 40, 100, Integer.MIN_VALUE, Integer.MAX_VALUE}[draw(7)] : draw(count);
    }

    private int inAll() {
        return odd() ? new int[] {-1, 0, 100000000, 100000001, Integer.MAX_VALUE}[draw(5)] : draw(most * 10);
    }

    private int percent() {
        return odd() ? new int[] {-1, 0, 1, 99, 100, 101, Integer.MAX_VALUE}[draw(7)] : draw(101);
    }

    private boolean odd() {
        return draw(isTidy ? 60 : 9) == 0;
    }

    private void step() {
        int kind = draw(100);
        if (kind < 52) {
            change(kind);
        } else {
            ask(kind - 52);
        }
    }

    private void change(int kind) {
        int line = number(model.lines());
        int voucher = number(model.vouchers());
        int day = day();
        int amount = amount();
        if (kind < 2) {
            int all = inAll();
            int share = percent();
            int overhead = percent();
            int ceiling = inAll();
            same("setGrant(" + all + ", " + share + ", " + overhead + ", " + ceiling + ")",
                () -> { book.setGrant(all, share, overhead, ceiling); return 0; },
                () -> { model.setGrant(all, share, overhead, ceiling); return 0; });
        } else if (kind < 6) {
            int last = odd() ? day() : Math.min(9999, Math.max(0, Math.min(day, 9999)) + draw(days));
            boolean isInBase = draw(2) == 0;
            same("addLine(" + amount + ", " + day + ", " + last + ", " + isInBase + ")",
                () -> book.addLine(amount, day, last, isInBase), () -> model.addLine(amount, day, last, isInBase));
        } else if (kind < 9) {
            same("extend(" + line + ", " + day + ")", () -> book.extend(line, day), () -> model.extend(line, day));
        } else if (kind < 14) {
            int to = number(model.lines());
            int part = odd() ? amount : Math.max(1, amount / 40);
            same("move(" + line + ", " + to + ", " + part + ")",
                () -> book.move(line, to, part), () -> model.move(line, to, part));
        } else if (kind < 34) {
            int part = odd() ? amount : Math.max(1, amount / 4);
            same("spend(" + line + ", " + day + ", " + part + ")",
                () -> book.spend(line, day, part), () -> model.spend(line, day, part));
        } else if (kind < 40) {
            same("refuse(" + voucher + ")", () -> book.refuse(voucher), () -> model.refuse(voucher));
        } else if (kind < 44) {
            same("admit(" + voucher + ")", () -> book.admit(voucher), () -> model.admit(voucher));
        } else if (kind < 47) {
            same("match(" + amount + ")", () -> book.match(amount), () -> model.match(amount));
        } else {
            int late = odd() ? day : day / (1 + draw(8));
            same("claim(" + late + ")", () -> book.claim(late), () -> model.claim(late));
        }
    }

    private void ask(int kind) {
        int line = number(model.lines());
        int voucher = number(model.vouchers());
        int day = day();
        if (kind < 3) {
            same("lines()", book::lines, model::lines);
        } else if (kind < 7) {
            same("room(" + line + ")", () -> book.room(line), () -> model.room(line));
        } else if (kind < 11) {
            same("left(" + line + ")", () -> book.left(line), () -> model.left(line));
        } else if (kind < 13) {
            same("vouchers()", book::vouchers, model::vouchers);
        } else if (kind < 17) {
            same("fits(" + voucher + ")", () -> book.fits(voucher) ? 1 : 0, () -> model.fits(voucher) ? 1 : 0);
        } else if (kind < 23) {
            same("eligible(" + voucher + ")", () -> book.eligible(voucher), () -> model.eligible(voucher));
        } else if (kind < 27) {
            same("costs(" + day + ")", () -> book.costs(day), () -> model.costs(day));
        } else if (kind < 31) {
            same("overhead(" + day + ")", () -> book.overhead(day), () -> model.overhead(day));
        } else if (kind < 36) {
            same("earned(" + day + ")", () -> book.earned(day), () -> model.earned(day));
        } else if (kind < 40) {
            same("missingMatch(" + day + ")", () -> book.missingMatch(day), () -> model.missingMatch(day));
        } else if (kind < 42) {
            same("claims()", book::claims, model::claims);
        } else if (kind < 44) {
            int claim = number(model.claims());
            same("paid(" + claim + ")", () -> book.paid(claim), () -> model.paid(claim));
        } else {
            same("unsettled()", book::unsettled, model::unsettled);
        }
    }

    private void same(String call, LongSupplier ofBook, LongSupplier ofModel) {
        String want = answer(ofModel);
        String got = answer(ofBook);
        story.append(call).append(" = ").append(want).append("; ");
        Check.due("run " + run + ": " + call, got, want);
        if (!got.equals(want)) {
            isWrong = true;
            System.out.println("  after: " + story);
        }
    }

    private static String answer(LongSupplier call) {
        try {
            return Long.toString(call.getAsLong());
        } catch (RuntimeException e) {
            return "throws." + e.getClass().getSimpleName();
        }
    }
}
