import java.util.ArrayList;
import java.util.Comparator;
import java.util.List;

/**
 * The document, told once more in its own order and without regard to speed: every answer is found
 * from the calls told so far. It keeps no chains and no sums, so that it does not err with the class.
 */
final class PlainModel {
    private record Told(int line, int day, int amount, int number) {
    }

    private record Move(int from, int to, int amount) {
    }

    private int[] grant = {1000000, 75, 10, 50000};
    private final List<int[]> lines = new ArrayList<>();
    private final List<Boolean> inBase = new ArrayList<>();
    private final List<Move> moves = new ArrayList<>();
    private final List<Told> vouchers = new ArrayList<>();
    private final List<Integer> refused = new ArrayList<>();
    private final List<Integer> matches = new ArrayList<>();
    private final List<int[]> claims = new ArrayList<>();

    private static void argument(long value, long least, long most) {
        if (value < least || value > most) {
            throw new IllegalArgumentException();
        }
    }

    private static void there(int number, List<?> rows) {
        if (number < 0 || number >= rows.size()) {
            throw new IndexOutOfBoundsException();
        }
    }

    private static void state(boolean isRight) {
        if (!isRight) {
            throw new IllegalStateException();
        }
    }

    void setGrant(int amount, int share, int overhead, int ceiling) {
        argument(amount, 0, 100000000);
        argument(share, 1, 100);
        argument(overhead, 0, 100);
        argument(ceiling, 0, 100000000);
        state(claims.isEmpty());
        grant = new int[] {amount, share, overhead, ceiling};
    }

    int addLine(int budget, int first, int last, boolean isInBase) {
        argument(budget, 0, 10000000);
        argument(first, 0, 9999);
        argument(last, first, 9999);
        state(lines.size() < 12);
        lines.add(new int[] {budget, first, last});
        inBase.add(isInBase);
        return lines.size() - 1;
    }

    int extend(int line, int last) {
        there(line, lines);
        int before = lines.get(line)[2];
        argument(last, before, 9999);
        lines.get(line)[2] = last;
        return before;
    }

    int move(int line, int to, int amount) {
        there(line, lines);
        there(to, lines);
        argument(amount, 1, 10000000);
        argument(line == to ? 1 : 0, 0, 0);
        long away = amount;
        for (Move m : moves) {
            away += m.from == line ? m.amount : 0;
        }
        state(away * 10 <= lines.get(line)[0]);
        moves.add(new Move(line, to, amount));
        return room(line);
    }

    int lines() {
        return lines.size();
    }

    int room(int line) {
        there(line, lines);
        int room = lines.get(line)[0];
        for (Move m : moves) {
            room += (m.to == line ? m.amount : 0) - (m.from == line ? m.amount : 0);
        }
        return room;
    }

    int left(int line) {
        there(line, lines);
        int left = room(line);
        for (Told v : vouchers) {
            left -= v.line == line ? eligible(v.number) : 0;
        }
        return left;
    }

    int spend(int line, int day, int amount) {
        there(line, lines);
        argument(day, 0, 9999);
        argument(amount, 1, 10000000);
        state(vouchers.size() < 100);
        vouchers.add(new Told(line, day, amount, vouchers.size()));
        return vouchers.size() - 1;
    }

    int refuse(int voucher) {
        there(voucher, vouchers);
        state(!refused.contains(voucher));
        int before = costs(9999);
        refused.add(voucher);
        return before - costs(9999);
    }

    int admit(int voucher) {
        there(voucher, vouchers);
        state(refused.contains(voucher));
        int before = costs(9999);
        refused.remove((Integer) voucher);
        return costs(9999) - before;
    }

    int match(int amount) {
        argument(amount, 1, 10000000);
        state(allMatch() + amount <= 100000000);
        matches.add(amount);
        return (int) allMatch();
    }

    private long allMatch() {
        long sum = 0;
        for (int m : matches) {
            sum += m;
        }
        return sum;
    }

    int vouchers() {
        return vouchers.size();
    }

    boolean fits(int voucher) {
        there(voucher, vouchers);
        Told v = vouchers.get(voucher);
        int[] line = lines.get(v.line);
        return v.day >= line[1] && v.day <= line[2] && !refused.contains(voucher);
    }

    int eligible(int voucher) {
        there(voucher, vouchers);
        return (int) allEligible()[voucher];
    }

    private long[] allEligible() {
        List<Told> order = new ArrayList<>(vouchers);
        order.sort(Comparator.comparingInt(Told::day).thenComparingInt(Told::number));
        long[] eligible = new long[vouchers.size()];
        long[] ofLine = new long[lines.size()];
        for (Told v : order) {
            if (fits(v.number)) {
                eligible[v.number] = Math.max(0, Math.min(v.amount, room(v.line) - ofLine[v.line]));
                ofLine[v.line] += eligible[v.number];
            }
        }
        return eligible;
    }

    int costs(int day) {
        argument(day, 0, 9999);
        long[] eligible = allEligible();
        long sum = 0;
        for (Told v : vouchers) {
            sum += v.day <= day ? eligible[v.number] : 0;
        }
        return (int) sum;
    }

    int overhead(int day) {
        argument(day, 0, 9999);
        long[] eligible = allEligible();
        long base = 0;
        for (Told v : vouchers) {
            base += v.day <= day && inBase.get(v.line) ? eligible[v.number] : 0;
        }
        return (int) Math.min(Math.floorDiv(base * grant[2], 100L), grant[3]);
    }

    int earned(int day) {
        return (int) earnedWith(allMatch(), day);
    }

    private long earnedWith(long match, int day) {
        long earned = Math.floorDiv(((long) costs(day) + overhead(day)) * grant[1], 100L);
        earned = Math.min(earned, grant[0]);
        return grant[1] == 100 ? earned : Math.min(earned, Math.floorDiv(match * grant[1], 100L - grant[1]));
    }

    /** Halves the range of all match that could be asked for until the least is found. */
    int missingMatch(int day) {
        long wanted = earnedWith(1000000000000L, day);
        long least = 0;
        long most = 1000000000000L;
        while (least < most) {
            long middle = (least + most) / 2;
            boolean isEnough = grant[1] == 100 || Math.floorDiv(middle * grant[1], 100L - grant[1]) >= wanted;
            if (isEnough) {
                most = middle;
            } else {
                least = middle + 1;
            }
        }
        return (int) Math.max(0, least - allMatch());
    }

    int claim(int day) {
        argument(day, claims.isEmpty() ? 0 : lastClaimDay(), 9999);
        state(claims.size() < 40);
        int pays = earned(day) - paidBefore();
        claims.add(new int[] {day, pays});
        return pays;
    }

    private int lastClaimDay() {
        return claims.get(claims.size() - 1)[0];
    }

    private int paidBefore() {
        int sum = 0;
        for (int[] c : claims) {
            sum += c[1];
        }
        return sum;
    }

    int claims() {
        return claims.size();
    }

    int paid(int claim) {
        there(claim, claims);
        return claims.get(claim)[1];
    }

    int unsettled() {
        return claims.isEmpty() ? 0 : earned(lastClaimDay()) - paidBefore();
    }
}
