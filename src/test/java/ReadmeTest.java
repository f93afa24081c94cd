import java.io.IOException;
import java.lang.reflect.Method;
import java.lang.reflect.Modifier;
import java.nio.file.Files;
import java.nio.file.Path;
import java.util.List;
import java.util.stream.Stream;

/** README.md: its example gives the answers that it tells, and its table has every call of the face. */
public final class ReadmeTest {
    public static void main(String[] args) throws IOException {
        List<String> readme = Files.readAllLines(Path.of("README.md"));
        theExample(readme);
        theTable(readme);
        Check.end("ReadmeTest");
    }

    private static void theExample(List<String> readme) {
        GrantBook book = new GrantBook();
        book.setGrant(1000000, 75, 10, 50000);
        int staff = book.addLine(200000, 0, 365, true);
        int travel = book.addLine(50000, 90, 180, false);
        told(readme, "int room = book.move(staff, travel, 20000);", book.move(staff, travel, 20000));
        int voucher = book.spend(staff, 30, 12000);
        int early = book.spend(travel, 60, 800);
        told(readme, "int costs = book.costs(90);", book.costs(90));
        told(readme, "int overhead = book.overhead(90);", book.overhead(90));
        told(readme, "int missing = book.missingMatch(90);", book.missingMatch(90));
        Check.due("without match nothing is earned", book.earned(90), 0);
        book.match(5000);
        told(readme, "int pays = book.claim(90);", book.claim(90));
        told(readme, "int less = book.refuse(voucher);", book.refuse(voucher));
        told(readme, "int owed = book.unsettled();", book.unsettled());
        Check.due("the early one fits", book.fits(early), false);
        Check.throwsJust(book, "one more than a tenth", Check.BAD_STATE, b -> b.move(staff, travel, 1));
    }

    /** The line of the example stands in README.md, and its comment begins with this answer. */
    private static void told(List<String> readme, String call, int answer) {
        String found = "no such line";
        for (String line : readme) {
            if (line.startsWith(call)) {
                found = line.substring(call.length()).replaceAll("^ *// (-?[0-9]+).*$", "$1");
            }
        }
        Check.due("README.md: " + call, found, Integer.toString(answer));
    }

    private static void theTable(List<String> readme) {
        for (Method m : GrantBook.class.getDeclaredMethods()) {
            if (Modifier.isPublic(m.getModifiers())) {
                Stream<String> rows = readme.stream().filter(line -> line.startsWith("| `" + m.getName() + "("));
                Check.due("rows of the call " + m.getName(), rows.count(), 1);
            }
        }
    }
}
