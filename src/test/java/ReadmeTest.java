import java.io.IOException;
import java.nio.file.Files;
import java.nio.file.Path;
import java.util.ArrayList;
import java.util.List;

/** README.md's example stands here word for word, and answers what its comments say. */
public final class ReadmeTest {
    private static final Path README = Path.of("README.md");
    private static final Path THIS = Path.of("src", "test", "java", "ReadmeTest.java");

    private ReadmeTest() {
    }

    public static void main(String[] args) throws IOException {
        Due due = new Due();
        example(due);
        List<String> told = linesBetween(README, "```java", "```");
        due.is("README.md has an example", told.size() > 1, true);
        due.is("README.md's example is the one here", told.equals(linesBetween(THIS, "// the example", "// its end")), true);
        due.end();
    }

    private static void example(Due due) {
        // the example
        PairChoice x = new PairChoice();
        int tom = x.animal(0, 120, 1);          // a male, worth 120, of family 1: number 0
        int ann = x.animal(1, 80, 2);           // a female, worth 80, of family 2: number 1
        int eve = x.animal(1, 95, 1);           // a female, worth 95, of family 1: number 2
        int kinBefore = x.kin(tom, eve, 250);   // 0, what it was
        int limitBefore = x.limit(100);         // 1000, what it was
        int pairs = x.run(1);                   // 1, the number of pairs; 0 would mean that no set may be
        int male = x.pairOf(0, 0);              // tom
        int female = x.pairOf(0, 1);            // ann: tom's and eve's kin, 250 both ways, is above 4 times 100
        int worths = x.told(0);                 // 200
        int eggs = x.eggs(50);                  // 50, all for the only pair
        int standIn = x.backUp(0);              // -3, there is no other male
        int refused = x.worth(7, 10);           // -20000, there is no animal 7; nothing has changed
        int alive = x.ahead(5, 100, 42L, 1);    // 2 of 3 behind five years with a risk of 100 in 1000
        int setBehindYear0 = x.after(0, 1);     // 1, some pair may be yet
        int setBehindYear1 = x.after(1, 1);     // 0, tom is lost
        // its end
        due.is("tom", tom, 0);
        due.is("ann", ann, 1);
        due.is("eve", eve, 2);
        due.is("kinBefore", kinBefore, 0);
        due.is("limitBefore", limitBefore, 1000);
        due.is("pairs", pairs, 1);
        due.is("male", male, tom);
        due.is("female", female, ann);
        due.is("worths", worths, 200);
        due.is("eggs", eggs, 50);
        due.is("standIn", standIn, -3);
        due.is("refused", refused, -20000);
        due.is("alive", alive, 2);
        due.is("setBehindYear0", setBehindYear0, 1);
        due.is("setBehindYear1", setBehindYear1, 0);
    }

    private static List<String> linesBetween(Path file, String first, String last) throws IOException {
        List<String> lines = new ArrayList<>();
        boolean within = false;
        for (String line : Files.readAllLines(file)) {
            if (within && line.strip().equals(last)) {
                return lines;
            }
            if (within) {
                lines.add(line.strip());
            }
            within = within || line.strip().equals(first);
        }
        return lines;
    }
}
