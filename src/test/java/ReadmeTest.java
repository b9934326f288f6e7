import java.io.IOException;
import java.nio.charset.StandardCharsets;
import java.nio.file.Files;
import java.nio.file.Path;
import java.util.ArrayList;
import java.util.List;

/** The lines of Java that README.md shows, run, and whether README.md shows these. */
public final class ReadmeTest {
    private static final Dues DUES = new Dues("ReadmeTest");

    public static void main(String[] args) throws IOException {
        shown();
        List<String> here = linesOfShown();
        DUES.due("lines of Java in README.md, more than 20", here.size() > 20, true);
        DUES.due("README.md shows these lines", linesOfReadme().equals(here), true);
        DUES.end();
    }

    private static void shown() {
        ToyHouse house = new ToyHouse();
        int kind = house.kind(3, 500, 2, 0, 200);      // from age 3 on, 500 pence, noise 2, maker 0, bears 200 days
        house.pieces(kind, 0, 4, 10);                  // four pieces of sort 0 that weigh 10 each
        int toy = house.toy(kind, 7);                  // one of batch 7
        int family = house.family(5, 1, 0);            // youngest child 5, need 1, village 0
        int due = house.lend(toy, family);             // the day on which it is due: 21
        house.now(30);
        house.feed(0x03000000, 0, 0, 0, 0);            // three of the four pieces of sort 0 come back
        int owed = house.back(toy);                    // what is owed: 0, there are no rules yet
        int lacks = house.toyIs(toy, 7);               // how many pieces lack: 1
        String text = "d14(a<5);fl*20(l>0);p30(1=1)";  // 14 days below age 5; 20 for each day late; 30 for each piece
        for (int from = 0; from < text.length(); from += 20) {
            int[] five = new int[5];
            for (int i = 0; i < 20; i++) {
                int sign = from + i < text.length() ? text.charAt(from + i) : ' ';
                five[i / 4] = five[i / 4] << 8 | sign;
            }
            house.feed(five[0], five[1], five[2], five[3], five[4]);
        }
        int clauses = house.rules(text.length());      // how many clauses: 3; a fault would be below -999
        int dueThen = house.lend(toy, family);         // day 30 and 14 days: 44
        house.now(46);
        house.feed(0x02000000, 0, 0, 0, 0);            // one piece fewer than it had
        int owedThen = house.back(toy);                // two days late and one piece: 70
        // what these lines say that the calls answer
        DUES.due("due", due, 21);
        DUES.due("owed", owed, 0);
        DUES.due("lacks", lacks, 1);
        DUES.due("clauses", clauses, 3);
        DUES.due("due then", dueThen, 44);
        DUES.due("owed then", owedThen, 70);
    }

    private static List<String> linesOfShown() throws IOException {
        List<String> lines = Files.readAllLines(Path.of("src/test/java/ReadmeTest.java"), StandardCharsets.UTF_8);
        List<String> shown = new ArrayList<>();
        boolean in = false;
        for (String line : lines) {
            in = in && !line.startsWith("        // what these lines say");
            if (in) {
                shown.add(line.substring(8));
            }
            in = in || line.startsWith("    private static void shown()");
        }
        return shown;
    }

    /** Up to how it is tested, README.md's lines behind four blanks are Java. */
    private static List<String> linesOfReadme() throws IOException {
        List<String> shown = new ArrayList<>();
        for (String line : Files.readAllLines(Path.of("README.md"), StandardCharsets.UTF_8)) {
            if (line.equals("## Testing it")) {
                break;
            }
            if (line.startsWith("    ")) {
                shown.add(line.substring(4));
            }
        }
        return shown;
    }
}
