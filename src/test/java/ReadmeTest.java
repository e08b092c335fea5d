import java.io.IOException;
import java.nio.file.Files;
import java.nio.file.Path;
import java.util.ArrayList;
import java.util.List;

/** The examples of README.md, line by line, and the answers that it tells. */
final class ReadmeTest {
    private static final Check CHECK = new Check();
    private static final Path README = Path.of("README.md");
    private static final Path THIS = Path.of("src/test/java/ReadmeTest.java");

    public static void main(String[] args) throws IOException {
        plainBlock();
        codedBlock();
        examplesAreThese();
        CHECK.end();
    }

    private static void plainBlock() {
        ContextUnfolder x = new ContextUnfolder();
        x.put(0, 1);               // a block that is not the last one
        x.put(1, 8);               // of 2 letters
        x.put(1, 1);               // plain
        x.put(7, 5);
        x.put(30, 5);
        x.put(3, 2);               // the last block, with nothing in it
        int letters = x.unfold();  // 2; IllegalArgumentException if the stream is wrong
        int first = x.letter(0);   // 7
        int bits = x.taken();      // 22
        int blocks = x.count(0);   // 2
        CHECK.equal("plain: letters", letters, 2);
        CHECK.equal("plain: first", first, 7);
        CHECK.equal("plain: bits", bits, 22);
        CHECK.equal("plain: blocks", blocks, 2);
    }

    private static void codedBlock() {
        ContextUnfolder y = new ContextUnfolder();
        y.put(1, 1);               // the last block
        y.put(0, 1);               // with something in it:
        y.put(4, 8);               // 5 letters
        y.put(0, 2);               // one type
        y.put(0, 2);               // of mode 0
        y.put(0, 2);               // one letter code:
        y.put(3, 3);               // simple, of two symbols
        y.put(5, 5);               // the letter 5, whose word is 0
        y.put(9, 5);               // the letter 9, whose word is 1
        y.put(1, 3);               // the command code: simple, of one symbol, which is read without a bit
        y.put(8, 4);               // insert 3 letters and a number of two bits, copy 2
        y.put(1, 3);               // the distance code: simple, of one symbol
        y.put(4, 4);               // 1, and a number of one bit
        y.put(0, 2);               // the first command: 3 letters are inserted
        y.put(2, 3);               // 5, 9, 5
        y.put(1, 1);               // the distance 2: 9 and 5 are copied
        int all = y.unfold();      // 5
        int latest = y.letter(4);  // 5
        int copied = y.count(2);   // 2
        int distance = y.count(5); // 2, the latest one that is remembered
        CHECK.equal("coded: all", all, 5);
        CHECK.equal("coded: latest", latest, 5);
        CHECK.equal("coded: copied", copied, 2);
        CHECK.equal("coded: distance", distance, 2);
        int[] due = {5, 9, 5, 9, 5};
        for (int i = 0; i < due.length; i++) {
            CHECK.equal("coded: letter(" + i + ")", y.letter(i), due[i]);
        }
    }

    /** The lines of README.md's examples stand in this file, in the same order. */
    private static void examplesAreThese() throws IOException {
        List<String> here = Files.readAllLines(THIS);
        List<String> examples = exampleLines();
        CHECK.isTrue("README.md has examples", !examples.isEmpty());
        int met = 0;
        for (int k = 0; k < here.size() && met < examples.size(); k++) {
            if (here.get(k).strip().equals(examples.get(met))) {
                met++;
            }
        }
        String missing = met < examples.size() ? examples.get(met) : "";
        CHECK.isTrue("README.md's line is run here: " + missing, met == examples.size());
    }

    private static List<String> exampleLines() throws IOException {
        List<String> lines = new ArrayList<>();
        boolean inside = false;
        for (String line : Files.readAllLines(README)) {
            if (line.startsWith("```")) {
                inside = line.equals("```java");
            } else if (inside && !line.isBlank()) {
                lines.add(line.strip());
            }
        }
        return lines;
    }
}
