import java.io.ByteArrayOutputStream;
import java.io.IOException;
import java.io.PrintStream;
import java.nio.file.Files;
import java.nio.file.Path;
import java.util.List;
import java.util.stream.Collectors;

/** The examples of README.md: each of their lines stands here, too, and is run. */
public final class ReadmeTest {

    private static final Checks c = new Checks();
    private static final int NONE = QuotaTree.NONE;

    public static void main(String[] args) throws IOException {
        c.begin("the examples of README.md");
        calls();
        linesStandHere();
        c.close("ReadmeTest");
    }

    private static void calls() {
        QuotaTree tree = new QuotaTree();
        int before = tree.setLimit(1, 0, 100, 150);
        c.due(1, before);
        int home = tree.addFolder(0, 277925L);
        c.due(1, home);
        c.due(home, tree.find(Checks.name("home")));
        int moved = tree.tag(home, 1);
        c.due(0, moved);
        int file = tree.write(home, 120);
        c.due(0, file);
        int ended = tree.tick(10);
        c.due(0, ended);
        int state = tree.state(1, 0);
        c.due(3, state);
        int reason = tree.writeReason(home, 10);
        c.due(3, reason);
        int left = tree.undo();
        c.due(4, left);
        int grace = tree.graceLeft(1, 0);
        c.due(10, grace);
        text(tree);
        PrintStream console = System.out;
        ByteArrayOutputStream printed = new ByteArrayOutputStream();
        System.setOut(new PrintStream(printed));
        accounts(tree);
        System.setOut(console);
        c.due("2: 7/90 1/-", printed.toString().trim());
    }

    private static void text(QuotaTree tree) {
        String text = "limit 2 0 90 0 0; folder a root; tag a 2; file a 7;";
        for (int at = 0; at < text.length(); at += 20) {
            int[] words = new int[5];
            for (int i = 0; i < 20; i++) {
                int sign = at + i < text.length() ? text.charAt(at + i) : ' ';
                words[i / 4] = words[i / 4] << 8 | sign;
            }
            tree.append(words[0], words[1], words[2], words[3], words[4]);
        }
        int files = tree.load(text.length());
        c.due(1, files);
        int position = tree.errorPosition();
        c.due(NONE, position);
    }

    private static void accounts(QuotaTree tree) {
        StringBuilder accounts = new StringBuilder();
        int length = tree.writeAccounts(2);
        for (int i = 0; i < length; i++) {
            accounts.append((char) tree.writtenByte(i));
        }
        System.out.println(accounts);
    }

    private static void linesStandHere() throws IOException {
        List<String> here = Files.readAllLines(Path.of("src/test/java/ReadmeTest.java")).stream()
                .map(String::trim).collect(Collectors.toList());
        boolean inside = false;
        int found = 0;
        for (String line : Files.readAllLines(Path.of("README.md"))) {
            if (line.startsWith("```")) {
                inside = line.equals("```java");
            } else if (inside) {
                String code = line.replaceFirst(" +//.*", "").trim();
                c.due(code, here.contains(code) ? code : "no such line");
                found++;
            }
        }
        c.due(true, found > 20);
    }
}
