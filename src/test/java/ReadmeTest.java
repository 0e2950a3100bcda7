import java.io.IOException;
import java.nio.file.Files;
import java.nio.file.Path;
import java.util.ArrayList;
import java.util.List;

/** README.md's example: its lines are these, and they answer what it says. */
public final class ReadmeTest {
    private static final TapeSealer TAPE = new TapeSealer();
    private static final List<String> SHOWN = new ArrayList<>();

    private static int wrong;

    private ReadmeTest() {
    }

    public static void main(String[] args) throws IOException {
        shown("TapeSealer tape = new TapeSealer();");
        shown("for (int i = 0; i < 8; i++) {");
        shown("tape.put(0x01020304 * (i + 1), 4);");
        shown("}");
        for (int i = 0; i < 8; i++) {
            due(1, TAPE.put(0x01020304 * (i + 1), 4) ? 1 : 0);
        }
        shown("tape.epoch();");
        due(1, TAPE.epoch());
        shown("int file = tape.create(12345);");
        int file = TAPE.create(12345);
        due(0, file);
        shown("tape.put(0x68656C6C, 4);");
        due(1, TAPE.put(0x68656C6C, 4) ? 1 : 0);
        shown("tape.put(0x6F, 1);");
        due(1, TAPE.put(0x6F, 1) ? 1 : 0);
        shown("tape.append();");
        due(5, TAPE.append());
        shown("tape.finish();");
        due(file, TAPE.finish());
        shown("tape.spoil(8);");
        TAPE.spoil(8);
        shown("tape.read(file, 0, 5);");
        due(5, TAPE.read(file, 0, 5));
        shown("tape.output(0);");
        due(0x68, TAPE.output(0));
        shown("tape.scrub(0);");
        due(1, TAPE.scrub(0));
        checkLines();
        System.out.println(wrong == 0 ? "all answers are as due" : wrong + " faults");
        System.exit(wrong == 0 ? 0 : 1);
    }

    private static void shown(String line) {
        SHOWN.add(line);
    }

    private static void due(int want, int got) {
        if (got != want) {
            wrong++;
            System.out.println(SHOWN.get(SHOWN.size() - 1) + " answered " + got + ", due is " + want);
        }
    }

    private static void checkLines() throws IOException {
        String readme = Files.readString(Path.of("README.md"));
        int from = readme.indexOf("```java") + "```java".length();
        List<String> lines = readme.substring(from, readme.indexOf("```", from)).lines()
                .map(line -> line.replaceAll("//.*", "").strip())
                .filter(line -> !line.isEmpty())
                .toList();
        if (!lines.equals(SHOWN)) {
            wrong++;
            System.out.println("README.md shows " + lines + ", due is " + SHOWN);
        }
    }
}
