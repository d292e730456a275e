import java.io.IOException;
import java.nio.charset.StandardCharsets;
import java.nio.file.Files;
import java.nio.file.Path;
import java.util.ArrayList;
import java.util.Comparator;
import java.util.List;
import java.util.Set;
import java.util.TreeSet;
import java.util.regex.Matcher;
import java.util.regex.Pattern;
import java.util.stream.Stream;

/** Does in a clean copy of the checkout what README.md shows, and looks whether it prints what it says. */
public final class ReadmeTest {
    private static final Check CHECK = new Check("ReadmeTest");
    private static final Path TESTS = Path.of("src", "test", "java");
    /** That this test itself runs shows that this command works. */
    private static final String ALL_TESTS = ".ci/run\n";

    /** What stands between two fences, and the word behind the first of them. */
    private record Piece(String language, String text) {
    }

    public static void main(String[] args) throws IOException, InterruptedException {
        String readme = Files.readString(Path.of("README.md"));
        List<Piece> pieces = pieces(readme);
        Path place = Files.createTempDirectory("readme");
        try {
            Path checkout = cleanCopy(place);
            writeClasses(pieces, checkout);
            runCommands(pieces, checkout);
        } finally {
            remove(place);
        }
        CHECK.same("executable .ci/run", Boolean.toString(Files.isExecutable(Path.of(".ci", "run"))), "true");
        CHECK.same("the tests that README.md names", named(readme).toString(), present().toString());
        CHECK.end();
    }

    private static List<Piece> pieces(String readme) {
        List<Piece> pieces = new ArrayList<>();
        Matcher fenced = Pattern.compile("^```(\\w+)\n(.*?)^```$", Pattern.MULTILINE | Pattern.DOTALL).matcher(readme);
        while (fenced.find()) {
            pieces.add(new Piece(fenced.group(1), fenced.group(2)));
        }
        return pieces;
    }

    /** The sources alone, and the shared folder beside them. */
    private static Path cleanCopy(Path place) throws IOException {
        Path checkout = Files.createDirectory(place.resolve("checkout"));
        try (Stream<Path> sources = Files.walk(Path.of("src"))) {
            for (Path source : sources.toList()) {
                Files.copy(source, checkout.resolve(source));
            }
        }
        Files.createSymbolicLink(place.resolve("shared"), Path.of("..", "shared").toRealPath());
        return checkout;
    }

    private static void writeClasses(List<Piece> pieces, Path checkout) throws IOException {
        int written = 0;
        for (Piece piece : pieces) {
            Matcher name = Pattern.compile("class (\\w+)").matcher(piece.text());
            if (piece.language().equals("java") && name.find()) {
                Files.writeString(checkout.resolve(name.group(1) + ".java"), piece.text());
                written++;
            }
        }
        CHECK.same("a class in README.md", Boolean.toString(written > 0), "true");
    }

    private static void runCommands(List<Piece> pieces, Path checkout) throws IOException, InterruptedException {
        int told = 0;
        boolean all = false;
        for (int i = 0; i < pieces.size(); i++) {
            Piece piece = pieces.get(i);
            if (piece.text().equals(ALL_TESTS)) {
                all = true;
            } else if (piece.language().equals("sh")) {
                String printed = run(piece.text(), checkout);
                if (i + 1 < pieces.size() && pieces.get(i + 1).language().equals("text")) {
                    CHECK.same("what README.md says is printed", printed, pieces.get(i + 1).text());
                    told++;
                }
            }
        }
        CHECK.same("the command for all tests, and an example's output", all + " " + (told > 0), "true true");
    }

    private static String run(String commands, Path checkout) throws IOException, InterruptedException {
        Process process = new ProcessBuilder("bash", "-e", "-c", commands)
                .directory(checkout.toFile()).redirectErrorStream(true).start();
        String printed = new String(process.getInputStream().readAllBytes(), StandardCharsets.UTF_8);
        int code = process.waitFor();
        CHECK.same(commands + printed + "exit code", Integer.toString(code), "0");
        return printed;
    }

    private static Set<String> named(String readme) {
        Set<String> names = new TreeSet<>();
        Matcher name = Pattern.compile("`(\\w+Test)`").matcher(readme);
        while (name.find()) {
            names.add(name.group(1));
        }
        return names;
    }

    private static Set<String> present() throws IOException {
        Set<String> names = new TreeSet<>();
        try (Stream<Path> files = Files.list(TESTS)) {
            for (Path file : files.toList()) {
                String name = file.getFileName().toString();
                if (name.endsWith("Test.java")) {
                    names.add(name.substring(0, name.length() - ".java".length()));
                }
            }
        }
        return names;
    }

    /** What lies deepest goes first; a link is taken away, not what it leads to. */
    private static void remove(Path place) throws IOException {
        try (Stream<Path> files = Files.walk(place)) {
            for (Path file : files.sorted(Comparator.reverseOrder()).toList()) {
                Files.delete(file);
            }
        }
    }
}
