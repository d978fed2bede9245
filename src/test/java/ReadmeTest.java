import java.io.File;
import java.io.IOException;
import java.lang.reflect.Method;
import java.nio.charset.StandardCharsets;
import java.nio.file.Files;
import java.nio.file.Path;
import java.util.ArrayList;
import java.util.List;

/** What README.md shows of use and of commands is so. */
public final class ReadmeTest {
    private static final String ALL_TESTS = ".ci/run";

    private static int wrong = 0;

    public static void main(String[] args) throws IOException, InterruptedException {
        String page = read(Path.of("README.md"));
        List<String[]> blocks = blocksOf(page);
        lookAtExample(blocks);
        lookAtCommands(blocks);
        lookAtNames(page);
        System.out.println(wrong == 0 ? "README.md is as due" : wrong + " faults");
        if (wrong != 0) {
            System.exit(1);
        }
    }

    private static void must(boolean isSo, String what) {
        if (!isSo) {
            wrong++;
            System.out.println(what);
        }
    }

    private static String read(Path file) throws IOException {
        return Files.readString(file, StandardCharsets.UTF_8);
    }

    /** The blocks of the page, each with the word behind its opening line and its text. */
    private static List<String[]> blocksOf(String page) {
        List<String[]> blocks = new ArrayList<>();
        String word = null;
        StringBuilder text = new StringBuilder();
        for (String line : page.split("\n")) {
            if (!line.startsWith("```")) {
                text.append(line).append('\n');
            } else if (word == null) {
                word = line.substring(3);
                text.setLength(0);
            } else {
                blocks.add(new String[] {word, text.toString()});
                word = null;
            }
        }
        must(word == null, "a block that is not closed");
        return blocks;
    }

    private static void lookAtExample(List<String[]> blocks) throws IOException {
        int shown = 0;
        for (String[] block : blocks) {
            if (block[0].equals("java")) {
                shown++;
                must(block[1].equals(read(Path.of("example/Mine.java"))), "another program than example/Mine.java");
            }
        }
        must(shown == 1, shown + " programs");
    }

    /** Each block of commands ends well, and prints what a block of text behind it says. */
    private static void lookAtCommands(List<String[]> blocks) throws IOException, InterruptedException {
        int done = 0;
        for (int i = 0; i < blocks.size(); i++) {
            if (!blocks.get(i)[0].equals("sh")) {
                continue;
            }
            done++;
            String commands = blocks.get(i)[1];
            if (commands.equals(ALL_TESTS + "\n")) {
                // It runs this test, so that it can't be run here.
                must(new File(ALL_TESTS).canExecute(), "can't be run: " + ALL_TESTS);
                continue;
            }
            File printed = new File("build/printed.txt");
            Process shell = new ProcessBuilder("sh", "-e", "-c", commands)
                    .redirectErrorStream(true).redirectOutput(printed).start();
            int end = shell.waitFor();
            String text = read(printed.toPath());
            must(end == 0, "ends with " + end + ": " + commands + text);
            if (i + 1 < blocks.size() && blocks.get(i + 1)[0].equals("text")) {
                must(text.equals(blocks.get(i + 1)[1]), "prints: " + text);
            }
        }
        must(done == 4, done + " blocks of commands");
    }

    /** The page names each call of the face and each file of the tests. */
    private static void lookAtNames(String page) {
        for (Method method : Weaversgate.class.getMethods()) {
            if (method.getDeclaringClass() == Weaversgate.class) {
                must(page.contains("`" + method.getName() + "("), "not named: " + method.getName());
            }
        }
        for (String name : new File("src/test/java").list()) {
            must(page.contains("`src/test/java/" + name + "`"), "not named: " + name);
        }
        for (String name : new File("src/test/help").list()) {
            must(page.contains("`" + name.substring(0, name.indexOf('.')) + "`"), "not named: " + name);
        }
    }
}
