import java.io.File;
import java.io.IOException;
import java.lang.reflect.Method;
import java.lang.reflect.Modifier;
import java.net.URL;
import java.net.URLClassLoader;
import java.nio.file.Files;
import java.nio.file.Path;
import java.util.ArrayList;
import java.util.Comparator;
import java.util.List;
import java.util.regex.Matcher;
import java.util.regex.Pattern;
import java.util.stream.Stream;
import javax.tools.ToolProvider;

/** What README.md tells is true: its program prints what it says, its calls answer so, its commands work. */
public final class ReadmeTest {
    private static final Pattern BLOCK = Pattern.compile("(?m)^```(\\w+)\n((?:.*\n)*?)```$");
    private static final Pattern PROGRAM = Pattern.compile("public final class (\\w+)");
    // "int sad = village.house(2, 6, 9, 1);   // 1: what it is about"
    private static final Pattern ANSWERED = Pattern.compile("(?:int (\\w+) = )?(village\\..*?);\\s+// (-?\\d+)(?::.*)?");

    public static void main(String[] args) throws IOException, InterruptedException, ReflectiveOperationException {
        String readme = Files.readString(Path.of("README.md"));
        Path folder = Files.createTempDirectory("readme");
        try {
            Files.createSymbolicLink(folder.resolve("src"), Path.of("src").toAbsolutePath());
            blocks(readme, folder);
            calls(readme);
            files(readme);
        } finally {
            remove(folder);
        }
        Check.end();
    }

    private static void holds(String what, boolean is) {
        Check.due(what + "? that", is ? 1 : 0, 1);
    }

    private static void blocks(String readme, Path folder)
            throws IOException, InterruptedException, ReflectiveOperationException {
        List<String> fragments = new ArrayList<>();
        String printed = "";
        Matcher m = BLOCK.matcher(readme);
        while (m.find()) {
            String block = m.group(2);
            Matcher program = PROGRAM.matcher(block);
            if (m.group(1).equals("java") && program.find()) {
                Files.writeString(folder.resolve(program.group(1) + ".java"), block);
            } else if (m.group(1).equals("java")) {
                fragments.add(block);
            } else if (m.group(1).equals("sh") && !block.equals(".ci/run\n")) {
                printed = run(block, folder);
            } else if (m.group(1).equals("text")) {
                holds("does the program print \"" + block + "\" and not \"" + printed + "\"", printed.equals(block));
            }
        }
        holds("is there a program", !printed.isEmpty());
        answers(fragments, folder);
    }

    /** What a command printed; it must end well. */
    private static String run(String command, Path folder) throws IOException, InterruptedException {
        Process p = new ProcessBuilder("sh", "-c", command).directory(folder.toFile()).redirectErrorStream(true).start();
        p.getOutputStream().close();
        String printed = new String(p.getInputStream().readAllBytes());
        Check.due(command + "(which printed " + printed + ")", p.waitFor(), 0);
        return printed;
    }

    /** Each fragment as a method, in which due() looks at each answer that is told. */
    private static void answers(List<String> fragments, Path folder) throws IOException, ReflectiveOperationException {
        StringBuilder source = new StringBuilder("public final class Fragments {\n");
        StringBuilder all = new StringBuilder("    public static void all() {\n");
        for (int i = 0; i < fragments.size(); i++) {
            source.append("    private static void of").append(i).append("() {\n").append(looked(fragments.get(i))).append("    }\n");
            all.append("        of").append(i).append("();\n");
        }
        Path file = folder.resolve("Fragments.java");
        Files.writeString(file, source.append(all).append("    }\n}\n").toString());
        Path made = Files.createDirectory(folder.resolve("made"));
        String path = System.getProperty("java.class.path");
        int end = ToolProvider.getSystemJavaCompiler().run(null, null, null, "-cp", path, "-d", made.toString(), file.toString());
        Check.due("do the fragments compile?", end, 0);
        if (end == 0) {
            try (URLClassLoader loader = new URLClassLoader(new URL[] {made.toUri().toURL()})) {
                loader.loadClass("Fragments").getMethod("all").invoke(null);
            }
        }
        holds("are there fragments", !fragments.isEmpty());
    }

    private static String looked(String fragment) {
        StringBuilder looked = new StringBuilder();
        for (String line : fragment.split("\n")) {
            Matcher m = ANSWERED.matcher(line);
            if (!m.matches()) {
                holds("is an answer told behind: " + line, line.equals("ThirteenthBun village = new ThirteenthBun();"));
                looked.append(line).append('\n');
                continue;
            }
            String asked = m.group(2);
            if (m.group(1) != null) {
                looked.append("int ").append(m.group(1)).append(" = ").append(asked).append(";\n");
                asked = m.group(1);
            }
            looked.append("ReadmeTest.due(\"").append(m.group(2)).append("\", ").append(asked).append(", ")
                .append(m.group(3)).append(");\n");
        }
        return looked.toString();
    }

    /** Public, as the fragments are of another loader and so can't reach Check. */
    public static void due(String call, long got, long want) {
        Check.due(call, got, want);
    }

    /** Each public method stands in a table, with as many parameters as it has; and none that there isn't. */
    private static void calls(String readme) {
        List<String> told = new ArrayList<>();
        for (String line : readme.split("\n")) {
            String[] cells = line.split("\\|");
            Matcher m = Pattern.compile("`(\\w+)\\(([\\w, ]*)\\)`").matcher(cells.length > 1 ? cells[1] : "");
            while (m.find()) {
                told.add(m.group(1) + " " + (m.group(2).isEmpty() ? 0 : m.group(2).split(", ").length));
            }
        }
        int methods = 0;
        for (Method m : ThirteenthBun.class.getDeclaredMethods()) {
            if (Modifier.isPublic(m.getModifiers())) {
                methods++;
                holds("is it told: " + m, told.contains(m.getName() + " " + m.getParameterCount()));
            }
        }
        Check.due("how many calls are told", told.size(), methods);
    }

    private static void files(String readme) {
        Matcher m = Pattern.compile("`((?:src/|\\.\\./shared/|\\.ci/|NOTES)[\\w./]+)`").matcher(readme);
        while (m.find()) {
            holds("is there " + m.group(1), Files.exists(Path.of(m.group(1))));
        }
        holds("can .ci/run be run", Files.isExecutable(Path.of(".ci/run")));
        Matcher test = Pattern.compile("`(\\w+Test)`").matcher(readme);
        while (test.find()) {
            holds("is there " + test.group(1), new File("src/test/java/" + test.group(1) + ".java").exists());
        }
        for (String name : new File("src/test/java").list()) {
            boolean isTest = name.endsWith("Test.java");
            holds("is " + name + " told", !isTest || readme.contains("`" + name.replace(".java", "") + "`"));
        }
    }

    private static void remove(Path folder) throws IOException {
        // Files.walk doesn't follow the link to src, so nothing of the project goes.
        try (Stream<Path> inside = Files.walk(folder)) {
            for (Path p : inside.sorted(Comparator.reverseOrder()).toList()) {
                Files.delete(p);
            }
        }
    }
}
