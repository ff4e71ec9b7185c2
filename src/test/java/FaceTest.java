import java.io.IOException;
import java.lang.reflect.Constructor;
import java.lang.reflect.Field;
import java.lang.reflect.Method;
import java.lang.reflect.Modifier;
import java.nio.file.Files;
import java.nio.file.Path;
import java.util.ArrayList;
import java.util.List;
import java.util.Random;
import java.util.regex.Matcher;
import java.util.regex.Pattern;

/** The public face, that no call throws whatever its arguments, and what of LANGUAGE.md can be seen in the text. */
public final class FaceTest {
    private static final String[] FACE = {"house 4", "houseOf 2", "change 3", "remake 2", "dusk 2", "lane 3", "laneOf 2",
        "shop 2", "ends 1", "anew 0", "state 1", "feed 2", "rules 0", "night 0", "on 1", "when 1", "griefFor 1",
        "laneFor 1", "full 1", "bare 1", "kin 1", "walk 2", "best 1", "ith 2", "ways 1", "round 2", "bars 2", "game 1",
        "play 1", "report 4", "forget 0", "stories 1", "liar 0", "seed 1", "lot 0", "times 2", "prove 1", "row 2",
        "alterRow 3", "judge 0", "sheet 3", "write 3", "item 3", "goAll 3", "wouldBe 3", "shelf 3", "taken 2", "act 3",
        "trace 1", "many 1", "keep 0", "again 0"};

    public static void main(String[] args) throws IOException, ReflectiveOperationException {
        constants();
        methods();
        members();
        neverThrows();
        text(Files.readString(Path.of("src/main/java/ThirteenthBun.java")));
        Check.end();
    }

    private static void holds(String what, boolean is) {
        Check.due(what, is ? 1 : 0, 1);
    }

    private static void constants() {
        Check.due("BAD", ThirteenthBun.BAD, -1);
        Check.due("FULL", ThirteenthBun.FULL, -2);
        Check.due("NONE", ThirteenthBun.NONE, -3);
        Check.due("STATE", ThirteenthBun.STATE, -4);
    }

    private static void methods() {
        List<String> publics = new ArrayList<>();
        List<String> names = new ArrayList<>();
        for (Method m : ThirteenthBun.class.getDeclaredMethods()) {
            if (Modifier.isPublic(m.getModifiers())) {
                publics.add(m.getName() + " " + m.getParameterCount());
                names.add(m.getName());
                holds(m.getName() + " answers an int", m.getReturnType() == int.class);
            }
        }
        Check.due("how many public methods", publics.size(), FACE.length);
        for (String s : FACE) {
            holds("public " + s, publics.contains(s));
        }
        for (Method m : ThirteenthBun.class.getDeclaredMethods()) {
            boolean isPublic = Modifier.isPublic(m.getModifiers());
            holds(m + " is private", isPublic || Modifier.isPrivate(m.getModifiers()));
            holds(m + " bears no public name", isPublic || !names.contains(m.getName()));
        }
    }

    private static void members() {
        int face = Modifier.PUBLIC | Modifier.FINAL;
        holds("the class is public and final", (ThirteenthBun.class.getModifiers() & face) == face);
        for (Field f : ThirteenthBun.class.getDeclaredFields()) {
            holds(f + " is private", Modifier.isPrivate(f.getModifiers()) || List.of("BAD", "FULL", "NONE", "STATE").contains(f.getName()));
        }
        Constructor<?>[] made = ThirteenthBun.class.getDeclaredConstructors();
        holds("one constructor", made.length == 1 && Modifier.isPublic(made[0].getModifiers()));
        Class<?>[] inside = ThirteenthBun.class.getDeclaredClasses();
        holds("twelve classes at most", inside.length + 1 <= 12);
        for (Class<?> c : inside) {
            holds(c + " is static, not public", Modifier.isStatic(c.getModifiers()) && !Modifier.isPublic(c.getModifiers()));
            int fields = 0;
            for (Field f : c.getDeclaredFields()) {
                boolean isStatic = Modifier.isStatic(f.getModifiers());
                fields += isStatic ? 0 : 1;
                holds(f + " is final if static", !isStatic || Modifier.isFinal(f.getModifiers()));
            }
            holds(c + " has some twenty fields", fields <= 20);
        }
    }

    /** Any arguments in any state: a call that threw would end the test. */
    private static void neverThrows() throws ReflectiveOperationException {
        int[] odd = {Integer.MIN_VALUE, Integer.MIN_VALUE + 1, -100, -1, 0, 1, 2, 3, 4, 5, 6, 16, 40, 99, 100, 1 << 30,
            Integer.MAX_VALUE - 1, Integer.MAX_VALUE};
        List<Method> calls = new ArrayList<>();
        for (String s : FACE) {
            for (Method m : ThirteenthBun.class.getDeclaredMethods()) {
                if (s.equals(m.getName() + " " + m.getParameterCount())) {
                    calls.add(m);
                }
            }
        }
        for (int run = 0; run < 300; run++) {
            Random chance = new Random(run);
            ThirteenthBun x = new ThirteenthBun();
            for (int call = 0; call < 512; call++) {
                Method m = calls.get(chance.nextInt(calls.size()));
                Object[] with = new Object[m.getParameterCount()];
                for (int i = 0; i < with.length; i++) {
                    int v = chance.nextInt(3) == 0 ? odd[chance.nextInt(odd.length)] : chance.nextInt(8);
                    with[i] = m.getParameterTypes()[i] == long.class ? (Object) chance.nextLong() : (Object) v;
                }
                m.invoke(x, with);
            }
        }
        holds("no call threw", true);
    }

    private static void text(String source) {
        String code = source.replaceAll("(?s)/\\*.*?\\*/", "").replaceAll("//[^\n]*", "").replaceAll("\"[^\"\n]*\"", "\"\"");
        String[] banned = {"throw", "try", "catch", "synchronized", "assert", "@\\w+", "instanceof", "enum",
            "protected", "double", "float", "package", "String\\.\\w+", "System\\.(?!arraycopy)\\w+", "while", "equals", "hashCode"};
        for (String word : banned) {
            Matcher m = Pattern.compile("(?<!\\w)" + word + "(?!\\w)").matcher(code);
            holds("the program has no " + word, !m.find());
        }
        holds("no lambda", !code.contains("->") && !code.contains("::"));
        Matcher imports = Pattern.compile("import ([\\w.]+);").matcher(code);
        while (imports.find()) {
            holds("import " + imports.group(1), imports.group(1).equals("java.util.Arrays"));
        }
        int begun = 0;
        String[] lines = source.split("\n");
        for (int i = 0; i < lines.length; i++) {
            holds("line " + (i + 1) + " is short", lines[i].length() <= 120);
            begun = lines[i].matches(" {4,8}\\w.*\\) \\{") ? i : begun;
            boolean isEnd = lines[i].matches(" {4,8}\\}");
            holds("the method that ends in line " + (i + 1) + " is short", !isEnd || i - begun < 60);
        }
        Matcher heads = Pattern.compile("(?m)^ {4,8}[\\w<>\\[\\] ]+ \\w+\\(([^)]*)\\) \\{").matcher(code);
        while (heads.find()) {
            holds("seven parameters at most: " + heads.group(1), heads.group(1).split(",").length <= 7);
        }
    }
}
