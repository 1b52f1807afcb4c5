import java.io.IOException;
import java.lang.reflect.Constructor;
import java.lang.reflect.Field;
import java.lang.reflect.Method;
import java.lang.reflect.Modifier;
import java.nio.file.Files;
import java.nio.file.Path;
import java.util.Arrays;
import java.util.Map;
import java.util.Set;
import java.util.TreeMap;
import java.util.TreeSet;
import java.util.regex.Pattern;

/** The class has the document's face and no more, and its source keeps clear of what LANGUAGE.md rules out. */
public final class FaceTest {
    private static int wrong = 0;

    private static final String FACE = "type(int,int)int wipe(int)int undo(int)int fault(int)int car(int,int)int "
            + "steer(int,int)int event(int,int,int)int back()int read(int)int at(int,int,int)int who(int,int,int)int "
            + "house(int,int)int strikes()int first(int)int best()int meek()int jam(int)int carried()int "
            + "stand(int,int)int better(int,int,int)int ring(int)int spare(int)int seen(int,int,int,int)int "
            + "forget()int never()int was(int,int)int ask(int)int chance(int,int,int)long ages(int,int,int)int "
            + "sheet(int,int,int)int lose(int)int put(int,int,int,int)int get(int,int,int)int "
            + "copy(int,int,int,int,int)int write(int,int)int count(int)int digest()long";

    private static void check(boolean fine, String what) {
        if (!fine) {
            wrong++;
            System.out.println(what);
        }
    }

    public static void main(String[] args) throws IOException {
        checkMembers();
        checkNested();
        checkFields(DodgemDebate.class);
        for (Class<?> nested : DodgemDebate.class.getDeclaredClasses()) {
            checkFields(nested);
        }
        checkSource();
        checkLengths();
        System.out.println(wrong == 0 ? "face: as it must be" : "face: " + wrong + " wrong");
        if (wrong != 0) {
            System.exit(1);
        }
    }

    private static void checkMembers() {
        Class<?> c = DodgemDebate.class;
        check(Modifier.isPublic(c.getModifiers()) && Modifier.isFinal(c.getModifiers()), "not public final");
        Set<String> open = new TreeSet<>();
        for (Method m : c.getDeclaredMethods()) {
            if (!Modifier.isPrivate(m.getModifiers())) {
                open.add(signature(m));
            }
        }
        check(open.equals(new TreeSet<>(Arrays.asList(FACE.split(" ")))), "another face: " + open);
        Map<String, Integer> constants = new TreeMap<>();
        for (Field f : c.getDeclaredFields()) {
            if (!Modifier.isPrivate(f.getModifiers())) {
                constants.put(f.getName(), f.getModifiers());
            }
        }
        check(constants.keySet().equals(Set.of("NONE", "BAD", "NOT", "FULL")), "other constants: " + constants);
        check(DodgemDebate.NONE == -1 && DodgemDebate.BAD == -2, "NONE or BAD");
        check(DodgemDebate.NOT == -3 && DodgemDebate.FULL == -4, "NOT or FULL");
        Constructor<?>[] made = c.getDeclaredConstructors();
        check(made.length == 1 && made[0].getParameterCount() == 0, "constructors");
        check(made.length == 1 && Modifier.isPublic(made[0].getModifiers()), "constructors");
    }

    private static String signature(Method m) {
        StringBuilder b = new StringBuilder(m.getName()).append('(');
        for (Class<?> p : m.getParameterTypes()) {
            b.append(b.charAt(b.length() - 1) == '(' ? "" : ",").append(p.getName());
        }
        return b.append(')').append(m.getReturnType().getName()).toString();
    }

    private static void checkNested() {
        Set<String> names = new TreeSet<>();
        for (String s : FACE.split(" ")) {
            names.add(s.substring(0, s.indexOf('(')));
        }
        Class<?>[] nested = DodgemDebate.class.getDeclaredClasses();
        check(nested.length <= 12, "too many classes");
        for (Class<?> n : nested) {
            check(Modifier.isStatic(n.getModifiers()), n + " is not static");
            for (Method m : n.getDeclaredMethods()) {
                check(!names.contains(m.getName()), n + " has a method of a public name: " + m);
                check(m.getParameterCount() <= 7, "too many parameters: " + m);
            }
        }
        for (Method m : DodgemDebate.class.getDeclaredMethods()) {
            check(!Modifier.isPrivate(m.getModifiers()) || !names.contains(m.getName()), "a private " + m);
        }
    }

    private static final Set<Class<?>> CONSTANTS = Set.of(int.class, long.class, boolean.class, char.class,
            String.class, int[].class, long[].class, char[].class, byte[].class);

    private static void checkFields(Class<?> c) {
        int own = 0;
        for (Field f : c.getDeclaredFields()) {
            if (!Modifier.isStatic(f.getModifiers())) {
                own++;
            } else {
                check(Modifier.isFinal(f.getModifiers()) && CONSTANTS.contains(f.getType()), "not a constant: " + f);
            }
        }
        check(own <= 20, c + " has " + own + " fields");
    }

    /** A method begins on a line that ends in "{" at the depth of its class, and ends on one "}" as far in. */
    private static void checkLengths() throws IOException {
        String[] lines = Files.readString(Path.of("src/main/java/DodgemDebate.java")).split("\n");
        Pattern head = Pattern.compile("( {4}| {8})[\\w\\[\\]. ]+\\(.*\\) \\{");
        int methods = 0;
        for (int i = 0; i < lines.length; i++) {
            if (!head.matcher(lines[i]).matches() || lines[i].matches("\\s+(if|for|while|switch|do) .*")) {
                continue;
            }
            String end = lines[i].substring(0, lines[i].length() - lines[i].stripLeading().length()) + "}";
            int last = i;
            while (last < lines.length && !lines[last].equals(end)) {
                last++;
            }
            methods++;
            check(last - i < 60, "a long method: " + lines[i]);
        }
        check(methods > 60, "no more methods than " + methods);
    }

    private static void checkSource() throws IOException {
        String source = Files.readString(Path.of("src/main/java/DodgemDebate.java"));
        String code = source.replaceAll("(?s)/\\*.*?\\*/", "").replaceAll("//[^\n]*", "");
        for (String word : new String[] {"throw", "throws", "try", "catch", "synchronized", "assert", "package",
                "var", "Exact", "toString", "hashCode", "equals", "System\\.(?!arraycopy)\\w+", "Object"}) {
            check(!Pattern.compile("\\b" + word + "\\b").matcher(code).find(), "the source has " + word);
        }
        check(!code.contains("->") && !code.contains("::"), "the source has a lambda or a method reference");
        for (char c : source.toCharArray()) {
            check(c < 128, "the source has the sign " + (int) c);
        }
        check(code.lines().filter(l -> l.startsWith("import")).allMatch(l -> l.equals("import java.util.Arrays;")),
                "another import");
    }
}
