import java.lang.reflect.Constructor;
import java.lang.reflect.Executable;
import java.lang.reflect.Field;
import java.lang.reflect.Method;
import java.lang.reflect.Modifier;
import java.nio.file.Files;
import java.nio.file.Path;
import java.util.ArrayList;
import java.util.Arrays;
import java.util.List;
import java.util.Set;
import java.util.TreeSet;
import java.util.regex.Matcher;
import java.util.regex.Pattern;

/** The document's face, and those rules of LANGUAGE.md that can be seen from outside or in the text. */
public final class LanguageTest {
    private static final Due due = new Due("LanguageTest");
    private static final Path SOURCE = Path.of("src/main/java/SeatCounts.java");
    private static final String[] FACE = {
        "int candidates(int)", "int withdraw(int,boolean)", "int lot(int,int)", "int pile(long,int)",
        "int change(int,int)", "int about(int,int)", "int count(int,int)", "long stage(int,int)",
        "long votes(int,int)", "int status(int,int)", "int elected(int)", "int keep(int,int)",
        "int lies(int,int,int)", "long sheet(int,int)", "long forge(int,int,long)", "int check()",
        "int prefer(int,int)", "int winner()", "int leads(int)", "int points(int)", "int told(int)",
    };

    public static void main(String[] args) throws Exception {
        face();
        constants();
        privateMembers();
        text(Files.readString(SOURCE));
        due.end();
    }

    private static void face() {
        Set<String> got = new TreeSet<>();
        for (Method m : SeatCounts.class.getDeclaredMethods()) {
            if (Modifier.isPublic(m.getModifiers())) {
                due.holds(m.getName() + " is no static method", !Modifier.isStatic(m.getModifiers()));
                got.add(m.getReturnType() + " " + m.getName() + parameters(m));
            }
        }
        due.holds("the face is " + got, got.equals(new TreeSet<>(Arrays.asList(FACE))));
        Constructor<?>[] all = SeatCounts.class.getDeclaredConstructors();
        due.is("constructors", all.length, 1);
        due.holds("the constructor is public and empty",
                Modifier.isPublic(all[0].getModifiers()) && all[0].getParameterCount() == 0);
        due.holds("the class is public and final", Modifier.isPublic(SeatCounts.class.getModifiers())
                && Modifier.isFinal(SeatCounts.class.getModifiers()));
    }

    private static String parameters(Executable e) {
        List<String> names = new ArrayList<>();
        for (Class<?> type : e.getParameterTypes()) {
            names.add(type.getName());
        }
        return "(" + String.join(",", names) + ")";
    }

    private static void constants() throws IllegalAccessException {
        due.is("UNKNOWN", SeatCounts.UNKNOWN, -1);
        due.is("OUTSIDE", SeatCounts.OUTSIDE, -2);
        due.is("STATE", SeatCounts.STATE, -3);
        due.is("FULL", SeatCounts.FULL, -4);
        due.is("NONE", SeatCounts.NONE, -9);
        int open = 0;
        for (Field f : SeatCounts.class.getDeclaredFields()) {
            open += Modifier.isPublic(f.getModifiers()) ? 1 : 0;
        }
        due.is("public fields", open, 5);
    }

    private static List<Class<?>> classes() {
        List<Class<?>> all = new ArrayList<>();
        all.add(SeatCounts.class);
        all.addAll(Arrays.asList(SeatCounts.class.getDeclaredClasses()));
        return all;
    }

    private static void privateMembers() {
        Set<String> names = new TreeSet<>();
        for (String line : FACE) {
            names.add(line.substring(line.indexOf(' ') + 1, line.indexOf('(')));
        }
        due.holds("at most twelve classes", classes().size() <= 12);
        for (Class<?> type : classes()) {
            boolean outer = type == SeatCounts.class;
            due.holds(type + " is static", outer || Modifier.isStatic(type.getModifiers()));
            due.holds(type + " has no class inside", outer || type.getDeclaredClasses().length == 0);
            for (Method m : type.getDeclaredMethods()) {
                due.holds(m + " takes seven at most", m.getParameterCount() <= 7);
                boolean open = outer && Modifier.isPublic(m.getModifiers());
                due.holds(m + " has a name of its own", open || !names.contains(m.getName()));
                due.holds(m + " is public or private", !outer || open || Modifier.isPrivate(m.getModifiers()));
            }
            int fields = 0;
            for (Field f : type.getDeclaredFields()) {
                boolean constant = Modifier.isStatic(f.getModifiers());
                due.holds(f + " is final", !constant || Modifier.isFinal(f.getModifiers()));
                due.holds(f + " is public or private",
                        !outer || Modifier.isPublic(f.getModifiers()) || Modifier.isPrivate(f.getModifiers()));
                fields += constant ? 0 : 1;
            }
            due.holds(type + " has twenty fields at most", fields <= 20);
        }
    }

    private static void text(String source) {
        String code = source.replaceAll("(?s)/\\*.*?\\*/", "").replaceAll("//[^\n]*", "");
        String[] words = {
            "throw", "throws", "try", "catch", "finally", "synchronized", "assert", "import", "package",
            "protected", "native", "Exception", "Error", "System\\.(?!arraycopy)\\w+",
        };
        for (String word : words) {
            due.holds("no " + word, !Pattern.compile("\\b" + word + "\\b").matcher(code).find());
        }
        due.holds("no lambda", !code.contains("->"));
        due.holds("no method reference", !code.contains("::"));
        due.holds("no static block", !Pattern.compile("static\\s*\\{").matcher(code).find());
        for (String line : code.split("\n")) {
            due.holds("an object is made with its owner alone: " + line,
                    !line.contains("new ") || line.trim().matches("(private )?final .* = new .*;"));
        }
        Matcher method = Pattern.compile("(?m)^( {4}| {8})(?! )[\\w\\[\\] ]+\\([^)]*\\) \\{\n(?:.*\n)*?\\1\\}\n").matcher(code);
        int methods = 0;
        while (method.find()) {
            methods++;
            due.holds("short: " + method.group().split("\n")[0], method.group().split("\n").length <= 60);
        }
        due.holds("methods were found: " + methods, methods > 50);
    }
}
