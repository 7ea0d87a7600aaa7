import java.lang.reflect.Constructor;
import java.lang.reflect.Field;
import java.lang.reflect.Method;
import java.lang.reflect.Modifier;
import java.nio.charset.StandardCharsets;
import java.nio.file.Files;
import java.nio.file.Path;
import java.util.ArrayList;
import java.util.List;
import java.util.Set;
import java.util.TreeSet;
import java.util.regex.Matcher;
import java.util.regex.Pattern;

/** What can be seen of ../shared/LANGUAGE.md from the program's text and face. */
public final class LanguageTest {
    private static final Set<String> FACE = new TreeSet<>(List.of("streets/4", "ofRoad/2", "way/3", "along/3", "child/4",
            "ofChild/2", "ready/2", "tie/3", "late/9", "mean/8", "start/4", "gate/5", "holds/1", "grown/1", "split/5", "ways/2",
            "friendly/3", "loss/5", "patience/3", "helper/1", "days/2", "week/2", "sheet/3", "lose/1", "put/3", "cell/3",
            "copy/5", "tell/1", "tag/1", "as/2", "trace/0", "fault/0", "many/1"));
    private static final Set<String> LONG = Set.of("late", "mean", "ways", "loss", "cell");
    private static final Set<String> CONSTANTS = Set.of("UNKNOWN", "OUTSIDE", "STATE", "FULL", "NONE", "LOST");

    private static int right = 0;
    private static int wrong = 0;

    private static void rule(int number, boolean holds, String what) {
        if (holds) {
            right++;
        } else {
            wrong++;
            System.out.println("rule " + number + ": " + what);
        }
    }

    private static void face() {
        Class<?> face = WalkingBus.class;
        rule(1, Modifier.isPublic(face.getModifiers()) && Modifier.isFinal(face.getModifiers()), "public and final");
        Set<String> open = new TreeSet<>();
        Set<String> names = new TreeSet<>();
        for (String call : FACE) {
            names.add(call.substring(0, call.indexOf('/')));
        }
        for (Method m : face.getDeclaredMethods()) {
            if (Modifier.isPrivate(m.getModifiers())) {
                rule(1, !names.contains(m.getName()), "a private method has a public name: " + m.getName());
                continue;
            }
            open.add(m.getName() + "/" + m.getParameterCount());
            Class<?> answer = LONG.contains(m.getName()) ? long.class : int.class;
            rule(1, m.getReturnType() == answer && Modifier.isPublic(m.getModifiers()), "its type: " + m.getName());
        }
        rule(1, open.equals(FACE), "the calls are " + open);
        for (Field f : face.getDeclaredFields()) {
            boolean isOurs = CONSTANTS.contains(f.getName());
            rule(1, isOurs == !Modifier.isPrivate(f.getModifiers()), "open or not: " + f.getName());
        }
        Constructor<?>[] makers = face.getDeclaredConstructors();
        rule(1, makers.length == 1 && makers[0].getParameterCount() == 0, "one constructor");
    }

    private static void classes() {
        Class<?>[] inside = WalkingBus.class.getDeclaredClasses();
        rule(11, inside.length <= 11, "classes: " + inside.length);
        List<Class<?>> all = new ArrayList<>(List.of(inside));
        all.add(WalkingBus.class);
        for (Class<?> c : all) {
            boolean isFace = c == WalkingBus.class;
            rule(2, isFace || Modifier.isStatic(c.getModifiers()) && !Modifier.isPublic(c.getModifiers()), "static: " + c);
            int fields = 0;
            for (Field f : c.getDeclaredFields()) {
                fields += Modifier.isStatic(f.getModifiers()) ? 0 : 1;
                rule(5, !Modifier.isStatic(f.getModifiers()) || Modifier.isFinal(f.getModifiers()), "static field: " + f);
            }
            rule(11, fields <= 20, "fields of " + c + ": " + fields);
            for (Method m : c.getDeclaredMethods()) {
                boolean isPublic = isFace && Modifier.isPublic(m.getModifiers());
                rule(11, isPublic || m.getParameterCount() <= 7, "parameters: " + m);
            }
        }
    }

    private static String withoutComments(String text) {
        return text.replaceAll("(?s)/\\*.*?\\*/", "").replaceAll("//[^\n]*", "");
    }

    private static void words(String text) {
        for (String word : List.of("throw", "throws", "try", "catch", "finally", "synchronized", "assert", "import", "package",
                "protected", "volatile", "native", "double", "float", "Object", "Exact", "equals", "hashCode", "toString",
                "random", "Random", "System\\.(?!arraycopy)", "Thread", "Exception", "var", "goto", "this\\)")) {
            rule(6, !Pattern.compile("\\b" + word + "(?!\\w)").matcher(text).find(), "the word " + word);
        }
        for (String sign : List.of("->", "::", "@", "\"", "\\u", "static {")) {
            rule(2, !text.contains(sign), "the sign " + sign);
        }
        rule(9, !Pattern.compile("\\b(while|do)\\b").matcher(text).find(), "a loop without a counter");
        rule(9, !Pattern.compile("for \\([^;]*;\\s*;").matcher(text).find(), "a loop without a bound");
        for (int i = 0; i < text.length(); i++) {
            if (text.charAt(i) > 126) {
                rule(4, false, "a sign above 126");
            }
        }
    }

    /** Objects are made where a field is told, or in the constructor's own loops. */
    private static void made(String text) {
        Matcher made = Pattern.compile("\n([^\n]*\\bnew [A-Z\\w]+[^\n]*)").matcher(text);
        while (made.find()) {
            String line = made.group(1).trim();
            boolean isField = line.startsWith("private ");
            boolean isConstructor = line.equals("sheets[k] = new Sheet();") || line.equals("children[x] = new Child();");
            rule(12, isField || isConstructor, "made by a call: " + line);
        }
    }

    private static void lengths(String text) {
        String[] lines = text.split("\n");
        int began = -1;
        String close = "";
        for (int i = 0; i < lines.length; i++) {
            Matcher head = Pattern.compile("^( {4}| {8})[\\w<>\\[\\] ]+\\([^;]*\\) \\{$").matcher(lines[i]);
            if (head.find() && !lines[i].trim().matches("(if|for|switch|else|while) .*")) {
                began = i;
                close = head.group(1) + "}";
            } else if (began >= 0 && lines[i].equals(close)) {
                rule(11, i - began <= 60, "a long method at line " + (began + 1));
                began = -1;
            }
        }
    }

    public static void main(String[] args) throws Exception {
        String whole = Files.readString(Path.of("src/main/java/WalkingBus.java"), StandardCharsets.UTF_8);
        String text = withoutComments(whole);
        face();
        classes();
        words(text);
        made(text);
        lengths(whole);
        System.out.println(right + " rules hold, " + wrong + " do not");
        if (wrong != 0) {
            System.exit(1);
        }
    }
}
