import java.lang.reflect.Constructor;
import java.lang.reflect.Field;
import java.lang.reflect.Method;
import java.lang.reflect.Modifier;
import java.nio.file.Files;
import java.nio.file.Path;
import java.util.ArrayList;
import java.util.Arrays;
import java.util.HashSet;
import java.util.List;
import java.util.Set;
import java.util.TreeSet;
import java.util.regex.Matcher;
import java.util.regex.Pattern;

/** Rules of LANGUAGE.md that the class files and the source show. */
public final class LanguageTest {
    private static final String FACE = "row3 set3 copy5 drop1 feed1 town0 fault0 minutes1 say2 go1 hatch2 undo0 person2 "
        + "place1 ahead2 order2 lives0 words2 served2 spread1 elbows1 grows4 opens2 seen3 image1 restore1 kind1 as2 ask2 "
        + "trace1 count1 status0";
    private static final String BANNED = "throw throws try catch finally synchronized assert double float volatile "
        + "native transient protected equals hashCode toString Exception Object import package";
    private static final Set<String> LIBRARY = Set.of("System.arraycopy", "Math.min", "Math.max");

    public static void main(String[] args) throws Exception {
        face();
        constants();
        List<Class<?>> all = new ArrayList<>(List.of(ElbowQueue.class));
        all.addAll(Arrays.asList(ElbowQueue.class.getDeclaredClasses()));
        Check.isTrue("at most twelve classes", all.size() <= 12);
        for (Class<?> type : all) {
            members(type);
        }
        String source = Files.readString(Path.of("src/main/java/ElbowQueue.java"));
        words(withoutComments(source));
        methodLengths(source);
        Check.end();
    }

    private static void face() {
        Set<String> want = new TreeSet<>(Arrays.asList(FACE.split(" ")));
        Set<String> got = new TreeSet<>();
        for (Method method : ElbowQueue.class.getDeclaredMethods()) {
            if (Modifier.isPublic(method.getModifiers())) {
                got.add(method.getName() + method.getParameterCount());
                Check.isTrue(method + " is of ints alone", isOfInts(method) && !Modifier.isStatic(method.getModifiers()));
            } else {
                Check.isTrue(method + " is private", Modifier.isPrivate(method.getModifiers()));
            }
        }
        Check.isTrue("the methods of the face: " + got, got.equals(want));
        Constructor<?>[] constructors = ElbowQueue.class.getDeclaredConstructors();
        Check.isTrue("one constructor", constructors.length == 1 && constructors[0].getParameterCount() == 0);
        Check.isTrue("it is public", Modifier.isPublic(constructors[0].getModifiers()));
        int kind = ElbowQueue.class.getModifiers();
        Check.isTrue("a public, final class", Modifier.isPublic(kind) && Modifier.isFinal(kind));
    }

    private static boolean isOfInts(Method method) {
        return method.getReturnType() == int.class
            && Arrays.stream(method.getParameterTypes()).allMatch(type -> type == int.class);
    }

    private static void constants() {
        Set<String> open = new TreeSet<>();
        for (Field field : ElbowQueue.class.getDeclaredFields()) {
            if (!Modifier.isPrivate(field.getModifiers())) {
                open.add(field.getName());
                int kind = field.getModifiers();
                Check.isTrue(field + " is a constant", Modifier.isPublic(kind) && Modifier.isStatic(kind));
            }
        }
        Check.isTrue("the constants of the face: " + open, open.equals(Set.of("NONE", "BAD", "STATE", "FULL")));
        Check.due("NONE", ElbowQueue.NONE, -1000000);
        Check.due("BAD", ElbowQueue.BAD, -1000001);
        Check.due("STATE", ElbowQueue.STATE, -1000002);
        Check.due("FULL", ElbowQueue.FULL, -1000003);
    }

    private static void members(Class<?> type) {
        int fields = 0;
        for (Field field : type.getDeclaredFields()) {
            if (Modifier.isStatic(field.getModifiers())) {
                Class<?> of = field.getType();
                Check.isTrue(field + " is final", Modifier.isFinal(field.getModifiers()));
                Check.isTrue(field + " is a number or numbers", of == int.class || of == int[].class);
            } else {
                fields++;
            }
        }
        Check.isTrue(type + " has at most twenty fields", fields <= 20);
        if (type != ElbowQueue.class) {
            int kind = type.getModifiers();
            Check.isTrue(type + " is static, not public", Modifier.isStatic(kind) && !Modifier.isPublic(kind));
        }
        Set<String> face = new HashSet<>(Arrays.asList(FACE.replaceAll("[0-9]", "").split(" ")));
        for (Method method : type.getDeclaredMethods()) {
            boolean open = type == ElbowQueue.class && Modifier.isPublic(method.getModifiers());
            Check.isTrue(method + " has a name of its own", open || !face.contains(method.getName()));
            Check.isTrue(method + " has at most seven parameters", method.getParameterCount() <= 7);
            Check.isTrue(method + " is no lambda", !method.isSynthetic());
        }
    }

    private static String withoutComments(String source) {
        return source.replaceAll("(?s)/\\*.*?\\*/", " ").replaceAll("//[^\n]*", " ");
    }

    private static void words(String code) {
        for (String word : BANNED.split(" ")) {
            Check.isTrue("no word " + word, !Pattern.compile("\\b" + word + "\\b").matcher(code).find());
        }
        Check.isTrue("no arrow", !code.contains("->"));
        Check.isTrue("no method reference", !code.contains("::"));
        Check.isTrue("signs 1 to 127", code.chars().allMatch(sign -> sign > 0 && sign < 128));
        Matcher uses = Pattern.compile("\\b(System|Math|Arrays|Integer|Long|String|Character)\\.\\w+").matcher(code);
        while (uses.find()) {
            Check.isTrue(uses.group() + " is listed", LIBRARY.contains(uses.group()));
        }
        Check.isTrue("no loop without a bound", !Pattern.compile("while \\(true\\)|for \\(;").matcher(code).find());
    }

    /** By indent: a method's head ends with a brace, its end is a brace of the same indent. */
    private static void methodLengths(String source) {
        String[] lines = source.split("\n");
        Pattern head = Pattern.compile("^( {4}| {8})(?:[\\w\\[\\]]+ )*\\w+\\([^;]*\\) \\{$");
        for (int i = 0; i < lines.length; i++) {
            Matcher matcher = head.matcher(lines[i]);
            if (!matcher.matches() || lines[i].trim().matches("(if|for|while|switch) .*")) {
                continue;
            }
            int end = i;
            while (end < lines.length && !lines[end].equals(matcher.group(1) + "}")) {
                end++;
            }
            Check.isTrue("short: " + lines[i].trim(), end < lines.length && end - i <= 60);
        }
    }
}
