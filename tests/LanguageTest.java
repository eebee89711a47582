import java.io.IOException;
import java.lang.reflect.Field;
import java.lang.reflect.Member;
import java.lang.reflect.Method;
import java.lang.reflect.Modifier;
import java.nio.file.Files;
import java.nio.file.Path;
import java.util.ArrayList;
import java.util.Arrays;
import java.util.List;
import java.util.Set;
import java.util.TreeSet;
import java.util.regex.Matcher;
import java.util.regex.Pattern;

/** Some of the rules of LANGUAGE.md, looked for in the source (the first argument) and in its classes. */
public final class LanguageTest {
    private static final Due DUE = new Due("LanguageTest");
    private static final String FACE = "check cut feed fact link pupil knows art law grade exam weeks tried other copy first "
            + "does pupilIs strength heard order still recalls root kin questions reminds parted skill taught hummed "
            + "odds crib seed keep undo count";

    public static void main(String[] args) throws IOException {
        String source = Files.readString(Path.of(args.length > 0 ? args[0] : "src/main/java/ForgetSchool.java"));
        String code = source.replaceAll("(?s)/\\*.*?\\*/", "").replaceAll("//.*", "").replaceAll("'(.)'", "' '");
        words(code);
        lines(source);
        face();
        for (Class<?> inside : ForgetSchool.class.getDeclaredClasses()) {
            DUE.is("2: static " + inside, Modifier.isStatic(inside.getModifiers()), true);
            fields(inside);
        }
        fields(ForgetSchool.class);
        DUE.is("11: some twelve classes", ForgetSchool.class.getDeclaredClasses().length + 1 <= 12, true);
        methods(code);
        DUE.end();
    }

    private static void words(String code) {
        for (String word : new String[] {"throw", "throws", "try", "catch", "synchronized", "assert", "import", "package",
            "instanceof", "equals", "hashCode", "toString", "Object", "System", "Thread", "protected", "double", "float"}) {
            DUE.is("6: " + word, Pattern.compile("\\b" + word + "\\b").matcher(code).find(), false);
        }
        DUE.is("2: no lambda, no method reference", code.contains("->") || code.contains("::"), false);
        DUE.is("4: no Exact", code.contains("Exact"), false);
        DUE.is("7: no new row outside a constructor", rowsOutside(code), 0);
    }

    /** New objects and rows stand in constructors alone, so that a run makes few. */
    private static int rowsOutside(String code) {
        int count = 0;
        boolean inConstructor = false;
        for (String line : code.split("\n")) {
            if (line.matches("( {4}| {8})(public )?[A-Z]\\w*\\(.*\\{")) {
                inConstructor = true;
            } else if (line.matches("( {4}| {8})\\}")) {
                inConstructor = false;
            } else if (line.matches(".*\\bnew\\b.*") && !inConstructor) {
                count++;
            }
        }
        return count;
    }

    private static void lines(String source) {
        for (char c : source.toCharArray()) {
            if (c > 127) {
                DUE.is("4: a sign above 127", c, 0);
            }
        }
    }

    private static void face() {
        Set<String> due = new TreeSet<>(Arrays.asList(FACE.split(" ")));
        Set<String> publics = new TreeSet<>();
        Set<String> privates = new TreeSet<>();
        for (Method method : ForgetSchool.class.getDeclaredMethods()) {
            (Modifier.isPublic(method.getModifiers()) ? publics : privates).add(method.getName());
            onlyPublicOrPrivate(method);
        }
        for (Field field : ForgetSchool.class.getDeclaredFields()) {
            onlyPublicOrPrivate(field);
        }
        for (Class<?> inside : ForgetSchool.class.getDeclaredClasses()) {
            for (Method method : inside.getDeclaredMethods()) {
                privates.add(method.getName());
            }
        }
        DUE.is("1: the face " + publics, publics.equals(due), true);
        for (String name : privates) {
            DUE.is("1: private and public " + name, publics.contains(name), false);
        }
        DUE.is("1: final", Modifier.isFinal(ForgetSchool.class.getModifiers()), true);
    }

    private static void onlyPublicOrPrivate(Member member) {
        int modifiers = member.getModifiers();
        boolean fine = Modifier.isPrivate(modifiers) || Modifier.isPublic(modifiers) || member.isSynthetic();
        DUE.is("1: " + member.getName(), fine, true);
    }

    private static void fields(Class<?> one) {
        int count = 0;
        for (Field field : one.getDeclaredFields()) {
            if (!Modifier.isStatic(field.getModifiers())) {
                count++;
            } else {
                DUE.is("5: static is final " + field, Modifier.isFinal(field.getModifiers()), true);
            }
        }
        DUE.is("11: some twenty fields " + one, count <= 20, true);
    }

    /** Lengths and numbers of parameters. */
    private static void methods(String code) {
        List<String> lines = new ArrayList<>(Arrays.asList(code.split("\n")));
        int start = -1;
        for (int at = 0; at < lines.size(); at++) {
            Matcher head = Pattern.compile("( {4}| {8})(?!\\s|class|switch|if|for).*\\((.*)").matcher(lines.get(at));
            if (head.matches() && !lines.get(at).contains(" = ") && !lines.get(at).endsWith(";")) {
                start = at;
                DUE.is("11: parameters " + lines.get(at).trim(), head.group(2).split(",").length <= 7, true);
            }
            if (start >= 0 && lines.get(at).matches("( {4}| {8})\\}")) {
                DUE.is("11: lines " + lines.get(start).trim(), at - start < 60, true);
                start = -1;
            }
        }
    }
}
