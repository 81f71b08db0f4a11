import java.io.IOException;
import java.lang.reflect.Field;
import java.lang.reflect.Method;
import java.lang.reflect.Modifier;
import java.nio.file.Files;
import java.nio.file.Path;
import java.util.ArrayList;
import java.util.Arrays;
import java.util.List;
import java.util.Set;
import java.util.TreeSet;
import java.util.regex.Matcher;
import java.util.regex.Pattern;

/**
 * The face of the document, and those rules of LANGUAGE.md that can be looked at: by reflection, and in the words of
 * the source, which is found from the directory of the project.
 */
public final class LanguageTest {
    private static final String SOURCE = "src/main/java/Snapshothall.java";
    private static final Set<String> FACE = Set.of("int type(long,long,long,long,long)", "int clearText()", "int fault()",
            "int run()", "int results()", "int result(int,int)", "boolean isNull(int,int,int)", "long cell(int,int,int)",
            "int outputByte(int)", "int session(int,int)", "int transactions()", "int transaction(int,int)",
            "boolean isEdge(int,int)", "int order(int)", "int clock()", "int tableOf(long)", "int table(int,int)",
            "int spread(int,int)", "int version(int,int,int)", "long valueAt(int,int,int)", "int indexOf(int,int)",
            "int index(int,int)", "int entryAt(int,int)", "int setFuse(int,boolean)", "int writes()", "boolean isDown()",
            "int restart()", "int checkpoint()", "long checksum()", "double meanVersions()", "float unseenShare()",
            "boolean isSerial()", "int errors()");
    private static final List<String> CONSTANTS = List.of("NONE=-1", "NAMES=2", "STATE=3", "FULL=4", "RULE=5", "CONFLICT=6",
            "POWER=7", "OPEN=0", "COMMITTED=1", "ROLLED_BACK=2");
    private static final Set<String> STATIC_TYPES = Set.of("int", "long", "boolean", "char", "String", "int[]", "long[]",
            "char[]", "byte[]");
    private static final String EXCEPTIONS = "(IllegalState|IllegalArgument|IndexOutOfBounds|Arithmetic|UnsupportedOperation"
            + "|NoSuchElement|Runtime)Exception";
    private static final String LIBRARY = "(Arrays\\.(copyOf|copyOfRange|fill)|System\\.arraycopy|List\\.of"
            + "|(Math|Integer|Long)\\.[a-z][A-Za-z]*(?<!Exact))";
    private static final int MOST_CLASSES = 14, MOST_FIELDS = 22, MOST_PARAMETERS = 7, MOST_LINES = 60;

    public static void main(String[] args) throws IOException {
        face();
        List<Class<?>> classes = new ArrayList<>(List.of(Snapshothall.class));
        classes.addAll(Arrays.asList(Snapshothall.class.getDeclaredClasses()));
        Calls.due("rule 11: classes", classes.size() <= MOST_CLASSES, true);
        for (Class<?> one : classes) {
            members(one);
        }
        String text = Files.readString(Path.of(SOURCE));
        String code = text.replaceAll("(?s)/\\*.*?\\*/|//[^\n]*", "").replaceAll("\"[^\"\n]*\"", "\"\"")
                .replaceAll("'(\\\\.|[^\\\\'])'", "' '");
        words(text, code);
        lengths(code);
        Calls.end("LanguageTest");
    }

    /** Rule 1: the face, and nothing else that can be seen. */
    private static void face() {
        Class<?> hall = Snapshothall.class;
        Set<String> seen = new TreeSet<>();
        Set<String> names = new TreeSet<>();
        Set<String> hidden = new TreeSet<>();
        for (Method one : hall.getDeclaredMethods()) {
            boolean isPublic = Modifier.isPublic(one.getModifiers());
            Calls.due("rule 1: " + one + " is public or private", isPublic || Modifier.isPrivate(one.getModifiers()), true);
            (isPublic ? names : hidden).add(one.getName());
            if (isPublic) {
                List<String> types = Arrays.stream(one.getParameterTypes()).map(Class::getSimpleName).toList();
                seen.add(one.getReturnType().getSimpleName() + " " + one.getName() + "(" + String.join(",", types) + ")");
            }
        }
        Calls.due("rule 1: public methods", seen, new TreeSet<>(FACE));
        names.retainAll(hidden);
        Calls.due("rule 1: private methods with names of public ones", names, Set.of());
        Calls.due("rule 1: public and final", hall.getModifiers(), Modifier.PUBLIC | Modifier.FINAL);
        Calls.due("rule 1: constructors", hall.getDeclaredConstructors().length, 1);
        Calls.due("rule 1: the public one", hall.getConstructors().length, 1);
        constants(hall);
    }

    private static void constants(Class<?> hall) {
        List<String> constants = new ArrayList<>();
        for (Field one : hall.getDeclaredFields()) {
            if (Modifier.isPublic(one.getModifiers())) {
                constants.add(one.getName() + "=" + valueOf(one));
            } else {
                Calls.due("rule 1: " + one + " is private", Modifier.isPrivate(one.getModifiers()), true);
            }
        }
        Calls.due("rule 1: constants", constants, CONSTANTS);
    }

    private static int valueOf(Field constant) {
        try {
            return constant.getInt(null);
        } catch (IllegalAccessException e) {
            return Integer.MIN_VALUE;
        }
    }

    /** Rules 2, 5 and 11: what classes have. */
    private static void members(Class<?> one) {
        int fields = 0;
        for (Field field : one.getDeclaredFields()) {
            boolean isStatic = Modifier.isStatic(field.getModifiers());
            fields += isStatic ? 0 : 1;
            if (isStatic) {
                Calls.due("rule 5: " + field, Modifier.isFinal(field.getModifiers())
                        && STATIC_TYPES.contains(field.getType().getSimpleName()), true);
            }
        }
        Calls.due("rule 11: fields of " + one + " are " + fields, fields <= MOST_FIELDS, true);
        for (Method method : one.getDeclaredMethods()) {
            Calls.due("rule 11: parameters of " + method, method.getParameterCount() <= MOST_PARAMETERS, true);
            Calls.due("rule 2: " + method + " is no lambda", method.isSynthetic(), false);
            Calls.due("rule 6: " + method, Set.of("equals", "hashCode", "toString").contains(method.getName()), false);
        }
        if (one != Snapshothall.class) {
            Calls.due("rule 1: " + one + " is static, not public", Modifier.isStatic(one.getModifiers())
                    && !Modifier.isPublic(one.getModifiers()) && !Modifier.isProtected(one.getModifiers()), true);
            Calls.due("rule 2: classes within " + one, one.getDeclaredClasses().length, 0);
        }
    }

    /** Rules 3, 4, 6, 10 and 13: the words of the source. */
    private static void words(String text, String code) {
        none("rule 4: signs", text, "[^\\n\\x20-\\x7e]");
        none("rule 4: imports", code, "\\bimport (?!java\\.util\\.(Arrays|ArrayList|List|Iterator|NoSuchElementException);)[^;]*;");
        none("rule 4: the library", code, "(?<![.\\w])(?!" + LIBRARY + "\\()(Arrays|System|List|Math|Integer|Long|String"
                + "|Thread|Object|Character|Double|Float)\\.\\w+\\(");
        none("rules 2, 6 and 10: words", code, "->|::|\\b(synchronized|assert|finally|native|transient|volatile|strictfp|var)\\b");
        none("rule 6: what is thrown", code, "\\bthrow (?!new " + EXCEPTIONS + "\\((\"\")?\\);)");
        none("rule 6: what is caught", code, "\\bcatch \\((?!(final )?" + EXCEPTIONS + " )");
        none("rule 6: what the machine throws", code, "\\b(ArrayIndexOutOfBounds|NullPointer|ClassCast|NegativeArraySize"
                + "|ArrayStore|StringIndexOutOfBounds)Exception\\b|\\b(Throwable|Error|Exception)\\b");
        none("rule 10: texts joined by +", code, "\"\"\\s*\\+|\\+\\s*\"\"");
        none("rule 5: static blocks", code, "\\bstatic\\s*\\{");
        none("rule 3: arrays of two dimensions", code, "\\b(String|boolean|[A-Z]\\w*)\\[\\]\\[\\]|\\[\\]\\[\\]\\[\\]");
    }

    private static void none(String what, String in, String pattern) {
        Matcher matcher = Pattern.compile(pattern).matcher(in);
        String found = matcher.find() ? in.substring(matcher.start(), Math.min(in.length(), matcher.start() + 40)) : "";
        Calls.due(what, found, "");
    }

    /** Rule 11: how long methods are; their brackets stand alone on lines. */
    private static void lengths(String code) {
        String[] lines = code.split("\n", -1);
        for (int i = 0; i < lines.length; i++) {
            Matcher begin = Pattern.compile("( {4}| {8})(?!(if|for|while|switch|return|do)\\b)\\w[\\w\\[\\] ]*\\(.*")
                    .matcher(lines[i]);
            if (!begin.matches() || lines[i].endsWith(";")) {
                continue;
            }
            int end = i;
            while (end < lines.length - 1 && !lines[end].equals(begin.group(1) + "}")) {
                end++;
            }
            Calls.due("rule 11: lines of " + lines[i].trim() + " are " + (end - i + 1), end - i < MOST_LINES, true);
        }
    }
}
