import java.io.DataInputStream;
import java.io.IOException;
import java.io.InputStream;
import java.lang.reflect.Field;
import java.lang.reflect.Method;
import java.lang.reflect.Modifier;
import java.nio.file.Files;
import java.nio.file.Path;
import java.util.ArrayList;
import java.util.List;
import java.util.Set;
import java.util.TreeSet;
import java.util.regex.Matcher;
import java.util.regex.Pattern;

/** LANGUAGE.md's rules, as far as a program can look at them; .ci/run starts it in the project's folder. */
public final class LanguageTest {
    private static final String[] FORBIDDEN = {
        "\\bthrow\\b", "\\bthrows\\b", "\\btry\\b", "\\bcatch\\b", "\\bsynchronized\\b", "\\bassert\\b",
        "\\bpackage\\b", "\\bprotected\\b", "->", "::", "Exact\\b", "\\bequals\\b", "\\bhashCode\\b",
        "\\btoString\\b", "\\bSystem\\.(?!arraycopy)", "\\bvolatile\\b", "\\bnative\\b", "@",
        "\\bimport (?!java\\.util\\.ArrayList;)", "static \\{",
    };
    private static final Set<String> LIBRARY = Set.of(
        "java/lang/Object.<init>", "java/util/ArrayList.<init>", "java/util/ArrayList.add", "java/util/ArrayList.get",
        "java/util/ArrayList.size", "java/lang/Math.abs", "java/lang/Math.min", "java/lang/Math.floorMod");
    private static final int MOST_PARAMETERS = 7;
    private static final int MOST_CLASSES = 12;
    private static final int MOST_FIELDS = 20;
    private static final int MOST_LINES = 60;

    public static void main(String[] args) throws IOException {
        Check check = new Check();
        String source = Files.readString(Path.of("src/main/java/CustomerNotices.java"));
        lookAtWords(check, source.replaceAll("(?s)/\\*.*?\\*/", "").replaceAll("//[^\n]*", ""));
        lookAtMethodLines(check, source.split("\n"));
        List<Class<?>> classes = new ArrayList<>(List.of(CustomerNotices.class.getDeclaredClasses()));
        classes.add(CustomerNotices.class);
        check.due("at most 12 classes", classes.size() <= MOST_CLASSES, true);
        for (Class<?> type : classes) {
            lookAtSizes(check, type);
            lookAtLibrary(check, type);
        }
        check.end();
    }

    private static void lookAtWords(Check check, String code) {
        check.says("rules 1 to 6: words that are ruled out");
        for (String word : FORBIDDEN) {
            Matcher found = Pattern.compile(word).matcher(code);
            check.due(word, found.find(), false);
        }
    }

    /** A method begins with a line that ends in ") {" and stands at a class's depth, and ends at a "}" of its depth. */
    private static void lookAtMethodLines(Check check, String[] lines) {
        check.says("rule 11: methods stay short");
        int methods = 0;
        for (int k = 0; k < lines.length; k++) {
            String indent = lines[k].replaceAll("\\S.*", "");
            boolean atDepth = indent.length() == 4 || (indent.length() == 8 && !lines[k].matches("\\s*(if|for|switch) .*"));
            if (atDepth && lines[k].endsWith(") {")) {
                int end = k;
                while (end < lines.length && !lines[end].equals(indent + "}")) {
                    end++;
                }
                methods++;
                check.due(lines[k].trim() + " is short", end - k < MOST_LINES, true);
            }
        }
        check.due("methods were found", methods > 40, true);
    }

    private static void lookAtSizes(Check check, Class<?> type) {
        check.says("rule 11: sizes");
        for (Method method : type.getDeclaredMethods()) {
            check.due(method + ": parameters", method.getParameterCount() <= MOST_PARAMETERS, true);
        }
        int fields = 0;
        for (Field field : type.getDeclaredFields()) {
            boolean constant = Modifier.isStatic(field.getModifiers());
            fields += constant ? 0 : 1;
            Class<?> kind = field.getType();
            check.due("rule 5: " + field, !constant || kind == int.class || kind == long.class, true);
        }
        check.due(type + ": fields", fields <= MOST_FIELDS, true);
    }

    private static void lookAtLibrary(Check check, Class<?> type) throws IOException {
        check.says("rule 4: only what stands here");
        try (InputStream bytes = type.getResourceAsStream(type.getName() + ".class")) {
            for (String call : callsIn(new DataInputStream(bytes))) {
                check.due(type.getName() + " calls " + call,
                    call.startsWith("CustomerNotices") || LIBRARY.contains(call), true);
            }
        }
    }

    /** The methods that a class file names, as OWNER.NAME (the JVM's book, 4.4: the constant pool). */
    private static Set<String> callsIn(DataInputStream file) throws IOException {
        file.readInt();
        file.readInt();
        int count = file.readUnsignedShort();
        int[] tag = new int[count];
        int[] first = new int[count];
        int[] second = new int[count];
        String[] text = new String[count];
        for (int k = 1; k < count; k++) {
            tag[k] = file.readUnsignedByte();
            switch (tag[k]) {
                case 1 -> text[k] = file.readUTF();
                case 3, 4 -> file.readInt();
                case 5, 6 -> {
                    file.readLong();
                    k++;
                }
                case 7, 8, 16, 19, 20 -> first[k] = file.readUnsignedShort();
                case 15 -> file.skipBytes(3);
                default -> {
                    first[k] = file.readUnsignedShort();
                    second[k] = file.readUnsignedShort();
                }
            }
        }
        Set<String> calls = new TreeSet<>();
        for (int k = 1; k < count; k++) {
            if (tag[k] == 10 || tag[k] == 11) {
                calls.add(text[first[first[k]]] + "." + text[first[second[k]]]);
            } else if (tag[k] >= 15 && tag[k] <= 18) {
                calls.add("a lambda, a method reference or texts joined by +");
            }
        }
        return calls;
    }
}
