import java.lang.reflect.Constructor;
import java.lang.reflect.Field;
import java.lang.reflect.Method;
import java.lang.reflect.Modifier;
import java.nio.file.Files;
import java.nio.file.Path;
import java.util.ArrayList;
import java.util.HashSet;
import java.util.List;
import java.util.Set;
import java.util.TreeSet;
import java.util.regex.Matcher;
import java.util.regex.Pattern;

/** The face is that of the document, and the file keeps to those rules of LANGUAGE.md that can be read off it. */
public final class FaceTest {
    private static final Check CHECK = new Check("FaceTest");
    private static final String[] FORBIDDEN = {
        "->", "::", "\\btry\\b", "\\bcatch\\b", "\\bfinally\\b", "\\bsynchronized\\b", "\\bassert\\b", "Exact\\(", "\\bMath\\.(?!abs|min|max|floor)",
        "\\bSystem\\.(?!arraycopy)", "\\bpackage\\b", "\\bprotected\\b", "\\bString\\b.*\\+", "\\+ \"", "\" \\+", "\\bvar\\b", "\\.\\.\\.",
        "\\bObject\\b", "\\bequals\\(", "\\bhashCode\\b", "\\btoString\\b", "static \\{", "\\blong\\[\\]\\[\\]\\[\\]"
    };

    public static void main(String[] args) throws Exception {
        List<String> lines = Files.readAllLines(Path.of("src/main/java/Butterflyworks.java"));
        face();
        inside();
        words(lines);
        lengths(lines);
        CHECK.end();
    }

    private static void face() throws Exception {
        String document = Files.readString(Path.of("../shared/DOC.md"));
        Matcher matcher = Pattern.compile("    public (\\w+) (\\w+)\\(([^)]*)\\)(?: throws ([\\w, ]+))?;").matcher(document);
        Set<String> want = new TreeSet<>();
        while (matcher.find()) {
            StringBuilder types = new StringBuilder();
            for (String parameter : matcher.group(3).split(", ")) {
                types.append(parameter.split(" ")[0]).append(' ');
            }
            want.add(matcher.group(1) + " " + matcher.group(2) + " " + types.toString().trim() + " "
                + new TreeSet<>(List.of(matcher.group(4) == null ? new String[0] : matcher.group(4).split(", "))));
        }
        Set<String> got = new TreeSet<>();
        for (Method method : Butterflyworks.class.getDeclaredMethods()) {
            if (!Modifier.isPrivate(method.getModifiers())) {
                CHECK.isTrue(method + " is public and no more", method.getModifiers() == Modifier.PUBLIC);
                got.add(described(method));
            }
        }
        CHECK.due("the face", got, want);
        CHECK.due("how many methods", got.size(), 41);
        CHECK.due("the class is public and final", Butterflyworks.class.getModifiers(), Modifier.PUBLIC | Modifier.FINAL);
        CHECK.due("one constructor", Butterflyworks.class.getDeclaredConstructors().length, 1);
        for (Constructor<?> made : Butterflyworks.class.getDeclaredConstructors()) {
            CHECK.isTrue("it is public, and asks nothing", made.getModifiers() == Modifier.PUBLIC && made.getParameterCount() == 0);
        }
    }

    private static String described(Method method) {
        StringBuilder types = new StringBuilder();
        for (Class<?> type : method.getParameterTypes()) {
            types.append(type.getSimpleName()).append(' ');
        }
        Set<String> thrown = new TreeSet<>();
        for (Class<?> type : method.getExceptionTypes()) {
            thrown.add(type.getSimpleName());
        }
        return method.getReturnType().getSimpleName() + " " + method.getName() + " " + types.toString().trim() + " " + thrown;
    }

    private static void inside() {
        Set<String> names = new HashSet<>();
        for (Method method : Butterflyworks.class.getMethods()) {
            names.add(method.getName());
        }
        List<Class<?>> all = new ArrayList<>(List.of(Butterflyworks.class.getDeclaredClasses()));
        CHECK.isTrue("twelve classes at most", all.size() < 12);
        all.add(Butterflyworks.class);
        for (Class<?> type : all) {
            boolean isOuter = type == Butterflyworks.class;
            CHECK.isTrue(type + " is static and private", isOuter || Modifier.isStatic(type.getModifiers()) && Modifier.isPrivate(type.getModifiers()));
            int fields = 0;
            for (Field field : type.getDeclaredFields()) {
                boolean isStatic = Modifier.isStatic(field.getModifiers());
                fields += isStatic ? 0 : 1;
                CHECK.isTrue(field + " is final if it is static", !isStatic || Modifier.isFinal(field.getModifiers()));
                CHECK.isTrue(field + " is not of the face", !isOuter || Modifier.isPrivate(field.getModifiers()));
            }
            CHECK.isTrue(type + " has few fields", fields <= 20);
            for (Method method : type.getDeclaredMethods()) {
                boolean isFace = isOuter && Modifier.isPublic(method.getModifiers());
                CHECK.isTrue(method + " has a name of its own", isFace || !names.contains(method.getName()));
                CHECK.isTrue(method + " takes few parameters", method.getParameterCount() <= 7);
            }
        }
    }

    private static void words(List<String> lines) {
        int imports = 0;
        for (int i = 0; i < lines.size(); i++) {
            String line = lines.get(i);
            String code = line.trim();
            CHECK.isTrue("line " + (i + 1) + " is of plain signs", line.chars().allMatch(sign -> sign >= 32 && sign < 127));
            if (code.startsWith("import ")) {
                imports++;
                CHECK.due("import", code, "import java.util.NoSuchElementException;");
            }
            if (code.startsWith("//") || code.startsWith("*") || code.startsWith("/*")) {
                continue;
            }
            for (String word : FORBIDDEN) {
                CHECK.isTrue("line " + (i + 1) + " is without " + word, !Pattern.compile(word).matcher(code).find());
            }
        }
        CHECK.due("imports", imports, 1);
    }

    private static void lengths(List<String> lines) {
        int start = -1;
        String end = "";
        for (int i = 0; i < lines.size(); i++) {
            String line = lines.get(i);
            boolean isMethod = line.matches(" +[\\w\\[\\] ]+\\(.*\\{") && !line.matches(" +(if|for|while|switch|else|return).*");
            if (start < 0 && isMethod) {
                start = i;
                end = line.replaceAll("\\S.*", "") + "}";
            } else if (start >= 0 && line.equals(end)) {
                CHECK.isTrue("the method at line " + (start + 1) + " is short", i - start < 60);
                start = -1;
            }
        }
    }
}
