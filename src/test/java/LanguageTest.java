import java.io.IOException;
import java.lang.reflect.Field;
import java.lang.reflect.Method;
import java.lang.reflect.Modifier;
import java.nio.charset.StandardCharsets;
import java.nio.file.Files;
import java.nio.file.Path;
import java.util.ArrayList;
import java.util.HashSet;
import java.util.List;
import java.util.Set;
import java.util.regex.Matcher;
import java.util.regex.Pattern;

/** What can be seen from outside of the part of Java that the class has to keep to. */
public final class LanguageTest {
    private static final String[] FORBIDDEN = {
        "\\btry\\b", "\\bcatch\\b", "\\bfinally\\b", "\\bassert\\b", "\\bsynchronized\\b", "->", "::", "\\.random\\b",
        "\\bSystem\\.(?!arraycopy)", "Exact\\b", "TEXT\\s*\\+", "\\+\\s*TEXT", "\\bThread\\b", "\\bNaN\\b", "\\bvar\\b",
        "\\bequals\\(", "hashCode", "toString\\(\\)(?!;)", "getMessage", "\\[\\]\\[\\]\\s*\\w+\\s*=\\s*new (?!int|long)",
        "numberOfTrailingZeros", "\\bpackage\\b"};

    public static void main(String[] args) throws IOException {
        Path path = Path.of("src", "main", "java", "Twotalk.java");
        String source = Files.readString(path, StandardCharsets.ISO_8859_1);
        words(source);
        lengths(source);
        faces();
        Due.end();
    }

    private static void words(String source) {
        String code = source.replaceAll("(?s)/\\*.*?\\*/", "").replaceAll("//[^\n]*", "")
                .replaceAll("\"[^\"]*\"", "TEXT");
        for (String each : FORBIDDEN) {
            Due.is(false, "the source has " + each, () -> Pattern.compile(each).matcher(code).find());
        }
        Due.is(true, "signs are 1 to 127", () -> source.chars().allMatch(sign -> sign >= 1 && sign <= 127));
        List<String> imports = new ArrayList<>();
        Matcher matcher = Pattern.compile("(?m)^import (.*);$").matcher(source);
        while (matcher.find()) {
            imports.add(matcher.group(1));
        }
        Due.is(List.of("java.util.Arrays", "java.util.NoSuchElementException"), "imports", () -> imports);
    }

    /** A method begins and ends where its own brace stands alone, by four or eight signs to the right. */
    private static void lengths(String source) {
        String[] lines = source.split("\n");
        int longest = 0;
        int widest = 0;
        int from = 0;
        for (int i = 0; i < lines.length; i++) {
            widest = Math.max(widest, lines[i].length());
            boolean isBegin = lines[i].matches("( {4}| {8})\\S.*[)a-zA-Z] \\{") && lines[i].contains("(");
            if (isBegin) {
                from = i;
            } else if (lines[i].matches(" {4}\\}| {8}\\}") && from > 0) {
                longest = Math.max(longest, i - from);
                from = 0;
            }
        }
        int length = longest;
        int width = widest;
        Due.is(true, "methods of " + length + " lines", () -> length > 10 && length <= 60);
        Due.is(true, "lines of " + width + " signs", () -> width <= 120);
    }

    private static void faces() {
        Set<String> face = new HashSet<>();
        int parameters = 0;
        for (Method method : Twotalk.class.getDeclaredMethods()) {
            if (Modifier.isPublic(method.getModifiers())) {
                face.add(method.getName());
            } else {
                Due.is(true, method + " is private", () -> Modifier.isPrivate(method.getModifiers()));
            }
        }
        List<Class<?>> all = new ArrayList<>(List.of(Twotalk.class));
        all.addAll(List.of(Twotalk.class.getDeclaredClasses()));
        Due.is(41, "calls of the face", face::size);
        Due.is(true, "classes", () -> all.size() <= 12);
        for (Class<?> each : all) {
            int fields = 0;
            for (Method method : each.getDeclaredMethods()) {
                parameters = Math.max(parameters, method.getParameterCount());
                boolean isOfFace = Modifier.isPublic(method.getModifiers()) && each == Twotalk.class;
                Due.is(isOfFace, method + " has a public one's name", () -> face.contains(method.getName()));
            }
            for (Field field : each.getDeclaredFields()) {
                boolean isStatic = Modifier.isStatic(field.getModifiers());
                fields += isStatic ? 0 : 1;
                Due.is(true, field + " is final", () -> !isStatic || Modifier.isFinal(field.getModifiers()));
                Due.is(true, field + " is private", () -> each != Twotalk.class
                        || Modifier.isPrivate(field.getModifiers()));
            }
            int count = fields;
            Due.is(true, each + " has " + count + " fields", () -> count <= 20);
        }
        int most = parameters;
        Due.is(true, "parameters", () -> most <= 7);
    }
}
