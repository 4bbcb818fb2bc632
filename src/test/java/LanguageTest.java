import java.io.IOException;
import java.lang.reflect.Constructor;
import java.lang.reflect.Executable;
import java.lang.reflect.Field;
import java.lang.reflect.Method;
import java.lang.reflect.Modifier;
import java.nio.charset.StandardCharsets;
import java.nio.file.Files;
import java.nio.file.Path;
import java.util.ArrayList;
import java.util.HashSet;
import java.util.List;
import java.util.Set;
import java.util.TreeSet;
import java.util.regex.Matcher;
import java.util.regex.Pattern;

/** What can be seen from outside of the part of Java that the class has to keep to. */
public final class LanguageTest {
    private static final String[] FORBIDDEN = {
        "\\btry\\b", "\\bcatch\\b", "\\bfinally\\b", "\\bassert\\b", "\\bsynchronized\\b", "->", "::", "\\.random\\b",
        "\\bSystem\\.(?!arraycopy)", "Exact\\b", "TEXT\\s*\\+", "\\+\\s*TEXT", "\\bThread\\b", "\\bNaN\\b", "\\bvar\\b",
        "\\bequals\\(", "hashCode", "toString\\(\\)(?!;)", "getMessage",
        "\\[\\]\\[\\]\\s*\\w+\\s*=\\s*new (?!int|long)",
        "numberOfTrailingZeros", "\\bpackage\\b"};

    /** The document's "public face", line by line, without the names of parameters. */
    private static final String FACE = """
            public Twotalk();
            public int nil() throws IllegalStateException;
            public int name(int) throws IndexOutOfBoundsException, IllegalStateException;
            public int step(int) throws IndexOutOfBoundsException, IllegalStateException;
            public int either() throws IllegalStateException;
            public int beside() throws IllegalStateException;
            public int hide(int) throws IndexOutOfBoundsException, IllegalStateException;
            public int rename(int, int) throws IndexOutOfBoundsException, IllegalStateException;
            public int drop() throws IllegalStateException;
            public String text(int) throws IndexOutOfBoundsException;
            public int tell(int) throws IndexOutOfBoundsException, IllegalStateException;
            public String meant(int) throws IndexOutOfBoundsException;
            public boolean isGuarded(int) throws IndexOutOfBoundsException;
            public int graph(int) throws IndexOutOfBoundsException, IllegalStateException, IllegalArgumentException;
            public int example(int) throws IndexOutOfBoundsException;
            public int smallest(int, int) throws IndexOutOfBoundsException;
            public int ofGraph(int, int) throws IndexOutOfBoundsException, IllegalArgumentException;
            public int ofState(int, int, int) throws IndexOutOfBoundsException, IllegalArgumentException;
            public String steps(int, int) throws IndexOutOfBoundsException;
            public String term(int, int) throws IndexOutOfBoundsException;
            public String which(int, boolean) throws IndexOutOfBoundsException;
            public boolean isEverAgain(int, int) throws IndexOutOfBoundsException;
            public boolean isAlike(int, int, int, int, int) \
            throws IndexOutOfBoundsException, IllegalArgumentException, IllegalStateException;
            public int round(int, int, int, int, boolean) throws IndexOutOfBoundsException;
            public String word(int, int, int, int) \
            throws IndexOutOfBoundsException, IllegalStateException, NoSuchElementException;
            public String refusal(int, int, int, int) \
            throws IndexOutOfBoundsException, IllegalStateException, NoSuchElementException;
            public String sentence(int, int, int, int, boolean) \
            throws IndexOutOfBoundsException, NoSuchElementException, IllegalStateException;
            public String game(int, int, int, int) throws IndexOutOfBoundsException, NoSuchElementException;
            public String classes(int, int) throws IndexOutOfBoundsException, IllegalArgumentException;
            public int say(int, int) throws IllegalArgumentException, IndexOutOfBoundsException, IllegalStateException;
            public int unsay() throws NoSuchElementException;
            public String said() throws NoSuchElementException;
            public int depth() throws NoSuchElementException;
            public boolean isTrue(int, int) throws IndexOutOfBoundsException, NoSuchElementException;
            public boolean may(int, int) throws IndexOutOfBoundsException;
            public boolean must(int, int) throws IndexOutOfBoundsException;
            public String form(int, int) \
            throws IndexOutOfBoundsException, IllegalArgumentException, IllegalStateException;
            public String proof(int, int) \
            throws IndexOutOfBoundsException, IllegalArgumentException, IllegalStateException;
            public int knock();
            public int house(int) throws IllegalArgumentException;
            public boolean isSound();
            public long digest();
            """;

    public static void main(String[] args) throws IOException {
        Path path = Path.of("src", "main", "java", "Twotalk.java");
        String source = Files.readString(path, StandardCharsets.ISO_8859_1);
        words(source);
        lengths(source);
        faces();
        faceOfTheDocument();
        Due.end();
    }

    private static void words(String source) {
        String code = source.replaceAll("(?s)/\\*.*?\\*/", "").replaceAll("//[^\n]*", "")
                .replaceAll("\"[^\"]*\"", "TEXT");
        for (String each : FORBIDDEN) {
            Due.is(false, "the source has " + each, () -> Pattern.compile(each).matcher(code).find());
        }
        Due.is(true, "signs are 1 to 127", () -> source.chars().allMatch(sign -> sign >= 1 && sign <= 127));
        List<String> imports = new ArrayList<>();
        Matcher matcher = Pattern.compile("(?m)^import (.*);$").matcher(source);
        while (matcher.find()) {
            imports.add(matcher.group(1));
        }
        Due.is(List.of("java.util.Arrays", "java.util.NoSuchElementException"), "imports", () -> imports);
    }

    /** A method begins and ends where its own brace stands alone, by four or eight signs to the right. */
    private static void lengths(String source) {
        String[] lines = source.split("\n");
        int longest = 0;
        int widest = 0;
        int from = 0;
        for (int i = 0; i < lines.length; i++) {
            widest = Math.max(widest, lines[i].length());
            boolean isBegin = lines[i].matches("( {4}| {8})\\S.*[)a-zA-Z] \\{") && lines[i].contains("(");
            if (isBegin) {
                from = i;
            } else if (lines[i].matches(" {4}\\}| {8}\\}") && from > 0) {
                longest = Math.max(longest, i - from);
                from = 0;
            }
        }
        int length = longest;
        int width = widest;
        Due.is(true, "methods of " + length + " lines", () -> length > 10 && length <= 60);
        Due.is(true, "lines of " + width + " signs", () -> width <= 120);
    }

    /** "one public class with the document's face" */
    private static void faceOfTheDocument() {
        Set<String> due = new TreeSet<>(List.of(FACE.strip().split("\n")));
        Set<String> got = new TreeSet<>();
        for (Constructor<?> each : Twotalk.class.getConstructors()) {
            got.add("public " + each.getName() + typesOf(each));
        }
        for (Method each : Twotalk.class.getDeclaredMethods()) {
            if (Modifier.isPublic(each.getModifiers())) {
                got.add("public " + each.getReturnType().getSimpleName() + " " + each.getName() + typesOf(each));
            }
        }
        Due.is(42, "promises of the face", due::size);
        Due.is(due.toString(), "the face", got::toString);
        Due.is(true, "public and final", () -> Twotalk.class.getModifiers() == (Modifier.PUBLIC | Modifier.FINAL));
    }

    private static String typesOf(Executable each) {
        StringBuilder text = new StringBuilder("(");
        for (Class<?> type : each.getParameterTypes()) {
            text.append(text.length() > 1 ? ", " : "").append(type.getSimpleName());
        }
        text.append(")");
        for (Class<?> type : each.getExceptionTypes()) {
            text.append(text.indexOf("throws") < 0 ? " throws " : ", ").append(type.getSimpleName());
        }
        return text.append(";").toString();
    }

    private static void faces() {
        Set<String> face = new HashSet<>();
        int parameters = 0;
        for (Method method : Twotalk.class.getDeclaredMethods()) {
            if (Modifier.isPublic(method.getModifiers())) {
                face.add(method.getName());
            } else {
                Due.is(true, method + " is private", () -> Modifier.isPrivate(method.getModifiers()));
            }
        }
        List<Class<?>> all = new ArrayList<>(List.of(Twotalk.class));
        all.addAll(List.of(Twotalk.class.getDeclaredClasses()));
        Due.is(41, "calls of the face", face::size);
        Due.is(true, "classes", () -> all.size() <= 12);
        for (Class<?> each : all) {
            int fields = 0;
            for (Method method : each.getDeclaredMethods()) {
                parameters = Math.max(parameters, method.getParameterCount());
                boolean isOfFace = Modifier.isPublic(method.getModifiers()) && each == Twotalk.class;
                Due.is(isOfFace, method + " has a public one's name", () -> face.contains(method.getName()));
            }
            for (Field field : each.getDeclaredFields()) {
                boolean isStatic = Modifier.isStatic(field.getModifiers());
                fields += isStatic ? 0 : 1;
                Due.is(true, field + " is final", () -> !isStatic || Modifier.isFinal(field.getModifiers()));
                Due.is(true, field + " is private", () -> each != Twotalk.class
                        || Modifier.isPrivate(field.getModifiers()));
            }
            int count = fields;
            Due.is(true, each + " has " + count + " fields", () -> count <= 20);
        }
        int most = parameters;
        Due.is(true, "parameters", () -> most <= 7);
    }
}
