import java.lang.management.ManagementFactory;
import java.lang.reflect.Constructor;
import java.lang.reflect.Field;
import java.lang.reflect.Method;
import java.lang.reflect.Modifier;
import java.nio.charset.StandardCharsets;
import java.nio.file.Files;
import java.nio.file.Path;
import java.util.ArrayList;
import java.util.Arrays;
import java.util.HashSet;
import java.util.List;
import java.util.Set;
import java.util.TreeSet;
import java.util.regex.Matcher;
import java.util.regex.Pattern;

/**
 * What ../shared/LANGUAGE.md asks of the class, as far as its text, its members and its runs show
 * it: the face, the words that are not used, the sizes, that no call throws, what calls make.
 */
public final class LanguageTests {
    private static final int[] NUMBERS = {Integer.MIN_VALUE, -1000, -25, -2, -1, 0, 0, 0, 0, 1, 1, 1, 2, 2, 3, 4, 5,
        7, 8, 9, 11, 12, 13, 20, 23, 24, 25, 50, 80, 1000, Integer.MAX_VALUE};
    private static int wrong;
    private static long seed = 11;

    private static void must(boolean so, String what) {
        if (!so) {
            wrong++;
            System.out.println(what);
        }
    }

    public static void main(String[] args) throws Exception {
        String source = Files.readString(Path.of("src/main/java/DripStone.java"), StandardCharsets.US_ASCII);
        face();
        members();
        words(source);
        lengths(source);
        neverThrows();
        makesNothing();
        lastCall();
        System.out.println(wrong == 0 ? "the language is kept" : wrong + " faults");
        if (wrong != 0) {
            System.exit(1);
        }
    }

    /** The public members are those of the document's own block, and no others. */
    private static void face() throws Exception {
        String doc = Files.readString(Path.of("../shared/DOC.md"));
        Matcher block = Pattern.compile("```java\n(.*?)```", Pattern.DOTALL).matcher(doc);
        must(block.find(), "the document has no public face");
        Set<String> due = new TreeSet<>();
        Matcher m = Pattern.compile("public (int|long) (\\w+)\\(([^)]*)\\);").matcher(block.group(1));
        while (m.find()) {
            due.add(m.group(1) + " " + m.group(2) + "(" + m.group(3).replaceAll("(int|long) \\w+", "$1") + ")");
        }
        must(due.size() == 41, "the document has 41 methods, not " + due.size());
        Set<String> got = new TreeSet<>();
        for (Method method : DripStone.class.getDeclaredMethods()) {
            if (!Modifier.isPrivate(method.getModifiers()) && !method.isSynthetic()) {
                List<String> types = new ArrayList<>();
                for (Class<?> type : method.getParameterTypes()) {
                    types.add(type.getName());
                }
                got.add(method.getReturnType() + " " + method.getName() + "(" + String.join(", ", types) + ")");
                must(Modifier.isPublic(method.getModifiers()), method + " is not public");
            }
        }
        must(got.equals(due), "the face is " + got + "\n  but should be " + due);
        must(DripStone.class.getConstructors().length == 1, "one public constructor");
        must(Modifier.isFinal(DripStone.class.getModifiers()), "the class is final");
    }

    private static void members() {
        Class<?>[] inside = DripStone.class.getDeclaredClasses();
        must(inside.length < 12, "too many classes");
        Set<String> faceNames = new HashSet<>();
        for (Method method : DripStone.class.getMethods()) {
            faceNames.add(method.getName());
        }
        List<Class<?>> all = new ArrayList<>(Arrays.asList(inside));
        for (Class<?> c : inside) {
            must(Modifier.isStatic(c.getModifiers()), c + " is static");
            must(!Modifier.isPublic(c.getModifiers()) && !Modifier.isProtected(c.getModifiers()), c + " is public");
            must(c.getDeclaredClasses().length == 0, c + " has classes inside");
        }
        all.add(DripStone.class);
        for (Class<?> c : all) {
            int fields = 0;
            for (Field field : c.getDeclaredFields()) {
                boolean isStatic = Modifier.isStatic(field.getModifiers());
                fields += isStatic ? 0 : 1;
                must(!isStatic || Modifier.isFinal(field.getModifiers()), field + " is not final");
                must(!isStatic || field.getType().isPrimitive() || field.getType() == String.class, field.toString());
                boolean isFace = c == DripStone.class && field.getType() == int.class && isStatic;
                must(c != DripStone.class || Modifier.isPrivate(field.getModifiers()) || isFace, field + " is seen");
            }
            must(fields <= 20, c + " has " + fields + " fields");
            for (Method method : c.getDeclaredMethods()) {
                must(method.getParameterCount() <= 7, method + " takes too many");
                boolean clash = faceNames.contains(method.getName()) && !Modifier.isPublic(method.getModifiers());
                must(!clash, method + " bears the name of a public one");
            }
            for (Constructor<?> constructor : c.getDeclaredConstructors()) {
                must(constructor.getParameterCount() <= 7, constructor + " takes too many");
            }
        }
    }

    private static String withoutComments(String source) {
        return source.replaceAll("(?s)/\\*.*?\\*/", " ").replaceAll("//[^\n]*", " ");
    }

    private static void words(String source) {
        String code = withoutComments(source);
        String[] not = {"throw", "throws", "try", "catch", "finally", "synchronized", "assert", "instanceof", "float",
            "double", "hashCode", "toString", "equals", "String", "Object", "Random", "Thread", "null", "yield", "var",
            "volatile", "transient", "native", "strictfp", "protected", "package", "super", "\\w+Exact"};
        for (String word : not) {
            must(!Pattern.compile("\\b" + word + "\\b").matcher(code).find(), "the word " + word + " is used");
        }
        must(!code.contains("->") && !code.contains("::"), "a lambda or a method reference is used");
        must(!code.contains("\""), "a text constant is used");
        Matcher imports = Pattern.compile("\\bimport\\s+([\\w.*]+)").matcher(code);
        while (imports.find()) {
            must(imports.group(1).equals("java.util.Arrays"), "imports " + imports.group(1));
        }
        Matcher library = Pattern.compile("\\b(Math|Integer|Long|Arrays|System)\\.(\\w+)").matcher(code);
        List<String> known = Arrays.asList("max", "min", "compare", "bitCount", "fill", "arraycopy");
        while (library.find()) {
            must(known.contains(library.group(2)), "uses " + library.group());
        }
    }

    /** Methods stay under sixty lines; a head is a line of four or eight blanks that ends with {. */
    private static void lengths(String source) {
        String[] lines = source.split("\n");
        for (int i = 0; i < lines.length; i++) {
            Matcher head = Pattern.compile("^( {4}| {8})(?! )[^/*]*\\).*\\{$").matcher(lines[i]);
            if (head.find()) {
                int end = i;
                while (end < lines.length && !lines[end].equals(head.group(1) + "}")) {
                    end++;
                }
                must(end - i < 60, "line " + (i + 1) + ": a method of " + (end - i + 1) + " lines");
            }
            must(lines[i].length() <= 120, "line " + (i + 1) + " is long");
        }
    }

    private static int pick(int n) {
        seed = seed * 6364136223846793005L + 1442695040888963407L;
        return (int) ((seed >>> 33) % n);
    }

    private static List<Method> calls() {
        List<Method> calls = new ArrayList<>();
        for (Method method : DripStone.class.getDeclaredMethods()) {
            if (Modifier.isPublic(method.getModifiers())) {
                calls.add(method);
            }
        }
        calls.sort((a, b) -> a.getName().compareTo(b.getName()));
        return calls;
    }

    private static void text(DripStone x, String text) {
        for (int i = 0; i < text.length(); i++) {
            x.type(text.charAt(i), 1);
        }
    }

    /** An object with something of everything, at its limits. */
    private static DripStone fullObject() {
        DripStone x = new DripStone();
        for (int y = 0; y < 24; y++) {
            x.rain(y, 0, y % 7);
            x.rain(y, 1, y - 9);
        }
        text(x, "a>2&w>1&h<9:1;a>1:2;*:1;*:2;*:3;*:4");
        x.law();
        x.make(0);
        x.cut(0, 10);
        x.put(0, 1, 0);
        x.put(0, 0, 3);
        for (int i = 0; i < 12; i++) {
            x.put(1, i % 5 == 3 ? 2 : 0, 0);
        }
        String[] claims = {"*@0-11#12&*@4-15#12", "!w<-3@2-5#3|w>3@20-23#2", "*@0-0#1", "w>0@0-23#6&!*@3-4#4"};
        for (String claim : claims) {
            text(x, claim);
            x.claim();
        }
        for (int i = 0; i < 6; i++) {
            x.date(i % 2, i % 2 * 2, i, i + 9, i == 5 ? 1 : 0);
            x.stretch(1, i % 3, i % 3, 9, i % 3);
            x.cause(-i, i);
        }
        x.date(0, 9, 12, 19, 0);
        x.date(1, 11, 12, 19, 0);
        for (int s = 0; s < 3; s++) {
            x.sheet(s, s, 24);
            for (int i = 0; i < 24; i++) {
                x.item(s, s, i, i / 2);
            }
        }
        x.image();
        return x;
    }

    private static void neverThrows() throws Exception {
        List<Method> calls = calls();
        DripStone x = new DripStone();
        for (int i = 0; i < 120000; i++) {
            if (i % 400 == 0) {
                x = i % 1200 == 0 ? new DripStone() : fullObject();
            }
            Method method = calls.get(pick(calls.size()));
            Class<?>[] types = method.getParameterTypes();
            Object[] args = new Object[types.length];
            for (int k = 0; k < args.length; k++) {
                int n = NUMBERS[pick(NUMBERS.length)];
                args[k] = types[k] == long.class ? (Object) ((long) n * pick(1 << 30) ^ 0x2a2a2a2aL) : (Object) n;
            }
            try {
                method.invoke(x, args);
            } catch (java.lang.reflect.InvocationTargetException e) {
                must(false, method.getName() + Arrays.toString(args) + " threw " + e.getCause());
                return;
            }
        }
    }

    /** Calls use the rows made with the object: after it stands nothing more is made. */
    private static void makesNothing() {
        com.sun.management.ThreadMXBean bean = (com.sun.management.ThreadMXBean) ManagementFactory.getThreadMXBean();
        long thread = Thread.currentThread().getId();
        DripStone x = fullObject();
        askAll(x);
        long before = bean.getThreadAllocatedBytes(thread);
        long beforeAgain = bean.getThreadAllocatedBytes(thread);
        askAll(x);
        long made = bean.getThreadAllocatedBytes(thread) - beforeAgain - (beforeAgain - before);
        must(made <= 1024, "the calls made " + made + " bytes");
        before = bean.getThreadAllocatedBytes(thread);
        x = new DripStone();
        long object = bean.getThreadAllocatedBytes(thread) - before;
        must(x.count(0) == 0 && object < 400000, "an object is of " + object + " bytes");
    }

    /** The document promises 512 calls of an object: the last of them answers as the first did. */
    private static void lastCall() {
        DripStone x = new DripStone();
        for (int i = 0; i < 511; i++) {
            int was = x.rain(i % 24, 0, i / 24 % 10);
            must(was == (i < 24 ? 0 : (i / 24 - 1) % 10), "call " + (i + 1) + " answered " + was);
        }
        must(x.wet(6) == 1, "call 512 is not answered as it should be");
        x = new DripStone();
        x.put(0, 0, 5);
        for (int i = 1; i < 511; i++) {
            must(x.image() == 1 && i++ > 0 && x.restore() == 1, "call " + (i + 1) + " is refused");
        }
        must(x.thing(0, 0, 1) == 5, "what an IMAGE keeps is lost");
    }

    private static void askAll(DripStone x) {
        for (int candle = 0; candle < 2; candle++) {
            x.ways(candle);
            x.next(candle, 1);
            x.mustGo(candle);
            x.judge(candle, 1, 1, 2);
            for (int t = 0; t < 12; t++) {
                x.ends(candle, t, 0);
                x.odds(candle, t, t, 1);
                x.span(candle, 0, t, 1);
                x.apart(candle, 0, t, 3, 1);
                x.says(candle, 0, t, 2);
                x.truth(candle, t);
                x.thing(candle, t, 1);
                x.leans(t, 0, 1);
                x.oneYear(t, 0, 1);
            }
            for (int c = 0; c < 4; c++) {
                x.chance(c, candle, 1);
                x.holds(c, candle);
                x.looked(c, candle, 1, 3, 1);
            }
        }
        x.tie(2);
        x.rains(0, 0, 0, 0, 9);
        x.learn(0, 0, 0, 8, 9);
        x.type(0x2a3a31, 3);
        x.law();
        x.type('w', 1);
        x.claim();
        x.make(0);
        x.cut(0, 3);
        x.put(0, 0, 1);
        x.sheet(0, 0, 24);
        x.drop(3);
        x.image();
        x.restore();
        for (int y = 0; y < 24; y++) {
            x.wet(y);
            x.water(y);
            x.grows(y);
        }
    }
}
