import java.io.IOException;
import java.lang.reflect.Constructor;
import java.lang.reflect.Field;
import java.lang.reflect.Method;
import java.lang.reflect.Modifier;
import java.nio.file.Files;
import java.nio.file.Path;
import java.util.Random;
import java.util.Set;
import java.util.TreeSet;
import java.util.regex.Matcher;
import java.util.regex.Pattern;

/** What LANGUAGE.md asks of the class, as far as it can be seen from its text and its face; and that no call throws. */
public final class LanguageTest {
    private static final Dues DUES = new Dues("LanguageTest");
    private static final String FACE = "int NONE; ToyHouse(); boolean now(int); int kind(int,int,int,int,int);"
        + "boolean pieces(int,int,int,int); int toy(int,int); int family(int,int,int); boolean bag(int);"
        + "boolean telling(int); int feed(int,int,int,int,int); int rules(int); int not(int,int); int lend(int,int);"
        + "int back(int); int lost(int); boolean wash(int); int toyIs(int,int); int weigh(int,int,int,int);"
        + "int whole(int,int); boolean waits(int,int); boolean leaves(int,int); int next(int,int);"
        + "int buying(int,int,int); int van(int,int,int); boolean minutes(int,int); int mending(int,int); int mend(int);"
        + "int rota(int,int); int recall(int,int,int); boolean told(int,int); int recalled(int,int);"
        + "boolean gift(int,int,int); int owes(int); int pays(int,int); int forgiving(int); int peak(int);"
        + "int unwanted(int); int why(int,int); boolean cull(int); int where(int,int,int); int check(int,int);"
        + "int count(int)";

    public static void main(String[] args) throws Exception {
        face();
        text();
        methods();
        for (int seed = 0; seed < 200; seed++) {
            wildCalls(new Random(seed));
        }
        DUES.end();
    }

    private static void wrong(String what) {
        DUES.due(what, 1, 0);
    }

    private static String typesOf(Class<?>[] types) {
        StringBuilder all = new StringBuilder();
        for (Class<?> type : types) {
            all.append(all.length() == 0 ? "" : ",").append(type.getSimpleName());
        }
        return all.toString();
    }

    private static void face() {
        Set<String> due = new TreeSet<>();
        for (String member : FACE.split(";")) {
            due.add(member.trim());
        }
        Set<String> is = new TreeSet<>();
        for (Method method : ToyHouse.class.getDeclaredMethods()) {
            if (!Modifier.isPrivate(method.getModifiers())) {
                is.add(method.getReturnType() + " " + method.getName() + "(" + typesOf(method.getParameterTypes()) + ")");
            }
        }
        for (Field field : ToyHouse.class.getDeclaredFields()) {
            if (!Modifier.isPrivate(field.getModifiers())) {
                is.add(field.getType() + " " + field.getName());
            }
        }
        for (Constructor<?> one : ToyHouse.class.getDeclaredConstructors()) {
            is.add("ToyHouse(" + typesOf(one.getParameterTypes()) + ")");
        }
        if (!is.equals(due)) {
            wrong("the face is " + is + ", not " + due);
        }
        DUES.due("the class is public and final",
            ToyHouse.class.getModifiers() == (Modifier.PUBLIC | Modifier.FINAL), true);
    }

    private static String plainText() throws IOException {
        String text = Files.readString(Path.of("src/main/java/ToyHouse.java"));
        text = text.replaceAll("(?s)/\\*.*?\\*/", " ").replaceAll("//[^\n]*", " ");
        return text.replaceAll("\"[^\"]*\"", "\"\"").replaceAll("'.'", "' '");
    }

    private static void text() throws IOException {
        String text = plainText();
        String[] out = {"throw", "throws", "try", "catch", "synchronized", "assert", "package", "var", "protected", "Object",
            "hashCode", "toString", "Exact", "System\\.out", "Math\\.random", "->", "::", "@", "static\\s*\\{"};
        for (String word : out) {
            String pattern = Character.isLetter(word.charAt(0)) ? "\\b" + word + "\\b" : word;
            if (Pattern.compile(pattern).matcher(text).find()) {
                wrong("the text has " + word);
            }
        }
        Matcher imports = Pattern.compile("import\\s+([\\w.*]+)").matcher(text);
        while (imports.find()) {
            if (!Set.of("java.util.ArrayList", "java.util.Arrays", "java.util.List").contains(imports.group(1))) {
                wrong("the text imports " + imports.group(1));
            }
        }
        Matcher classes = Pattern.compile("\\b(class|record|enum|interface)\\s+\\w+").matcher(text);
        int many = 0;
        while (classes.find()) {
            many++;
        }
        DUES.due("classes, twelve at most", Math.max(12, many), 12);
        for (String line : text.split("\n")) {
            boolean field = line.matches("\\s*(private )?static [^(]*(=[^(]*)?;") && !line.contains(" final ");
            if (field) {
                wrong("a static field that is not final: " + line.trim());
            }
        }
    }

    /** Methods of some sixty lines, seven parameters, twenty fields a class; no private method named as a public one. */
    private static void methods() throws IOException {
        int start = 0;
        int number = 0;
        for (String line : plainText().split("\n")) {
            number++;
            if (line.matches("\\s+(private |public |static |final )*[\\w<>\\[\\]]+ ?\\w*\\(.*\\) \\{")) {
                start = number;
            }
            if (line.matches("\\s{4,8}\\}") && number - start > 60) {
                wrong("a method is long at line " + number);
                start = number;
            }
        }
        Set<String> open = new TreeSet<>();
        for (Method method : ToyHouse.class.getMethods()) {
            open.add(method.getName());
        }
        classLimits(ToyHouse.class, open);
        for (Class<?> inner : ToyHouse.class.getDeclaredClasses()) {
            classLimits(inner, open);
            DUES.due(inner + " is static", Modifier.isStatic(inner.getModifiers()), true);
        }
    }

    private static void classLimits(Class<?> type, Set<String> open) {
        int fields = 0;
        for (Field field : type.getDeclaredFields()) {
            fields += Modifier.isStatic(field.getModifiers()) ? 0 : 1;
        }
        DUES.due("fields of " + type + ", twenty at most", Math.max(20, fields), 20);
        for (Method method : type.getDeclaredMethods()) {
            DUES.due("parameters of " + method, method.getParameterCount() <= 7, true);
            boolean clash = !Modifier.isPublic(method.getModifiers()) && open.contains(method.getName());
            DUES.due("the name of " + method + " is a public one's", clash, false);
        }
    }

    private static int wild(Random random) {
        int[] some = {Integer.MIN_VALUE, Integer.MAX_VALUE, -1, -2, 1 << 28, 1 << 29, 1 << 30, 1 << 31, 16, 10, 8, 700};
        int die = random.nextInt(12);
        return die == 0 ? some[random.nextInt(some.length)] : die == 1 ? random.nextInt() : random.nextInt(die * 3);
    }

    /** More calls than the document promises anything for: none may throw. */
    private static void wildCalls(Random random) throws Exception {
        ToyHouse house = new ToyHouse();
        java.util.List<Method> calls = new java.util.ArrayList<>();
        for (Method method : ToyHouse.class.getMethods()) {
            if (method.getDeclaringClass() == ToyHouse.class) {
                calls.add(method);
            }
        }
        calls.sort((a, b) -> a.getName().compareTo(b.getName()));
        String signs = "dfpnawou()[]!&|<>=+-*/%;0123456789kapzwmtnyevhdslqc";
        for (int i = 0; i < 2000; i++) {
            if (random.nextInt(5) == 0) {
                StringBuilder text = new StringBuilder("a(1=1);");
                for (int j = 0; j < 20; j++) {
                    text.append(signs.charAt(random.nextInt(signs.length())));
                }
                Dues.rules(house, random.nextBoolean() ? text.toString() : "p99999*2(1=1);w(1/q=1);d1(1=1)");
            }
            Method method = calls.get(random.nextInt(calls.size()));
            Object[] arguments = new Object[method.getParameterCount()];
            for (int j = 0; j < arguments.length; j++) {
                arguments[j] = wild(random);
            }
            try {
                method.invoke(house, arguments);
            } catch (java.lang.reflect.InvocationTargetException thrown) {
                wrong(method.getName() + java.util.Arrays.toString(arguments) + " threw " + thrown.getCause());
            }
        }
    }
}
