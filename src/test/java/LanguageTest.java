import java.lang.management.ManagementFactory;
import java.lang.reflect.Constructor;
import java.lang.reflect.Field;
import java.lang.reflect.Method;
import java.lang.reflect.Modifier;
import java.nio.file.Files;
import java.nio.file.Path;
import java.util.ArrayList;
import java.util.Arrays;
import java.util.List;
import java.util.Set;
import java.util.TreeSet;
import java.util.regex.Matcher;
import java.util.regex.Pattern;

/** What of LANGUAGE.md can be looked at from outside: the face, the words of the source, and what calls make. */
public final class LanguageTest {
    private static final Path SOURCE = Path.of("src/main/java/SagGates.java");
    private static final List<String> FACE = List.of("int feed(int,int,int,int,int)", "int text(int)", "int fault(int)",
        "int named(int,int)", "int look(int,int)", "int works(int,int)", "int firm(int)", "int weeks(int)", "int sags(int,int)",
        "int latched(int)", "int gives(int)", "boolean work(int,int)", "int undo()", "int lasts(int,int)",
        "int least(int,int,int,int)", "int way(int,int)", "int enough(int,int,int)", "int bears(int,int,int)",
        "long knock(int,int)", "int measure(int,int,int,int,int)", "int strike(int)", "boolean known(int)", "int fits(int)",
        "int odds(int,int,int)", "int test(int,int)", "int low(int,int)", "int rest(int)", "int shuts(int)", "int above(int,int)",
        "int opens(int)", "int stand(int,int,int)", "int first(int,int)", "int wind(int,int,int,int,int)", "int keep()",
        "int back()", "int count(int)");
    private static int wrong = 0;

    private static void hold(String rule, boolean so) {
        if (!so) {
            wrong++;
            System.out.println("not kept: " + rule);
        }
    }

    public static void main(String[] args) throws Exception {
        face();
        classesInside();
        words(Files.readString(SOURCE));
        lengths(Files.readAllLines(SOURCE));
        nothingIsMade();
        System.out.println(wrong == 0 ? "the language is kept" : wrong + " rules are not kept");
        System.exit(wrong == 0 ? 0 : 1);
    }

    private static void face() {
        int modifiers = SagGates.class.getModifiers();
        hold("the class is public and final", Modifier.isPublic(modifiers) && Modifier.isFinal(modifiers));
        Set<String> open = new TreeSet<>();
        for (Method method : SagGates.class.getDeclaredMethods()) {
            if (!Modifier.isPrivate(method.getModifiers())) {
                List<String> in = Arrays.stream(method.getParameterTypes()).map(Class::getName).toList();
                open.add(method.getReturnType() + " " + method.getName() + "(" + String.join(",", in) + ")");
            }
        }
        hold("the methods of the face and no other: " + open, open.equals(new TreeSet<>(FACE)));
        for (Field field : SagGates.class.getDeclaredFields()) {
            hold("private: " + field, Modifier.isPrivate(field.getModifiers()) || field.getName().equals("NONE"));
            hold("static is final: " + field, !Modifier.isStatic(field.getModifiers()) || Modifier.isFinal(field.getModifiers()));
        }
        for (Constructor<?> constructor : SagGates.class.getDeclaredConstructors()) {
            hold("one public constructor", Modifier.isPublic(constructor.getModifiers()) && constructor.getParameterCount() == 0);
        }
    }

    private static void classesInside() {
        List<Class<?>> all = new ArrayList<>(List.of(SagGates.class.getDeclaredClasses()));
        hold("at most twelve classes", all.size() + 1 <= 12);
        for (Class<?> inside : all) {
            int modifiers = inside.getModifiers();
            hold("private and static: " + inside, Modifier.isPrivate(modifiers) && Modifier.isStatic(modifiers));
        }
        all.add(SagGates.class);
        Set<String> names = new TreeSet<>();
        FACE.forEach(signature -> names.add(signature.replaceAll(".* (\\w+)\\(.*", "$1")));
        for (Class<?> one : all) {
            long fields = Arrays.stream(one.getDeclaredFields()).filter(f -> !Modifier.isStatic(f.getModifiers())).count();
            hold("some twenty fields: " + one + " has " + fields, fields <= 20);
            for (Method method : one.getDeclaredMethods()) {
                boolean open = one == SagGates.class && Modifier.isPublic(method.getModifiers());
                hold("no other method bears a public one's name: " + method, open || !names.contains(method.getName()));
                hold("at most seven parameters: " + method, method.getParameterCount() <= 7);
            }
        }
    }

    private static void words(String source) {
        String code = source.replaceAll("(?s)/\\*.*?\\*/", "").replaceAll("//[^\n]*", "").replaceAll("\"[^\"]*\"", "\"\"");
        for (String banned : List.of("->", "::", "\\btry\\b", "\\bcatch\\b", "\\bfinally\\b", "\\bsynchronized\\b", "\\bassert\\b",
            "Exact\\b", "\\bhashCode\\b", "\\btoString\\b", "\\bdouble\\b", "\\bfloat\\b", "\"\\s*\\+", "\\+\\s*\"", "\\bThread\\b",
            "\\bjava\\.", "\\bSystem\\b", "\\bRandom\\b", "@", "\\bnull\\b")) {
            Matcher matcher = Pattern.compile(banned).matcher(code.replace("import java.util.NoSuchElementException;", ""));
            hold("without " + banned, !matcher.find());
        }
        Matcher thrown = Pattern.compile("\\bthrow\\b[^;]*;").matcher(code);
        int throwing = 0;
        while (thrown.find()) {
            throwing++;
            hold("look's exceptions alone: " + thrown.group(),
                thrown.group().matches("throw new (IndexOutOfBoundsException|NoSuchElementException)\\(\"\"\\);"));
        }
        hold("two throws", throwing == 2);
        hold("signs 1 to 127", source.chars().allMatch(sign -> sign >= 1 && sign <= 127));
    }

    private static void lengths(List<String> lines) {
        int begin = -1;
        String indent = "";
        for (int i = 0; i < lines.size(); i++) {
            Matcher head = Pattern.compile("^( {4}| {8})(?=\\S)[\\w\\[\\] ]+\\(.*\\)( throws [\\w, ]+)? \\{$").matcher(lines.get(i));
            if (begin < 0 && head.matches()) {
                begin = i;
                indent = head.group(1);
            } else if (begin >= 0 && lines.get(i).equals(indent + "}")) {
                hold("short: " + lines.get(begin).trim(), i - begin < 60);
                begin = -1;
            }
        }
    }

    /** Rows are made in constructors alone: not one call may make an object. */
    private static void nothingIsMade() {
        var threads = (com.sun.management.ThreadMXBean) ManagementFactory.getThreadMXBean();
        SagGates x = new SagGates();
        String text = "cause c 3 open 9;law lean pull / firm + drop;law bend (1 + week) * up;law knock fall;gate a 96 48 100 has c;"
            + "gate b 48 36 90 brace down;work w 5 wire 20;work p 9 post 3;";
        useAll(x, text);
        long before = threads.getThreadAllocatedBytes(Thread.currentThread().getId());
        for (int i = 0; i < 50; i++) {
            useAll(x, text);
        }
        long made = threads.getThreadAllocatedBytes(Thread.currentThread().getId()) - before;
        hold("calls make nothing, but made " + made + " bytes", made < 5000);
    }

    private static void useAll(SagGates x, String text) {
        for (int i = 0; i < text.length(); i += 20) {
            x.feed(four(text, i), four(text, i + 4), four(text, i + 8), four(text, i + 12), four(text, i + 16));
        }
        hold("the text is read", x.text(text.length()) == 8);
        x.fault(0);
        x.named(0, 1);
        x.look(0, 4);
        x.works(0, 0);
        x.firm(3);
        x.weeks(5);
        x.sags(0, 0);
        x.latched(0);
        x.gives(0);
        x.work(0, 0);
        x.work(1, 1);
        x.undo();
        x.lasts(0, 500);
        x.least(0, 5, 50, 0);
        x.way(0, 3);
        x.enough(0, 4, 3);
        x.bears(0, 3, 50);
        x.knock(0, 3);
        x.measure(0, 3, 0, 0, 900);
        x.strike(0);
        x.known(-1);
        x.fits(0);
        x.odds(0, 0, 0);
        x.test(0, 0);
        x.low(0, 1);
        x.rest(0);
        x.shuts(0);
        x.above(0, 0);
        x.opens(0);
        x.stand(0, 3, 0);
        x.first(3, 0);
        x.wind(0, 1, 5, 3, 50);
        x.keep();
        x.back();
        x.count(8);
    }

    private static int four(String text, int at) {
        int number = 0;
        for (int i = at; i < at + 4; i++) {
            number = number << 8 | (i < text.length() ? text.charAt(i) : ' ');
        }
        return number;
    }
}
