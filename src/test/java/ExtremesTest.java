import java.lang.reflect.InvocationTargetException;
import java.lang.reflect.Method;
import java.lang.reflect.Modifier;
import java.util.Arrays;
import java.util.Comparator;
import java.util.List;
import java.util.Random;

/** Every method with numbers at and beyond all edges, in any order: the Model's answers, and its exceptions alone. */
public final class ExtremesTest {
    private static final int[] EDGES = {Integer.MIN_VALUE, Integer.MIN_VALUE + 1, -10000000, -9999999, -100000, -99999, -31, -2, -1,
        0, 0, 0, 1, 1, 2, 3, 4, 5, 6, 7, 8, 9, 10, 11, 12, 39, 40, 41, 60, 61, 99, 100, 101, 200, 201, 511, 520, 521, 900, 901,
        1999, 2000, 2001, 99999, 100000, 9999999, 10000000, 33554432, Integer.MAX_VALUE - 1, Integer.MAX_VALUE};
    private static final String TEXT = "ground 9 8 7 6 5 4 3 2 1 99 50 20;law lean pull * 9 / deep;law open child + week / 3;"
        + "law bend drop < 900;law knock fall * 9999 * 9999 * 9999;cause r 7 open 9;cause s 2 lean 4;"
        + "gate a 144 24 400 hooks 0 1 30 - 30 has r child 200;gate b 24 72 20 latch 0 9999 rise 1 2 3 4 5 6 7 8 200 gap 100;"
        + "work a 5 wire 9999;work b 4 post 60;work c 3 wheel 100;work d 2 rehang 9999;work e 1 stones 99;work f 9 brace;";

    public static void main(String[] args) throws Exception {
        Method[] methods = Arrays.stream(SagGates.class.getDeclaredMethods())
            .filter(method -> Modifier.isPublic(method.getModifiers()))
            .sorted(Comparator.comparing(Method::getName)).toArray(Method[]::new);
        int wrong = 0;
        for (int seed = 0; seed < 60 && wrong < 3; seed++) {
            wrong += run(methods, new Random(seed), seed % 4 != 0) ? 0 : 1;
        }
        System.out.println(wrong == 0 ? "extremes are met" : "extremes are not met");
        System.exit(wrong == 0 ? 0 : 1);
    }

    private static boolean run(Method[] methods, Random random, boolean told) throws Exception {
        SagGates program = new SagGates();
        Model model = new Model();
        if (told) {
            for (int i = 0; i < TEXT.length(); i += 20) {
                int[] n = new int[5];
                for (int k = 0; k < 20; k++) {
                    n[k / 4] = n[k / 4] << 8 | (i + k < TEXT.length() ? TEXT.charAt(i + k) : ' ');
                }
                program.feed(n[0], n[1], n[2], n[3], n[4]);
                model.feed(n);
            }
            program.text(TEXT.length());
            model.text(TEXT.length());
        }
        for (int call = 0; call < 460; call++) {
            Method method = methods[random.nextInt(methods.length)];
            // A text would end the run of edges early; the random runs have enough of them.
            if (told && method.getName().equals("text") && random.nextInt(20) != 0) {
                continue;
            }
            Object[] in = new Object[method.getParameterCount()];
            for (int i = 0; i < in.length; i++) {
                in[i] = i == 0 && random.nextInt(3) > 0 ? random.nextInt(2) : EDGES[random.nextInt(EDGES.length)];
            }
            Object got = answer(method, program, in);
            Object want = answer(ofModel(method), model, in);
            if (!got.equals(want)) {
                System.out.println(method.getName() + Arrays.toString(in) + " answered " + got + ", due is " + want);
                return false;
            }
        }
        return true;
    }

    private static Method ofModel(Method method) throws NoSuchMethodException {
        return method.getName().equals("feed") ? Model.class.getDeclaredMethod("feed", int[].class)
            : Model.class.getDeclaredMethod(method.getName(), method.getParameterTypes());
    }

    private static Object answer(Method method, Object of, Object[] in) throws IllegalAccessException {
        try {
            if (method.isVarArgs()) {
                int[] numbers = Arrays.stream(in).mapToInt(n -> (Integer) n).toArray();
                return method.invoke(of, (Object) numbers);
            }
            return method.invoke(of, in);
        } catch (InvocationTargetException e) {
            String name = e.getCause().getClass().getSimpleName();
            boolean fromLook = method.getName().equals("look")
                && List.of("IndexOutOfBoundsException", "NoSuchElementException").contains(name);
            return fromLook ? name : name + " out of " + of.getClass() + " " + e.getCause();
        }
    }
}
