import java.lang.reflect.InvocationTargetException;
import java.lang.reflect.Method;
import java.lang.reflect.Modifier;
import java.util.ArrayList;
import java.util.Arrays;
import java.util.Collections;
import java.util.Comparator;
import java.util.List;
import java.util.Random;

/** Runs of drawn calls on the class and on the model of the document: answers and what can be asked are alike. */
final class ModelTest {
    private static final int RUNS = 700;
    private static final int CALLS = 120;
    private static final int[] EDGES = {-1, -2, 0, 1, 2, 7, 8, 9, 10, 15, 16, 17, 20, 21, 255, 256,
        Integer.MAX_VALUE, Integer.MIN_VALUE};

    private static final List<Method> FACE = face();

    private final Random draws;
    private final NumberedAnew real = new NumberedAnew();
    private final Model model = new Model();
    private final List<String> calls = new ArrayList<>();

    private ModelTest(long seed) {
        draws = new Random(seed);
    }

    public static void main(String[] args) throws IllegalAccessException {
        int runs = args.length > 0 ? Integer.parseInt(args[0]) : RUNS;
        long first = args.length > 1 ? Long.parseLong(args[1]) : 0;
        for (long seed = first; seed < first + runs; seed++) {
            if (!new ModelTest(seed).isAlike()) {
                System.exit(1);
            }
        }
        System.out.println(runs + " runs are as the model's");
    }

    private boolean isAlike() throws IllegalAccessException {
        for (int i = 0; i < CALLS; i++) {
            if (!(draws.nextInt(4) == 0 ? saysText() : callsOne()) || !looksAlike()) {
                System.out.println("behind " + calls);
                return false;
            }
        }
        return true;
    }

    /** In what order Java tells methods is free, so they are put in order by name: a seed gives the same run again. */
    private static List<Method> face() {
        List<Method> face = new ArrayList<>();
        for (Method method : NumberedAnew.class.getDeclaredMethods()) {
            if (Modifier.isPublic(method.getModifiers())) {
                face.add(method);
            }
        }
        face.sort(Comparator.comparing(Method::getName));
        return face;
    }

    private boolean callsOne() throws IllegalAccessException {
        Method method = FACE.get(draws.nextInt(FACE.size()));
        Integer[] values = new Integer[method.getParameterCount()];
        for (int i = 0; i < values.length; i++) {
            values[i] = drawnValue();
        }
        return same(method.getName(), values);
    }

    private int drawnValue() {
        int kind = draws.nextInt(10);
        if (kind == 0) {
            return EDGES[draws.nextInt(EDGES.length)];
        }
        if (kind == 1) {
            return draws.nextInt();
        }
        return kind < 6 ? draws.nextInt(4) : draws.nextInt(17);
    }

    private boolean same(String name, Integer... values) throws IllegalAccessException {
        StringBuilder call = new StringBuilder(name).append('(');
        for (int i = 0; i < values.length; i++) {
            call.append(i == 0 ? "" : ", ").append(values[i]);
        }
        calls.add(call.append(')').toString());
        return same(call.toString(), name, values);
    }

    private boolean same(String call, String name, Integer... values) throws IllegalAccessException {
        String got = answer(real, name, values);
        String want = answer(model, name, values);
        if (!got.equals(want)) {
            System.out.println(call + " answered " + got + ", due is " + want);
            return false;
        }
        return true;
    }

    private static String answer(Object object, String name, Integer... values) throws IllegalAccessException {
        Class<?>[] types = new Class<?>[values.length];
        Arrays.fill(types, int.class);
        try {
            Method method = object.getClass().getDeclaredMethod(name, types);
            return String.valueOf(method.invoke(object, (Object[]) values));
        } catch (InvocationTargetException e) {
            return "throws." + e.getCause().getClass().getSimpleName();
        } catch (NoSuchMethodException e) {
            return "no such method";
        }
    }

    private boolean looksAlike() throws IllegalAccessException {
        boolean alike = true;
        for (int what = 0; what < 7; what++) {
            alike &= same("count(" + what + ")", "count", what);
        }
        for (int i = 0; alike && i < real.count(4); i++) {
            alike &= same("row(" + i + ")", "row", i);
        }
        for (int d = 0; alike && d < real.count(0); d++) {
            alike &= same("at(" + d + ")", "at", d);
            for (int what = 0; what < 3; what++) {
                alike &= same("document(" + d + ", " + what + ")", "document", d, what);
            }
        }
        return alike;
    }

    // ---- texts that are drawn

    private boolean saysText() throws IllegalAccessException {
        int kind = draws.nextInt(6);
        String text = kind < 2 ? drawnDocuments() : kind == 2 ? drawnOrder() : kind == 3 ? drawnDay() : drawnBytes();
        if (draws.nextInt(4) == 0) {
            text = spoilt(text);
        }
        boolean alike = draws.nextInt(10) == 0 || same("end", 0);
        for (int p = 0; p < text.length(); p += 4) {
            int four = 0;
            for (int i = p; i < p + 4; i++) {
                four = four << 8 | (i < text.length() ? text.charAt(i) : 0);
            }
            alike &= same("sign", four);
        }
        alike &= same("end", text.length());
        switch (kind) {
            case 0:
            case 1:
                return alike && same("documents");
            case 2:
                return alike && same("order");
            case 3:
                return alike && same("day");
            default:
                return alike && same("read", draws.nextInt(4), draws.nextInt(5));
        }
    }

    private String drawnDocuments() {
        int many = draws.nextInt(18);
        int terms = 1 + draws.nextInt(8);
        int dense = 1 + draws.nextInt(4);
        StringBuilder text = new StringBuilder();
        for (int d = 0; d < many && text.length() < 72; d++) {
            int begin = text.length();
            for (int term = 0; term < terms; term++) {
                if (draws.nextInt(5) < dense) {
                    text.append((char) ('a' + term));
                }
            }
            if (text.length() == begin) {
                text.append('-');
            }
            text.append(d < many - 1 ? ";" : "");
        }
        if (text.length() > 0 && text.charAt(text.length() - 1) == ';') {
            text.append('-');
        }
        return text.toString();
    }

    private String drawnOrder() {
        List<Integer> order = new ArrayList<>();
        for (int d = 0; d < real.count(0); d++) {
            order.add(d);
        }
        Collections.shuffle(order, draws);
        StringBuilder text = new StringBuilder();
        for (int d : order) {
            text.append(d / 10).append(d % 10);
        }
        return text.toString();
    }

    private String drawnDay() {
        StringBuilder text = new StringBuilder();
        for (int acts = draws.nextInt(6); acts > 0; acts--) {
            char act = "smhoc".charAt(draws.nextInt(5));
            text.append(act);
            if (act == 'h') {
                text.append(1 + draws.nextInt(9));
            } else if (act == 'o') {
                text.append(draws.nextInt(4));
            } else {
                text.append(drawnPlace()).append(act == 'c' ? "" : drawnPlace());
            }
        }
        return text.toString();
    }

    private String drawnPlace() {
        int place = draws.nextInt(12) == 0 ? draws.nextInt(100) : draws.nextInt(Math.max(1, real.count(0)));
        return "" + place / 10 + place % 10;
    }

    private String drawnBytes() {
        StringBuilder text = new StringBuilder();
        int kind = draws.nextInt(4);
        for (int many = draws.nextInt(40); many > 0; many--) {
            text.append((char) (kind == 0 ? 0 : kind == 1 ? 255 : draws.nextInt(256) & draws.nextInt(256)));
        }
        return text.toString();
    }

    private String spoilt(String text) {
        int p = draws.nextInt(text.length() + 1);
        String signs = "abh-;i0123456789smhoc\0\u00ff :/`";
        char sign = signs.charAt(draws.nextInt(signs.length()));
        String rest = text.substring(p);
        int kind = draws.nextInt(4);
        if (kind == 0) {
            return text.substring(0, p);
        }
        return text.substring(0, p) + sign + (kind == 1 || rest.isEmpty() ? rest : rest.substring(1));
    }
}
