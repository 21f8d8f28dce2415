import java.lang.reflect.InvocationTargetException;
import java.lang.reflect.Method;
import java.util.Arrays;
import java.util.regex.Matcher;
import java.util.regex.Pattern;

/** An object of the class whose calls are told as texts, as in sheet(3, 17, 1, 1), and so are their answers. */
final class Told {
    private static final Pattern CALL = Pattern.compile("(\\w+)\\((.*)\\)");
    /** What later calls answer is free, so no test may ask for it. */
    private static final int MOST_CALLS = 512;

    private final NumberedAnew x = new NumberedAnew();
    private int calls = 0;

    String answer(String call) {
        Matcher parts = CALL.matcher(call);
        if (!parts.matches()) {
            throw new IllegalArgumentException("no call: " + call);
        }
        String[] told = parts.group(2).isEmpty() ? new String[0] : parts.group(2).split(", ");
        Integer[] values = new Integer[told.length];
        for (int i = 0; i < told.length; i++) {
            values[i] = number(told[i]);
        }
        return call(parts.group(1), values);
    }

    private static int number(String told) {
        if (told.equals("min")) {
            return Integer.MIN_VALUE;
        }
        return told.equals("max") ? Integer.MAX_VALUE : Integer.decode(told);
    }

    private String call(String name, Integer... values) {
        calls++;
        if (calls > MOST_CALLS) {
            throw new IllegalStateException("more calls than the document promises answers for");
        }
        Class<?>[] types = new Class<?>[values.length];
        Arrays.fill(types, int.class);
        try {
            Method method = NumberedAnew.class.getMethod(name, types);
            return String.valueOf(method.invoke(x, (Object[]) values));
        } catch (InvocationTargetException e) {
            return "throws." + e.getCause().getClass().getSimpleName();
        } catch (ReflectiveOperationException e) {
            throw new IllegalArgumentException("no such call: " + name, e);
        }
    }

    private int asked(String name, Integer... values) {
        return Integer.parseInt(call(name, values));
    }

    /** THE TEXT becomes this one. */
    void say(String text) {
        call("end", 0);
        for (int p = 0; p < text.length(); p += 4) {
            int four = 0;
            for (int i = p; i < p + 4; i++) {
                four = four << 8 | (i < text.length() ? text.charAt(i) : 0);
            }
            call("sign", four);
        }
        call("end", text.length());
    }

    String row() {
        StringBuilder row = new StringBuilder("row");
        int many = asked("count", 4);
        for (int i = 0; i < many; i++) {
            row.append(' ').append(call("row", i));
        }
        return row.toString();
    }

    /** The documents by their numbers. */
    String lie() {
        StringBuilder lie = new StringBuilder("lie");
        int many = asked("count", 0);
        for (int number = 0; number < many; number++) {
            lie.append(' ').append(call("at", number));
        }
        return lie.toString();
    }

    /** The terms of all documents, as bits. */
    String terms() {
        StringBuilder terms = new StringBuilder("terms");
        int many = asked("count", 0);
        for (int d = 0; d < many; d++) {
            terms.append(' ').append(call("document", d, 0));
        }
        return terms.toString();
    }

    /** All that can be found out of the object, the row only if it is asked for; the object is spent then. */
    String everything(boolean row) {
        StringBuilder all = new StringBuilder();
        for (int what = 0; what < 7; what++) {
            all.append(what == 4 ? "" : " " + call("count", what));
        }
        all.append(row ? "\n" + row() : "").append('\n').append(layout());
        all.append("\nfits ").append(call("fits"));
        all.append(undone()).append(kept());
        all.append("\ntext ").append(call("documents")).append(' ').append(terms());
        return all.append(heard()).toString();
    }

    private String layout() {
        return lie() + ' ' + terms();
    }

    private String undone() {
        StringBuilder undone = new StringBuilder();
        int many = asked("count", 2);
        for (int left = many - 1; left >= -1; left--) {
            undone.append("\nundo ").append(call("undo")).append(' ').append(layout());
        }
        return undone.toString();
    }

    private String kept() {
        StringBuilder kept = new StringBuilder();
        for (int i = 0; i < 2; i++) {
            kept.append("\nagain ").append(call("again", i)).append(' ').append(layout());
        }
        return kept.toString();
    }

    /** What was heard, by which of documents with all sets of terms fit it. */
    private String heard() {
        StringBuilder heard = new StringBuilder("\nheard");
        say("-;-;-;-;-;-;-;-;-;-;-;-;-;-;-;-");
        call("documents");
        for (int first = 0; first < 256; first += 16) {
            call("sheet", 2, 16, first, 1);
            heard.append(' ').append(call("fits"));
        }
        return heard.toString();
    }
}
