import java.util.Arrays;
import java.util.NoSuchElementException;

/** What the tests of the project share: each wrong answer is printed and counted. */
final class Due {
    private static int wrong = 0;
    private static int asked = 0;

    private Due() {
    }

    static void due(String call, long got, long want) {
        asked++;
        if (got != want) {
            wrong++;
            System.out.println(call + " answered " + got + ", due is " + want);
        }
    }

    static void due(String call, boolean got, boolean want) {
        due(call, got ? 1 : 0, want ? 1 : 0);
    }

    /** The whole row, its length too. */
    static void row(String call, NumberedAnew x, long... want) {
        asked++;
        long[] got = new long[x.count(4)];
        for (int i = 0; i < got.length; i++) {
            got[i] = x.row(i);
        }
        if (!Arrays.equals(got, want)) {
            wrong++;
            System.out.println("the row behind " + call + " is " + Arrays.toString(got)
                    + ", due is " + Arrays.toString(want));
        }
        noRow(call, x, -1);
        noRow(call, x, got.length);
        noRow(call, x, Integer.MAX_VALUE);
        noRow(call, x, Integer.MIN_VALUE);
    }

    private static void noRow(String call, NumberedAnew x, int i) {
        try {
            x.row(i);
            due("row(" + i + ") behind " + call + ", which throws", 0, 1);
        } catch (NoSuchElementException e) {
            asked++;
        }
    }

    static void noDocument(NumberedAnew x, int d, int what) {
        try {
            x.document(d, what);
            due("document(" + d + ", " + what + "), which throws", 0, 1);
        } catch (NoSuchElementException e) {
            asked++;
        }
    }

    static void noNumber(NumberedAnew x, int number) {
        try {
            x.at(number);
            due("at(" + number + "), which throws", 0, 1);
        } catch (NoSuchElementException e) {
            asked++;
        }
    }

    /** The documents by their numbers. */
    static void lie(String call, NumberedAnew x, int... want) {
        due("count(0) behind " + call, x.count(0), want.length);
        for (int number = 0; number < want.length && number < x.count(0); number++) {
            due("at(" + number + ") behind " + call, x.at(number), want[number]);
            due("document(" + want[number] + ", 1) behind " + call, x.document(want[number], 1), number);
        }
    }

    /** The terms of all documents, as bits. */
    static void terms(String call, NumberedAnew x, int... want) {
        due("count(0) behind " + call, x.count(0), want.length);
        for (int d = 0; d < want.length && d < x.count(0); d++) {
            due("document(" + d + ", 0) behind " + call, x.document(d, 0), want[d]);
        }
    }

    /** THE TEXT becomes this one. */
    static void say(NumberedAnew x, String text) {
        due("end(0)", x.end(0), true);
        for (int p = 0; p < text.length(); p += 4) {
            int four = 0;
            for (int i = p; i < p + 4; i++) {
                four = four << 8 | (i < text.length() ? text.charAt(i) : 0);
            }
            due("sign(" + four + ")", x.sign(four), p + 4);
        }
        due("end(" + text.length() + ")", x.end(text.length()), true);
    }

    static int documents(NumberedAnew x, String text) {
        say(x, text);
        int answer = x.documents();
        due("count(5) behind documents()", x.count(5), 0);
        return answer;
    }

    static int order(NumberedAnew x, String text) {
        say(x, text);
        int answer = x.order();
        due("count(5) behind order()", x.count(5), 0);
        return answer;
    }

    static int day(NumberedAnew x, String text) {
        say(x, text);
        int answer = x.day();
        due("count(5) behind day()", x.count(5), 0);
        return answer;
    }

    static NumberedAnew with(String text) {
        NumberedAnew x = new NumberedAnew();
        if (documents(x, text) < 0) {
            throw new IllegalStateException("the test's own documents are wrong: " + text);
        }
        return x;
    }

    static void ends() {
        System.out.println(wrong == 0 ? asked + " answers are as due" : wrong + " answers are not as due");
        if (wrong != 0 || asked == 0) {
            System.exit(1);
        }
    }
}
