/** Promises 26 to 31. */
final class FoundTest {
    public static void main(String[] args) {
        promise26();
        promise27();
        promise28();
        promise29();
        promise30();
        promise31();
        Due.ends();
    }

    private static void promise26() {
        NumberedAnew x = Due.with("ab;a;abc;-;h");
        x.sorts(3);
        Due.due("having(1)", x.having(1), 3);
        Due.row("having(1)", x, 2, 3, 4);
        Due.due("having(3)", x.having(3), 2);
        Due.row("having(3)", x, 2, 4);
        Due.due("having(128)", x.having(128), 1);
        Due.row("having(128)", x, 0);
        Due.due("having(0)", x.having(0), 5);
        Due.row("having(0)", x, 0, 1, 2, 3, 4);
        Due.due("having(-1)", x.having(-1), -1);
        Due.due("having(256)", x.having(256), -1);
        Due.due("having(min)", x.having(Integer.MIN_VALUE), -1);
        Due.row("refused having()", x, 0, 1, 2, 3, 4);
        Due.due("having(255)", x.having(255), 0);
        Due.row("having(255)", x);
    }

    private static void promise27() {
        // a: 0, 1, 2, 6; b: 3, 6, 7: 0-3, 1-3, 2-3, 6-3, 6-6, then a is at its end.
        NumberedAnew x = Due.with("a;a;a;b;-;-;ab;b");
        Due.due("compared(0, 1)", x.compared(0, 1), 5);
        Due.row("compared(0, 1)", x, 1);
        Due.due("compared(1, 0)", x.compared(1, 0), 5);
        Due.row("compared(1, 0)", x, 1);
        Due.due("compared(1, 1)", x.compared(1, 1), -1);
        Due.due("compared(8, 1)", x.compared(8, 1), -1);
        Due.due("compared(0, -1)", x.compared(0, -1), -1);
        Due.row("refused compared()", x, 1);
        Due.due("compared(0, 2)", x.compared(0, 2), 0);
        Due.row("compared(0, 2)", x, 0);
        NumberedAnew long16 = Due.with("a;b;a;b;a;b;a;b;a;b;a;b;a;b;a;b");
        Due.due("compared(0, 1) of 16", long16.compared(0, 1), 15);
        Due.row("compared(0, 1) of 16", long16, 0);
        NumberedAnew both = Due.with("ab;ab;ab;ab;ab;ab;ab;ab;ab;ab;ab;ab;ab;ab;ab;ab");
        Due.due("compared(0, 1) of all", both.compared(0, 1), 16);
        Due.row("compared(0, 1) of all", both, 16);
    }

    private static void promise28() {
        NumberedAnew x = Due.with("-;-;a;a;a;-;-;-;-;-;-;-;-;-;-;a");
        int[] b = {1, 2, 3, 4, 5, 6, 8, 15, 16};
        int[] touched = {4, 3, 3, 3, 2, 2, 2, 2, 1};
        int[] most = {1, 2, 2, 2, 3, 3, 3, 3, 4};
        for (int i = 0; i < b.length; i++) {
            Due.due("blocks(0, " + b[i] + ")", x.blocks(0, b[i]), touched[i]);
            Due.row("blocks(0, " + b[i] + ")", x, most[i]);
        }
        Due.due("blocks(0, 0)", x.blocks(0, 0), -1);
        Due.due("blocks(0, 17)", x.blocks(0, 17), -1);
        Due.due("blocks(0, min)", x.blocks(0, Integer.MIN_VALUE), -1);
        Due.due("blocks(8, 1)", x.blocks(8, 1), -1);
        Due.due("blocks(-1, 1)", x.blocks(-1, 1), -1);
        Due.row("refused blocks()", x, 4);
        Due.due("blocks(1, 4)", x.blocks(1, 4), 0);
        Due.row("blocks(1, 4)", x, 0);
    }

    private static void promise29() {
        NumberedAnew x = Due.with("a;-;a;a;a;-;a;a;b");
        Due.due("runs(0)", x.runs(0), 3);
        Due.row("runs(0)", x, 3);
        Due.due("runs(1)", x.runs(1), 1);
        Due.row("runs(1)", x, 1);
        Due.due("runs(8)", x.runs(8), -1);
        Due.due("runs(-1)", x.runs(-1), -1);
        Due.row("runs(-1)", x, 1);
        Due.due("runs(2)", x.runs(2), 0);
        Due.row("runs(2)", x, 0);
        NumberedAnew all = Due.with("h;h;h;h;h;h;h;h;h;h;h;h;h;h;h;h");
        Due.due("runs(7) of all", all.runs(7), 1);
        Due.row("runs(7) of all", all, 16);
    }

    private static void promise30() {
        NumberedAnew x = Due.with("ab;abc;d;-;e");
        // 20 - 1, - 4, - 1, - 1.
        Due.due("likeness()", x.likeness(), 1013);
        Due.row("likeness()", x, -4, 1);
        x.sorts(3);
        Due.due("likeness() turned about", x.likeness(), 1013);
        Due.row("likeness() turned about", x, -4, 2);
        NumberedAnew tied = Due.with("a;b;a;b");
        Due.due("likeness() of equal pairs", tied.likeness(), 994);
        Due.row("likeness() of equal pairs", tied, -2, 0);
        NumberedAnew two = Due.with("ab;ac");
        Due.due("likeness() of two", two.likeness(), 1008);
        Due.row("likeness() of two", two, 8, 0);
        NumberedAnew one = Due.with("a");
        one.list(0);
        Due.due("likeness() of one", one.likeness(), -2);
        Due.row("likeness() of one", one, 0);
    }

    private static void promise31() {
        NumberedAnew x = Due.with("ab;b;a;abc;h");
        Due.due("nearest(0)", x.nearest(0), 3);
        Due.row("nearest(0)", x, 1019);
        Due.due("nearest(1)", x.nearest(1), 0);
        Due.row("nearest(1)", x, 1009);
        Due.due("nearest(4)", x.nearest(4), 1);
        Due.row("nearest(4)", x, 998);
        x.sorts(3);
        Due.due("nearest(4) turned about", x.nearest(4), 1);
        Due.due("nearest(5)", x.nearest(5), -1);
        Due.due("nearest(-1)", x.nearest(-1), -1);
        Due.row("nearest(-1)", x, 998);
        NumberedAnew one = Due.with("a");
        Due.due("nearest(0) of one", one.nearest(0), -2);
        Due.due("nearest(1) of one", one.nearest(1), -1);
        Due.row("nearest() of one", one);
        NumberedAnew two = Due.with("a;a");
        Due.due("nearest(0) of two", two.nearest(0), 1);
        Due.row("nearest(0) of two", two, 1010);
    }
}
