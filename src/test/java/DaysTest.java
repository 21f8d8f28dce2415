/** Promises 36 to 38. */
final class DaysTest {
    public static void main(String[] args) {
        promise36();
        promise36Acts();
        promise36Wrong();
        promise37();
        promise37All();
        promise37Day();
        promise38();
        promise38Wrong();
        Due.ends();
    }

    private static void promise36() {
        NumberedAnew x = Due.with("a;b;a;b");
        Due.due("an empty day", Due.day(x, ""), 0);
        Due.row("an empty day", x, 0, 10);
        Due.due("count(2) behind an empty day", x.count(2), 1);
        Due.due("a day", Due.day(x, "s0003m0102o3"), 3);
        Due.row("a day", x, 0, 10);
        Due.lie("a day", x, 0, 1, 2, 3);
        Due.due("count(2) behind a day", x.count(2), 2);
        x.undo();
        Due.lie("undo() of a day", x, 0, 1, 2, 3);
        Due.due("a day that ends at its third", Due.day(x, "s0001o3s0101o3"), 2);
        Due.lie("a day that ends at its third", x, 3, 2, 0, 1);
        Due.row("a day that ends at its third", x, 1, 8);
        Due.due("undo()", x.undo(), 1);
        Due.lie("undo() of such a day", x, 0, 1, 2, 3);
        Due.due("a day that ends at its first", Due.day(x, "s0004o3"), 0);
        Due.row("a day that ends at its first", x, 1, 10);
        Due.due("count(2) behind nothing done", x.count(2), 1);
    }

    private static void promise36Acts() {
        NumberedAnew x = Due.with("-;-;-;a;-;-;-;b;-;-;-;c");
        Due.due("c02", Due.day(x, "c02"), 1);
        Due.row("c02", x, 0, 9);
        Due.due("c20, c01", Due.day(x, "c20c01"), 2);
        Due.row("c20, c01", x, 0, 7);
        Due.due("c00", Due.day(x, "c00"), 0);
        Due.row("c00", x, 1, 7);
        Due.due("c21", Due.day(x, "c21"), 0);
        Due.row("c21", x, 1, 7);
        Due.due("m9999", Due.day(x, "m9999"), 0);
        Due.due("s1211", Due.day(x, "s1211"), 0);
        Due.due("m1112", Due.day(x, "m1112"), 0);
        Due.due("s1100", Due.day(x, "s1100"), 1);
        Due.row("s1100", x, 0, 13);
        NumberedAnew halved = Due.with("a;b;b;b;a;a");
        Due.due("h9", Due.day(halved, "h9"), 1);
        Due.row("h9", halved, 0, 10);
        Due.lie("h9", halved, 3, 1, 2, 0, 4, 5);
        NumberedAnew one = Due.with("a");
        Due.due("o0, h1 of one", Due.day(one, "o0h1o0"), 1);
        Due.row("o0, h1 of one", one, 1, 1);
        NumberedAnew sorted = Due.with("ab;c;a;abc;b");
        Due.due("o2", Due.day(sorted, "o2"), 1);
        Due.lie("o2", sorted, 0, 3, 1, 2, 4);
        Due.due("o0, o1", Due.day(sorted, "o0o1"), 2);
        Due.lie("o0, o1", sorted, 3, 0, 2, 4, 1);
        Due.due("a long day", Due.day(sorted, "o3o3o3o3o3o3o3o3o3o3o3o3o3o3o3o3o3o3o3o3o3o3o3o3o3o3o3o3o3o3o3o3o3o3o3o3o3o3o3o3"), 40);
        Due.lie("a long day", sorted, 3, 0, 2, 4, 1);
    }

    private static void promise36Wrong() {
        NumberedAnew x = Due.with("a;b;a;b");
        x.list(0);
        String[] texts = {"x", "s", "s0", "s000", "s00x1", "s000x", "m", "m001", "h", "h0", "h:", "hx", "o", "o4", "o/",
            "c", "c1", "cx", "c1x", "s0001x", "s0001h", "s0001 o3", "h1h0", "o3o4", "c01c", "S0001", ";", "\0", "o3\0",
            "0", "s-001"};
        int[] places = {0, 1, 2, 4, 3, 4, 1, 4, 1, 1, 1, 1, 1, 1, 1, 1, 2, 1, 2, 5, 6, 5, 3, 3, 4, 0, 0, 0, 2, 0, 1};
        for (int i = 0; i < texts.length; i++) {
            Due.due("a day " + texts[i], Due.day(x, texts[i]), -1 - places[i]);
        }
        Due.lie("wrong days", x, 0, 1, 2, 3);
        Due.due("count(2)", x.count(2), 1);
        Due.row("wrong days", x, 0, 2);
    }

    private static void promise37() {
        NumberedAnew x = Due.with("a;b;c");
        for (int i = 0; i < 12; i++) {
            x.swaps(i % 2, 2);
        }
        Due.due("count(2) of 13", x.count(2), 10);
        for (int left = 9; left >= 0; left--) {
            Due.due("undo()", x.undo(), left);
        }
        Due.due("undo() of none", x.undo(), -1);
        NumberedAnew two = Due.with("a;b;c");
        two.swaps(0, 2);
        two.swaps(1, 2);
        Due.lie("two swaps of twelve", x, two.at(0), two.at(1), two.at(2));
        Due.row("undo()", x);
        NumberedAnew forgets = Due.with("a;b");
        forgets.keep(0);
        forgets.swaps(0, 1);
        Due.due("again(1) is refused", forgets.again(1), false);
        Due.due("count(2)", forgets.count(2), 2);
        Due.due("again(0)", forgets.again(0), true);
        Due.due("count(2)", forgets.count(2), 0);
        Due.due("undo() behind again()", forgets.undo(), -1);
    }

    /** Each call that can be undone, one behind another. */
    private static void promise37All() {
        NumberedAnew x = Due.with("a;b;b;b;a;a");
        Due.order(x, "050403020100");
        int[][] ahead = new int[9][];
        ahead[2] = lying(x);
        x.halves(1);
        ahead[3] = lying(x);
        x.sorts(0);
        ahead[4] = lying(x);
        x.swaps(0, 5);
        ahead[5] = lying(x);
        x.moves(0, 5);
        x.moves(3, 1);
        x.undo();
        ahead[6] = lying(x);
        x.climbs(1);
        ahead[7] = lying(x);
        Due.day(x, "o3");
        ahead[8] = lying(x);
        Due.documents(x, "h");
        Due.due("count(2)", x.count(2), 9);
        Due.due("undo() of documents()", x.undo(), 8);
        Due.terms("undo() of documents()", x, 1, 2, 2, 2, 1, 1);
        Due.lie("undo() of documents()", x, ahead[8]);
        for (int left = 7; left >= 2; left--) {
            Due.due("undo()", x.undo(), left);
            Due.lie("undo() with " + left + " left", x, ahead[left]);
        }
        Due.lie("undo() of halves()", x, 5, 4, 3, 2, 1, 0);
        Due.due("undo() of order()", x.undo(), 1);
        Due.lie("undo() of order()", x, 0, 1, 2, 3, 4, 5);
        Due.due("undo() of documents()", x.undo(), 0);
        Due.due("count(0)", x.count(0), 0);
        // Questions, what is heard and what is kept leave nothing to be undone.
        x.best();
        x.would(1);
        x.heard(0, 0, 1);
        x.keep(0);
        x.years(1, 1, 1);
        x.sheet(0, 1, 1, 1);
        x.forget();
        Due.due("count(2)", x.count(2), 0);
    }

    private static int[] lying(NumberedAnew x) {
        int[] lying = new int[x.count(0)];
        for (int number = 0; number < lying.length; number++) {
            lying[number] = x.at(number);
        }
        return lying;
    }

    private static void promise37Day() {
        NumberedAnew x = Due.with("a;b;a;b");
        x.keep(1);
        Due.due("a day of 12 acts", Due.day(x, "o3o3o3o3o3o3o3o3o3o3o3s0001"), 12);
        Due.due("count(2)", x.count(2), 2);
        Due.due("undo()", x.undo(), 1);
        Due.lie("undo()", x, 0, 1, 2, 3);
        Due.due("undo()", x.undo(), 0);
        Due.due("again(1)", x.again(1), true);
        Due.lie("again(1)", x, 0, 1, 2, 3);
    }

    private static void promise38() {
        // Of 5: the first draws by seed 1 are 16838 and 38526, so numbers 3 and 1.
        NumberedAnew x = Due.with("a;-;-;b;-");
        Due.due("years(1, 1, 1)", x.years(1, 1, 1), 6);
        Due.row("years(1, 1, 1)", x, 4, 1);
        // The third and the fourth draw, 10113 and 50283, are both 3 of 5.
        Due.due("years(1, 2, 1)", x.years(1, 2, 1), 6);
        Due.row("years(1, 2, 1)", x, 4, 1);
        Due.lie("years()", x, 0, 1, 2, 3, 4);
        Due.due("count(2)", x.count(2), 1);
        NumberedAnew four = Due.with("a;b;a;b");
        // Of 4 both draws are 2: nothing is swapped, and halving goes on as halves(2) would.
        Due.due("years(1, 1, 2)", four.years(1, 1, 2), 10);
        Due.row("years(1, 1, 2)", four, 10, 4);
        four.heard(0, 0, 1);
        Due.due("years(1, 2, 1)", four.years(1, 2, 1), 10);
        Due.due("count(3) behind years()", four.count(3), 1);
        Due.lie("years()", four, 0, 1, 2, 3);
    }

    private static void promise38Wrong() {
        NumberedAnew x = Due.with("a");
        int[][] wrong = {{1, 0, 1}, {1, 21, 1}, {1, 1, 0}, {1, 1, 10}, {1, -1, -1}, {0, Integer.MAX_VALUE, 1}};
        for (int[] one : wrong) {
            Due.due("years(" + one[0] + ", " + one[1] + ", " + one[2] + ")", x.years(one[0], one[1], one[2]), -1);
        }
        Due.due("years(1, 1, 1) of one", x.years(1, 1, 1), -2);
        Due.row("refused years()", x);
        NumberedAnew two = Due.with("a;b");
        Due.due("years(min, 20, 9)", two.years(Integer.MIN_VALUE, 20, 9), 4);
        Due.due("years(-1, 20, 9)", two.years(-1, 20, 9), 4);
    }
}
