/** Promises 17 to 25; the numbers are worked out by hand from the document's words. */
final class AnewTest {
    private static final String FAR = "-;-;-;a;-;-;-;b;-;-;-;c";

    public static void main(String[] args) {
        promise17();
        promise17Ties();
        promise17Wrong();
        promise18();
        promise19();
        promise20();
        promise20Ties();
        promise21();
        promise22();
        promise23();
        promise24();
        promise25();
        Due.ends();
    }

    private static void promise17() {
        NumberedAnew x = Due.with("a;b;b;b;a;a");
        Due.due("halves(9)", x.halves(9), 1);
        Due.row("halves(9)", x, 12, 10);
        Due.lie("halves(9)", x, 3, 1, 2, 0, 4, 5);
        Due.terms("halves(9)", x, 1, 2, 2, 2, 1, 1);
        Due.due("count(2)", x.count(2), 2);
        Due.due("halves(1) again", x.halves(1), 0);
        Due.row("halves(1) again", x, 10, 10);
        Due.due("count(2) behind a halving without a swap", x.count(2), 3);
        NumberedAnew rounds = Due.with("a;b;a;b");
        Due.due("halves(3)", rounds.halves(3), 6);
        Due.lie("halves(3)", rounds, 2, 3, 0, 1);
        Due.due("halves(2)", rounds.halves(2), 4);
        Due.lie("halves(2)", rounds, 2, 3, 0, 1);
        NumberedAnew two = Due.with("-;a");
        Due.due("halves(1) of two", two.halves(1), 0);
        Due.row("halves(1) of two", two, 3, 3);
        // The first half of 5 has 3. b: 1 of 3 and 1 of 2 weigh 2; 0 and 2 would weigh 0, 2 and 0 would weigh 2.
        NumberedAnew odd = Due.with("a;a;b;-;b");
        Due.due("gain(2)", odd.gain(2), 1002);
        Due.due("gain(4)", odd.gain(4), 1000);
        Due.due("gain(3)", odd.gain(3), 1000);
        Due.due("halves(9) of five", odd.halves(9), 1);
        Due.lie("halves(9) of five", odd, 0, 1, 3, 2, 4);
        Due.row("halves(9) of five", odd, 2 + 3 + 3, 2 + 5 + 1);
        // No swap of all, but one in the first half of the first half, whose own halves have 2 and 1.
        NumberedAnew inner = Due.with("-;b;-;a;-");
        Due.due("halves(1) of a half", inner.halves(1), 1);
        Due.lie("halves(1) of a half", inner, 0, 2, 1, 3, 4);
    }

    /** All gains are alike, so the documents swap as they lie. */
    private static void promise17Ties() {
        NumberedAnew x = Due.with("a;b;a;b");
        Due.due("order()", Due.order(x, "03020100"), 4);
        Due.due("halves(1)", x.halves(1), 2);
        Due.lie("halves(1)", x, 1, 0, 3, 2);
    }

    private static void promise17Wrong() {
        NumberedAnew x = Due.with("a");
        x.list(0);
        int[] wrong = {0, 10, -1, Integer.MAX_VALUE, Integer.MIN_VALUE};
        for (int r : wrong) {
            Due.due("halves(" + r + ") of one", x.halves(r), -1);
            Due.due("would(" + r + ") of one", x.would(r), -1);
        }
        Due.due("halves(1) of one", x.halves(1), -2);
        Due.due("would(1) of one", x.would(1), -2);
        Due.due("count(2)", x.count(2), 1);
        Due.row("refused halves()", x, 0);
    }

    private static void promise18() {
        NumberedAnew x = Due.with("a;b;b;b;a;a");
        Due.due("would(9)", x.would(9), 1);
        Due.row("would(9)", x, 12, 10);
        Due.lie("would(9)", x, 0, 1, 2, 3, 4, 5);
        Due.due("count(2)", x.count(2), 1);
        Due.due("halves(9)", x.halves(9), 1);
    }

    private static void promise19() {
        NumberedAnew x = Due.with("a;a;b;b");
        Due.due("gain(0)", x.gain(0), 998);
        Due.row("gain(0)", x, 1);
        Due.due("gain(2)", x.gain(2), 998);
        Due.row("gain(2)", x, 2);
        Due.due("order()", Due.order(x, "02010003"), 2);
        Due.due("gain(0)", x.gain(0), 1002);
        Due.row("gain(0)", x, 2);
        Due.due("gain(4)", x.gain(4), -1);
        Due.due("gain(-1)", x.gain(-1), -1);
        Due.row("gain(-1)", x, 2);
        NumberedAnew six = Due.with("ab;b;-;-;a;ab");
        // a: 1 of 3 and 2 of 3 weigh 1 and 2, 0 and 3 would weigh 0 and 0; b: 2 and 1 weigh 3, 1 and 2 too.
        Due.due("gain(0) of two terms", six.gain(0), 1003);
        Due.due("gain(2) of no term", six.gain(2), 1000);
        Due.due("gain(5) of two terms", six.gain(5), 1003);
        NumberedAnew three = Due.with("-;a;-");
        Due.due("gain(1) of three", three.gain(1), 1001);
        Due.row("gain(1) of three", three, 1);
        NumberedAnew two = Due.with("a;b");
        Due.due("gain(1) of two", two.gain(1), 1000);
        Due.row("gain(1) of two", two, 2);
        NumberedAnew one = Due.with("a");
        Due.due("gain(0) of one", one.gain(0), -2);
        Due.due("gain(1) of one", one.gain(1), -1);
        Due.row("gain() of one", one);
    }

    private static void promise20() {
        NumberedAnew x = Due.with("ab;c;a;abc;b");
        Due.due("sorts(0)", x.sorts(0), 5);
        Due.lie("sorts(0)", x, 2, 4, 0, 1, 3);
        Due.due("sorts(0) again", x.sorts(0), 0);
        Due.due("count(2)", x.count(2), 3);
        Due.due("sorts(1)", x.sorts(1), 5);
        Due.lie("sorts(1)", x, 3, 0, 2, 4, 1);
        Due.due("sorts(3)", x.sorts(3), 4);
        Due.lie("sorts(3)", x, 1, 4, 2, 0, 3);
        x.undo();
        x.undo();
        x.undo();
        x.undo();
        Due.lie("undo()", x, 0, 1, 2, 3, 4);
        Due.due("sorts(2)", x.sorts(2), 3);
        Due.lie("sorts(2)", x, 0, 3, 1, 2, 4);
        Due.due("sorts(4)", x.sorts(4), -1);
        Due.due("sorts(-1)", x.sorts(-1), -1);
        Due.due("count(2)", x.count(2), 2);
        Due.row("sorts()", x);
        NumberedAnew one = Due.with("b");
        for (int how = 0; how < 4; how++) {
            Due.due("sorts(" + how + ") of one", one.sorts(how), 0);
        }
        Due.due("count(2)", one.count(2), 5);
    }

    /** Like ones stay as they lie by their numbers, not by which documents they are. */
    private static void promise20Ties() {
        NumberedAnew x = Due.with("b;a;b;a");
        Due.due("order()", Due.order(x, "03020100"), 4);
        Due.due("sorts(0)", x.sorts(0), 2);
        Due.lie("sorts(0)", x, 3, 1, 2, 0);
        NumberedAnew many = Due.with("b;ab;a;cd");
        Due.due("order()", Due.order(many, "03020100"), 4);
        Due.due("sorts(1)", many.sorts(1), 2);
        Due.lie("sorts(1)", many, 3, 1, 2, 0);
        NumberedAnew alike = Due.with("b;ab;a;c");
        Due.due("order()", Due.order(alike, "03020100"), 4);
        // c is as little alike to a as to b; of those left a lies first; then ab (9) comes ahead of b (-2).
        Due.due("sorts(2)", alike.sorts(2), 0);
        Due.lie("sorts(2)", alike, 3, 2, 1, 0);
    }

    private static void promise21() {
        NumberedAnew x = Due.with("a;b;a;b");
        Due.due("swaps(0, 3)", x.swaps(0, 3), 1004);
        Due.lie("swaps(0, 3)", x, 3, 1, 2, 0);
        Due.due("swaps(3, 0)", x.swaps(3, 0), 996);
        Due.lie("swaps(3, 0)", x, 0, 1, 2, 3);
        Due.due("swaps(0, 2) of like ones", x.swaps(0, 2), 1000);
        Due.lie("swaps(0, 2)", x, 2, 1, 0, 3);
        Due.due("count(2)", x.count(2), 4);
        Due.due("swaps(1, 1)", x.swaps(1, 1), -2);
        Due.due("swaps(4, 4)", x.swaps(4, 4), -1);
        Due.due("swaps(4, 0)", x.swaps(4, 0), -1);
        Due.due("swaps(0, -1)", x.swaps(0, -1), -1);
        Due.due("swaps(-1, -1)", x.swaps(-1, -1), -1);
        Due.due("count(2)", x.count(2), 4);
        Due.row("swaps()", x);
    }

    private static void promise22() {
        NumberedAnew x = Due.with("a;b;a;b");
        Due.due("moves(0, 1)", x.moves(0, 1), 1002);
        Due.lie("moves(0, 1)", x, 1, 0, 2, 3);
        Due.due("moves(3, 0)", x.moves(3, 0), 1002);
        Due.lie("moves(3, 0)", x, 3, 1, 0, 2);
        Due.due("moves(0, 3)", x.moves(0, 3), 998);
        Due.lie("moves(0, 3)", x, 1, 0, 2, 3);
        Due.due("count(2)", x.count(2), 4);
        Due.due("moves(1, 1)", x.moves(1, 1), -2);
        Due.due("moves(4, 4)", x.moves(4, 4), -1);
        Due.due("moves(4, 0)", x.moves(4, 0), -1);
        Due.due("moves(0, -1)", x.moves(0, -1), -1);
        Due.due("count(2)", x.count(2), 4);
        Due.row("moves()", x);
        NumberedAnew four = Due.with("a;b;c;d");
        four.moves(0, 2);
        Due.lie("moves(0, 2)", four, 1, 2, 0, 3);
        four.moves(3, 1);
        Due.lie("moves(3, 1)", four, 1, 3, 2, 0);
    }

    private static void promise23() {
        NumberedAnew x = Due.with("-;a;b");
        Due.due("best()", x.best(), 2);
        Due.row("best()", x, 0, 1);
        Due.lie("best()", x, 0, 1, 2);
        Due.due("count(2)", x.count(2), 1);
        NumberedAnew far = Due.with(FAR);
        Due.due("best() of far ones", far.best(), 6);
        Due.row("best() of far ones", far, 0, 7);
        NumberedAnew good = Due.with("a;a;b");
        good.list(0);
        Due.due("best() of good ones", good.best(), -2);
        Due.row("best() of good ones", good, 0, 1);
        NumberedAnew one = Due.with("a");
        Due.due("best() of one", one.best(), -2);
    }

    private static void promise24() {
        NumberedAnew x = Due.with("-;a;a;-");
        Due.due("place(0)", x.place(0), 2);
        Due.row("place(0)", x, 2);
        Due.lie("place(0)", x, 0, 1, 2, 3);
        Due.due("place(1)", x.place(1), 0);
        Due.row("place(1)", x, 4);
        Due.due("place(4)", x.place(4), -1);
        Due.due("place(-1)", x.place(-1), -1);
        Due.row("place(-1)", x, 4);
        Due.due("count(2)", x.count(2), 1);
        NumberedAnew two = Due.with("a;a");
        Due.due("place(1) of two like ones", two.place(1), 0);
        Due.row("place(1) of two like ones", two, 2);
        NumberedAnew turned = Due.with("a;-;-");
        turned.sorts(3);
        Due.due("place(0) that has number 2", turned.place(0), 0);
        Due.row("place(0) that has number 2", turned, 1);
        NumberedAnew one = Due.with("c");
        Due.due("place(0) of one", one.place(0), 0);
        Due.row("place(0) of one", one, 1);
    }

    private static void promise25() {
        int[] most = {1, 2, 3, 20};
        int[] done = {1, 2, 3, 3};
        int[] left = {13, 9, 7, 7};
        for (int i = 0; i < most.length; i++) {
            NumberedAnew x = Due.with(FAR);
            Due.due("climbs(" + most[i] + ")", x.climbs(most[i]), done[i]);
            Due.row("climbs(" + most[i] + ")", x, left[i]);
            Due.due("all(1)", x.all(1), left[i]);
            Due.due("count(2)", x.count(2), 2);
        }
        NumberedAnew x = Due.with(FAR);
        x.climbs(20);
        Due.lie("climbs(20)", x, 7, 11, 3, 2, 4, 5, 6, 0, 8, 9, 10, 1);
        Due.due("climbs(20) again", x.climbs(20), 0);
        Due.row("climbs(20) again", x, 7);
        Due.due("count(2) behind a climb without a swap", x.count(2), 3);
        int[] wrong = {0, 21, -1, Integer.MAX_VALUE, Integer.MIN_VALUE};
        for (int n : wrong) {
            Due.due("climbs(" + n + ")", x.climbs(n), -1);
        }
        Due.due("count(2)", x.count(2), 3);
        Due.row("refused climbs()", x, 7);
    }
}
