/** Promises 39 to 42. */
final class KeptTest {
    public static void main(String[] args) {
        promise39and40();
        promise41();
        promise42();
        Due.ends();
    }

    private static void promise39and40() {
        NumberedAnew x = Due.with("a;b;c");
        x.sorts(3);
        Due.due("keep(0)", x.keep(0), true);
        Due.due("again(1)", x.again(1), false);
        Due.due("keep(-1)", x.keep(-1), false);
        Due.due("keep(2)", x.keep(2), false);
        Due.due("again(-1)", x.again(-1), false);
        Due.due("again(2)", x.again(2), false);
        Due.due("again(max)", x.again(Integer.MAX_VALUE), false);
        Due.due("count(2)", x.count(2), 2);
        Due.documents(x, "h;-");
        Due.due("keep(1)", x.keep(1), true);
        Due.due("count(2)", x.count(2), 3);
        x.heard(0, 0, 1);
        x.sign(0x61616161);
        x.list(7);
        Due.due("again(0)", x.again(0), true);
        Due.terms("again(0)", x, 1, 2, 4);
        Due.lie("again(0)", x, 2, 1, 0);
        Due.due("count(2)", x.count(2), 0);
        Due.due("count(3)", x.count(3), 1);
        Due.due("count(5)", x.count(5), 4);
        Due.row("again(0)", x, 0);
        x.sheet(0, 3, 7, 0);
        x.swaps(0, 1);
        Due.due("again(0) once more", x.again(0), true);
        Due.terms("again(0) once more", x, 1, 2, 4);
        Due.lie("again(0) once more", x, 2, 1, 0);
        Due.due("again(1)", x.again(1), true);
        Due.terms("again(1)", x, 128, 0);
        Due.due("keep(0) over what was kept", x.keep(0), true);
        Due.due("again(0)", x.again(0), true);
        Due.terms("again(0)", x, 128, 0);
        NumberedAnew none = new NumberedAnew();
        Due.due("keep(1) of none", none.keep(1), true);
        Due.documents(none, "a");
        Due.due("again(1) of none", none.again(1), true);
        Due.due("count(0)", none.count(0), 0);
    }

    private static void promise41() {
        NumberedAnew x = Due.with("ab;-;bh");
        x.swaps(0, 1);
        x.swaps(1, 0);
        x.heard(0, 0, 1);
        x.heard(1, 0, 1);
        x.all(0);
        x.sign(0);
        long[] due = {3, 131, 3, 2, 8, 4, 4};
        for (int what = 0; what < due.length; what++) {
            Due.due("count(" + what + ")", x.count(what), due[what]);
        }
        int[] wrong = {-1, 7, 100, Integer.MAX_VALUE, Integer.MIN_VALUE};
        for (int what : wrong) {
            Due.due("count(" + what + ")", x.count(what), -1);
        }
    }

    private static void promise42() {
        NumberedAnew x = Due.with("a;-;a");
        Due.row("documents()", x);
        x.list(0);
        Due.row("list(0)", x, 0, 2);
        x.bits(0, 0);
        Due.row("bits(0, 0)", x, 2);
        x.document(0, 0);
        x.at(0);
        x.count(0);
        x.keep(0);
        x.again(0);
        x.sheet(0, 3, 1, 0);
        x.sorts(0);
        x.swaps(0, 1);
        x.moves(0, 2);
        x.undo();
        x.heard(0, 0, 1);
        x.forget();
        Due.order(x, "000102");
        Due.documents(x, "b");
        Due.documents(x, "?");
        Due.row("calls that do not tell of it", x, 2);
    }
}
