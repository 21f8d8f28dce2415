/** Promises 1 to 8. */
final class TextsTest {
    public static void main(String[] args) {
        promise1();
        promise2();
        promise3();
        promise4();
        promise4Wrong();
        promise5();
        promise5Wrong();
        promise6and7();
        promise8();
        promise8AndUndo();
        Due.ends();
    }

    private static void promise1() {
        NumberedAnew x = new NumberedAnew();
        for (int what = 0; what < 7; what++) {
            Due.due("count(" + what + ") of a new one", x.count(what), 0);
        }
        Due.row("new", x);
        Due.noDocument(x, 0, 0);
        Due.noNumber(x, 0);
        Due.due("undo() of a new one", x.undo(), -1);
        Due.due("again(0) of a new one", x.again(0), false);
        Due.due("again(1) of a new one", x.again(1), false);
    }

    private static void promise2() {
        NumberedAnew x = new NumberedAnew();
        for (int i = 1; i <= 20; i++) {
            Due.due("sign() number " + i, x.sign(0x61626364), 4 * i);
        }
        Due.due("sign() number 21", x.sign(0x61626364), -1);
        Due.due("count(5)", x.count(5), 80);
        Due.due("end(77)", x.end(77), true);
        Due.due("sign() behind 77", x.sign(0), -1);
        Due.due("end(76)", x.end(76), true);
        Due.due("sign() behind 76", x.sign(0), 80);
        NumberedAnew high = new NumberedAnew();
        Due.due("sign(0x612D3B62)", high.sign(0x613B2D3B), 4);
        Due.due("sign(0x62000000)", high.sign(0x62000000), 8);
        Due.due("end(5)", high.end(5), true);
        Due.due("documents() of the highest byte first", high.documents(), 3);
        Due.terms("a;-;b", high, 1, 0, 2);
    }

    private static void promise3() {
        NumberedAnew x = new NumberedAnew();
        Due.due("end(0)", x.end(0), true);
        Due.due("end(1)", x.end(1), false);
        Due.due("end(-1)", x.end(-1), false);
        x.sign(0x61626364);
        Due.due("end(5)", x.end(5), false);
        Due.due("end(-1)", x.end(-1), false);
        Due.due("end(min)", x.end(Integer.MIN_VALUE), false);
        Due.due("end(max)", x.end(Integer.MAX_VALUE), false);
        Due.due("count(5)", x.count(5), 4);
        Due.due("end(4)", x.end(4), true);
        Due.due("end(2)", x.end(2), true);
        Due.due("count(5)", x.count(5), 2);
        Due.due("end(3)", x.end(3), false);
        Due.due("documents()", x.documents(), 1);
        Due.due("document(0, 0)", x.document(0, 0), 3);
    }

    private static void promise4() {
        NumberedAnew x = Due.with("abcdefgh;-;h;ah;bdf");
        Due.terms("documents()", x, 255, 0, 128, 129, 42);
        Due.lie("documents()", x, 0, 1, 2, 3, 4);
        Due.due("count(2)", x.count(2), 1);
        Due.due("sorts(3)", x.sorts(3), 4);
        Due.due("documents() anew", Due.documents(x, "b;a"), 2);
        Due.lie("documents() anew", x, 0, 1);
        Due.terms("documents() anew", x, 2, 1);
        Due.due("documents() of an empty text", x.documents(), 0);
        Due.due("count(0)", x.count(0), 0);
        Due.due("count(2)", x.count(2), 4);
        Due.due("16 documents", Due.documents(x, "a;a;a;a;a;a;a;a;a;a;a;a;a;a;a;-"), 16);
        Due.due("count(6)", x.count(6), 15);
        Due.row("documents()", x);
    }

    private static void promise4Wrong() {
        NumberedAnew x = Due.with("a;b;c");
        x.list(0);
        String[] texts = {";", "a;;b", "aa", "ba", "abb", "a-", "-a", "--", "i", "A", " ", "a ", "a;", "-;", "a,b",
            "ab;ba", "a;b;i", "a;b;c;", "a\0", "\0", "a\u00e1", "`",
            "a;a;a;a;a;a;a;a;a;a;a;a;a;a;a;a;", "a;a;a;a;a;a;a;a;a;a;a;a;a;a;a;a;a", "a;a;a;a;a;a;a;a;a;a;a;a;a;a;a;ac;x"};
        int[] places = {0, 2, 1, 1, 2, 1, 1, 1, 0, 0, 0, 1, 2, 2, 1, 4, 4, 6, 1, 0, 1, 0, 31, 31, 32};
        for (int i = 0; i < texts.length; i++) {
            Due.due("documents() of " + texts[i], Due.documents(x, texts[i]), -1 - places[i]);
        }
        Due.terms("wrong documents()", x, 1, 2, 4);
        Due.due("count(2)", x.count(2), 1);
        Due.row("wrong documents()", x, 0);
    }

    private static void promise5() {
        NumberedAnew x = Due.with("a;b;c;d");
        Due.due("order() as it is", Due.order(x, "00010203"), 0);
        Due.due("count(2)", x.count(2), 2);
        Due.due("order()", Due.order(x, "03000102"), 4);
        Due.lie("order()", x, 3, 0, 1, 2);
        Due.due("order()", Due.order(x, "00030102"), 2);
        Due.lie("order()", x, 0, 3, 1, 2);
        Due.terms("order()", x, 1, 2, 4, 8);
        Due.due("undo()", x.undo(), 3);
        Due.lie("undo()", x, 3, 0, 1, 2);
        NumberedAnew none = new NumberedAnew();
        Due.due("order() of none", none.order(), 0);
        Due.due("count(2)", none.count(2), 1);
        Due.due("order() of one too many", Due.order(none, "00"), -1);
        NumberedAnew many = Due.with("a;a;a;a;a;a;a;a;a;a;a;a;a;a;a;-");
        Due.due("order() of 16", Due.order(many, "15141312111009080706050403020100"), 16);
        Due.due("at(0)", many.at(0), 15);
        Due.row("order()", many);
    }

    private static void promise5Wrong() {
        NumberedAnew x = Due.with("a;b;c");
        Due.due("order()", Due.order(x, "020100"), 2);
        String[] texts = {"", "0", "00", "0001", "00010", "03", "0000", "000100", "000103", "0001020", "000102x",
            "00010203", "x", "0x", "00x", "000:", "99", "9", "9x", "-1", "0001/2", "00 10 2", "1", "10"};
        int[] places = {0, 1, 2, 4, 5, 1, 3, 5, 5, 6, 6, 6, 0, 1, 2, 3, 1, 1, 1, 0, 4, 2, 1, 1};
        for (int i = 0; i < texts.length; i++) {
            Due.due("order() of " + texts[i], Due.order(x, texts[i]), -1 - places[i]);
        }
        Due.lie("wrong order()", x, 2, 1, 0);
        Due.due("count(2)", x.count(2), 2);
    }

    private static void promise6and7() {
        NumberedAnew x = Due.with("bch;-;a");
        Due.order(x, "020001");
        Due.due("document(0, 0)", x.document(0, 0), 134);
        Due.due("document(0, 1)", x.document(0, 1), 1);
        Due.due("document(0, 2)", x.document(0, 2), 3);
        Due.due("document(1, 1)", x.document(1, 1), 2);
        Due.due("document(1, 2)", x.document(1, 2), 0);
        Due.due("document(2, 1)", x.document(2, 1), 0);
        Due.due("at(0)", x.at(0), 2);
        Due.due("at(1)", x.at(1), 0);
        Due.due("at(2)", x.at(2), 1);
        int[] wrong = {-1, 3, 16, Integer.MAX_VALUE, Integer.MIN_VALUE};
        for (int which : wrong) {
            Due.noDocument(x, which, 0);
            Due.noDocument(x, 0, which);
            Due.noNumber(x, which);
        }
    }

    private static void promise8() {
        NumberedAnew x = Due.with("a;b;c;d");
        Due.order(x, "03020100");
        Due.due("sheet(0, 3, 255, 1)", x.sheet(0, 3, 255, 1), 2);
        Due.terms("sheet(0, 3, 255, 1)", x, 255, 0, 1, 0);
        Due.lie("sheet()", x, 3, 2, 1, 0);
        Due.due("sheet(1, 16, -1, -256)", x.sheet(1, 16, -1, -256), 4);
        Due.terms("sheet(1, 16, -1, -256)", x, 255, 255, 255, 255);
        Due.due("sheet(2, 4, max, 2)", x.sheet(2, 4, Integer.MAX_VALUE, 2), 4);
        Due.terms("sheet(2, 4, max, 2)", x, 255, 1, 3, 5);
        Due.due("sheet(2, 4, 0, min)", x.sheet(2, 4, 0x7f0, Integer.MIN_VALUE), 4);
        Due.terms("sheet(2, 4, 0x7f0, min)", x, 240, 240, 240, 240);
        Due.due("sheet(2, -1, 1, 1)", x.sheet(2, -1, 1, 1), -2);
        Due.due("sheet(0, min, 1, 1)", x.sheet(0, Integer.MIN_VALUE, 1, 1), -2);
        Due.due("sheet(2, 17, 1, 1)", x.sheet(2, 17, 1, 1), -1);
        Due.due("sheet(3, 17, 1, 1)", x.sheet(3, 17, 1, 1), -1);
        Due.due("sheet(4, 1, 1, 1)", x.sheet(4, 1, 1, 1), -1);
        Due.due("sheet(-1, -1, 1, 1)", x.sheet(-1, -1, 1, 1), -1);
        Due.due("sheet(4, -1, 1, 1)", x.sheet(4, -1, 1, 1), -1);
        Due.terms("refused sheets", x, 240, 240, 240, 240);
        Due.due("sheet(0, 0, 1, 1)", x.sheet(0, 0, 1, 1), 0);
        Due.terms("sheet(0, 0, 1, 1)", x, 0, 0, 0, 0);
        Due.due("sheet(1, 2, 3, 4)", x.sheet(1, 2, 3, 4), 2);
        Due.due("sheet(3, -5, 1, 1)", x.sheet(3, -5, 1, 1), -3);
        Due.terms("sheet(3, -5, 1, 1)", x, 0, 0, 0, 0);
        Due.due("count(2)", x.count(2), 2);
        Due.row("sheet()", x);
        NumberedAnew none = new NumberedAnew();
        Due.due("sheet() of none", none.sheet(0, 16, 1, 1), 0);
        Due.due("sheet(3) of none", none.sheet(3, 0, 0, 0), -3);
        Due.due("count(0)", none.count(0), 0);
    }

    private static void promise8AndUndo() {
        NumberedAnew x = Due.with("a;b");
        x.swaps(0, 1);
        x.sheet(0, 2, 7, 0);
        Due.terms("sheet()", x, 7, 7);
        Due.due("undo()", x.undo(), 1);
        Due.terms("undo() of what was ahead of a sheet", x, 1, 2);
        Due.lie("undo() of what was ahead of a sheet", x, 0, 1);
    }
}
