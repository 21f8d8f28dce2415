/** Promises 9 to 16. */
final class ListsTest {
    /** By hand: list a: 0, 1, 3, 7, 15, gaps 1, 1, 2, 4, 8. */
    private static final String DOUBLING = "a;a;-;a;-;-;-;a;-;-;-;-;-;-;-;a";
    private static final String LATE = "-;-;-;-;-;-;-;-;-;-;-;-;-;-;-;h";

    public static void main(String[] args) {
        promise9();
        promise10();
        promise11();
        promise12();
        promise13();
        promise14();
        promise14Wrong();
        promise14Back();
        promise15();
        promise16();
        Due.ends();
    }

    private static void promise9() {
        NumberedAnew x = Due.with(DOUBLING);
        Due.due("list(0)", x.list(0), 5);
        Due.row("list(0)", x, 0, 1, 3, 7, 15);
        Due.due("list(-1)", x.list(-1), -1);
        Due.due("list(8)", x.list(8), -1);
        Due.due("list(max)", x.list(Integer.MAX_VALUE), -1);
        Due.row("list(8)", x, 0, 1, 3, 7, 15);
        x.sorts(3);
        Due.due("list(0)", x.list(0), 5);
        Due.row("list(0)", x, 0, 8, 12, 14, 15);
        Due.due("list(7)", x.list(7), 0);
        Due.row("list(7)", x);
    }

    private static void promise10() {
        NumberedAnew x = Due.with(DOUBLING);
        long[] due = {16, 1 + 1 + 3 + 5 + 7, 1 + 1 + 4 + 5 + 8, 25};
        for (int code = 0; code < 4; code++) {
            Due.due("bits(0, " + code + ")", x.bits(0, code), due[code]);
            Due.row("bits(0, " + code + ")", x, 8);
        }
        Due.due("bits(1, 0)", x.bits(1, 0), 0);
        Due.row("bits(1, 0)", x, 0);
        NumberedAnew late = Due.with(LATE);
        long[] lateDue = {16, 9, 9, 5};
        for (int code = 0; code < 4; code++) {
            Due.due("bits(7, " + code + ")", late.bits(7, code), lateDue[code]);
            Due.row("bits(7, " + code + ")", late, 16);
        }
        Due.due("bits(7, 4)", late.bits(7, 4), -1);
        Due.due("bits(7, -1)", late.bits(7, -1), -1);
        Due.due("bits(8, 0)", late.bits(8, 0), -1);
        Due.due("bits(-1, 0)", late.bits(-1, 0), -1);
        Due.row("refused bits()", late, 16);
        NumberedAnew seven = Due.with("-;-;-;-;-;-;b");
        long[] sevenDue = {7, 5, 5, 3};
        for (int code = 0; code < 4; code++) {
            Due.due("bits(1, " + code + ")", seven.bits(1, code), sevenDue[code]);
        }
    }

    private static void promise11() {
        NumberedAnew x = Due.with("ah;h;-;ah");
        Due.due("all(0)", x.all(0), 8);
        Due.row("all(0)", x, 4, 0, 0, 0, 0, 0, 0, 4);
        Due.due("all(1)", x.all(1), 9);
        Due.row("all(1)", x, 4, 0, 0, 0, 0, 0, 0, 5);
        Due.due("all(2)", x.all(2), 5 + 6);
        Due.row("all(2)", x, 5, 0, 0, 0, 0, 0, 0, 6);
        Due.due("all(3)", x.all(3), 15);
        Due.row("all(3)", x, 6, 0, 0, 0, 0, 0, 0, 9);
        Due.due("all(4)", x.all(4), -1);
        Due.due("all(-1)", x.all(-1), -1);
        Due.row("all(-1)", x, 6, 0, 0, 0, 0, 0, 0, 9);
    }

    private static void promise12() {
        NumberedAnew x = Due.with(DOUBLING);
        Due.due("shortest(0)", x.shortest(0), 0);
        Due.row("shortest(0)", x, 16);
        Due.due("shortest(1)", x.shortest(1), -2);
        Due.due("shortest(8)", x.shortest(8), -1);
        Due.due("shortest(-1)", x.shortest(-1), -1);
        Due.row("shortest(8)", x, 16);
        NumberedAnew late = Due.with(LATE);
        Due.due("shortest(7)", late.shortest(7), 3);
        Due.row("shortest(7)", late, 5);
        NumberedAnew gamma = Due.with("a;-;-;-;-;-;-;-;a;a;-;-;-;-;-;-");
        Due.due("shortest(0) of gaps 1, 8, 1", gamma.shortest(0), 1);
        Due.row("shortest(0) of gaps 1, 8, 1", gamma, 9);
        NumberedAnew first = Due.with("a;a;-");
        Due.due("shortest(0) of equal ones", first.shortest(0), 0);
        Due.row("shortest(0) of equal ones", first, 2);
        NumberedAnew three = Due.with("-;-;a");
        Due.due("shortest(0) of a gap 3 of 3", three.shortest(0), 3);
        Due.row("shortest(0) of a gap 3 of 3", three, 2);
    }

    private static void promise13() {
        NumberedAnew x = Due.with(DOUBLING);
        Due.due("written(0, 0)", x.written(0, 0), 2);
        Due.row("written(0, 0)", x, 0b00101110, 0b11111110);
        Due.due("written(0, 1)", x.written(0, 1), 3);
        Due.row("written(0, 1)", x, 0b11010001, 0b00000100, 0b00000000);
        Due.due("written(0, 2)", x.written(0, 2), 3);
        Due.row("written(0, 2)", x, 0b11010001, 0b10000100, 0b00000000);
        Due.due("written(0, 3)", x.written(0, 3), 4);
        Due.row("written(0, 3)", x, 0b00001000, 0b01000100, 0b01000100, 0b00000000);
        Due.due("written(1, 2)", x.written(1, 2), 0);
        Due.row("written(1, 2)", x);
        x.list(0);
        Due.due("written(0, 4)", x.written(0, 4), -1);
        Due.due("written(0, -1)", x.written(0, -1), -1);
        Due.due("written(8, 0)", x.written(8, 0), -1);
        Due.due("written(-1, 0)", x.written(-1, 0), -1);
        Due.row("refused written()", x, 0, 1, 3, 7, 15);
        NumberedAnew all = Due.with("c;c;c;c;c;c;c;c;c;c;c;c;c;c;c;c");
        Due.due("written(2, 3) of 16", all.written(2, 3), 10);
        Due.row("written(2, 3) of 16", all, 8, 66, 16, 132, 33, 8, 66, 16, 132, 33);
        Due.due("written(2, 0) of 16", all.written(2, 0), 2);
        Due.row("written(2, 0) of 16", all, 0, 0);
        Due.due("written(2, 1) of 16", all.written(2, 1), 2);
        Due.row("written(2, 1) of 16", all, 255, 255);
        NumberedAnew eight = Due.with("-;-;-;-;-;-;-;a");
        Due.due("written(0, 0) of a whole byte", eight.written(0, 0), 1);
        Due.row("written(0, 0) of a whole byte", eight, 254);
    }

    private static int reads(NumberedAnew x, String text, int code, int n) {
        Due.say(x, text);
        int answer = x.read(code, n);
        Due.due("count(5) behind read()", x.count(5), 0);
        return answer;
    }

    private static String bytes(int... numbers) {
        StringBuilder signs = new StringBuilder();
        for (int number : numbers) {
            signs.append((char) number);
        }
        return signs.toString();
    }

    private static void promise14() {
        NumberedAnew x = Due.with("a;b;c;d;e");
        Due.due("read unary", reads(x, bytes(0b00101110, 0b11111110), 0, 5), 16);
        Due.row("read unary", x, 0, 1, 3, 7, 15);
        Due.due("read gamma", reads(x, bytes(0b11010001, 0b00000100, 0b00000000), 1, 5), 17);
        Due.row("read gamma", x, 0, 1, 3, 7, 15);
        Due.due("read delta", reads(x, bytes(0b11010001, 0b10000100, 0b00000000), 2, 5), 19);
        Due.row("read delta", x, 0, 1, 3, 7, 15);
        Due.due("read plain, 3 digits of 5", reads(x, bytes(0b11100110), 3, 2), 6);
        Due.row("read plain", x, 6, 7);
        Due.due("read 0 of none", reads(x, "", 3, 0), 0);
        Due.row("read 0 of none", x);
        Due.due("read gamma 255", reads(x, bytes(1, 0b11111110), 1, 1), 15);
        Due.row("read gamma 255", x, 254);
        Due.due("read delta 255", reads(x, bytes(0b00010001, 0b11111100), 2, 1), 14);
        Due.row("read delta 255", x, 254);
        StringBuilder ones = new StringBuilder();
        for (int i = 0; i < 31; i++) {
            ones.append((char) 255);
        }
        Due.due("read unary 255", reads(x, ones.toString() + (char) 0b11111100, 0, 1), 255);
        Due.row("read unary 255", x, 254);
        Due.due("read unary 255, 1", reads(x, ones.toString() + (char) 0b11111100, 0, 2), 256);
        Due.row("read unary 255, 1", x, 254, 255);
        Due.due("read unary 256", reads(x, ones.toString() + (char) 0b11111110, 0, 1), -1);
        Due.due("read 16", reads(x, bytes(255, 255), 1, 16), 16);
        Due.due("row(15)", x.row(15), 15);
        Due.due("count(2)", x.count(2), 1);
    }

    private static void promise14Wrong() {
        NumberedAnew x = Due.with("a;b;c;d;e");
        x.list(1);
        Due.due("read(-1, 0)", reads(x, "a", -1, 0), -100);
        Due.due("read(4, 0)", reads(x, "a", 4, 0), -100);
        Due.due("read(0, -1)", reads(x, "a", 0, -1), -100);
        Due.due("read(0, 17)", reads(x, "a", 0, 17), -100);
        Due.due("read(min, max)", reads(x, "", Integer.MIN_VALUE, Integer.MAX_VALUE), -100);
        Due.due("read unary at an end", reads(x, bytes(255), 0, 1), -1);
        Due.due("read unary at an end", reads(x, bytes(0, 255), 0, 16), -9);
        Due.due("read of an empty text", reads(x, "", 0, 1), -1);
        Due.due("read gamma at an end", reads(x, bytes(0b00001111), 1, 1), -1);
        Due.due("read gamma noughts", reads(x, bytes(0, 0, 0), 1, 1), -1);
        Due.due("read gamma 256", reads(x, bytes(0, 0b10000000, 0), 1, 1), -1);
        Due.due("read gamma 1, at an end", reads(x, bytes(0b10000000), 1, 2), -2);
        Due.due("read delta 256", reads(x, bytes(0b00010010, 0, 0, 0), 2, 1), -1);
        Due.due("read delta at an end", reads(x, bytes(0b00010000), 2, 1), -1);
        Due.due("read plain 0", reads(x, bytes(0b00011111), 3, 1), -1);
        Due.due("read plain 1, 0", reads(x, bytes(0b00100011), 3, 2), -2);
        Due.due("read plain at an end", reads(x, bytes(255), 3, 3), -3);
        Due.row("wrong read()", x, 1);
        NumberedAnew none = new NumberedAnew();
        Due.due("read plain without documents", reads(none, bytes(255), 3, 1), -1);
        Due.due("read no plain without documents", reads(none, bytes(255), 3, 0), 0);
    }

    /** What was written is read again. */
    private static void promise14Back() {
        NumberedAnew x = Due.with("ac;b;a;-;bc;abc;c;a;-;b;b;abc;-;ac");
        for (int term = 0; term < 3; term++) {
            for (int code = 0; code < 4; code++) {
                int bytes = x.written(term, code);
                StringBuilder signs = new StringBuilder();
                for (int i = 0; i < bytes; i++) {
                    signs.append((char) x.row(i));
                }
                int many = x.list(term);
                long[] numbers = new long[many];
                for (int i = 0; i < many; i++) {
                    numbers[i] = x.row(i);
                }
                int taken = x.bits(term, code);
                Due.due("read() of written(" + term + ", " + code + ")", reads(x, signs.toString(), code, many), taken);
                Due.row("read() of written(" + term + ", " + code + ")", x, numbers);
            }
        }
    }

    private static void promise15() {
        NumberedAnew x = Due.with("abh;abc;abd;-;a;a;a;a;-;-;-;-;-;-;-;-");
        Due.due("least(0)", x.least(0), 14);
        Due.row("least(0)", x, 11440);
        Due.due("least(1)", x.least(1), 10);
        Due.row("least(1)", x, 560);
        Due.due("least(7)", x.least(7), 4);
        Due.row("least(7)", x, 16);
        Due.due("least(6)", x.least(6), 0);
        Due.row("least(6)", x, 1);
        Due.due("least(8)", x.least(8), -1);
        Due.due("least(-1)", x.least(-1), -1);
        Due.row("least(-1)", x, 1);
        NumberedAnew all = Due.with("a;a;a");
        Due.due("least(0) of all", all.least(0), 0);
        Due.row("least(0) of all", all, 1);
        NumberedAnew eight = Due.with("a;a;a;a;a;a;a;a;-;-;-;-;-;-;-;-");
        Due.due("least(0) of 8 of 16", eight.least(0), 14);
        Due.row("least(0) of 8 of 16", eight, 12870);
    }

    private static void promise16() {
        NumberedAnew x = Due.with("ah;h;-;ah");
        Due.due("audit()", x.audit(), 3 + 2);
        Due.row("audit()", x, 3, 4, 6, 10);
        NumberedAnew all = Due.with("a;a;a;a");
        Due.due("audit() of all", all.audit(), 0);
        Due.row("audit() of all", all, 4, 4, 4, 12);
        NumberedAnew less = Due.with("a;-;-;-;-;-");
        Due.due("audit() above the bits", less.audit(), 3);
        Due.row("audit() above the bits", less, -2, -2, -2, 0);
    }
}
