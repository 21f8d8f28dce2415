/** Promises 32 to 35. */
final class HeardTest {
    public static void main(String[] args) {
        promise32and33();
        promise32Wrong();
        promise34();
        promise35();
        Due.ends();
    }

    private static void promise32and33() {
        NumberedAnew x = new NumberedAnew();
        Due.due("forget() of nothing", x.forget(), 0);
        for (int i = 1; i <= 8; i++) {
            Due.due("heard() number " + i, x.heard(i % 2, 7, 1), i);
        }
        Due.due("heard() number 9", x.heard(0, 0, 1), -1);
        Due.due("count(3)", x.count(3), 8);
        Due.due("forget()", x.forget(), 8);
        Due.due("forget() again", x.forget(), 0);
        Due.due("heard() anew", x.heard(1, 15, 0), 1);
    }

    private static void promise32Wrong() {
        NumberedAnew x = Due.with("a;b");
        int[][] wrong = {{2, 0, 0}, {-1, 0, 0}, {0, 8, 1}, {0, -1, 1}, {1, 16, 1}, {1, -1, 1}, {0, 0, 2}, {1, 0, -1},
            {Integer.MAX_VALUE, 0, 0}, {0, Integer.MIN_VALUE, 0}, {0, 0, Integer.MIN_VALUE}};
        for (int[] one : wrong) {
            Due.due("heard(" + one[0] + ", " + one[1] + ", " + one[2] + ")", x.heard(one[0], one[1], one[2]), -1);
        }
        Due.due("count(3)", x.count(3), 0);
        Due.due("fits()", x.fits(), 3);
        Due.due("heard(0, 7, 0)", x.heard(0, 7, 0), 1);
        Due.due("heard(1, 15, 0)", x.heard(1, 15, 0), 2);
        Due.due("heard(1, 0, 1)", x.heard(1, 0, 1), 3);
        Due.due("fits()", x.fits(), 3);
    }

    private static void promise34() {
        NumberedAnew x = Due.with("ab;a;b;-;abh");
        Due.due("fits() without anything heard", x.fits(), 31);
        Due.row("fits() without anything heard", x, 5);
        x.heard(0, 1, 1);
        Due.due("fits() with b", x.fits(), 21);
        Due.row("fits() with b", x, 3);
        x.heard(0, 7, 0);
        Due.due("fits() with b, without h", x.fits(), 5);
        x.heard(1, 1, 1);
        Due.due("fits() of number 1 or more", x.fits(), 4);
        Due.row("fits() of number 1 or more", x, 1);
        x.sorts(3);
        Due.due("fits() turned about", x.fits(), 5);
        x.heard(1, 4, 0);
        Due.due("fits() of numbers below 4", x.fits(), 4);
        x.heard(1, 15, 1);
        Due.due("fits() of none", x.fits(), 0);
        Due.row("fits() of none", x, 0);
        Due.due("forget()", x.forget(), 5);
        Due.due("fits()", x.fits(), 31);
    }

    private static void promise35() {
        NumberedAnew x = Due.with("ab;a;ac;abd;ab");
        // Of 5: a 5 or 0, b 3 or 2, c 1 or 4, d 1 or 4.
        Due.due("asks()", x.asks(), 1);
        Due.row("asks()", x, 3);
        x.heard(0, 1, 1);
        // Of 0, 3, 4: a and b 3 or 0, c 0 or 3, d 1 or 2.
        Due.due("asks() with b", x.asks(), 3);
        Due.row("asks() with b", x, 2);
        x.heard(0, 3, 0);
        // Of 0, 4 each term leaves 2.
        Due.due("asks() of equal ones", x.asks(), 0);
        Due.row("asks() of equal ones", x, 2);
        x.heard(0, 7, 1);
        Due.due("asks() of none", x.asks(), -2);
        Due.row("asks() of none", x, 2);
        NumberedAnew late = Due.with("h;-");
        Due.due("asks() of h", late.asks(), 7);
        Due.row("asks() of h", late, 1);
    }
}
