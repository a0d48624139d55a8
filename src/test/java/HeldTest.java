/** Promises 34 to 38: who held it by when it came. */
public final class HeldTest {
    public static void main(String[] args) {
        Check x = Check.with(Streets.FIVE);
        x.due("fits(0) = -6", "held(0) = -6", "fit(0, 0) = -6", "ask(0) = -6", "leaves(0) = -6",
                "fits(4) = -2", "held(-1) = -2", "fit(4, 0) = -2", "fit(0, 2) = -2", "fit(0, -1) = -2", "ask(4) = -2",
                "leaves(-1) = -2");
        x.slot(0, 2, 40);
        x.due("fits(0) = 61", "held(0) = 3", "fit(0, 0) = 20", "fit(0, 1) = 40", "ask(0) = -1", "leaves(0) = 61",
                "fit(0, 2) = -2", "fit(0, -1) = -2");
        x.slot(1, 4, -1);
        x.due("fits(1) = 200", "held(1) = 3", "fit(1, 0) = 0", "fit(1, 1) = 0", "ask(1) = 2", "leaves(1) = 75");
        x.slot(2, 4, 5);
        x.due("fits(2) = 0", "held(2) = 0", "fit(2, 0) = -1", "fit(2, 1) = -1", "ask(2) = -1", "leaves(2) = 0");
        x.slot(3);
        x.due("fits(3) = 200", "ask(3) = 2", "leaves(3) = 75");
        x.slot(3, 2, 44, 1, 34);
        x.due("fits(3) = 1", "held(3) = 1", "fit(3, 0) = 24", "fit(3, 1) = -1", "ask(3) = -1", "leaves(3) = 1");
        x.slot(3, 2, 45, 1, 55);
        x.due("fits(3) = 55", "fit(3, 0) = 45", "ask(3) = 0", "leaves(3) = 35");
        wrongNumbers(x);
        widths();
        withoutGates();
        Check.close("HeldTest");
    }

    private static void wrongNumbers(Check x) {
        x.slot(3, 2, 40, 1);
        allRefused(x, 3);
        x.slot(3, 5, 40);
        allRefused(x, 3);
        x.slot(3, -1, 40);
        allRefused(x, 3);
        x.slot(3, 2, 1000);
        allRefused(x, 3);
        x.slot(3, 2, -2);
        allRefused(x, 3);
        x.slot(3, 2 + (1L << 32), 40);
        allRefused(x, 3);
        x.slot(3, 2, 40 + (1L << 32));
        allRefused(x, 3);
        x.slot(3, 2, 999);
        x.due("fits(3) = 0");
    }

    private static void allRefused(Check x, int slot) {
        x.due("fits(" + slot + ") = -2", "held(" + slot + ") = -2", "fit(" + slot + ", 0) = -2", "ask(" + slot + ") = -2",
                "leaves(" + slot + ") = -2");
    }

    private static void widths() {
        Check x = Check.with(Streets.FIVE);
        x.due("row(0, 0, 2) = 0", "write(0, 0, 4) = 0", "write(0, 1, 255) = 0", "fits(0) = 200", "write(0, 1, 128) = 0",
                "fits(0) = -2", "write(0, 0, 258) = 0", "write(0, 1, 40) = 0", "fits(0) = 61",
                "row(0, 1, 2) = 0", "write(0, 0, 65538) = 0", "write(0, 1, 65576) = 0", "fits(0) = 61",
                "row(0, 2, 2) = 0", "write(0, 0, 4294967298) = 0", "write(0, 1, 40) = 0", "fits(0) = 61");
    }

    private static void withoutGates() {
        Check x = Check.with(Streets.BARE);
        x.slot(0, 0, -1);
        x.due("fits(0) = 0", "held(0) = 0", "fit(0, 0) = -2", "ask(0) = -1", "leaves(0) = 0", "town() = 0", "fits(0) = -2",
                "fits(1) = -2", "leaves(0) = -2");
    }
}
