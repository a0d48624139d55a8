/** Promises 60 to 62: rows of numbers in SLOTS. The numbers are read back by what fits() makes of them. */
public final class RowsTest {
    public static void main(String[] args) {
        row();
        write();
        paste();
        pasteRefused();
        Check.close("RowsTest");
    }

    private static void row() {
        Check x = new Check();
        x.due("row(0, 0, 60) = 0", "count(8) = 1", "row(3, 3, 0) = 0", "count(8) = 2", "row(0, 3, 1) = 0", "count(8) = 2",
                "row(4, 0, 1) = -2", "row(-1, 0, 1) = -2", "row(0, 4, 1) = -2", "row(0, -1, 1) = -2", "row(0, 0, 61) = -2",
                "row(0, 0, -1) = -3", "row(4, 0, -1) = -2", "row(0, 4, -1) = -2", "row(1, 0, -1) = -3", "count(8) = 2",
                "write(0, 0, 1) = 0", "write(0, 1, 1) = -7", "write(1, 0, 1) = -6");
        // All numbers of a new row are 0, and a refused one leaves what was there.
        Check y = Check.with("town streets 2;gate at 0 holds 0;");
        y.slot(0, 0, 5);
        y.due("fits(0) = 1", "fit(0, 0) = 5", "row(0, 0, -1) = -3", "fit(0, 0) = 5", "row(0, 0, 61) = -2", "fit(0, 0) = 5", "row(0, 3, 2) = 0",
                "fit(0, 0) = 0");
    }

    private static void write() {
        Check x = Check.with("town streets 2;gate at 0 holds 0;");
        x.due("write(0, 0, 1) = -6", "write(4, 0, 1) = -2", "write(-1, 0, 1) = -2", "row(0, 3, 2) = 0", "write(0, 2, 1) = -7",
                "write(0, -1, 1) = -7", "write(0, 1, 9) = 0", "fit(0, 0) = 9");
        // 1 byte: 300 is 44; 2 bytes: 65540 is 4; 4 bytes: 2^32 + 6 is 6; 8 bytes: nothing is cut.
        x.due("row(0, 0, 2) = 0", "write(0, 1, 300) = 0", "fit(0, 0) = 44", "row(0, 1, 2) = 0", "write(0, 1, 65540) = 0", "fit(0, 0) = 4",
                "write(0, 1, 300) = 0", "fits(0) = 0", "row(0, 2, 2) = 0", "write(0, 1, 4294967302) = 0", "fit(0, 0) = 6",
                "row(0, 3, 2) = 0", "write(0, 1, 4294967302) = 0", "fits(0) = -2", "write(0, 1, -9223372036854775808) = 0", "fits(0) = -2");
    }

    private static void paste() {
        Check x = Check.with("town streets 2;gate at 0 holds 0;");
        x.slot(0, 0, 5, 0, 6, 1, -1);
        x.due("fits(0) = 0", "row(1, 3, 2) = 0", "paste(0, 2, 1, 0, 2) = 0", "fit(1, 0) = 6", "paste(0, 4, 1, 0, 2) = 0", "fits(1) = 100",
                "paste(0, 0, 1, 0, 0) = 0", "fits(1) = 100", "paste(0, 6, 1, 2, 0) = 0", "fits(0) = 0");
        // Numbers of its own, as they were: 0 5 0 6 becomes 0 5 0 5, and 5 6 7 moves both ways.
        x.slot(2, 0, 5, 0, 6);
        x.due("paste(2, 0, 2, 2, 2) = 0", "fit(2, 0) = 5");
        x.slot(2, 0, 5, 0, 5, 0, 7);
        x.due("fits(2) = 0", "paste(2, 0, 2, 2, 4) = 0", "fit(2, 0) = 5");
        x.slot(2, 0, 7, 0, 5, 0, 5);
        x.due("fits(2) = 0", "paste(2, 2, 2, 0, 4) = 0", "fit(2, 0) = 5");
    }

    private static void pasteRefused() {
        Check x = new Check();
        x.due("row(0, 1, 3) = 0", "row(1, 1, 5) = 0", "row(2, 0, 5) = 0", "paste(0, 0, 4, 0, 1) = -2", "paste(-1, 0, 0, 0, 1) = -2",
                "paste(4, 0, 3, 0, 1) = -2", "paste(0, 0, 3, 0, 1) = -6", "paste(3, 0, 0, 0, 1) = -6", "paste(3, -1, 2, 0, 1) = -6",
                "paste(0, 0, 2, 0, 1) = -8", "paste(0, -1, 2, 0, 9) = -8", "paste(0, 0, 1, 0, 4) = -7", "paste(1, 0, 0, 0, 4) = -7",
                "paste(0, 1, 1, 0, 3) = -7", "paste(1, 0, 0, 1, 3) = -7", "paste(0, -1, 1, 0, 1) = -7", "paste(0, 0, 1, -1, 1) = -7",
                "paste(0, 0, 1, 0, -1) = -7", "paste(0, 2147483647, 1, 0, 2147483647) = -7", "paste(0, 0, 1, 2147483647, 1) = -7",
                "paste(0, 0, 1, 2, 3) = 0", "paste(0, 3, 1, 5, 0) = 0");
    }
}
