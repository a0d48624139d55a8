/**
 * What Term I says of SLOTS, and promises 60 to 62. In ONE the DARK comes to 0 in the minute that its
 * only GATE holds, and never to 1, so that fit() reads a number of a row back.
 */
final class SaidOfRows {
    private static final String ONE = "town streets 2;gate at 0 holds 0;";

    private SaidOfRows() {
    }

    static void all() {
        slots();
        row();
        write();
        cutToWidths();
        paste();
        pasteItsOwn();
        pasteRefused();
    }

    private static void slots() {
        Check x = Said.term("I", "SLOTS 0 .. 3 have rows of numbers of 1, 2, 4 or 8 bytes (WIDTH 0 .. 3), at most 60, or nothing", ONE);
        for (int slot = 0; slot < 4; slot++) {
            x.due("write(" + slot + ", 0, 1) = -6", "row(" + slot + ", " + slot + ", 60) = 0", "write(" + slot + ", 59, 1) = 0", "write("
                    + slot + ", 60, 1) = -7");
        }
        x.due("count(8) = 4", "write(4, 0, 1) = -2", "write(-1, 0, 1) = -2").fresh().due("row(0, 0, 0) = 0", "count(8) = 1",
                "write(0, 0, 1) = -7");
    }

    private static void row() {
        Check x = Said.promise(60, "A SLOT (0 .. 3) has a row of n numbers of a WIDTH", ONE);
        x.due("row(0, 0, 1) = 0", "row(3, 3, 2) = 0", "write(0, 0, 1) = 0", "write(0, 1, 1) = -7", "write(3, 1, 1) = 0",
                "write(3, 2, 1) = -7", "write(1, 0, 1) = -6", "row(1, 2, 0) = 0", "write(1, 0, 1) = -7",
                "row(2, 1, 60) = 0", "write(2, 59, 1) = 0", "write(2, 60, 1) = -7", "count(8) = 4");
        x = Said.promise(60, "all 0 (in place of another one): 0", ONE);
        x.due("row(0, 3, 2) = 0", "fit(0, 0) = 0").slot(0, 0, 5).due("fit(0, 0) = 5", "row(0, 3, 2) = 0", "fit(0, 0) = 0", "count(8) = 1")
                .slot(0, 1, -1, 0, 9).due("fit(0, 0) = 9", "row(0, 3, 1) = 0",
                "row(0, 3, 4) = 0", "fit(0, 0) = 0", "fits(0) = 1", "row(0, 0, 2) = 0", "fit(0, 0) = 0", "paste(0, 0, 0, 0, 3) = -7");
        x = Said.promise(60, "-2: there is no such SLOT or WIDTH (0 .. 3), or n is above 60", ONE);
        x.due("row(4, 0, 1) = -2", "row(-1, 0, 1) = -2", "row(2147483647, 0, 1) = -2", "row(-2147483648, 0, 1) = -2", "row(0, 4, 1) = -2",
                "row(0, -1, 1) = -2", "row(0, 2147483647, 1) = -2", "row(0, 0, 61) = -2",
                "row(0, 0, 2147483647) = -2", "count(8) = 0").slot(0, 0, 5).due("row(0, 4, 1) = -2", "row(0, 0, 61) = -2", "fit(0, 0) = 5",
                        "row(0, 0, 60) = 0");
        // It stands ahead of -3.
        x.due("row(4, 0, -1) = -2", "row(0, 4, -1) = -2", "row(-1, -1, -1) = -2", "row(4, 4, 61) = -2");
        x = Said.promise(60, "-3, and the SLOT stays: n is below 0", ONE);
        x.due("row(0, 0, -1) = -3", "count(8) = 0", "write(0, 0, 1) = -6").slot(0, 0, 5).due("row(0, 0, -1) = -3",
                "row(0, 3, -2147483648) = -3", "fit(0, 0) = 5", "write(0, 1, 6) = 0", "fit(0, 0) = 6", "count(8) = 1");
    }

    private static void write() {
        Check x = Said.promise(61, "Number i of the SLOT's row is v", ONE);
        x.due("row(0, 3, 4) = 0", "write(0, 1, 9) = 0", "fits(0) = 0", "write(0, 3, 9) = 0", "fit(0, 0) = 9", "write(0, 2, 1) = 0",
                "fits(0) = 0", "write(0, 3, -1) = 0", "fit(0, 0) = 9", "write(0, 0, 1) = 0",
                "write(0, 1, -1) = 0", "fits(0) = 100", "write(0, 0, 2) = 0", "fits(0) = -2");
        x = Said.promise(61, "-2: there is no such SLOT", ONE);
        x.due("write(4, 0, 1) = -2", "write(-1, 0, 1) = -2", "write(4, -1, 1) = -2", "write(2147483647, 0, 1) = -2",
                "write(-2147483648, 0, 1) = -2");
        x = Said.promise(61, "-6: it has nothing", ONE);
        x.due("write(0, 0, 1) = -6", "write(3, 0, 1) = -6", "write(0, -1, 1) = -6", "write(0, 60, 1) = -6", "row(0, 0, 1) = 0",
                "write(1, 0, 1) = -6", "write(0, 0, 1) = 0");
        x = Said.promise(61, "-7: there is no such number", ONE);
        x.slot(0, 0, 5).due("write(0, 2, 1) = -7", "write(0, -1, 1) = -7", "write(0, 59, 1) = -7", "write(0, 60, 1) = -7",
                "write(0, 2147483647, 1) = -7", "write(0, -2147483648, 1) = -7", "fit(0, 0) = 5",
                "row(0, 3, 0) = 0", "write(0, 0, 1) = -7", "row(0, 3, 60) = 0", "write(0, 59, 1) = 0", "write(0, 60, 1) = -7");
    }

    private static void cutToWidths() {
        Check x = Said.promise(61, "cut to its WIDTH: 0", ONE);
        x.due("row(0, 0, 2) = 0", "write(0, 1, 300) = 0", "fit(0, 0) = 44", "write(0, 1, 127) = 0", "fits(0) = 0", "write(0, 1, 128) = 0",
                "fits(0) = -2", "write(0, 1, 255) = 0", "fits(0) = 0", "write(0, 0, 257) = 0",
                "fits(0) = 100", "write(0, 1, -1) = 0", "fits(0) = 100", "write(0, 1, -257) = 0", "fits(0) = 100", "write(0, 0, 512) = 0",
                        "write(0, 1, -9223372036854775808) = 0", "fit(0, 0) = 0");
        x.due("row(0, 1, 2) = 0", "write(0, 1, 65540) = 0", "fit(0, 0) = 4", "write(0, 1, 999) = 0", "fits(0) = 0",
                "write(0, 1, 32768) = 0", "fits(0) = -2", "write(0, 1, 65535) = 0", "fits(0) = 0", "write(0, 0, 65537) = 0",
                "fits(0) = 100", "write(0, 0, 256) = 0", "fits(0) = -2");
        x.due("row(0, 2, 2) = 0", "write(0, 1, 4294967302) = 0", "fit(0, 0) = 6", "write(0, 1, 4294967295) = 0", "fits(0) = 0",
                "write(0, 0, 4294967297) = 0", "fits(0) = 100", "write(0, 0, 65536) = 0", "fits(0) = -2");
        x.due("row(0, 3, 2) = 0", "write(0, 1, 4294967302) = 0", "fits(0) = -2", "write(0, 1, 6) = 0", "fit(0, 0) = 6",
                "write(0, 0, 4294967296) = 0", "fits(0) = -2", "write(0, 0, 1) = 0", "write(0, 1, -1) = 0", "fits(0) = 100");
    }

    private static void paste() {
        Check x = Said.promise(62, "So many numbers of a SLOT's row, from one on, are put to another one's", ONE);
        x.slot(0, 0, 5, 0, 6, 1, -1).due("row(1, 3, 2) = 0", "paste(0, 2, 1, 0, 2) = 0", "fit(1, 0) = 6", "paste(0, 4, 1, 0, 2) = 0",
                "fits(1) = 100", "fits(0) = 0", "paste(0, 0, 1, 0, 0) = 0", "fits(1) = 100",
                "paste(0, 1, 1, 1, 1) = 0", "fits(1) = 0", "paste(0, 0, 1, 0, 1) = 0", "fit(1, 0) = 5", "paste(0, 6, 1, 2, 0) = 0",
                        "fit(1, 0) = 5");
        // As many as a row can have; and of each WIDTH.
        x.fresh(ONE).due("row(0, 2, 60) = 0", "row(3, 2, 60) = 0", "write(0, 59, 5) = 0", "fits(0) = 0", "paste(3, 0, 0, 0, 60) = 0",
                "fit(0, 0) = 0", "write(3, 59, 5) = 0", "paste(3, 59, 0, 59, 1) = 0", "fits(0) = 0");
        x.due("row(1, 0, 2) = 0", "row(2, 0, 2) = 0", "write(1, 1, 7) = 0", "paste(1, 0, 2, 0, 2) = 0", "fit(2, 0) = 7",
                "row(1, 1, 2) = 0", "row(2, 1, 2) = 0", "write(1, 1, 8) = 0", "paste(1, 0, 2, 0, 2) = 0", "fit(2, 0) = 8");
    }

    private static void pasteItsOwn() {
        Check x = Said.promise(62, "(or its own), from one on, as they were: 0", ONE);
        x.slot(0, 0, 5, 0, 6).due("paste(0, 0, 0, 2, 2) = 0", "fit(0, 0) = 5").slot(0, 0, 5, 0, 6).due("paste(0, 2, 0, 0, 2) = 0",
                "fit(0, 0) = 6");
        // Numbers that are both taken and put: 0 5 0 5 0 7 becomes 0 5 0 5 0 5, and so from behind.
        x.slot(0, 0, 5, 0, 5, 0, 7).due("fits(0) = 0", "paste(0, 0, 0, 2, 4) = 0", "fit(0, 0) = 5").slot(0, 0, 7, 0, 5, 0, 5)
                .due("fits(0) = 0", "paste(0, 2, 0, 0, 4) = 0", "fit(0, 0) = 5");
        // 1 -1 0 8 put one pair on is 1 -1 1 -1 0 8; put number by number, it would be 1 -1 1 -1 1 -1.
        x.slot(0, 1, -1, 0, 8, 0, 9).due("fits(0) = 0", "paste(0, 0, 0, 2, 4) = 0", "fits(0) = 1", "fit(0, 0) = 8").slot(0, 0, 9, 0, 8, 1,
                -1).due("paste(0, 2, 0, 0, 4) = 0", "fits(0) = 1", "fit(0, 0) = 8");
        x.slot(0, 0, 5).due("paste(0, 0, 0, 0, 2) = 0", "fit(0, 0) = 5", "paste(0, 1, 0, 0, 0) = 0", "paste(0, 2, 0, 2, 0) = 0",
                "fit(0, 0) = 5");
    }

    private static void pasteRefused() {
        String[] rows = {"row(0, 1, 3) = 0", "row(1, 1, 5) = 0", "row(2, 0, 5) = 0"};
        Check x = Said.promise(62, "-2: there is no such SLOT").due(rows);
        x.due("paste(0, 0, 4, 0, 1) = -2", "paste(-1, 0, 0, 0, 1) = -2", "paste(4, 0, 0, 0, 1) = -2", "paste(0, 0, -1, 0, 1) = -2",
                "paste(4, 0, 3, 0, 1) = -2", "paste(3, 0, 4, 0, 1) = -2", "paste(2147483647, 0, 0, 0, 1) = -2",
                "paste(0, -1, -2147483648, -1, -1) = -2");
        x = Said.promise(62, "-6: one has nothing").due(rows);
        x.due("paste(0, 0, 3, 0, 1) = -6", "paste(3, 0, 0, 0, 1) = -6", "paste(3, 0, 3, 0, 0) = -6", "paste(3, -1, 2, 0, 1) = -6",
                "paste(0, 0, 3, 0, 9) = -6", "paste(0, 0, 3, 0, -1) = -6", "count(8) = 3");
        x = Said.promise(62, "-8: they are not of one WIDTH").due(rows);
        x.due("paste(0, 0, 2, 0, 1) = -8", "paste(2, 0, 1, 0, 1) = -8", "paste(0, 0, 2, 0, 0) = -8", "paste(0, -1, 2, 0, 9) = -8",
                "paste(0, 0, 2, 0, -1) = -8", "row(2, 1, 5) = 0", "paste(0, 0, 2, 0, 1) = 0");
        x = Said.promise(62, "-7, and nothing happens: some are beyond their rows").due(rows);
        x.due("paste(0, 0, 1, 0, 4) = -7", "paste(0, 0, 1, 0, 3) = 0", "paste(1, 0, 0, 0, 4) = -7", "paste(1, 2, 0, 0, 3) = 0",
                "paste(0, 1, 1, 0, 3) = -7", "paste(1, 0, 0, 1, 3) = -7", "paste(0, 0, 1, 3, 3) = -7",
                "paste(0, 0, 1, 2, 3) = 0", "paste(0, 3, 1, 5, 0) = 0", "paste(0, 4, 1, 0, 0) = -7", "paste(0, 0, 1, 6, 0) = -7",
                        "paste(0, 2147483647, 1, 0, 2147483647) = -7", "paste(0, 0, 1, 2147483647, 1) = -7",
                "paste(0, 0, 1, 2147483647, 2147483647) = -7", "paste(0, 1, 1, 0, 2147483647) = -7").fresh(ONE).slot(0, 0, 5).slot(1, 0, 7)
                        .due("paste(0, 0, 1, 0, 3) = -7", "paste(0, 1, 1, 1, 2) = -7", "fit(1, 0) = 7");
        x = Said.promise(62, "or a place or n is below 0").due(rows);
        x.due("paste(0, -1, 1, 0, 1) = -7", "paste(0, 0, 1, -1, 1) = -7", "paste(0, 0, 1, 0, -1) = -7", "paste(0, -1, 1, 0, 2) = -7",
                "paste(0, -1, 1, -1, -1) = -7", "paste(0, 3, 1, 5, -1) = -7",
                "paste(0, -2147483648, 1, 0, 1) = -7", "paste(0, 0, 1, -2147483648, 1) = -7", "paste(0, 0, 1, 0, -2147483648) = -7")
                        .fresh(ONE).slot(0, 0, 5).slot(1, 0, 7).due("paste(0, -1, 1, 0, 1) = -7",
                "paste(0, 0, 1, -1, 2) = -7", "fit(1, 0) = 7", "fit(0, 0) = 5");
    }
}
