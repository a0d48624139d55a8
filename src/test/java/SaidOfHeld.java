/**
 * What promises 34 to 38 say: who held it by when it came. In FIVE, if GATE 0 holds n, it comes in the
 * minutes n, n + 10, n + 20, n + 25, but no later than in 65, 55, 45, 50; if GATE 1 does, in n + 20,
 * n + 10, n, n + 5, but no later than in 20, 30, 40, 45.
 */
final class SaidOfHeld {
    private static final String ONE = "town streets 2;gate at 0 holds 7;";

    private SaidOfHeld() {
    }

    static void all() {
        fits();
        fitsRefused();
        held();
        fit();
        ask();
        leaves();
    }

    private static void fits() {
        Check x = Said.promise(34, "HELD: a SLOT's row, two numbers each: a STREET, the minute", Streets.FIVE);
        x.slot(0, 2, 40).due("fits(0) = 61").slot(1, 2, 44, 1, 34).due("fits(1) = 1").slot(1, 2, 44, 1, 35).due("fits(1) = 0").slot(2)
                .due("fits(2) = 200");
        x.slot(3, 2, 45, 1, 55).due("fits(3) = 55").slot(3, 2, 45, 2, 45).due("fits(3) = 75").slot(3, 2, 45, 2, 40).due("fits(3) = 0",
                "fits(0) = 61");
        long[] most = new long[60];
        for (int i = 0; i < most.length; i += 2) {
            most[i] = i % 8 / 2;
            most[i + 1] = new long[] {25, 35, 45, 50}[i % 8 / 2];
        }
        x.slot(0, most).due("fits(0) = 1").due("write(0, 59, 36) = 0", "fits(0) = 0");
        x = Said.promise(34, "(0 .. 999; NONE: never)", Streets.FIVE);
        x.slot(0, 4, -1).due("fits(0) = 200").slot(0, 3, -1).due("fits(0) = 0", "bar(3, 1) = 0", "fits(0) = 200").slot(0, 2, 0)
                .due("fits(0) = 1");
        x.slot(0, 2, 999).due("fits(0) = 0").slot(0, 2, 1000).due("fits(0) = -2").slot(0, 2, -2).due("fits(0) = -2").slot(0, 4, 999)
                .due("fits(0) = 0");
        x = Said.promise(34, "in which the DARK was seen to come: of how many GATES and holds (0 .. 99, the others as they are) it can be",
                ONE);
        x.slot(0, 0, 0).due("fits(0) = 1").slot(0, 0, 99).due("fits(0) = 1").slot(0, 0, 100).due("fits(0) = 0").slot(0, 1, -1)
                .due("fits(0) = 100", "gate(0, 1) = 7");
        x.fresh(Streets.FIVE).slot(0, 2, 45).due("fits(0) = 75").slot(0, 0, 65).due("fits(0) = 35", "holds(1, 99) = 45", "fits(0) = 1")
                .slot(0, 0, 20).due("fits(0) = 101");
        x.fresh(Streets.BARE).slot(0, 0, -1).due("fits(0) = 0").slot(0).due("fits(0) = 0").fresh(Streets.BARE
                + "gate at 0 holds 1;".repeat(4)).slot(0);
        x.due("fits(0) = 400").slot(0, 0, 1).due("fits(0) = 396").slot(0, 0, 0).due("fits(0) = 4");
    }

    private static void fitsRefused() {
        Check x = Said.promise(34, "-2: there is no such SLOT", Streets.FIVE);
        x.due("fits(4) = -2", "fits(-1) = -2", "fits(2147483647) = -2", "fits(-2147483648) = -2").slot(3).due("fits(3) = 200").fresh()
                .due("fits(4) = -2", "fits(-1) = -2");
        x = Said.promise(34, "no TOWN");
        x.due("fits(0) = -2", "fits(3) = -2").slot(0, 0, 0).due("fits(0) = -2").slot(0).due("fits(0) = -2").tape(ONE).due("town() = 2",
                "fits(0) = 100", "town() = 0", "fits(0) = -2");
        x = Said.promise(34, "a number is none such (asked last)", Streets.FIVE);
        x.slot(0, 4, -1).due("fits(0) = 200").slot(0, 5, -1).due("fits(0) = -2").slot(0, -1, 40).due("fits(0) = -2").slot(0, 2, 40, 2, 1000)
                .due("fits(0) = -2");
        x.slot(0, 4294967298L, 40).due("fits(0) = -2").slot(0, 2, 4294967336L).due("fits(0) = -2").slot(0, -9223372036854775808L, 40)
                .due("fits(0) = -2");
        x.slot(0, 2, 9223372036854775807L).due("fits(0) = -2").slot(0, 2, 41, 4, 5, 8, 0).due("fits(0) = -2").slot(0, 5, 5, 5)
                .due("fits(0) = -2", "fits(1) = -6");
        x = Said.promise(34, "not two each", Streets.FIVE);
        x.slot(0, 2).due("fits(0) = -2").slot(0, 2, 40, 1).due("fits(0) = -2").due("row(0, 3, 59) = 0", "fits(0) = -2",
                "row(0, 3, 60) = 0", "fits(0) = 1", "row(0, 0, 1) = 0", "fits(0) = -2");
        x = Said.promise(34, "-6: it has nothing", Streets.FIVE);
        x.due("fits(0) = -6", "fits(3) = -6").slot(0).due("fits(0) = 200", "fits(1) = -6").fresh(Streets.BARE).due("fits(0) = -6").fresh()
                .due("fits(0) = -2");
    }

    private static void held() {
        Check x = Said.promise(35, "GATES that may have held it so, as bits", Streets.FIVE);
        x.slot(0, 2, 40).due("held(0) = 3").slot(0, 2, 44).due("held(0) = 1").slot(0, 2, 39).due("held(0) = 3").slot(0, 2, 19)
                .due("held(0) = 2").slot(0, 2, 46).due("held(0) = 0");
        x.slot(0).due("held(0) = 3").fresh(Streets.FULL).slot(0).due("held(0) = 15").slot(0, 3, 0).due("held(0) = 8").fresh(Streets.BARE)
                .slot(0).due("held(0) = 0");
        refused(Said.promise(35, "-2, -6 likewise"), "held(", ")");
    }

    private static void fit() {
        Check x = Said.promise(36, "The least hold of a GATE that fits", Streets.FIVE);
        x.slot(0, 2, 40).due("fit(0, 0) = 20", "fit(0, 1) = 40").slot(0, 2, 45).due("fit(0, 0) = 25", "fit(0, 1) = -1").slot(0)
                .due("fit(0, 0) = 0", "fit(0, 1) = 0");
        x.fresh(ONE).slot(0, 0, 99).due("fit(0, 0) = 99").slot(0, 0, 0).due("fit(0, 0) = 0");
        x = Said.promise(36, "NONE: none", Streets.FIVE);
        x.slot(0, 2, 46).due("fit(0, 0) = -1", "fit(0, 1) = -1").slot(0, 4, 0).due("fit(0, 0) = -1").fresh(ONE).slot(0, 0, 100)
                .due("fit(0, 0) = -1");
        x = Said.promise(36, "-2 (there is no such GATE)", Streets.FIVE);
        x.slot(0).due("fit(0, 2) = -2", "fit(0, -1) = -2", "fit(0, 4) = -2", "fit(0, 2147483647) = -2", "fit(0, -2147483648) = -2");
        // It stands ahead of -6: without such a GATE it does not matter that the SLOT has nothing.
        x.due("fit(1, 0) = -6", "fit(1, 2) = -2", "fit(1, -1) = -2", "fit(4, 2) = -2").fresh(Streets.BARE).slot(0).due("fit(0, 0) = -2",
                "fit(1, 0) = -2");
        refused(Said.promise(36, "-6 likewise"), "fit(", ", 0)");
    }

    /** What fits() refuses is refused. */
    private static void refused(Check x, String name, String rest) {
        x.fresh(Streets.FIVE).due(name + "4" + rest + " = -2", name + "-1" + rest + " = -2", name + "0" + rest + " = -6", name + "3" + rest
                + " = -6");
        x.slot(0, 5, 40).due(name + "0" + rest + " = -2").slot(0, -1, 40).due(name + "0" + rest + " = -2").slot(0, 2, 1000).due(name + "0"
                + rest + " = -2");
        x.slot(0, 2, -2).due(name + "0" + rest + " = -2").slot(0, 2, 40, 1).due(name + "0" + rest + " = -2").slot(0, 2).due(name + "0"
                + rest + " = -2");
        x.fresh().due(name + "0" + rest + " = -2").slot(0).due(name + "0" + rest + " = -2", name + "4" + rest + " = -2");
    }

    private static void ask() {
        Check x = Said.promise(37, "ASK: the STREET that leaves fewest of these (GATES with holds) at worst by when it comes there",
                Streets.FIVE);
        // At worst STREET 0 leaves 101, 1 leaves 81, 2 and 3 leave 75, 4 leaves 200.
        x.slot(0).due("ask(0) = 2", "leaves(0) = 75").slot(0, 2, 45, 1, 55).due("ask(0) = 0", "leaves(0) = 35").slot(0, 2, 45)
                .due("ask(0) = 0", "leaves(0) = 35");
        x.fresh(ONE + "lane 0 to 1 takes 5;").slot(0).due("ask(0) = 0", "leaves(0) = 1").fresh("town streets 2;gate at 1 holds 7;").slot(0)
                .due("ask(0) = 1", "leaves(0) = 1");
        // In FULL it comes to 2 in 20 if GATE 0 holds 0, GATE 1 10 or more, GATE 2 20 or more, GATE 3 10 or more.
        x.fresh(Streets.FULL).slot(0).due("fits(0) = 400", "ask(0) = 2", "leaves(0) = 261");
        x = Said.promise(37, "if fewer than now", Streets.FIVE);
        x.slot(0, 2, 40).due("fits(0) = 61", "ask(0) = -1", "leaves(0) = 61").slot(0, 2, 44).due("fits(0) = 1", "ask(0) = -1",
                "leaves(0) = 1");
        x.slot(0, 2, 39).due("fits(0) = 2", "ask(0) = 0", "leaves(0) = 1");
        x = Said.promise(37, "the first of several", Streets.FIVE);
        x.slot(0, 4, -1).due("ask(0) = 2").fresh("town streets 4;lane 2 to 1 takes 1;lane 2 to 3 takes 1;gate at 3 holds 0;").slot(0)
                .due("ask(0) = 1", "leaves(0) = 1");
        x = Said.promise(37, "NONE: none", Streets.FIVE);
        x.slot(0, 2, 46).due("ask(0) = -1").fresh(Streets.BARE).slot(0).due("ask(0) = -1").fresh(Streets.BARE
                + "gate at 0 holds 1;gate at 0 holds 0;");
        x.slot(0, 0, 0).due("fits(0) = 101", "ask(0) = -1").slot(0, 1, -1).due("fits(0) = 200", "ask(0) = 0", "leaves(0) = 101");
        refused(Said.promise(37, "-2, -6 as fits()"), "ask(", ")");
    }

    private static void leaves() {
        Check x = Said.promise(38, "How many it leaves at worst", Streets.FIVE);
        x.slot(0).due("leaves(0) = 75").slot(0, 2, 45, 1, 55).due("leaves(0) = 35").slot(0, 2, 39).due("leaves(0) = 1").fresh(ONE).slot(0)
                .due("leaves(0) = 1");
        x = Said.promise(38, "(as now without)", Streets.FIVE);
        x.slot(0, 2, 40).due("leaves(0) = 61").slot(0, 2, 46).due("leaves(0) = 0").fresh(Streets.BARE).slot(0).due("leaves(0) = 0");
        refused(Said.promise(38, "-2, -6 likewise"), "leaves(", ")");
    }
}
