/** What promises 21 to 33 say: GLAD, which LANES to bar, to open, to cut, and what a GATE's hold does. */
final class SaidOfGlad {
    private SaidOfGlad() {
    }

    static void all() {
        glad();
        steps();
        have();
        gladdest();
        best();
        bars();
        opens();
        cut();
        cuts();
        hold();
        asks();
    }

    private static void glad() {
        Check x = Said.promise(21, "GLAD: what a HOUSE gives (II): pays less the minutes between when it wants it and when it comes",
                Streets.FIVE);
        x.due("glad(0) = 50", "glad(1) = 10", "holds(0, 23) = 20", "glad(0) = 47", "glad(1) = 13", "holds(0, 17) = 23", "glad(0) = 47",
                "glad(1) = 7");
        x = Said.promise(21, "0 at least",
                "town streets 2;gate at 0 holds 50;house at 0 wants 50 pays 0 loads 0;house at 0 wants 40 pays 9 loads 0;"
                + "house at 0 wants 40 pays 10 loads 0;house at 0 wants 40 pays 11 loads 0;house at 0 wants 60 pays 9 loads 0;house at 0 wants 60 pays 11 loads 0;");
        x.due("glad(0) = 0", "glad(1) = 0", "glad(2) = 0", "glad(3) = 1", "glad(4) = 0", "glad(5) = 1", "all() = 2");
        x = Said.promise(21, "0, if it never does", Streets.FIVE);
        x.due("glad(3) = 0", "tell(3, 2, 999) = 60", "tell(3, 1, 999) = 10", "glad(3) = 0").fresh(Streets.BARE
                + "house at 0 wants 999 pays 999 loads 1;").due("glad(0) = 0");
        x = Said.promise(21, "-2: there is none such", Streets.FIVE);
        x.due("glad(4) = -2", "glad(-1) = -2", "glad(6) = -2", "glad(2147483647) = -2", "glad(-2147483648) = -2").fresh(Streets.BARE)
                .due("glad(0) = -2");
        x.fresh().due("glad(0) = -2");
        x = Said.promise(22, "GLAD of all HOUSES", Streets.FIVE);
        x.due("all() = 60", "tell(2, 2, 50) = 30", "all() = 65", "tell(3, 2, 999) = 60", "all() = 65").fresh(Streets.BARE).due("all() = 0")
                .fresh(Streets.FULL).due("all() = 547");
        x.fresh(Streets.BARE + "gate at 0 holds 0;" + "house at 0 wants 0 pays 999 loads 0;".repeat(6)).due("all() = 5994");
        Said.promise(22, "-2: there is no TOWN").due("all() = -2", "town() = 0", "all() = -2");
    }

    private static void steps() {
        Check x = Said.promise(23,
                "By how many LANES it comes to a STREET, gone back by by() from STREET to STREET to one in which it comes in",
                Streets.FIVE);
        x.due("steps(1) = 1", "steps(2) = 2", "steps(3) = 3", "holds(1, 99) = 45", "bar(1, 1) = 0", "steps(2) = 1", "steps(3) = 2")
                .fresh(Streets.LONG).due("steps(7) = 7");
        // Of two ways of like minutes it is the one by the first LANE, not the one by the fewest.
        x.fresh("town streets 3;lane 0 to 2 takes 10;lane 0 to 1 takes 5;lane 1 to 2 takes 5;gate at 0 holds 0;").due("by(2) = 0",
                "steps(2) = 1", "bar(0, 1) = 0", "steps(2) = 2");
        x.fresh("town streets 3;lane 1 to 2 takes 5;lane 0 to 1 takes 5;lane 0 to 2 takes 10;gate at 0 holds 0;").due("by(2) = 0",
                "steps(2) = 2", "bar(0, 1) = 0", "steps(2) = 1");
        x = Said.promise(23, "(0 there)", Streets.FIVE);
        x.due("steps(0) = 0", "holds(1, 40) = 45", "comes(2) = 40", "steps(2) = 0", "steps(3) = 1", "holds(1, 41) = 40", "steps(2) = 2",
                "steps(3) = 3");
        x = Said.promise(23, "NONE: it does not", Streets.FIVE);
        x.due("steps(4) = -1", "bar(3, 1) = 0", "steps(3) = -1").fresh(Streets.BARE).due("steps(0) = -1");
        x = Said.promise(23, "-2: there is none such", Streets.FIVE);
        x.due("steps(5) = -2", "steps(-1) = -2", "steps(8) = -2", "steps(2147483647) = -2").fresh().due("steps(0) = -2");
    }

    private static void have() {
        Check x = Said.promise(24, "HOUSES that have it in a minute (0 .. 999), as bits", Streets.FIVE);
        x.due("have(0) = 0", "have(29) = 0", "have(30) = 1", "have(39) = 1", "have(40) = 3", "have(44) = 3", "have(45) = 7",
                "have(999) = 7");
        x.fresh(Streets.BARE + "gate at 0 holds 0;" + "house at 0 wants 9 pays 9 loads 0;".repeat(5) + "house at 1 wants 9 pays 9 loads 0;")
                .due("have(0) = 31", "have(999) = 31");
        x.fresh(Streets.BARE).due("have(0) = 0").fresh(Streets.FULL).due("have(10) = 19", "have(999) = 63");
        x = Said.promise(24, "-2: there is none such, no TOWN", Streets.FIVE);
        x.due("have(-1) = -2", "have(1000) = -2", "have(2147483647) = -2", "have(-2147483648) = -2").fresh().due("have(0) = -2",
                "have(1000) = -2");
    }

    private static void gladdest() {
        String three = "town streets 2;gate at 0 holds 0;house at 0 wants 0 pays 3 loads 0;house at 0 wants 0 pays 7 loads 0;house at 0 wants 0 pays 7 loads 0;";
        Check x = Said.promise(25, "The HOUSE of most GLAD", Streets.FIVE);
        x.due("gladdest() = 0", "tell(1, 1, 40) = 50", "tell(1, 2, 51) = 20", "gladdest() = 1", "tell(3, 2, 999) = 60", "gladdest() = 1");
        x = Said.promise(25, "the first of several", three);
        x.due("gladdest() = 1", "tell(0, 2, 7) = 3", "gladdest() = 0", "tell(2, 2, 8) = 7", "gladdest() = 2").fresh(Streets.FULL)
                .due("gladdest() = 0", "tell(5, 2, 112) = 100", "gladdest() = 5");
        x = Said.promise(25, "if it is above 0", three);
        x.due("tell(1, 2, 0) = 7", "tell(2, 2, 0) = 7", "gladdest() = 0", "tell(0, 2, 1) = 3", "gladdest() = 0", "tell(0, 2, 0) = 1",
                "gladdest() = -1");
        x = Said.promise(25, "NONE: none", Streets.BARE);
        x.due("gladdest() = -1").fresh(Streets.BARE + "house at 0 wants 0 pays 9 loads 0;").due("gladdest() = -1");
        Said.promise(25, "-2: there is no TOWN").due("gladdest() = -2");
    }

    private static void best() {
        Check x = Said.promise(26, "BEST: the greatest GLAD of all, if k (0 .. 3) LANES at most that are open now were barred",
                Streets.FIVE);
        x.due("best(0) = 60", "best(1) = 65", "best(2) = 65", "best(3) = 65", "all() = 60", "count(5) = 0", "lane(1, 4) = 0");
        x.fresh(Streets.PAIRS).due("best(0) = 7", "best(1) = 8", "best(2) = 10", "best(3) = 10", "tell(0, 1, 6) = 5", "best(2) = 9",
                "best(3) = 10");
        // Four would have to be barred: three at most are.
        x.fresh("town streets 2;" + "lane 0 to 1 takes 1;".repeat(4)
                + "lane 0 to 1 takes 9;gate at 0 holds 0;house at 1 wants 9 pays 9 loads 0;");
        x.due("best(3) = 1", "bar(2, 1) = 0", "best(3) = 9", "best(2) = 1");
        // One that is barred is not opened.
        x.fresh("town streets 2;lane 0 to 1 takes 9 barred;gate at 0 holds 0;house at 1 wants 9 pays 9 loads 0;").due("best(3) = 0",
                "bars(3) = 0");
        x.fresh(Streets.BARE).due("best(0) = 0", "best(3) = 0").fresh(Streets.FULL).due("best(0) = 547", "best(3) = 547");
        x = Said.promise(26, "-2: there is no such k, no TOWN", Streets.FIVE);
        x.due("best(-1) = -2", "best(4) = -2", "best(2147483647) = -2", "best(-2147483648) = -2").fresh().due("best(0) = -2",
                "best(3) = -2", "best(4) = -2");
    }

    private static void bars() {
        Check x = Said.promise(27, "Which, as bits", Streets.FIVE);
        x.due("bars(0) = 0", "bars(1) = 2").fresh(Streets.BARE).due("bars(3) = 0");
        x = Said.promise(27, "the fewest", Streets.FIVE);
        x.due("bars(2) = 2", "bars(3) = 2").fresh(Streets.FULL).due("bars(3) = 0").fresh(Streets.PAIRS).due("bars(3) = 6");
        x.fresh("town streets 3;lane 0 to 1 takes 1;lane 1 to 2 takes 1;lane 0 to 2 takes 9;gate at 0 holds 0;house at 2 wants 9 pays 9 loads 0;").due("bars(3) = 1");
        x = Said.promise(27, "of these the least set", Streets.PAIRS);
        x.due("bars(0) = 0", "bars(1) = 1", "bars(2) = 6", "tell(0, 1, 6) = 5", "bars(3) = 7", "bar(0, 1) = 0", "bars(1) = 8",
                "best(1) = 9");
        x = Said.promise(27, "-2 likewise", Streets.FIVE);
        x.due("bars(-1) = -2", "bars(4) = -2", "bars(2147483647) = -2").fresh().due("bars(0) = -2");
    }

    private static void opens() {
        String shut = "town streets 5;lane 0 to 1 takes 1 barred;lane 1 to 2 takes 1 barred;lane 2 to 3 takes 1 barred;lane 3 to 4 takes 1 barred;gate at 0 holds 0;";
        Check x = Said.promise(28, "OPENS: the greatest GLAD of all, if k (0 .. 3) LANES at most that are barred now were open",
                Streets.FIVE);
        x.due("opens(0) = 60", "opens(1) = 60", "opens(3) = 60", "tell(2, 2, 50) = 30", "opens(0) = 65", "opens(1) = 79", "opens(2) = 79",
                "lane(4, 4) = 1",
                "bar(4, 0) = 1", "opens(0) = 79", "opens(3) = 79", "bar(0, 1) = 0", "opens(0) = 73", "opens(1) = 79");
        x.fresh(shut + "house at 3 wants 3 pays 9 loads 0;").due("opens(0) = 0", "opens(2) = 0", "opens(3) = 9");
        x.fresh(shut + "house at 4 wants 4 pays 9 loads 0;").due("opens(3) = 0", "bar(3, 0) = 1", "opens(3) = 9", "opens(2) = 0");
        x.fresh("town streets 3;lane 0 to 1 takes 5 barred;lane 1 to 2 takes 5 barred;gate at 0 holds 0;house at 2 wants 10 pays 10 loads 0;house at 1 wants 3 pays 5 loads 0;");
        x.due("opens(0) = 0", "opens(1) = 3", "opens(2) = 13", "opens(3) = 13").fresh(Streets.BARE).due("opens(0) = 0", "opens(3) = 0");
        x = Said.promise(28, "-2 likewise", Streets.FIVE);
        x.due("opens(-1) = -2", "opens(4) = -2", "opens(-2147483648) = -2").fresh().due("opens(0) = -2");
    }

    private static void cut() {
        Check x = Said.promise(29, "CUT: the fewest open LANES to be barred so that the DARK does not come to a STREET ahead of a minute",
                Streets.FIVE);
        x.due("cut(2, 40) = 0", "cut(2, 41) = 1", "cut(2, 45) = 1", "cut(1, 30) = 0", "cut(1, 31) = 1", "cut(1, 55) = 1", "cut(1, 56) = 2",
                "count(5) = 0");
        x.fresh(Streets.PAIRS).due("cut(2, 2) = 0", "cut(2, 3) = 1", "cut(2, 4) = 2", "cut(2, 5) = 2", "cut(2, 6) = 3", "cut(2, 8) = 3",
                "bar(3, 1) = 0", "cut(2, 5) = 1");
        x.fresh(Streets.BARE + "lane 0 to 1 takes 5;".repeat(10) + "gate at 0 holds 0;").due("cut(1, 5) = 0", "cut(1, 6) = 10",
                "bar(3, 1) = 0", "cut(1, 6) = 9");
        x = Said.promise(29, "(0 .. 1,000; 1,000: it never comes)", Streets.FIVE);
        x.due("cut(0, 0) = 0", "cut(1, 0) = 0", "cut(1, 999) = 2", "cut(1, 1000) = 2", "cut(3, 1000) = 1", "cut(4, 1000) = 0")
                .fresh(Streets.FULL).due("cut(4, 1000) = 4");
        x.fresh(Streets.LONG).due("cut(7, 519) = 0", "cut(7, 520) = 1", "cut(7, 1000) = 1");
        x = Said.promise(29, "NONE: by none", Streets.FIVE);
        x.due("cut(0, 20) = 0", "cut(0, 21) = -1", "cut(0, 1000) = -1", "cut(2, 46) = -1", "cut(2, 1000) = -1").fresh(Streets.BARE
                + "gate at 1 holds 99;");
        x.due("cut(1, 99) = 0", "cut(1, 100) = -1", "cut(0, 1000) = 0");
        x = Said.promise(29, "-2: there are none such", Streets.FIVE);
        x.due("cut(5, 0) = -2", "cut(-1, 0) = -2", "cut(8, 0) = -2", "cut(0, 1001) = -2", "cut(0, -1) = -2", "cut(5, 1001) = -2",
                "cut(2147483647, 0) = -2",
                "cut(0, 2147483647) = -2", "cut(0, -2147483648) = -2", "cut(4, 1001) = -2").fresh().due("cut(0, 0) = -2",
                        "cut(0, 1000) = -2");
    }

    private static void cuts() {
        Check x = Said.promise(30, "Which, as bits", Streets.FIVE);
        x.due("cuts(2, 0) = 0", "cuts(2, 40) = 0", "cuts(1, 55) = 1", "cuts(3, 1000) = 8", "cuts(4, 1000) = 0");
        x = Said.promise(30, "the least set of so few", Streets.FIVE);
        x.due("cuts(2, 41) = 1", "cuts(2, 45) = 1", "cuts(1, 56) = 3", "cuts(1, 1000) = 3").fresh(Streets.PAIRS).due("cuts(2, 3) = 1",
                "cuts(2, 4) = 3", "cuts(2, 5) = 6",
                "cuts(2, 6) = 7", "cuts(2, 1000) = 25", "bar(0, 1) = 0", "cuts(2, 5) = 8").fresh(Streets.FULL).due("cuts(4, 1000) = 792");
        x.fresh(Streets.BARE + "lane 0 to 1 takes 5;".repeat(10) + "gate at 0 holds 0;").due("cuts(1, 1000) = 1023", "bar(3, 1) = 0",
                "cuts(1, 6) = 1015");
        x = Said.promise(30, "NONE, -2 likewise", Streets.FIVE);
        x.due("cuts(0, 21) = -1", "cuts(2, 46) = -1", "cuts(2, 1000) = -1", "cuts(5, 0) = -2", "cuts(-1, 0) = -2", "cuts(0, 1001) = -2",
                "cuts(0, -1) = -2",
                "cuts(5, 1001) = -2").fresh().due("cuts(0, 0) = -2");
    }

    private static void hold() {
        Check x = Said.promise(31, "HOLD: the least hold (0 .. 99) of a GATE", Streets.BARE + "lane 0 to 1 takes 1;gate at 0 holds 7;");
        x.due("hold(0, 1, 0) = 0", "hold(0, 1, 1) = 0", "hold(0, 1, 2) = 1", "hold(0, 1, 100) = 99", "hold(0, 0, 99) = 99",
                "hold(0, 0, 7) = 7", "gate(0, 1) = 7");
        x = Said.promise(31, "(others as they are)", Streets.FIVE);
        x.due("hold(0, 2, 45) = 25", "hold(0, 0, 65) = 65", "hold(1, 2, 40) = 40", "hold(1, 3, 45) = 40", "holds(1, 60) = 45",
                "hold(0, 2, 45) = 25", "hold(0, 2, 60) = 40");
        x = Said.promise(31, "by which it does not come to a STREET ahead of a minute (0 .. 999)", Streets.FIVE);
        x.due("hold(0, 2, 44) = 24", "hold(0, 0, 0) = 0", "hold(0, 4, 999) = 0", "hold(1, 0, 20) = 0", "bar(3, 1) = 0",
                "hold(0, 3, 999) = 0");
        x = Said.promise(31, "NONE: by none", Streets.FIVE);
        x.due("hold(0, 2, 46) = -1", "hold(1, 2, 41) = -1", "hold(0, 0, 66) = -1", "hold(1, 0, 21) = -1", "hold(0, 2, 999) = -1")
                .fresh(Streets.BARE
                + "lane 0 to 1 takes 1;gate at 0 holds 7;").due("hold(0, 0, 100) = -1", "hold(0, 1, 101) = -1");
        x = Said.promise(31, "-2: there are none such", Streets.FIVE);
        x.due("hold(2, 0, 0) = -2", "hold(-1, 0, 0) = -2", "hold(4, 0, 0) = -2", "hold(0, 5, 0) = -2", "hold(0, -1, 0) = -2",
                "hold(0, 0, 1000) = -2", "hold(0, 0, -1) = -2",
                "hold(0, 4, 1000) = -2", "hold(2147483647, 0, 0) = -2", "hold(0, 2147483647, 0) = -2", "hold(0, 0, -2147483648) = -2");
        x.fresh(Streets.BARE).due("hold(0, 0, 0) = -2").fresh().due("hold(0, 0, 0) = -2");
    }

    private static void asks() {
        String one = "town streets 2;gate at 0 holds 7;house at 0 wants 99 pays 5 loads 0;";
        Check x = Said.promise(32, "The hold (0 .. 99) of a GATE by which GLAD of all is greatest", Streets.FIVE);
        x.due("asks(0) = 20", "gate(0, 1) = 20", "holds(1, 99) = 45", "asks(0) = 20", "holds(0, 99) = 20", "asks(0) = 20").fresh(one)
                .due("asks(0) = 99",
                "tell(0, 1, 50) = 99", "asks(0) = 50", "tell(0, 1, 0) = 50", "asks(0) = 0", "tell(0, 1, 103) = 0", "asks(0) = 99",
                        "gate(0, 1) = 7");
        x.fresh(Streets.FULL).due("asks(0) = 0", "asks(3) = 0", "brings(3) = 568", "tell(3, 1, 7) = 0", "asks(3) = 0",
                "tell(2, 2, 0) = 100", "tell(4, 2, 0) = 100", "asks(3) = 7");
        x = Said.promise(32, "the least of several", Streets.FIVE);
        x.due("asks(1) = 40").fresh(Streets.BARE + "gate at 0 holds 7;").due("asks(0) = 0").fresh(one).due("tell(0, 1, 104) = 99",
                "asks(0) = 0");
        x.fresh(Streets.BARE + "gate at 0 holds 7;house at 0 wants 10 pays 5 loads 0;house at 0 wants 14 pays 5 loads 0;")
                .due("asks(0) = 10", "brings(0) = 6");
        x = Said.promise(32, "-2: there is none such", Streets.FIVE);
        x.due("asks(2) = -2", "asks(-1) = -2", "asks(4) = -2", "asks(2147483647) = -2").fresh(Streets.BARE).due("asks(0) = -2").fresh()
                .due("asks(0) = -2");
        x = Said.promise(33, "That GLAD", Streets.FIVE);
        x.due("brings(0) = 60", "brings(1) = 60", "holds(0, 99) = 20", "all() = 40", "brings(0) = 60", "gate(0, 1) = 99").fresh(one)
                .due("brings(0) = 5", "all() = 0",
                "tell(0, 1, 103) = 99", "brings(0) = 1", "tell(0, 1, 104) = 103", "brings(0) = 0").fresh(Streets.BARE
                        + "gate at 0 holds 7;").due("brings(0) = 0");
        x = Said.promise(33, "-2 likewise", Streets.FIVE);
        x.due("brings(2) = -2", "brings(-1) = -2", "brings(-2147483648) = -2").fresh(Streets.BARE).due("brings(0) = -2").fresh()
                .due("brings(0) = -2");
    }
}
