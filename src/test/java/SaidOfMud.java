/** What Terms VI and VII and promises 48, 49, 54 and 55 say: chances of mud, and evenings drawn. */
final class SaidOfMud {
    /** To 2 it comes in 20 minutes if both LANES by 1 are dry (42 in a hundred), in 30 if one is (46), else in 35. */
    private static final String WET = "town streets 3;lane 0 to 1 takes 10 muddy 3;lane 1 to 2 takes 10 muddy 4;lane 0 to 2 takes 25 muddy 10;gate at 0 holds 0;";
    private static final String HALF = "town streets 3;lane 0 to 1 takes 5 muddy 5;gate at 0 holds 1;";
    /** A seed, and its first three draws. */
    private static final int[][] DRAWS = {{0, 0, 8, 8}, {1, 8, 8, 3}, {5, 5, 7, 6}, {6, 6, 5, 2}, {7, 4, 6, 8}, {8, 4, 4, 4}, {1000, 2, 3,
            3}, {2000000000, 4, 3, 1}};

    private SaidOfMud() {
    }

    static void all() {
        mud();
        draws();
        chance();
        sure();
        drawn();
        luck();
    }

    private static void mud() {
        Check x = Said.term("VI", "Each open LANE is muddy with its muddy in ten, by itself");
        for (int muddy = 1; muddy < 10; muddy++) {
            x.fresh(Streets.BARE + "lane 0 to 1 takes 5 muddy " + muddy + ";gate at 0 holds 0;").due("sure(1, " + (100 - 10 * muddy)
                    + ") = 5", "sure(1, " + (101 - 10 * muddy) + ") = 15");
        }
        x.fresh(Streets.BARE + "lane 0 to 1 takes 5 muddy 0;gate at 0 holds 0;").due("sure(1, 100) = 5").fresh(Streets.BARE
                + "lane 0 to 1 takes 5 muddy 10;gate at 0 holds 0;");
        x.due("sure(1, 1) = 15", "sure(1, 100) = 15").fresh(Streets.BARE
                + "lane 0 to 1 takes 5 muddy 5;lane 0 to 1 takes 5 muddy 5;gate at 0 holds 0;").due("chance(1, 5, 0) = 3",
                "chance(1, 5, 1) = 4", "bar(0, 1) = 0", "chance(1, 5, 0) = 1", "chance(1, 5, 1) = 2");
        x.fresh(Streets.BARE + "lane 0 to 1 takes 5 muddy 5 barred;lane 0 to 1 takes 9;gate at 0 holds 0;").due("chance(1, 8, 0) = 0",
                "chance(1, 9, 0) = 1", "bar(0, 0) = 1",
                "chance(1, 8, 1) = 2");
        x = Said.term("VI", "a muddy one takes 10 minutes more", Streets.BARE + "lane 0 to 1 takes 5 muddy 10;gate at 0 holds 0;");
        x.due("chance(1, 14, 0) = 0", "chance(1, 15, 0) = 1", "drawn(1, 1) = 15", "comes(1) = 5").fresh(Streets.BARE
                + "lane 0 to 1 takes 60 muddy 10;gate at 0 holds 99;").due("sure(1, 1) = 169");
    }

    private static void draws() {
        Check x = Said.term("VII", "DRAWS: x becomes (1103515245 x + 12345) modulo 2,147,483,648 (at first it is the seed)");
        String lanes = "lane 0 to 1 takes 5 muddy %d;lane 1 to 2 takes 5 muddy %d;lane 0 to 2 takes 50 muddy %d barred;";
        for (int[] drawn : DRAWS) {
            for (int more = 0; more <= 1; more++) {
                x.fresh("town streets 3;gate at 0 holds 1;" + String.format(lanes, drawn[1] + more, drawn[2] + more, drawn[3] + more));
                x.due("drawn(" + drawn[0] + ", 0) = " + 7 * more, "drawn(" + drawn[0] + ", 1) = " + (11 + 20 * more));
            }
        }
        // By the seed 1, x is 1103527590, then 377401575: 16838 and 5758 if cut, 8 and 8 modulo 10.
        x = Said.term("VII", "a draw: x / 65536, cut, modulo 10", Streets.BARE
                + "lane 0 to 1 takes 1 muddy 8;lane 0 to 1 takes 1 muddy 8;");
        x.due("drawn(1, 0) = 0").fresh(Streets.BARE + "lane 0 to 1 takes 1 muddy 9;lane 0 to 1 takes 1 muddy 9;").due("drawn(1, 0) = 3");
        x = Said.term("VII", "EVENING: for each LANE (by numbers; barred ones, too) a draw", Streets.BARE
                + "lane 0 to 1 takes 1 muddy 10 barred;lane 0 to 1 takes 1 muddy 6;gate at 0 holds 0;");
        // The draws of the seed 6 are 6 and 5: the barred LANE has the first.
        x.due("drawn(6, 0) = 3", "drawn(6, 1) = 11", "bar(0, 0) = 1", "drawn(6, 0) = 3", "bar(1, 1) = 0", "drawn(6, 0) = 3");
        x = Said.term("VII", "below its muddy it is", Streets.BARE + "lane 0 to 1 takes 1 muddy 0;");
        x.due("drawn(0, 0) = 0").fresh(Streets.BARE + "lane 0 to 1 takes 1 muddy 1;").due("drawn(0, 0) = 1", "drawn(1, 0) = 0")
                .fresh(Streets.BARE + "lane 0 to 1 takes 1 muddy 10;");
        x.due("drawn(1, 0) = 1", "drawn(0, 0) = 1").fresh(Streets.BARE + "lane 0 to 1 takes 1 muddy 5;").due("drawn(5, 0) = 0",
                "drawn(7, 0) = 1");
        x = Said.term("VII", "FRACTIONS are told in lowest terms (0 / 1)", WET);
        x.due("chance(2, 19, 0) = 0", "chance(2, 19, 1) = 1", "chance(2, 20, 0) = 21", "chance(2, 20, 1) = 50", "chance(2, 30, 0) = 22",
                "chance(2, 30, 1) = 25", "chance(2, 35, 0) = 1",
                "chance(2, 35, 1) = 1", "chance(1, 10, 0) = 7", "chance(1, 10, 1) = 10");
        x.fresh(Streets.BARE + "lane 0 to 1 takes 5 muddy 3;".repeat(10) + "gate at 0 holds 0;").due("chance(1, 5, 0) = 9999940951",
                "chance(1, 5, 1) = 10000000000", "chance(1, 15, 1) = 1");
        x.fresh(Streets.BARE + "lane 0 to 1 takes 5 muddy 5;".repeat(10) + "gate at 0 holds 0;").due("chance(1, 5, 0) = 1023",
                "chance(1, 5, 1) = 1024");
        x.fresh(Streets.BARE + "lane 0 to 1 takes 5 muddy 1;".repeat(10) + "gate at 0 holds 0;").due("chance(1, 5, 0) = 9999999999",
                "chance(1, 5, 1) = 10000000000");
    }

    private static void chance() {
        Check x = Said.promise(48, "CHANCE (VI): that the DARK comes to a STREET no later than in a minute (0 .. 999)", WET);
        x.due("chance(0, 0, 0) = 1", "chance(2, 0, 0) = 0", "chance(2, 29, 0) = 21", "chance(2, 34, 0) = 22", "chance(2, 999, 0) = 1",
                "chance(1, 9, 0) = 0", "chance(1, 19, 0) = 7",
                "chance(1, 20, 0) = 1", "bar(0, 1) = 0", "chance(1, 45, 0) = 3", "chance(1, 45, 1) = 5", "chance(1, 55, 0) = 1");
        x.fresh(Streets.LONG.replace("takes 60", "takes 60 muddy 3")).due("chance(7, 518, 0) = 0", "chance(7, 519, 0) = 823543",
                "chance(7, 519, 1) = 10000000", "chance(7, 588, 0) = 9997813",
                "chance(7, 589, 0) = 1").fresh(Streets.FIVE).due("chance(2, 40, 1) = 2", "chance(4, 999, 0) = 0", "chance(4, 999, 1) = 1")
                        .fresh(Streets.BARE).due("chance(0, 999, 0) = 0");
        x = Said.promise(48, "above (what 0), below (1)", HALF);
        x.due("chance(1, 5, 0) = 0", "chance(1, 5, 1) = 1", "chance(1, 6, 0) = 1", "chance(1, 6, 1) = 2", "chance(1, 16, 0) = 1",
                "chance(1, 16, 1) = 1");
        x = Said.promise(48, "-2: there are none such", WET);
        x.due("chance(3, 0, 0) = -2", "chance(-1, 0, 0) = -2", "chance(8, 0, 0) = -2", "chance(0, 1000, 0) = -2", "chance(0, -1, 0) = -2",
                "chance(0, 0, 2) = -2", "chance(0, 0, -1) = -2",
                "chance(2147483647, 0, 0) = -2", "chance(0, -2147483648, 1) = -2", "chance(0, 0, 2147483647) = -2").fresh()
                        .due("chance(0, 0, 0) = -2", "chance(0, 0, 1) = -2");
    }

    private static void sure() {
        Check x = Said.promise(49, "The least minute (0 .. 999) by which that is n (0 .. 100) in a hundred at least", WET);
        x.due("sure(2, 0) = 0", "sure(2, 1) = 20", "sure(2, 42) = 20", "sure(2, 43) = 30", "sure(2, 88) = 30", "sure(2, 89) = 35",
                "sure(2, 100) = 35", "sure(0, 100) = 0", "sure(1, 70) = 10",
                "sure(1, 71) = 20").fresh(Streets.LONG.replace("takes 60", "takes 60 muddy 3")).due("sure(7, 0) = 0", "sure(7, 8) = 519",
                        "sure(7, 9) = 529", "sure(7, 99) = 569", "sure(7, 100) = 589");
        x.fresh(Streets.BARE + "lane 0 to 1 takes 5 muddy 3;".repeat(10) + "gate at 0 holds 0;").due("sure(1, 99) = 5", "sure(1, 100) = 15")
                .fresh(Streets.FIVE).due("sure(4, 0) = 0");
        x.fresh(Streets.BARE + "lane 0 to 1 takes 5 muddy 1;".repeat(10) + "gate at 0 holds 0;").due("sure(1, 99) = 5",
                "sure(1, 100) = 15");
        x = Said.promise(49, "NONE: none", Streets.FIVE);
        x.due("sure(4, 1) = -1", "sure(4, 100) = -1", "sure(3, 100) = 50").fresh(Streets.BARE).due("sure(0, 1) = -1", "sure(0, 0) = 0");
        x = Said.promise(49, "-2: there are none such", WET);
        x.due("sure(3, 0) = -2", "sure(-1, 0) = -2", "sure(8, 0) = -2", "sure(0, 101) = -2", "sure(0, -1) = -2",
                "sure(2147483647, 0) = -2", "sure(0, 2147483647) = -2", "sure(0, -2147483648) = -2");
        x.fresh().due("sure(0, 0) = -2", "sure(0, 100) = -2");
    }

    private static void drawn() {
        Check x = Said.promise(54, "EVENING drawn (VII) from a seed (0 .. 2,000,000,000)", Streets.BARE
                + "lane 0 to 1 takes 1 muddy 4;gate at 0 holds 0;");
        x.due("drawn(0, 0) = 1", "drawn(2000000000, 0) = 0", "drawn(1000, 0) = 1", "drawn(7, 0) = 0", "comes(1) = 1");
        x = Said.promise(54, "what 0: LANES that are muddy, as bits", WET);
        // The draws of 7 are 4, 6 and 8, those of 0 are 0, 8 and 8.
        x.due("drawn(7, 0) = 4", "drawn(0, 0) = 5").fresh(Streets.BARE + "lane 0 to 1 takes 1 muddy 10;".repeat(10))
                .due("drawn(3, 0) = 1023").fresh(Streets.BARE).due("drawn(5, 0) = 0");
        x = Said.promise(54, "1: the minute in which the last STREET has it (NONE: one never does)", WET);
        x.due("drawn(7, 1) = 20", "drawn(0, 1) = 30", "full() = 20").fresh(Streets.BARE
                + "lane 0 to 1 takes 5 muddy 10 barred;gate at 0 holds 1;").due("drawn(5, 0) = 1", "drawn(5, 1) = -1",
                "bar(0, 0) = 1", "drawn(5, 1) = 16").fresh(Streets.BARE).due("drawn(5, 1) = -1").fresh(Streets.FIVE)
                        .due("drawn(0, 1) = -1");
        x = Said.promise(54, "-2: there are none such, no TOWN", WET);
        x.due("drawn(-1, 0) = -2", "drawn(2000000001, 0) = -2", "drawn(2147483647, 1) = -2", "drawn(-2147483648, 1) = -2",
                "drawn(0, 2) = -2", "drawn(0, -1) = -2", "drawn(-1, 2) = -2");
        x.fresh().due("drawn(0, 0) = -2", "drawn(0, 1) = -2", "drawn(0, 2) = -2");
    }

    private static void luck() {
        // The first draws of the seeds 5 .. 8 are 5, 6, 4, 4: the LANE is dry by the first two.
        Check x = Said.promise(55, "Of n (1 .. 20) such from seeds, the seed and 1, ..", HALF);
        x.due("luck(5, 1, 1, 6) = 1", "luck(5, 2, 1, 6) = 2", "luck(5, 4, 1, 6) = 2", "luck(7, 1, 1, 6) = 0", "luck(5, 20, 1, 999) = 20",
                "luck(2000000000, 20, 0, 1) = 20", "luck(2000000000, 1, 1, 6) = 0",
                "luck(0, 2, 1, 6) = 1", "luck(2000000000, 20, 1, 6) = 7");
        x = Said.promise(55, "in how many it comes to a STREET no later than in a minute (0 .. 999)", HALF);
        x.due("luck(5, 4, 1, 5) = 0", "luck(5, 4, 1, 6) = 2", "luck(5, 4, 1, 15) = 2", "luck(5, 4, 1, 16) = 4", "luck(5, 4, 0, 0) = 0",
                "luck(5, 4, 0, 1) = 4", "luck(5, 4, 2, 999) = 0", "luck(5, 4, 1, 0) = 0");
        x = Said.promise(55, "-2: there are none such", HALF);
        x.due("luck(-1, 4, 1, 6) = -2", "luck(2000000001, 4, 1, 6) = -2", "luck(5, 0, 1, 6) = -2", "luck(5, 21, 1, 6) = -2",
                "luck(5, -1, 1, 6) = -2", "luck(5, 4, 3, 6) = -2", "luck(5, 4, -1, 6) = -2",
                "luck(5, 4, 1, 1000) = -2", "luck(5, 4, 1, -1) = -2", "luck(2147483647, 4, 1, 6) = -2", "luck(5, 2147483647, 1, 6) = -2",
                        "luck(5, 4, 2147483647, 6) = -2").fresh().due("luck(5, 4, 0, 6) = -2");
    }
}
