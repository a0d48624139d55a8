/** What Terms II and III and promises 9 to 20 say: when the DARK comes where, and whose the STREETS are. */
final class SaidOfDark {
    private SaidOfDark() {
    }

    static void all() {
        termTwo();
        termThree();
        comes();
        from();
        by();
        light();
        full();
        last();
        idle();
        harm();
        whose();
        owns();
        front();
        late();
    }

    private static void termTwo() {
        Check x = Said.term("II", "The DARK comes in at each GATE's STREET in the minute so long as that holds");
        x.fresh("town streets 3;gate at 0 holds 0;gate at 2 holds 99;").due("comes(0) = 0", "comes(1) = -1", "comes(2) = 99",
                "holds(0, 99) = 0", "comes(0) = 99");
        x.fresh("town streets 2;gate at 1 holds 9;gate at 1 holds 4;gate at 1 holds 7;").due("comes(1) = 4", "comes(0) = -1");
        x = Said.term("II", "and goes by LANES that are open", "town streets 2;lane 0 to 1 takes 5 barred;gate at 0 holds 1;");
        x.due("comes(1) = -1", "bar(0, 0) = 1", "comes(1) = 6", "bar(0, 1) = 0", "comes(1) = -1");
        x = Said.term("II", "both ways", "town streets 2;lane 0 to 1 takes 5;gate at 0 holds 1;");
        x.due("comes(1) = 6").fresh("town streets 2;lane 1 to 0 takes 5;gate at 0 holds 1;").due("comes(1) = 6");
        x.fresh("town streets 3;lane 2 to 1 takes 4;lane 0 to 1 takes 5;gate at 0 holds 1;").due("comes(1) = 6", "comes(2) = 10");
        x = Said.term("II", "in as many minutes as each takes", "town streets 2;lane 0 to 1 takes 1;gate at 0 holds 0;");
        x.due("comes(1) = 1").fresh("town streets 2;lane 0 to 1 takes 60;gate at 0 holds 0;").due("comes(1) = 60");
        // Mud is asked for by chances and evenings alone.
        x.fresh("town streets 2;lane 0 to 1 takes 7 muddy 10;gate at 0 holds 0;").due("comes(1) = 7");
        x = Said.term("II", "to a STREET in the least minute by any way", Streets.FIVE);
        x.due("comes(2) = 40", "bar(1, 1) = 0", "comes(2) = 45", "bar(4, 0) = 1", "comes(2) = 26", "comes(1) = 30", "bar(0, 1) = 0",
                "comes(1) = -1",
                "bar(1, 0) = 1", "comes(1) = 36");
        // The LANES stand against the way that it goes.
        x.fresh("town streets 8;lane 6 to 7 takes 1;lane 5 to 6 takes 1;lane 4 to 5 takes 1;lane 3 to 4 takes 1;lane 2 to 3 takes 1;lane 1 to 2 takes 1;"
                + "lane 0 to 1 takes 1;lane 0 to 7 takes 60;gate at 0 holds 0;").due("comes(7) = 7", "comes(1) = 1", "by(7) = 0",
                        "steps(7) = 7");
    }

    private static void termThree() {
        Check x = Said.term("III", "A STRANGER's dark comes to its STREET in its minute (from), and goes likewise");
        x.fresh("town streets 3;lane 0 to 1 takes 5;lane 1 to 2 takes 5 barred;stranger at 0 from 999;gate at 2 holds 0;");
        x.due("whose(0) = 1", "whose(1) = 1", "whose(2) = 0", "bar(1, 0) = 1", "whose(0) = 0", "whose(1) = 0", "bar(0, 1) = 0",
                "whose(0) = 1", "whose(1) = 0");
        x.fresh("town streets 3;lane 1 to 0 takes 5;lane 1 to 2 takes 5;stranger at 0 from 1;gate at 2 holds 0;").due("owns(1) = 1",
                "owns(0) = 6",
                "holds(0, 1) = 0", "owns(0) = 6", "holds(0, 2) = 1", "owns(0) = 4", "owns(1) = 3");
        x = Said.term("III", "A STREET is of the one that comes to it first (of like ones the DARK, then the first STRANGER)", Streets.ROW);
        x.due("whose(0) = 0", "whose(1) = 0", "whose(2) = 1", "whose(3) = 1", "owns(2) = 0", "holds(0, 5) = 3", "whose(1) = 0",
                "holds(0, 6) = 5", "whose(1) = 1");
        x.fresh("town streets 2;stranger at 0 from 5;stranger at 0 from 4;gate at 1 holds 0;").due("whose(0) = 2", "whose(1) = 0");
        x.fresh("town streets 2;stranger at 0 from 4;stranger at 0 from 4;gate at 0 holds 4;").due("whose(0) = 0", "holds(0, 5) = 4",
                "whose(0) = 1");
        x = Said.term("III", "whatever else comes by");
        // To 1 the STRANGER comes first, and yet the DARK goes on through it: it comes to 2, though later than his.
        x.fresh("town streets 3;lane 0 to 1 takes 9;lane 1 to 2 takes 1;gate at 0 holds 0;stranger at 1 from 9;stranger at 2 from 11;");
        x.due("whose(1) = 0", "whose(2) = 0", "holds(0, 1) = 0", "whose(1) = 1", "whose(2) = 1", "comes(2) = 11",
                "bar(1, 1) = 0", "whose(2) = 2");
        x.fresh("town streets 4;lane 0 to 1 takes 5;lane 1 to 2 takes 5;lane 1 to 3 takes 1;gate at 0 holds 1;stranger at 3 from 4;stranger at 2 from 11;");
        x.due("whose(1) = 1", "whose(2) = 1", "comes(2) = 11", "holds(0, 0) = 1", "whose(1) = 0", "whose(2) = 0", "whose(3) = 1");
    }

    private static void comes() {
        Check x = Said.promise(9, "The minute in which the DARK comes to a STREET (II)", Streets.FIVE);
        x.due("comes(0) = 20", "comes(1) = 30", "comes(2) = 40", "comes(3) = 45").fresh(Streets.LONG).due("comes(0) = 99", "comes(7) = 519")
                .fresh(Streets.FULL);
        x.due("comes(0) = 0", "comes(1) = 10", "comes(2) = 20", "comes(3) = 11", "comes(4) = 1", "comes(5) = 11", "comes(6) = 20",
                "comes(7) = 10");
        x = Said.promise(9, "NONE: it does not", Streets.FIVE);
        x.due("comes(4) = -1", "bar(3, 1) = 0", "comes(3) = -1").fresh(Streets.BARE).due("comes(0) = -1", "comes(1) = -1");
        x = Said.promise(9, "-2: there is none such", Streets.FIVE);
        x.due("comes(5) = -2", "comes(-1) = -2", "comes(8) = -2", "comes(2147483647) = -2", "comes(-2147483648) = -2").fresh(Streets.BARE);
        x.due("comes(2) = -2").fresh(Streets.FULL).due("comes(7) = 10", "comes(8) = -2").fresh().due("comes(0) = -2");
    }

    private static void from() {
        Check x = Said.promise(10, "The GATE from which it comes so early", Streets.FIVE);
        x.due("from(0) = 0", "from(1) = 0", "from(2) = 0", "from(3) = 0", "holds(1, 9) = 45", "from(0) = 0", "from(1) = 1", "from(2) = 1",
                "from(3) = 1");
        x.fresh("town streets 2;lane 0 to 1 takes 5;gate at 0 holds 9;gate at 0 holds 8;").due("from(0) = 1", "from(1) = 1");
        x = Said.promise(10, "the first of several");
        x.fresh(Streets.FIVE).due("holds(1, 40) = 45", "from(2) = 0", "from(3) = 0", "holds(1, 39) = 40", "from(2) = 1", "from(3) = 1");
        x.fresh("town streets 2;gate at 0 holds 9;gate at 1 holds 4;gate at 1 holds 4;gate at 0 holds 9;").due("from(0) = 0",
                "from(1) = 1");
        x = Said.promise(10, "NONE, -2 likewise", Streets.FIVE);
        x.due("from(4) = -1", "from(5) = -2", "from(-1) = -2", "from(2147483647) = -2").fresh(Streets.BARE).due("from(0) = -1",
                "from(2) = -2");
        x.fresh().due("from(0) = -2");
    }

    private static void by() {
        String several = "town streets 4;lane 3 to 2 takes 2;lane 2 to 3 takes 2;lane 0 to 3 takes 7;lane 1 to 3 takes 7;lane 2 to 0 takes 5;"
                + "gate at 1 holds 0;gate at 0 holds 0;";
        Check x = Said.promise(11, "The LANE by which it comes so early", Streets.FIVE);
        x.due("by(1) = 0", "by(2) = 1", "by(3) = 3", "holds(1, 99) = 45", "bar(1, 1) = 0", "by(2) = 2", "bar(4, 0) = 1", "by(2) = 3",
                "by(3) = 4");
        x = Said.promise(11, "the first of several", several);
        x.due("comes(3) = 7", "by(3) = 0", "by(2) = 4", "bar(0, 1) = 0", "by(3) = 1", "bar(1, 1) = 0", "by(3) = 2", "bar(2, 1) = 0",
                "by(3) = 3");
        x = Said.promise(11, "NONE: it does not", Streets.FIVE);
        x.due("by(4) = -1").fresh(Streets.BARE + "lane 0 to 1 takes 5;").due("by(0) = -1", "by(1) = -1");
        x = Said.promise(11, "a GATE in it holds just so long (it comes in there)", Streets.FIVE);
        x.due("by(0) = -1", "by(2) = 1", "holds(1, 41) = 45", "by(2) = 1", "holds(1, 40) = 41", "by(2) = -1", "holds(1, 39) = 40",
                "by(2) = -1", "by(3) = 3");
        x.fresh("town streets 2;lane 0 to 1 takes 5;gate at 1 holds 9;gate at 1 holds 5;gate at 0 holds 0;").due("by(1) = -1",
                "from(1) = 1");
        x.fresh("town streets 2;lane 0 to 1 takes 5;gate at 1 holds 5;gate at 0 holds 0;").due("by(1) = -1", "by(0) = -1",
                "holds(0, 6) = 5", "by(1) = 0");
        x = Said.promise(11, "-2 likewise", Streets.FIVE);
        x.due("by(5) = -2", "by(-1) = -2", "by(-2147483648) = -2").fresh().due("by(0) = -2");
    }

    private static void light() {
        Check x = Said.promise(12, "STREETS without DARK in a minute (0 .. 999), as bits", Streets.FIVE);
        x.due("light(0) = 31", "light(25) = 30", "light(35) = 28", "light(42) = 24", "light(50) = 16", "light(999) = 16")
                .fresh(Streets.BARE);
        x.due("light(0) = 3", "light(999) = 3").fresh(Streets.FULL).due("light(0) = 254", "light(10) = 108", "light(999) = 0");
        x = Said.promise(12, "(it is there in the minute in which it comes)", Streets.FIVE);
        x.due("light(19) = 31", "light(20) = 30", "light(29) = 30", "light(30) = 28", "light(39) = 28", "light(40) = 24", "light(44) = 24",
                "light(45) = 16");
        x = Said.promise(12, "-2: there is none such, no TOWN", Streets.FIVE);
        x.due("light(-1) = -2", "light(1000) = -2", "light(2147483647) = -2", "light(-2147483648) = -2").fresh().due("light(0) = -2",
                "light(999) = -2",
                "light(1000) = -2");
    }

    private static void full() {
        Check x = Said.promise(13, "The minute in which the last STREET has it", Streets.ROW);
        x.due("full() = 18", "holds(0, 0) = 3", "full() = 15").fresh(Streets.LONG).due("full() = 519");
        x.fresh("town streets 2;gate at 0 holds 0;gate at 1 holds 0;").due("full() = 0");
        x = Said.promise(13, "NONE: one never does", Streets.FIVE);
        x.due("full() = -1").fresh(Streets.BARE).due("full() = -1").fresh("town streets 2;gate at 1 holds 0;").due("full() = -1");
        x = Said.promise(13, "-2: there is no TOWN");
        x.due("full() = -2", "town() = 0", "full() = -2").fresh(Streets.ROW).due("town() = 0", "full() = -2");
    }

    private static void last() {
        Check x = Said.promise(14, "The STREET to which it comes last of those to which it does", Streets.FIVE);
        x.due("last() = 3", "bar(3, 1) = 0", "last() = 2").fresh(Streets.ROW).due("last() = 3").fresh("town streets 2;gate at 1 holds 0;")
                .due("last() = 1");
        x = Said.promise(14, "the first of several");
        x.fresh("town streets 3;lane 0 to 1 takes 5;lane 0 to 2 takes 5;gate at 0 holds 0;").due("last() = 1").fresh(Streets.FULL)
                .due("comes(2) = 20",
                "comes(6) = 20", "last() = 2").fresh("town streets 2;gate at 1 holds 0;gate at 0 holds 0;").due("last() = 0");
        x = Said.promise(14, "NONE: to none", Streets.BARE + "lane 0 to 1 takes 5;");
        x.due("last() = -1");
        Said.promise(14, "-2 likewise").due("last() = -2");
    }

    private static void idle() {
        Check x = Said.promise(15, "LANES (open ones)", Streets.FIVE);
        x.due("idle() = 4", "bar(2, 1) = 0", "idle() = 0", "bar(2, 0) = 1", "bar(4, 0) = 1", "idle() = 6");
        x = Said.promise(15, "without any one of which alone it comes to all STREETS in the same minutes, as bits");
        x.fresh("town streets 2;lane 0 to 1 takes 5;lane 0 to 1 takes 5;gate at 0 holds 7;").due("idle() = 3", "bar(0, 1) = 0",
                "idle() = 0");
        x.fresh("town streets 2;lane 0 to 1 takes 5;").due("idle() = 1")
                .fresh("town streets 2;lane 0 to 1 takes 5;gate at 0 holds 7;gate at 1 holds 12;");
        x.due("idle() = 1", "holds(1, 13) = 12", "idle() = 0", "holds(1, 2) = 13", "idle() = 1", "holds(1, 1) = 2", "idle() = 0");
        x.fresh(Streets.FULL).due("idle() = 548").fresh(Streets.BARE).due("idle() = 0");
        Said.promise(15, "-2 likewise").due("idle() = -2");
    }

    private static void harm() {
        Check x = Said.promise(16, "The minutes that all STREETS would have it later, together, if a LANE were barred", Streets.FIVE);
        x.due("harm(0) = 35", "harm(1) = 10", "harm(2) = 0", "bar(4, 0) = 1", "harm(4) = 38", "lane(4, 4) = 0", "count(5) = 1")
                .fresh(Streets.BARE + "lane 0 to 1 takes 5;lane 0 to 1 takes 9;gate at 1 holds 7;").due("harm(0) = 4", "harm(1) = 0")
                .fresh(Streets.FULL).due("harm(8) = 77");
        x = Said.promise(16, "(STREETS that would never count 1,000 less their minute)", Streets.FIVE);
        x.due("harm(3) = 955").fresh(Streets.ROW).due("harm(2) = 982", "harm(1) = 1969", "harm(0) = 2961").fresh(Streets.BARE
                + "lane 0 to 1 takes 5;gate at 1 holds 7;").due("harm(0) = 988");
        // To 2 and 3 it does not come in any case: nothing is later there.
        x.fresh("town streets 4;lane 0 to 1 takes 5;lane 2 to 3 takes 5;gate at 0 holds 3;").due("harm(0) = 992", "harm(1) = 0");
        x.fresh("town streets 2;lane 0 to 1 takes 5;").due("harm(0) = 0").fresh(Streets.LONG).due("harm(6) = 481");
        x = Said.promise(16, "-2: there is none such, it is barred", Streets.FIVE);
        x.due("harm(5) = -2", "harm(-1) = -2", "harm(10) = -2", "harm(2147483647) = -2", "harm(-2147483648) = -2", "harm(4) = -2",
                "bar(4, 0) = 1", "harm(4) = 38",
                "bar(0, 1) = 0", "harm(0) = -2").fresh(Streets.BARE).due("harm(0) = -2").fresh().due("harm(0) = -2");
    }

    private static void whose() {
        Check x = Said.promise(17, "WHOSE a STREET is (III): 0 the DARK's, 1 .. the STRANGER's (its number and 1)", Streets.ROW);
        x.due("whose(0) = 0", "whose(1) = 0", "whose(2) = 1", "whose(3) = 1")
                .fresh("town streets 3;stranger at 0 from 999;stranger at 2 from 998;gate at 1 holds 0;");
        x.due("whose(0) = 1", "whose(1) = 0", "whose(2) = 2");
        x = Said.promise(17, "NONE: nobody's", Streets.FIVE);
        x.due("whose(3) = 0", "whose(4) = -1").fresh(Streets.BARE).due("whose(0) = -1", "whose(1) = -1").fresh(Streets.BARE
                + "stranger at 0 from 0;").due("whose(1) = -1");
        x = Said.promise(17, "-2: there is none such", Streets.ROW);
        x.due("whose(4) = -2", "whose(-1) = -2", "whose(8) = -2", "whose(2147483647) = -2").fresh().due("whose(0) = -2");
    }

    private static void owns() {
        Check x = Said.promise(18, "STREETS of one (0 the DARK, 1 .. STRANGERS), as bits", Streets.ROW);
        x.due("owns(0) = 3", "owns(1) = 12", "owns(2) = 0", "bar(2, 1) = 0", "owns(0) = 3", "owns(1) = 8", "owns(2) = 4")
                .fresh(Streets.FULL);
        x.due("owns(0) = 135", "owns(1) = 56", "owns(2) = 64").fresh(Streets.BARE).due("owns(0) = 0").fresh(Streets.FIVE)
                .due("owns(0) = 15");
        x = Said.promise(18, "-2: there are none such, no TOWN", Streets.ROW);
        x.due("owns(3) = -2", "owns(-1) = -2", "owns(2147483647) = -2").fresh(Streets.BARE).due("owns(1) = -2").fresh(Streets.BARE
                + "stranger at 0 from 0;");
        x.due("owns(1) = 1", "owns(2) = -2").fresh().due("owns(0) = -2", "owns(1) = -2");
    }

    private static void front() {
        Check x = Said.promise(19, "FRONT: LANES, not barred", Streets.ROW);
        x.due("front() = 2", "bar(1, 1) = 0", "whose(1) = 0", "whose(2) = 1", "front() = 0");
        x = Said.promise(19, "between STREETS that are of unlike ones, as bits", Streets.ROW);
        x.due("front() = 2", "holds(0, 0) = 3", "front() = 2", "holds(0, 16) = 0", "owns(1) = 15", "front() = 0").fresh(Streets.FULL)
                .due("front() = 868");
        x.fresh("town streets 3;lane 0 to 1 takes 5;lane 1 to 2 takes 5;stranger at 0 from 999;stranger at 2 from 998;").due("front() = 1",
                "owns(1) = 1", "owns(2) = 6");
        x = Said.promise(19, "(one that is nobody's aside)");
        x.fresh("town streets 4;lane 0 to 1 takes 5;lane 2 to 3 takes 5;lane 1 to 2 takes 5 barred;gate at 0 holds 3;").due("whose(1) = 0",
                "whose(2) = -1", "front() = 0");
        x.fresh(Streets.BARE + "lane 0 to 1 takes 5;").due("front() = 0")
                .fresh("town streets 4;lane 0 to 1 takes 5;lane 2 to 3 takes 5;gate at 2 holds 0;stranger at 3 from 1;");
        x.due("front() = 2", "whose(0) = -1");
        Said.promise(19, "-2: there is no TOWN").due("front() = -2");
    }

    private static void late() {
        Check x = Said.promise(20, "The most minutes more (0 .. 999) that all GATES may hold so that a STREET is the DARK's (III)",
                Streets.ROW);
        x.due("late(0) = 12", "late(1) = 2", "holds(0, 4) = 3", "late(1) = 1", "holds(0, 5) = 4", "late(1) = 0", "late(0) = 10")
                .fresh(Streets.FULL);
        x.due("late(0) = 1", "late(7) = 1", "late(2) = 0", "late(6) = -1");
        // Never more than 999; more than what a GATE may hold; all GATES at once.
        x.fresh(Streets.FIVE).due("late(0) = 999", "late(3) = 999").fresh(Streets.BARE + "gate at 0 holds 0;stranger at 0 from 999;")
                .due("late(0) = 999");
        x.fresh(Streets.BARE + "gate at 0 holds 1;stranger at 0 from 999;").due("late(0) = 998").fresh(Streets.BARE
                + "lane 0 to 1 takes 60;gate at 0 holds 0;stranger at 1 from 999;").due("late(0) = 999", "late(1) = 939");
        x.fresh(Streets.BARE + "gate at 0 holds 9;gate at 0 holds 2;stranger at 0 from 30;").due("late(0) = 28");
        x = Said.promise(20, "NONE: it is not without more", Streets.ROW);
        x.due("late(2) = -1", "late(3) = -1", "holds(0, 6) = 3", "late(1) = -1").fresh(Streets.FIVE).due("late(4) = -1").fresh(Streets.BARE)
                .due("late(0) = -1");
        x.fresh(Streets.BARE + "stranger at 0 from 0;").due("late(0) = -1", "late(1) = -1");
        x = Said.promise(20, "-2: there is none such", Streets.ROW);
        x.due("late(4) = -2", "late(-1) = -2", "late(8) = -2", "late(2147483647) = -2").fresh().due("late(0) = -2");
    }
}
