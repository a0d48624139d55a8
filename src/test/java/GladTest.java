/** Promises 21, 22, 24 to 33: GLAD, which lanes to bar, to open, to cut, and holds. */
public final class GladTest {
    public static void main(String[] args) {
        glad();
        bestAndOpens();
        fewestAndLeast();
        cuts();
        hold();
        asks();
        Check.close("GladTest");
    }

    private static void glad() {
        Check x = Check.with(Streets.FIVE);
        x.due("glad(0) = 50", "glad(1) = 10", "glad(2) = 0", "glad(3) = 0", "glad(4) = -2", "glad(-1) = -2",
                "all() = 60", "gladdest() = 0", "have(0) = 0", "have(29) = 0", "have(30) = 1", "have(40) = 3",
                "have(45) = 7", "have(999) = 7", "have(1000) = -2", "have(-1) = -2");
        Check y = Check.with("town streets 2;gate at 0 holds 50;house at 0 wants 50 pays 0 loads 0;"
                + "house at 0 wants 40 pays 15 loads 0;house at 0 wants 60 pays 15 loads 0;house at 1 wants 0 pays 999 loads 0;");
        y.due("glad(0) = 0", "glad(1) = 5", "glad(2) = 5", "glad(3) = 0", "all() = 10", "gladdest() = 1", "have(50) = 7",
                "tell(1, 2, 10) = 15", "tell(2, 2, 10) = 15", "all() = 0", "gladdest() = -1");
        Check bare = Check.with(Streets.BARE);
        bare.due("all() = 0", "gladdest() = -1", "have(0) = 0");
    }

    private static void bestAndOpens() {
        Check x = Check.with(Streets.FIVE);
        x.due("best(0) = 60", "bars(0) = 0", "best(1) = 65", "bars(1) = 2", "best(2) = 65", "bars(2) = 2", "best(3) = 65",
                "bars(3) = 2", "best(4) = -2", "best(-1) = -2", "bars(4) = -2", "bars(-1) = -2",
                "opens(0) = 60", "opens(1) = 60", "opens(3) = 60", "opens(4) = -2", "opens(-1) = -2");
        x.due("tell(2, 2, 50) = 30", "all() = 65", "opens(0) = 65", "opens(1) = 79", "opens(2) = 79", "lane(4, 4) = 1",
                "bar(4, 0) = 1", "all() = 79", "opens(1) = 79", "best(0) = 79");
        Check bare = Check.with(Streets.BARE);
        bare.due("best(3) = 0", "bars(3) = 0", "opens(3) = 0");
    }

    private static void fewestAndLeast() {
        // Three ways of 5 minutes, one of 20; the house wants it in 20.
        Check x = Check.with("town streets 2;lane 0 to 1 takes 5;lane 0 to 1 takes 20;lane 0 to 1 takes 5;lane 1 to 0 takes 5;"
                + "gate at 0 holds 0;house at 1 wants 20 pays 10 loads 0;");
        x.due("best(0) = 0", "best(1) = 0", "bars(1) = 0", "best(2) = 0", "bars(2) = 0", "best(3) = 10", "bars(3) = 13");
        Check y = Check.with("town streets 3;lane 0 to 1 takes 5;lane 1 to 2 takes 5;lane 0 to 2 takes 30;"
                + "gate at 0 holds 0;house at 2 wants 30 pays 10 loads 0;");
        y.due("best(3) = 10", "bars(3) = 1", "bars(1) = 1");
        Check shut = Check.with("town streets 3;lane 0 to 1 takes 5 barred;lane 1 to 2 takes 5 barred;"
                + "gate at 0 holds 0;house at 2 wants 10 pays 10 loads 0;house at 1 wants 3 pays 5 loads 0;");
        shut.due("opens(0) = 0", "opens(1) = 3", "opens(2) = 13", "opens(3) = 13", "best(3) = 0");
    }

    private static void cuts() {
        Check x = Check.with(Streets.FIVE);
        x.due("cut(2, 0) = 0", "cuts(2, 0) = 0", "cut(2, 40) = 0", "cuts(2, 40) = 0", "cut(2, 41) = 1", "cuts(2, 41) = 1",
                "cut(2, 45) = 1", "cuts(2, 45) = 1", "cut(2, 46) = -1", "cuts(2, 46) = -1", "cut(2, 1000) = -1",
                "cut(0, 20) = 0", "cut(0, 21) = -1", "cuts(0, 21) = -1", "cut(3, 1000) = 1", "cuts(3, 1000) = 8",
                "cut(1, 55) = 1", "cuts(1, 55) = 1", "cut(1, 56) = 2", "cuts(1, 56) = 3", "cut(1, 1000) = 2",
                "cuts(1, 1000) = 3", "cut(4, 1000) = 0", "cuts(4, 1000) = 0", "cut(5, 0) = -2", "cut(-1, 0) = -2",
                "cut(0, 1001) = -2", "cut(0, -1) = -2", "cuts(5, 0) = -2", "cuts(-1, 0) = -2", "cuts(0, 1001) = -2",
                "cuts(0, -1) = -2");
        Check wide = Check.with(Streets.BARE + "lane 0 to 1 takes 5;".repeat(10) + "gate at 0 holds 0;");
        wide.due("cut(1, 1000) = 10", "cuts(1, 1000) = 1023", "cut(1, 5) = 0", "cut(1, 6) = 10", "bar(3, 1) = 0",
                "cut(1, 999) = 9", "cuts(1, 999) = 1015");
    }

    private static void hold() {
        Check x = Check.with(Streets.FIVE);
        x.due("hold(0, 2, 45) = 25", "hold(0, 2, 46) = -1", "hold(1, 2, 40) = 40", "hold(1, 2, 41) = -1", "hold(0, 0, 0) = 0",
                "hold(0, 0, 65) = 65", "hold(0, 0, 66) = -1", "hold(1, 3, 45) = 40", "hold(0, 4, 999) = 0",
                "hold(2, 0, 0) = -2", "hold(-1, 0, 0) = -2", "hold(0, 5, 0) = -2", "hold(0, -1, 0) = -2",
                "hold(0, 0, 1000) = -2", "hold(0, 0, -1) = -2", "gate(0, 1) = 20");
        Check alone = Check.with("town streets 2;lane 0 to 1 takes 1;gate at 0 holds 7;");
        alone.due("hold(0, 1, 100) = 99", "hold(0, 1, 101) = -1", "hold(0, 1, 1) = 0", "hold(0, 0, 99) = 99", "hold(0, 0, 100) = -1");
    }

    private static void asks() {
        Check x = Check.with(Streets.FIVE);
        x.due("asks(0) = 20", "brings(0) = 60", "asks(1) = 40", "brings(1) = 60", "asks(2) = -2", "asks(-1) = -2",
                "brings(2) = -2", "brings(-1) = -2", "holds(1, 99) = 45", "asks(0) = 20", "brings(0) = 60", "gate(0, 1) = 20");
        Check y = Check.with("town streets 2;gate at 0 holds 7;house at 0 wants 99 pays 5 loads 0;");
        y.due("asks(0) = 99", "brings(0) = 5", "all() = 0", "tell(0, 1, 50) = 99", "asks(0) = 50");
        Check none = Check.with("town streets 2;gate at 0 holds 7;");
        none.due("asks(0) = 0", "brings(0) = 0");
    }
}
