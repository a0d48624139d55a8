/** Promises 48, 49, 54 and 55: chances of mud, and evenings drawn. */
public final class MudTest {
    private static final String WET = "town streets 3;lane 0 to 1 takes 10 muddy 3;lane 1 to 2 takes 10 muddy 4;"
            + "lane 0 to 2 takes 25 muddy 10;gate at 0 holds 0;";

    public static void main(String[] args) {
        chance();
        sure();
        longFractions();
        drawn();
        luck();
        Check.close("MudTest");
    }

    private static void chance() {
        Check x = Check.with(WET);
        x.due("chance(2, 19, 0) = 0", "chance(2, 19, 1) = 1", "chance(2, 20, 0) = 21", "chance(2, 20, 1) = 50",
                "chance(2, 29, 0) = 21", "chance(2, 30, 0) = 22", "chance(2, 30, 1) = 25", "chance(2, 34, 0) = 22",
                "chance(2, 35, 0) = 1", "chance(2, 35, 1) = 1", "chance(2, 999, 0) = 1", "chance(0, 0, 0) = 1",
                "chance(1, 10, 0) = 7", "chance(1, 10, 1) = 10", "chance(1, 20, 0) = 1",
                "chance(3, 0, 0) = -2", "chance(-1, 0, 0) = -2", "chance(0, 1000, 0) = -2", "chance(0, -1, 0) = -2",
                "chance(0, 0, 2) = -2", "chance(0, 0, -1) = -2", "comes(2) = 20");
        x.due("bar(0, 1) = 0", "chance(2, 34, 0) = 0", "chance(2, 35, 0) = 1", "chance(1, 45, 0) = 3", "chance(1, 45, 1) = 5",
                "chance(1, 55, 0) = 1");
        Check five = Check.with(Streets.FIVE);
        five.due("chance(2, 39, 0) = 0", "chance(2, 39, 1) = 1", "chance(2, 40, 0) = 1", "chance(2, 40, 1) = 2", "chance(2, 45, 1) = 1",
                "chance(4, 999, 0) = 0", "chance(4, 999, 1) = 1");
        Check shut = Check.with("town streets 2;lane 0 to 1 takes 5 muddy 5 barred;lane 0 to 1 takes 9;gate at 0 holds 0;");
        shut.due("chance(1, 9, 0) = 1", "chance(1, 8, 0) = 0", "bar(0, 0) = 1", "chance(1, 8, 1) = 2");
    }

    private static void sure() {
        Check x = Check.with(WET);
        x.due("sure(2, 0) = 0", "sure(2, 1) = 20", "sure(2, 42) = 20", "sure(2, 43) = 30", "sure(2, 88) = 30", "sure(2, 89) = 35",
                "sure(2, 100) = 35", "sure(0, 100) = 0", "sure(1, 70) = 10", "sure(1, 71) = 20", "sure(3, 0) = -2", "sure(-1, 0) = -2",
                "sure(0, 101) = -2", "sure(0, -1) = -2");
        Check five = Check.with(Streets.FIVE);
        five.due("sure(2, 50) = 40", "sure(2, 51) = 45", "sure(3, 100) = 50", "sure(4, 1) = -1", "sure(4, 0) = 0");
    }

    private static void longFractions() {
        Check x = Check.with(Streets.BARE + "lane 0 to 1 takes 5 muddy 3;".repeat(10) + "gate at 0 holds 0;");
        x.due("chance(1, 5, 0) = 9999940951", "chance(1, 5, 1) = 10000000000", "chance(1, 14, 0) = 9999940951",
                "chance(1, 15, 0) = 1", "sure(1, 99) = 5", "sure(1, 100) = 15");
        StringBuilder row = new StringBuilder("town streets 8;gate at 0 holds 99;");
        for (int i = 0; i < 7; i++) {
            row.append("lane ").append(i).append(" to ").append(i + 1).append(" takes 60 muddy 3;");
        }
        Check y = Check.with(row.toString());
        y.due("chance(7, 519, 0) = 823543", "chance(7, 519, 1) = 10000000", "chance(7, 588, 0) = 9997813",
                "chance(7, 589, 0) = 1", "sure(7, 100) = 589");
    }

    private static void drawn() {
        String lanes = "lane 0 to 1 takes 5 muddy %d;lane 1 to 2 takes 5 muddy %d;lane 0 to 2 takes 50 muddy %d barred;";
        for (int[] seedAndDraws : DRAWS) {
            for (int more = 0; more <= 1; more++) {
                int a = seedAndDraws[1] + more;
                int b = seedAndDraws[2] + more;
                int c = seedAndDraws[3] + more;
                Check x = Check.with("town streets 3;gate at 0 holds 1;" + String.format(lanes, a, b, c));
                x.due("drawn(" + seedAndDraws[0] + ", 0) = " + 7 * more, "drawn(" + seedAndDraws[0] + ", 1) = " + (11 + 20 * more));
            }
        }
        Check x = Check.with(WET);
        x.due("drawn(-1, 0) = -2", "drawn(2000000001, 0) = -2", "drawn(0, 2) = -2", "drawn(0, -1) = -2");
        Check never = Check.with("town streets 2;lane 0 to 1 takes 5 muddy 10 barred;gate at 0 holds 1;");
        never.due("drawn(5, 0) = 1", "drawn(5, 1) = -1", "bar(0, 0) = 1", "drawn(5, 1) = 16");
        Check bare = Check.with(Streets.BARE);
        bare.due("drawn(5, 0) = 0", "drawn(5, 1) = -1");
    }

    private static final int[][] DRAWS = {
        {0, 0, 8, 8}, {1, 8, 8, 3}, {5, 5, 7, 6}, {6, 6, 5, 2},
        {7, 4, 6, 8}, {8, 4, 4, 4}, {1000, 2, 3, 3}, {2000000000, 4, 3, 1}};

    private static void luck() {
        // The first draws of the seeds 5 .. 8 are 5, 6, 4, 4.
        Check x = Check.with("town streets 3;lane 0 to 1 takes 5 muddy 5;gate at 0 holds 1;");
        x.due("luck(5, 4, 1, 6) = 2", "luck(5, 1, 1, 6) = 1", "luck(5, 4, 1, 15) = 2", "luck(5, 4, 1, 16) = 4", "luck(5, 4, 1, 5) = 0",
                "luck(5, 20, 1, 999) = 20", "luck(5, 4, 2, 999) = 0", "luck(2000000000, 20, 0, 1) = 20",
                "luck(-1, 4, 1, 6) = -2", "luck(2000000001, 4, 1, 6) = -2", "luck(5, 0, 1, 6) = -2", "luck(5, 21, 1, 6) = -2",
                "luck(5, 4, 3, 6) = -2", "luck(5, 4, -1, 6) = -2", "luck(5, 4, 1, 1000) = -2", "luck(5, 4, 1, -1) = -2");
    }
}
