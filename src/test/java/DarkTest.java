/** Promises 9 to 20 and 23: when the dark comes where, and whose the STREETS are. */
public final class DarkTest {
    public static void main(String[] args) {
        comesFromBy();
        firstOfSeveral();
        lightFullLast();
        idleAndHarm();
        steps();
        strangers();
        frontAndNobody();
        late();
        asManyAsMayBe();
        Check.close("DarkTest");
    }

    private static void comesFromBy() {
        Check x = Check.with(Streets.FIVE);
        x.due("comes(0) = 20", "comes(1) = 30", "comes(2) = 40", "comes(3) = 45", "comes(4) = -1", "comes(5) = -2",
                "comes(-1) = -2", "from(0) = 0", "from(1) = 0", "from(2) = 0", "from(3) = 0", "from(4) = -1",
                "from(5) = -2", "from(-1) = -2", "by(0) = -1", "by(1) = 0", "by(2) = 1", "by(3) = 3", "by(4) = -1",
                "by(5) = -2", "by(-1) = -2");
        x.due("holds(1, 9) = 45", "comes(0) = 20", "comes(1) = 19", "comes(2) = 9", "comes(3) = 14", "from(0) = 0",
                "from(1) = 1", "from(2) = 1", "by(0) = -1", "by(1) = 1", "by(2) = -1");
        Check y = Check.with("town streets 2;lane 0 to 1 takes 60;");
        y.due("comes(0) = -1", "from(0) = -1", "by(0) = -1", "steps(0) = -1");
    }

    private static void firstOfSeveral() {
        Check x = Check.with("town streets 4;lane 3 to 2 takes 2;lane 2 to 3 takes 2;lane 0 to 3 takes 7;"
                + "lane 1 to 3 takes 7;lane 2 to 0 takes 5;gate at 1 holds 0;gate at 0 holds 0;gate at 0 holds 0;");
        x.due("comes(3) = 7", "by(3) = 0", "from(3) = 0", "from(0) = 1", "from(2) = 1", "by(2) = 4", "bar(0, 1) = 0",
                "by(3) = 1", "bar(1, 1) = 0", "by(3) = 2", "steps(3) = 1");
        Check y = Check.with(Streets.FIVE);
        y.due("holds(1, 40) = 45", "comes(2) = 40", "from(2) = 0", "by(2) = -1", "steps(2) = 0", "steps(3) = 1");
    }

    private static void lightFullLast() {
        Check x = Check.with(Streets.FIVE);
        x.due("light(0) = 31", "light(19) = 31", "light(20) = 30", "light(29) = 30", "light(30) = 28",
                "light(44) = 24", "light(45) = 16", "light(999) = 16", "light(1000) = -2", "light(-1) = -2",
                "full() = -1", "last() = 3");
        Check y = Check.with(Streets.ROW);
        y.due("full() = 18", "last() = 3", "light(17) = 8", "light(18) = 0");
        Check even = Check.with("town streets 3;lane 0 to 1 takes 5;lane 0 to 2 takes 5;gate at 0 holds 0;");
        even.due("full() = 5", "last() = 1");
        Check bare = Check.with(Streets.BARE);
        bare.due("full() = -1", "last() = -1", "light(5) = 3");
        Check atOnce = Check.with("town streets 2;gate at 1 holds 0;");
        atOnce.due("full() = -1", "last() = 1");
    }

    private static void idleAndHarm() {
        Check x = Check.with(Streets.FIVE);
        x.due("idle() = 4", "harm(0) = 35", "harm(1) = 10", "harm(2) = 0", "harm(3) = 955", "harm(4) = -2",
                "harm(5) = -2", "harm(-1) = -2", "bar(4, 0) = 1", "harm(4) = 38", "idle() = 6");
        Check twice = Check.with("town streets 2;lane 0 to 1 takes 5;lane 0 to 1 takes 5;gate at 0 holds 7;");
        twice.due("idle() = 3", "harm(0) = 0", "harm(1) = 0", "bar(0, 1) = 0", "idle() = 0", "harm(1) = 988",
                "harm(0) = -2");
        Check none = Check.with("town streets 2;lane 0 to 1 takes 5;");
        none.due("idle() = 1", "harm(0) = 0");
    }

    private static void steps() {
        Check x = Check.with(Streets.FIVE);
        x.due("steps(0) = 0", "steps(1) = 1", "steps(2) = 2", "steps(3) = 3", "steps(4) = -1", "steps(5) = -2",
                "steps(-1) = -2");
        Check ring = Check.with("town streets 3;lane 0 to 2 takes 10;lane 0 to 1 takes 5;lane 1 to 2 takes 5;gate at 0 holds 0;");
        ring.due("by(2) = 0", "steps(2) = 1", "bar(0, 1) = 0", "by(2) = 2", "steps(2) = 2");
    }

    private static void strangers() {
        Check x = Check.with(Streets.ROW);
        x.due("whose(0) = 0", "whose(1) = 0", "whose(2) = 1", "whose(3) = 1", "whose(4) = -2", "whose(-1) = -2",
                "owns(0) = 3", "owns(1) = 12", "owns(2) = 0", "owns(3) = -2", "owns(-1) = -2");
        x.due("holds(0, 5) = 3", "whose(1) = 0", "holds(0, 6) = 5", "whose(1) = 1", "whose(0) = 0", "owns(1) = 14");
        // A dark goes on through streets that are another's.
        Check through = Check.with("town streets 3;lane 0 to 1 takes 9;lane 1 to 2 takes 1;gate at 0 holds 0;"
                + "stranger at 1 from 8;stranger at 2 from 10;");
        through.due("whose(0) = 0", "whose(1) = 1", "whose(2) = 1", "bar(1, 1) = 0", "whose(2) = 2");
        Check after = Check.with("town streets 3;lane 0 to 1 takes 9;lane 1 to 2 takes 2;gate at 0 holds 0;stranger at 1 from 9;"
                + "stranger at 2 from 11;");
        after.due("whose(1) = 0", "whose(2) = 0");
    }

    private static void frontAndNobody() {
        Check x = Check.with(Streets.ROW);
        x.due("front() = 2", "bar(1, 1) = 0", "front() = 0", "whose(2) = 1", "bar(1, 0) = 1", "holds(0, 16) = 3",
                "owns(0) = 0", "owns(1) = 15", "front() = 0");
        Check y = Check.with("town streets 4;lane 0 to 1 takes 5;lane 2 to 3 takes 5;gate at 0 holds 3;");
        y.due("whose(0) = 0", "whose(2) = -1", "owns(0) = 3", "owns(1) = -2", "front() = 0");
        Check two = Check.with("town streets 3;lane 0 to 1 takes 5;lane 1 to 2 takes 5 ;stranger at 0 from 999;stranger at 2 from 998;");
        two.due("whose(0) = 1", "whose(1) = 2", "whose(2) = 2", "front() = 1", "owns(0) = 0", "owns(1) = 1", "owns(2) = 6",
                "late(0) = -1");
        Check bare = Check.with(Streets.BARE);
        bare.due("whose(0) = -1", "owns(0) = 0", "front() = 0");
    }

    private static void late() {
        Check x = Check.with(Streets.ROW);
        x.due("late(0) = 12", "late(1) = 2", "late(2) = -1", "late(3) = -1", "late(4) = -2", "late(-1) = -2",
                "holds(0, 5) = 3", "late(1) = 0", "late(0) = 10");
        Check alone = Check.with(Streets.FIVE);
        alone.due("late(0) = 999", "late(3) = 999", "late(4) = -1");
        Check far = Check.with("town streets 2;lane 0 to 1 takes 60;gate at 0 holds 50;stranger at 1 from 999;");
        far.due("late(0) = 999", "late(1) = 889");
    }

    private static void asManyAsMayBe() {
        Check x = Check.with(Streets.FULL);
        x.due("count(0) = 8", "count(1) = 10", "count(2) = 4", "count(3) = 6", "count(4) = 2", "count(6) = 23");
        x.due("comes(0) = 0", "comes(1) = 10", "comes(2) = 20", "comes(3) = 11", "comes(4) = 1", "comes(5) = 11", "comes(6) = 20",
                "comes(7) = 10", "full() = 20", "last() = 2", "light(10) = 108", "idle() = 548", "harm(8) = 77", "by(6) = 6",
                "from(6) = 0", "steps(6) = 2", "by(3) = 3", "steps(3) = 2", "all() = 547", "have(10) = 19", "gladdest() = 0");
        x.due("owns(0) = 135", "owns(1) = 56", "owns(2) = 64", "front() = 868", "late(0) = 1", "late(7) = 1", "late(2) = 0", "late(6) = -1",
                "cut(4, 1000) = 4", "cuts(4, 1000) = 792", "carts(50) = 6", "cart(99, 5) = 32", "carts(49) = -1", "wins() = 0", "price() = 100");
    }
}
