/** Promises 50 to 53, 56, 58 and 59: acts, what is told, and images. */
public final class ActsTest {
    public static void main(String[] args) {
        barAndHolds();
        undoAndAnew();
        fortyActs();
        tell();
        images();
        imageOfNoTown();
        Check.close("ActsTest");
    }

    private static void barAndHolds() {
        Check x = Check.with(Streets.FIVE);
        x.due("bar(1, 1) = 0", "lane(1, 4) = 1", "comes(2) = 45", "bar(1, 1) = 1", "count(5) = 2", "bar(1, 0) = 1", "comes(2) = 40",
                "bar(4, 0) = 1", "comes(3) = 21", "bar(5, 0) = -2", "bar(-1, 0) = -2", "bar(0, 2) = -2", "bar(0, -1) = -2",
                "count(5) = 4", "holds(0, 7) = 20", "gate(0, 1) = 7", "comes(0) = 7", "holds(0, 99) = 7", "holds(0, 0) = 99",
                "holds(2, 0) = -2", "holds(-1, 0) = -2", "holds(0, 100) = -2", "holds(0, -1) = -2", "count(5) = 7");
    }

    private static void undoAndAnew() {
        Check x = Check.with(Streets.FIVE);
        x.due("undo() = -5", "anew() = 0", "bar(1, 1) = 0", "bar(1, 1) = 1", "holds(0, 5) = 20", "holds(0, 6) = 5",
                "undo() = 3", "gate(0, 1) = 5", "undo() = 2", "gate(0, 1) = 20", "undo() = 1", "lane(1, 4) = 1", "undo() = 0",
                "lane(1, 4) = 0", "undo() = -5", "bar(4, 0) = 1", "holds(1, 0) = 45", "holds(1, 1) = 0", "anew() = 3", "lane(4, 4) = 1",
                "gate(1, 1) = 45", "count(5) = 0", "anew() = 0");
    }

    private static void fortyActs() {
        Check x = Check.with(Streets.FIVE);
        for (int i = 0; i < 40; i++) {
            x.due("holds(0, " + i + ") = " + (i == 0 ? 20 : i - 1));
        }
        x.due("count(5) = 40", "bar(0, 1) = -5", "holds(0, 99) = -5", "lane(0, 4) = 0", "gate(0, 1) = 39", "bar(5, 1) = -2",
                "holds(0, 100) = -2", "undo() = 39", "gate(0, 1) = 38", "bar(0, 1) = 0", "bar(0, 0) = -5", "anew() = 40",
                "gate(0, 1) = 20", "lane(0, 4) = 0");
    }

    private static void tell() {
        Check x = Check.with(Streets.FIVE);
        x.due("tell(0, 1, 999) = 30", "house(0, 1) = 999", "tell(0, 1, 0) = 999", "tell(0, 2, 999) = 50", "house(0, 2) = 999",
                "glad(0) = 969", "tell(4, 1, 0) = -2", "tell(-1, 1, 0) = -2", "tell(0, 0, 0) = -2", "tell(0, 3, 0) = -2",
                "tell(0, 1, 1000) = -2", "tell(0, 1, -1) = -2", "count(5) = 0", "bar(0, 1) = 0", "tell(0, 1, 5) = -5",
                "house(0, 1) = 0", "tell(4, 1, 5) = -2", "undo() = 0", "tell(0, 1, 5) = 0", "house(0, 1) = 5", "anew() = 0",
                "house(0, 1) = 5");
    }

    private static void images() {
        Check x = Check.with(Streets.FIVE);
        x.due("image(3) = -2", "image(-1) = -2", "back(3) = -2", "back(-1) = -2", "back(0) = -6", "tell(1, 2, 77) = 20",
                "bar(1, 1) = 0", "holds(0, 3) = 20", "image(0) = 0", "bar(0, 1) = 0", "holds(0, 50) = 3", "anew() = 4",
                "tell(1, 2, 5) = 77", "image(1) = 0", "back(0) = 0", "count(5) = 2", "lane(1, 4) = 1", "lane(0, 4) = 0",
                "gate(0, 1) = 3", "house(1, 2) = 77", "undo() = 1", "gate(0, 1) = 20", "undo() = 0", "lane(1, 4) = 0",
                "back(0) = 0", "count(5) = 2", "gate(0, 1) = 3", "back(1) = 0", "count(5) = 0", "house(1, 2) = 5", "back(2) = -6");
        x.tape(Streets.BARE);
        x.due("town() = 1", "image(0) = 0", "back(1) = 0", "count(0) = 5", "count(1) = 5", "count(6) = 12", "comes(2) = 40", "back(0) = 0",
                "count(0) = 2", "count(1) = 0", "count(6) = 1");
    }

    private static void imageOfNoTown() {
        Check x = new Check();
        x.due("image(2) = 0");
        x.tape(Streets.FIVE);
        x.due("town() = 12");
        x.tape("town streets 9;");
        x.due("town() = -4", "row(1, 0, 3) = 0", "back(2) = 0", "count(0) = 0", "comes(0) = -2", "fault(0) = 2", "fault(1) = 13",
                "count(7) = 15", "count(8) = 1");
    }
}
