/** What promises 50 to 53 and 56 to 59 say: acts and how they are taken back, what is told, counted, and kept by images. */
final class SaidOfActs {
    private SaidOfActs() {
    }

    static void all() {
        bar();
        holds();
        undo();
        anew();
        tell();
        count();
        image();
        back();
    }

    /** Forty acts, by turns of a LANE and a GATE of FIVE. */
    private static Check fortyActs(Check x) {
        x.fresh(Streets.FIVE);
        for (int i = 0; i < 20; i++) {
            x.due("bar(0, " + (1 - i % 2) + ") = " + i % 2, "holds(0, " + (21 + i) + ") = " + (20 + i));
        }
        return x.due("count(5) = 40");
    }

    private static void bar() {
        Check x = Said.promise(50, "A LANE is barred (1) or open (0) from now on", Streets.FIVE);
        x.due("bar(1, 1) = 0", "lane(1, 4) = 1", "comes(2) = 45", "bar(1, 0) = 1", "lane(1, 4) = 0", "comes(2) = 40", "bar(4, 0) = 1",
                "comes(3) = 21", "lane(4, 4) = 0", "lane(0, 4) = 0");
        x.fresh(Streets.FULL).due("bar(9, 1) = 0", "lane(9, 4) = 1", "bar(9, 0) = 1", "lane(9, 4) = 0");
        x = Said.promise(50, "what it was", Streets.FIVE);
        // What changes nothing is an act, too.
        x.due("bar(4, 1) = 1", "bar(4, 0) = 1", "bar(4, 0) = 0", "bar(0, 0) = 0", "bar(0, 1) = 0", "bar(0, 1) = 1", "count(5) = 6");
        x = fortyActs(Said.promise(50, "-5: there were 40 acts"));
        x.due("bar(1, 1) = -5", "lane(1, 4) = 0", "bar(0, 0) = -5", "count(5) = 40", "undo() = 39", "bar(1, 1) = 0", "bar(1, 0) = -5",
                "count(5) = 40", "lane(1, 4) = 1", "anew() = 40", "bar(1, 1) = 0");
        x = Said.promise(50, "-2: there are none such", Streets.FIVE);
        x.due("bar(5, 0) = -2", "bar(-1, 0) = -2", "bar(10, 1) = -2", "bar(0, 2) = -2", "bar(0, -1) = -2", "bar(5, 2) = -2",
                "bar(2147483647, 1) = -2", "bar(-2147483648, 1) = -2", "bar(0, 2147483647) = -2",
                "count(5) = 0").fresh(Streets.BARE).due("bar(0, 1) = -2").fresh().due("bar(0, 1) = -2");
        // What is none such is refused first, as undo() without a TOWN is.
        fortyActs(x).due("bar(5, 1) = -2", "bar(0, 2) = -2", "bar(0, 1) = -5");
    }

    private static void holds() {
        Check x = Said.promise(51, "A GATE holds n (0 .. 99) from now on", Streets.FIVE);
        x.due("holds(0, 7) = 20", "gate(0, 1) = 7", "comes(0) = 7", "holds(0, 99) = 7", "gate(0, 1) = 99", "holds(0, 0) = 99",
                "comes(0) = 0", "gate(1, 1) = 45", "holds(1, 0) = 45", "comes(2) = 0");
        x = Said.promise(51, "what it did", Streets.FIVE);
        x.due("holds(0, 5) = 20", "holds(0, 5) = 5", "holds(0, 6) = 5", "holds(1, 6) = 45", "count(5) = 4");
        x = fortyActs(Said.promise(51, "-5, -2 likewise"));
        x.due("holds(0, 1) = -5", "gate(0, 1) = 40", "holds(0, 40) = -5", "holds(2, 1) = -2", "holds(0, 100) = -2", "count(5) = 40",
                "undo() = 39", "holds(0, 1) = 39", "holds(0, 2) = -5");
        x.fresh(Streets.FIVE).due("holds(2, 0) = -2", "holds(-1, 0) = -2", "holds(4, 0) = -2", "holds(0, 100) = -2", "holds(0, -1) = -2",
                "holds(2, 100) = -2", "holds(2147483647, 0) = -2",
                "holds(0, -2147483648) = -2", "gate(0, 1) = 20", "count(5) = 0").fresh(Streets.BARE).due("holds(0, 0) = -2").fresh()
                        .due("holds(0, 0) = -2");
    }

    private static void undo() {
        Check x = Said.promise(52, "The latest act is taken back: how many there are", Streets.FIVE);
        x.due("bar(1, 1) = 0", "bar(1, 1) = 1", "holds(0, 5) = 20", "holds(0, 6) = 5", "bar(4, 0) = 1", "undo() = 4", "lane(4, 4) = 1",
                "undo() = 3", "gate(0, 1) = 5", "undo() = 2", "gate(0, 1) = 20",
                "undo() = 1", "lane(1, 4) = 1", "undo() = 0", "lane(1, 4) = 0", "count(5) = 0");
        fortyActs(x).due("undo() = 39", "gate(0, 1) = 39", "lane(0, 4) = 0", "undo() = 38", "lane(0, 4) = 1");
        x = Said.promise(52, "-5: there is none", Streets.FIVE);
        x.due("undo() = -5", "bar(0, 1) = 0", "undo() = 0", "undo() = -5", "bar(0, 1) = 0", "bar(0, 0) = 1", "anew() = 2", "undo() = -5",
                "count(5) = 0").fresh(Streets.BARE).due("undo() = -5");
        // What was told is no act.
        x.fresh(Streets.FIVE).due("tell(0, 1, 5) = 30", "undo() = -5", "house(0, 1) = 5", "bar(5, 1) = -2", "undo() = -5");
        x = Said.promise(52, "-2: there is no TOWN");
        x.due("undo() = -2", "town() = 0", "undo() = -2").fresh(Streets.FIVE).due("bar(0, 1) = 0", "town() = 0", "undo() = -2");
    }

    private static void anew() {
        Check x = Said.promise(53, "All are: how many there were", Streets.FIVE);
        x.due("anew() = 0", "bar(4, 0) = 1", "holds(1, 0) = 45", "holds(1, 1) = 0", "bar(0, 1) = 0", "bar(0, 0) = 1", "anew() = 5",
                "lane(4, 4) = 1", "lane(0, 4) = 0", "gate(1, 1) = 45", "count(5) = 0",
                "anew() = 0");
        fortyActs(x).due("anew() = 40", "gate(0, 1) = 20", "lane(0, 4) = 0", "count(5) = 0", "anew() = 0").fresh(Streets.BARE)
                .due("anew() = 0");
        x.fresh(Streets.FIVE).due("tell(0, 1, 5) = 30", "bar(0, 1) = 0", "anew() = 1", "house(0, 1) = 5");
        Said.promise(53, "-2 likewise").due("anew() = -2", "town() = 0", "anew() = -2");
    }

    private static void tell() {
        Check x = Said.promise(56, "What a HOUSE wants (what 1: a minute), pays (2) is n (0 .. 999) from now on: what it was",
                Streets.FIVE);
        x.due("tell(0, 1, 999) = 30", "house(0, 1) = 999", "house(0, 2) = 50", "tell(0, 1, 0) = 999", "house(0, 1) = 0",
                "tell(0, 2, 999) = 50", "house(0, 2) = 999", "house(0, 1) = 0", "glad(0) = 969",
                "tell(0, 2, 0) = 999", "tell(0, 2, 0) = 0", "glad(0) = 0", "tell(3, 2, 5) = 60", "house(3, 2) = 5", "count(5) = 0")
                        .fresh(Streets.FULL).due("tell(5, 1, 7) = 0", "house(5, 1) = 7");
        x = Said.promise(56, "-5: there were acts", Streets.FIVE);
        x.due("bar(0, 1) = 0", "tell(0, 1, 5) = -5", "house(0, 1) = 30", "tell(0, 2, 5) = -5", "house(0, 2) = 50", "undo() = 0",
                "tell(0, 1, 5) = 30", "holds(0, 20) = 20", "tell(0, 1, 6) = -5", "anew() = 1",
                "tell(0, 1, 6) = 5", "image(0) = 0", "holds(0, 1) = 20", "tell(0, 1, 7) = -5", "back(0) = 0", "tell(0, 1, 7) = 6");
        x = Said.promise(56, "-2: there are none such", Streets.FIVE);
        x.due("tell(4, 1, 0) = -2", "tell(-1, 1, 0) = -2", "tell(6, 1, 0) = -2", "tell(0, 0, 0) = -2", "tell(0, 3, 0) = -2",
                "tell(0, -1, 0) = -2", "tell(0, 1, 1000) = -2", "tell(0, 1, -1) = -2",
                "tell(0, 2, 1000) = -2", "tell(0, 2, -1) = -2", "tell(2147483647, 1, 0) = -2", "tell(0, 1, -2147483648) = -2",
                        "house(0, 0) = 1", "house(0, 3) = 3", "house(0, 1) = 30");
        // What is none such is refused first, as undo() without a TOWN is.
        x.due("bar(0, 1) = 0", "tell(4, 1, 5) = -2", "tell(0, 3, 5) = -2", "tell(0, 0, 5) = -2", "tell(0, 1, 1000) = -2",
                "tell(0, 1, 5) = -5").fresh(Streets.BARE).due("tell(0, 1, 0) = -2");
        x.fresh().due("tell(0, 1, 0) = -2");
    }

    private static void count() {
        Check x = Said.promise(57, "0 STREETS, 1 LANES, 2 GATES, 3 HOUSES, 4 STRANGERS", Streets.FULL);
        x.due("count(0) = 8", "count(1) = 10", "count(2) = 4", "count(3) = 6", "count(4) = 2").fresh(Streets.FIVE).due("count(0) = 5",
                "count(1) = 5", "count(2) = 2", "count(3) = 4", "count(4) = 0", "bar(0, 1) = 0",
                "count(1) = 5").fresh(Streets.BARE).due("count(0) = 2", "count(1) = 0", "count(2) = 0", "count(3) = 0").fresh()
                        .due("count(0) = 0", "count(1) = 0", "count(2) = 0", "count(3) = 0", "count(4) = 0");
        x = Said.promise(57, "5 acts", Streets.FIVE);
        x.due("count(5) = 0", "bar(0, 1) = 0", "count(5) = 1", "holds(0, 5) = 20", "count(5) = 2", "bar(9, 1) = -2", "count(5) = 2",
                "undo() = 1", "count(5) = 1", "anew() = 1", "count(5) = 0", "undo() = -5",
                "count(5) = 0");
        fortyActs(x).due("bar(1, 1) = -5", "count(5) = 40").fresh().due("count(5) = 0");
        x = Said.promise(57, "6 LINES", Streets.FULL);
        x.due("count(6) = 23").tape(Streets.BARE).due("count(6) = 23", "town() = 1", "count(6) = 1").tape("#").due("town() = -4",
                "count(6) = 1", "end(0) = 0", "town() = 0", "count(6) = 0");
        x = Said.promise(57, "7 bytes of the TAPE");
        x.due("count(7) = 0", "feed(0, 0, 0, 0, 0) = 20", "count(7) = 20", "end(3) = 3", "count(7) = 3", "end(0) = 0")
                .tape(" ".repeat(1000)).due("count(7) = 1000", "town() = 0", "count(7) = 0");
        x = Said.promise(57, "8 SLOTS that have a row");
        x.due("count(8) = 0", "row(3, 0, 1) = 0", "count(8) = 1", "row(3, 1, 0) = 0", "count(8) = 1", "row(0, 0, 0) = 0", "count(8) = 2",
                "row(1, 0, -1) = -3", "count(8) = 2", "row(1, 3, 60) = 0",
                "row(2, 0, 1) = 0", "count(8) = 4", "town() = 0", "count(8) = 4");
        x = Said.promise(57, "NONE for others");
        x.due("count(9) = -1", "count(-1) = -1", "count(2147483647) = -1", "count(-2147483648) = -1").fresh(Streets.FIVE)
                .due("count(9) = -1", "count(-1) = -1");
    }

    private static void image() {
        Check x = Said.promise(58, "IMAGE k (0 .. 2) keeps the TOWN, and acts: 0", Streets.FIVE);
        x.due("image(0) = 0", "bar(0, 1) = 0", "image(1) = 0", "holds(0, 5) = 20", "image(2) = 0", "anew() = 2", "tell(0, 1, 9) = 30",
                "back(2) = 0", "count(5) = 2", "gate(0, 1) = 5", "lane(0, 4) = 1",
                "house(0, 1) = 30", "back(0) = 0", "count(5) = 0", "gate(0, 1) = 20", "lane(0, 4) = 0", "back(1) = 0", "count(5) = 1",
                        "lane(0, 4) = 1");
        // A later one is kept in place of it; what is done behind it does not change it.
        x.due("image(0) = 0", "undo() = 0", "back(0) = 0", "count(5) = 1", "undo() = 0", "lane(0, 4) = 0", "back(0) = 0", "count(5) = 1",
                "lane(0, 4) = 1", "tell(0, 1, 9) = -5");
        x.tape(Streets.FULL).due("town() = 23", "back(2) = 0", "count(0) = 5", "count(1) = 5", "count(2) = 2", "count(3) = 4",
                "count(4) = 0", "count(6) = 12", "comes(3) = 35", "lane(1, 3) = 5",
                "lane(1, 0) = 1", "lane(1, 1) = 2", "lane(1, 2) = 10", "lane(4, 4) = 1", "gate(1, 0) = 2", "gate(1, 1) = 45",
                        "house(0, 0) = 1", "house(0, 1) = 30", "house(0, 2) = 50", "house(0, 3) = 3");
        x.fresh(Streets.ROW).due("image(1) = 0").tape(Streets.ROW.replace("from 0", "from 99").replace("from 5", "from 98"));
        x.due("town() = 7", "owns(0) = 15", "back(1) = 0", "owns(0) = 3", "owns(1) = 12", "bar(2, 1) = 0", "owns(2) = 4").tape(Streets.FULL);
        x.due("town() = 23", "owns(0) = 135", "back(1) = 0", "owns(0) = 3", "owns(1) = 12", "owns(2) = 0", "count(4) = 2", "count(6) = 7");
        x = Said.promise(58, "-2: no such k", Streets.FIVE);
        x.due("image(3) = -2", "image(-1) = -2", "image(2147483647) = -2", "image(-2147483648) = -2", "back(0) = -6", "back(1) = -6",
                "back(2) = -6").fresh().due("image(3) = -2", "image(-1) = -2");
    }

    private static void back() {
        Check x = Said.promise(59, "It is as IMAGE k has it: 0", Streets.FIVE);
        x.due("tell(1, 2, 77) = 20", "bar(1, 1) = 0", "holds(0, 3) = 20", "image(0) = 0", "bar(0, 1) = 0", "holds(0, 50) = 3",
                "anew() = 4", "tell(1, 2, 5) = 77", "image(1) = 0", "back(0) = 0", "count(5) = 2",
                "lane(1, 4) = 1", "lane(0, 4) = 0", "gate(0, 1) = 3", "house(1, 2) = 77", "undo() = 1", "gate(0, 1) = 20", "undo() = 0",
                        "lane(1, 4) = 0", "undo() = -5", "back(0) = 0", "gate(0, 1) = 3",
                "back(0) = 0", "count(5) = 2", "back(1) = 0", "count(5) = 0", "house(1, 2) = 5");
        // What was done meanwhile is not what is taken back.
        x.fresh(Streets.FIVE).due("bar(1, 1) = 0", "holds(0, 3) = 20", "bar(4, 0) = 1", "image(2) = 0", "anew() = 3", "holds(1, 1) = 45",
                "bar(2, 1) = 0", "holds(1, 2) = 1", "bar(0, 1) = 0", "back(2) = 0",
                "count(5) = 3", "lane(2, 4) = 0", "gate(1, 1) = 45", "undo() = 2", "lane(4, 4) = 1", "gate(0, 1) = 3", "undo() = 1",
                        "gate(0, 1) = 20", "lane(1, 4) = 1", "undo() = 0", "lane(1, 4) = 0", "gate(1, 1) = 45");
        // The TAPE, the FAULT and the SLOTS are no part of it.
        x.due("row(1, 0, 3) = 0").tape("town streets 9;").due("town() = -4", "back(2) = 0", "fault(0) = 2", "fault(1) = 13",
                "count(7) = 15", "count(8) = 1");
        x = Said.promise(59, "-2: no such k", Streets.FIVE);
        x.due("back(3) = -2", "back(-1) = -2", "back(2147483647) = -2", "back(-2147483648) = -2", "image(0) = 0", "back(3) = -2").fresh()
                .due("back(3) = -2", "back(-1) = -2");
        x = Said.promise(59, "-6: it has nothing", Streets.FIVE);
        x.due("back(0) = -6", "back(1) = -6", "back(2) = -6", "image(1) = 0", "back(0) = -6", "back(1) = 0", "back(2) = -6", "count(0) = 5")
                .fresh().due("back(0) = -6", "back(2) = -6");
        // An IMAGE of no TOWN has that there is none.
        x.due("image(2) = 0", "back(2) = 0").tape(Streets.FIVE).due("town() = 12", "back(2) = 0", "count(0) = 0", "comes(0) = -2",
                "count(6) = 0", "undo() = -2");
    }
}
