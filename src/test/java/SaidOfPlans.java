/** What Terms IV and V and promises 39 to 47 say: gates placed, carts, who pays to be last, the clerk. */
final class SaidOfPlans {
    private static final String HOUSE = "house at 0 wants 0 pays 0 loads ";
    /** STREETS 0, 1, 4, 3, 2 in a row: GATES at 0 and 3 (bits 9), or 1 and 2 (bits 6), or 1 and 3, are a minute from all. */
    private static final String WORM = "town streets 5;lane 0 to 1 takes 1;lane 2 to 3 takes 1;lane 4 to 1 takes 1;lane 4 to 3 takes 1;";
    /** GLAD of all is 10 if the clerk holds the GATE whose LANE the town bars, else 0. */
    private static final String COINS = "town streets 4;lane 0 to 2 takes 1;lane 1 to 3 takes 1;gate at 0 holds 0;gate at 1 holds 0;"
            + "house at 2 wants 1 pays 10 loads 0;house at 3 wants 1 pays 10 loads 0;";

    private SaidOfPlans() {
    }

    static void all() {
        place();
        places();
        soon();
        carts();
        cart();
        wins();
        price();
        clerksGame();
        rests();
        clerk();
    }

    private static void place() {
        Check x = Said.promise(39,
                "PLACE: the least minute in which all STREETS have it, if there were k (1 .. 4) GATES alone that hold nothing, on any STREETS", Streets.FIVE);
        x.due("place(2) = 15", "place(3) = 10", "place(4) = 5", "holds(0, 99) = 20", "place(2) = 15", "bar(3, 1) = 0", "place(3) = 10",
                "bar(4, 0) = 1", "place(2) = 11");
        x.fresh(WORM).due("place(1) = 2", "place(2) = 1", "place(3) = 1", "place(4) = 1").fresh(Streets.BARE).due("place(2) = 0",
                "place(3) = 0", "place(4) = 0");
        x.fresh(Streets.LONG).due("place(1) = 240", "place(2) = 120", "place(3) = 60", "place(4) = 60");
        x = Said.promise(39, "NONE: by none", Streets.FIVE);
        x.due("place(2) = 15", "place(1) = -1", "bar(3, 1) = 0", "place(2) = -1").fresh(Streets.BARE).due("place(1) = -1")
                .fresh("town streets 5;").due("place(4) = -1").fresh("town streets 4;");
        x.due("place(3) = -1", "place(4) = 0");
        x = Said.promise(39, "-2: there is no such k, no TOWN", Streets.FIVE);
        x.due("place(0) = -2", "place(5) = -2", "place(-1) = -2", "place(2147483647) = -2", "place(-2147483648) = -2").fresh()
                .due("place(1) = -2", "place(0) = -2");
    }

    private static void places() {
        Check x = Said.promise(40, "Which STREETS, as bits", Streets.FIVE);
        x.due("places(2) = 18", "places(4) = 23").fresh(WORM).due("places(1) = 16");
        x = Said.promise(40, "the least set of so many", Streets.FIVE);
        x.due("places(3) = 21").fresh(WORM).due("places(2) = 6", "places(3) = 7", "places(4) = 15")
                .fresh("town streets 2;lane 0 to 1 takes 5;").due("places(1) = 1");
        x = Said.promise(40, "(k STREETS, all, if there are fewer)", Streets.BARE);
        x.due("places(2) = 3", "places(3) = 3", "places(4) = 3").fresh("town streets 3;").due("places(3) = 7", "places(4) = 7")
                .fresh("town streets 4;").due("places(4) = 15");
        // So many are placed even if fewer would do as well.
        x.fresh(Streets.BARE + "lane 0 to 1 takes 1;").due("places(1) = 1", "places(2) = 3").fresh(WORM).due("place(3) = 1",
                "places(3) = 7");
        x = Said.promise(40, "NONE, -2 likewise", Streets.FIVE);
        x.due("places(2) = 18", "places(1) = -1", "places(2) = 18", "bar(3, 1) = 0", "places(2) = -1", "places(0) = -2", "places(5) = -2",
                "places(-1) = -2").fresh().due("places(1) = -2", "places(5) = -2");
    }

    private static void soon() {
        Check x = Said.promise(41, "SOON: the least minutes of all STREETS together, by such sets", Streets.FIVE);
        x.due("soon(2) = 35", "soon(3) = 15", "soon(4) = 5", "bar(3, 1) = 0", "soon(3) = 20").fresh(Streets.BARE).due("soon(2) = 0",
                "soon(3) = 0", "soon(4) = 0");
        // The least together is of another set than the one that is full first.
        x.fresh("town streets 5;lane 0 to 1 takes 1;lane 0 to 2 takes 1;lane 0 to 3 takes 6;lane 3 to 4 takes 6;").due("place(1) = 7",
                "places(1) = 8", "soon(1) = 20");
        x.fresh(Streets.LONG).due("soon(1) = 960");
        x = Said.promise(41, "NONE, -2 likewise", Streets.FIVE);
        x.due("soon(2) = 35", "soon(1) = -1", "bar(3, 1) = 0", "soon(2) = -1", "soon(0) = -2", "soon(5) = -2", "soon(-1) = -2").fresh()
                .due("soon(1) = -2", "soon(5) = -2");
    }

    private static void carts() {
        Check x = Said.promise(42, "CARTS: the fewest carts of so many loads (1 .. 99) that bring all HOUSES their loads", Streets.FIVE);
        x.due("carts(5) = 3", "carts(6) = 3", "carts(7) = 2", "carts(11) = 2", "carts(12) = 1", "carts(99) = 1");
        x.fresh(Streets.BARE + HOUSE + "2;" + HOUSE + "3;" + HOUSE + "4;" + HOUSE + "5;").due("carts(5) = 3", "carts(6) = 3",
                "carts(7) = 2", "carts(13) = 2", "carts(14) = 1");
        x.fresh(Streets.BARE + (HOUSE + "1;").repeat(6)).due("carts(1) = 6", "carts(2) = 3", "carts(3) = 2", "carts(5) = 2",
                "carts(6) = 1");
        x.fresh(Streets.BARE + (HOUSE + "99;").repeat(6)).due("carts(99) = 6").fresh(Streets.BARE).due("carts(1) = 0", "carts(99) = 0");
        // A HOUSE of no loads is brought them by a cart all the same.
        x.fresh(Streets.BARE + HOUSE + "0;").due("carts(1) = 1").fresh(Streets.BARE + HOUSE + "0;" + HOUSE + "1;" + HOUSE + "0;")
                .due("carts(1) = 1");
        x = Said.promise(42, "none in two carts", Streets.BARE + (HOUSE + "3;").repeat(3));
        x.due("carts(3) = 3", "carts(5) = 3", "carts(6) = 2", "carts(8) = 2", "carts(9) = 1");
        x = Said.promise(42, "NONE: a HOUSE wants more", Streets.FIVE);
        x.due("carts(4) = -1", "carts(1) = -1", "carts(5) = 3").fresh(Streets.BARE + HOUSE + "99;").due("carts(98) = -1", "carts(99) = 1")
                .fresh(Streets.BARE + HOUSE + "2;");
        x.due("carts(1) = -1", "carts(2) = 1");
        x = Said.promise(42, "-2: there is no such number, no TOWN", Streets.FIVE);
        x.due("carts(0) = -2", "carts(100) = -2", "carts(-1) = -2", "carts(2147483647) = -2", "carts(-2147483648) = -2").fresh(Streets.BARE)
                .due("carts(0) = -2");
        x.fresh().due("carts(1) = -2", "carts(0) = -2");
    }

    private static void cart() {
        Check x = Said.term("IV", "The first such: HOUSE by HOUSE the least cart by which so few still do", Streets.FIVE);
        x.due("cart(7, 0) = 11", "cart(7, 1) = 4", "cart(5, 0) = 9", "cart(5, 1) = 2", "cart(5, 2) = 4");
        x.fresh(Streets.BARE + HOUSE + "2;" + HOUSE + "3;" + HOUSE + "4;" + HOUSE + "5;").due("cart(7, 0) = 9", "cart(7, 1) = 6",
                "cart(8, 0) = 5", "cart(8, 1) = 10",
                "cart(9, 0) = 7", "cart(9, 1) = 8", "cart(6, 0) = 3", "cart(6, 1) = 4", "cart(6, 2) = 8", "cart(13, 0) = 7",
                        "cart(13, 1) = 8", "cart(14, 0) = 15");
        x = Said.term("IV", "carts are used from 0 on", Streets.BARE + HOUSE + "5;" + HOUSE + "1;" + HOUSE + "5;" + HOUSE + "1;");
        x.due("carts(5) = 3", "cart(5, 0) = 1", "cart(5, 1) = 10", "cart(5, 2) = 4", "carts(6) = 2", "cart(6, 0) = 3", "cart(6, 1) = 12");
        x = Said.promise(43, "HOUSES of cart i (from 0) of the first such way (IV), as bits", Streets.FIVE);
        x.due("cart(12, 0) = 15", "cart(7, 0) = 11", "cart(7, 1) = 4").fresh(Streets.BARE + (HOUSE + "99;").repeat(6))
                .due("cart(99, 0) = 1", "cart(99, 5) = 32");
        x.fresh(Streets.BARE + HOUSE + "0;" + HOUSE + "1;" + HOUSE + "0;").due("cart(1, 0) = 7", "cart(1, 1) = -1");
        x = Said.promise(43, "NONE: there is none such", Streets.FIVE);
        x.due("cart(7, 2) = -1", "cart(7, -1) = -1", "cart(12, 1) = -1", "cart(7, 2147483647) = -1", "cart(7, -2147483648) = -1",
                "cart(4, 0) = -1", "cart(4, -1) = -1");
        x.fresh(Streets.BARE).due("cart(5, 0) = -1").fresh(Streets.BARE + (HOUSE + "99;").repeat(6)).due("cart(99, 6) = -1",
                "cart(98, 0) = -1");
        x = Said.promise(43, "-2 likewise", Streets.FIVE);
        x.due("cart(0, 0) = -2", "cart(100, 0) = -2", "cart(-1, 0) = -2", "cart(0, -1) = -2", "cart(100, 9) = -2").fresh()
                .due("cart(1, 0) = -2", "cart(1, -1) = -2");
    }

    private static void wins() {
        Check x = Said.promise(44, "LAST: the HOUSE that pays most to have it last", Streets.FIVE);
        x.due("wins() = 3", "tell(1, 2, 61) = 20", "wins() = 1", "tell(3, 2, 999) = 60", "wins() = 3");
        x = Said.promise(44, "the first of several", Streets.FIVE);
        x.due("tell(1, 2, 60) = 20", "wins() = 1", "tell(0, 2, 60) = 50", "wins() = 0").fresh(Streets.BARE + (HOUSE + "1;").repeat(6))
                .due("wins() = 0");
        Said.promise(44, "NONE: there are none", Streets.BARE).due("wins() = -1");
        Said.promise(44, "-2: there is no TOWN").due("wins() = -2", "town() = 0", "wins() = -2");
    }

    private static void price() {
        Check x = Said.promise(45, "What it must pay: the most that another one pays", Streets.FIVE);
        x.due("price() = 50", "tell(1, 2, 60) = 20", "price() = 60", "tell(0, 2, 999) = 50", "price() = 60", "wins() = 0",
                "tell(0, 2, 60) = 999", "price() = 60");
        x.fresh(Streets.FULL).due("price() = 100");
        x = Said.promise(45, "(0 without)", Streets.BARE + "house at 0 wants 0 pays 999 loads 0;");
        x.due("wins() = 0", "price() = 0", "tell(0, 2, 0) = 999", "wins() = 0", "price() = 0");
        x = Said.promise(45, "NONE, -2 likewise", Streets.BARE);
        x.due("price() = -1", "town() = 0", "price() = -2").fresh().due("price() = -2");
    }

    private static void clerksGame() {
        // Without LANES: 100 if GATE 0 is held; if GATE 1 is, as much by 30 minutes more, and less by fewer or more.
        Check x = Said.term("V", "The clerk makes one GATE hold 30 more", Streets.BARE
                + "gate at 0 holds 10;gate at 1 holds 10;house at 1 wants 40 pays 100 loads 0;house at 1 wants 10 pays 15 loads 0;house at 1 wants 10 pays 15 loads 0;");
        x.due("clerk() = 0", "tell(1, 2, 14) = 15", "clerk() = 0", "tell(1, 2, 16) = 14", "clerk() = 1");
        // More than a GATE can be told to hold: 129.
        x.fresh(Streets.BARE
                + "gate at 0 holds 99;gate at 1 holds 99;house at 0 wants 129 pays 40 loads 0;house at 1 wants 129 pays 20 loads 0;")
                .due("clerk() = 1");
        x = Said.term("V", "the town bars one LANE that is open now, at once");
        // The only LANE is barred, though GLAD of all were greater if none was.
        x.fresh(Streets.BARE
                + "lane 0 to 1 takes 1;gate at 1 holds 0;gate at 0 holds 0;house at 0 wants 0 pays 100 loads 0;house at 1 wants 0 pays 20 loads 0;");
        x.due("clerk() = 1", "rests() = 1", "count(5) = 0", "lane(0, 4) = 0").fresh(COINS).due("rests() = 0", "bar(1, 1) = 0",
                "rests() = 2");
        x = Said.term("V", "the clerk wants GLAD of all least, the town most",
                "town streets 3;lane 0 to 1 takes 5;lane 0 to 2 takes 5;gate at 2 holds 99;gate at 0 holds 99;"
                + "house at 1 wants 134 pays 20 loads 0;house at 2 wants 99 pays 10 loads 0;");
        // LANE 0 barred or LANE 1: 5 or 0 if GATE 0 is held, 10 or 30 if GATE 1 is.
        x.due("rests() = 1", "clerk() = 0");
        x = Said.term("V", "Without GATES or open LANES there are no pairs", Streets.BARE + "lane 0 to 1 takes 5;");
        x.due("rests() = 0").fresh(Streets.BARE + "gate at 0 holds 5;").due("rests() = 0").fresh(Streets.BARE
                + "gate at 0 holds 5;lane 0 to 1 takes 5 barred;").due("rests() = 0",
                "bar(0, 0) = 1", "rests() = 1").fresh(Streets.BARE).due("rests() = 0");
        x = Said.term("V", "What the town does best: a LANE to bar (none barred, if none is open)", Streets.BARE
                + "lane 0 to 1 takes 5 barred;gate at 0 holds 10;"
                + "gate at 1 holds 10;house at 0 wants 10 pays 20 loads 0;house at 1 wants 10 pays 30 loads 0;");
        x.due("clerk() = 1", "tell(0, 2, 30) = 20", "clerk() = 0", "tell(1, 2, 29) = 30", "clerk() = 0");
    }

    private static void rests() {
        Check x = Said.promise(46, "CLERK (V): pairs of a GATE and a LANE (open now)");
        x.fresh(Streets.BARE + "lane 0 to 1 takes 5;lane 0 to 1 takes 5;gate at 0 holds 1;gate at 1 holds 1;").due("rests() = 4",
                "bar(0, 1) = 0", "rests() = 2", "bar(1, 1) = 0",
                "rests() = 0").fresh("town streets 2;" + "lane 0 to 1 takes 5;".repeat(10) + "gate at 0 holds 1;".repeat(4))
                        .due("rests() = 40");
        x = Said.promise(46, "by which neither the clerk nor the town would do better by another one alone", Streets.FIVE);
        // GATE 0 held: 40, 35, 40, 40 by the LANE; GATE 1: 40, 65, 60, 60.
        x.due("rests() = 3").fresh(COINS).due("rests() = 0");
        // GATE 0 held is worst for the town in any case; it does best by one of the LANES 1, 2, 5, 6, 7, 9.
        x.fresh(Streets.FULL).due("rests() = 6", "clerk() = 0");
        Said.promise(46, "-2: there is no TOWN").due("rests() = -2");
    }

    private static void clerk() {
        Check x = Said.promise(47, "The GATE of the clerk by which GLAD of all is least, whatever the town does best", Streets.FIVE);
        x.due("clerk() = 0", "tell(0, 1, 60) = 30", "clerk() = 1");
        x = Said.promise(47, "the first of several", COINS);
        x.due("clerk() = 0", "tell(0, 2, 9) = 10", "clerk() = 1", "tell(0, 2, 11) = 9", "clerk() = 0").fresh(Streets.BARE
                + "gate at 0 holds 1;".repeat(4)).due("clerk() = 0");
        x = Said.promise(47, "NONE: there are none", Streets.BARE);
        x.due("clerk() = -1").fresh(Streets.BARE + "lane 0 to 1 takes 5;house at 0 wants 0 pays 9 loads 0;").due("clerk() = -1");
        Said.promise(47, "-2 likewise").due("clerk() = -2");
    }
}
