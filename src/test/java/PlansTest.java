/** Promises 39 to 47: gates placed, carts, who pays to be last, the clerk. */
public final class PlansTest {
    public static void main(String[] args) {
        places();
        carts();
        last();
        clerk();
        Check.close("PlansTest");
    }

    private static void places() {
        Check x = Check.with(Streets.FIVE);
        x.due("place(1) = -1", "places(1) = -1", "soon(1) = -1", "place(2) = 15", "places(2) = 18", "soon(2) = 35",
                "place(3) = 10", "places(3) = 21", "soon(3) = 15", "place(4) = 5", "places(4) = 23", "soon(4) = 5",
                "place(0) = -2", "place(5) = -2", "places(0) = -2", "places(5) = -2", "soon(0) = -2", "soon(5) = -2");
        x.due("bar(3, 1) = 0", "place(2) = -1", "place(3) = 10", "places(3) = 26", "soon(3) = 20");
        // The soonest set and the one of the least minutes together need not be the same.
        Check y = Check.with("town streets 5;lane 0 to 1 takes 1;lane 0 to 2 takes 1;lane 0 to 3 takes 6;lane 3 to 4 takes 6;gate at 4 holds 9;");
        y.due("place(1) = 7", "places(1) = 8", "soon(1) = 20", "bar(3, 1) = 0", "soon(1) = -1");
        Check bare = Check.with(Streets.BARE);
        bare.due("place(1) = -1", "place(2) = 0", "places(2) = 3", "soon(2) = 0", "place(4) = 0", "places(4) = 3", "soon(3) = 0");
    }

    private static void carts() {
        Check x = Check.with(Streets.FIVE);
        x.due("carts(7) = 2", "cart(7, 0) = 11", "cart(7, 1) = 4", "cart(7, 2) = -1", "cart(7, -1) = -1", "carts(12) = 1",
                "cart(12, 0) = 15", "cart(12, 1) = -1", "carts(4) = -1", "cart(4, 0) = -1", "carts(5) = 3", "cart(5, 0) = 9",
                "cart(5, 1) = 2", "cart(5, 2) = 4", "carts(99) = 1", "carts(0) = -2", "carts(100) = -2", "carts(-1) = -2",
                "cart(0, 0) = -2", "cart(100, 0) = -2");
        String house = "house at 0 wants 0 pays 0 loads ";
        Check tight = Check.with(Streets.BARE + house + "2;" + house + "3;" + house + "4;" + house + "5;");
        tight.due("carts(7) = 2", "cart(7, 0) = 9", "cart(7, 1) = 6", "carts(8) = 2", "cart(8, 0) = 5", "cart(8, 1) = 10", "carts(6) = 3",
                "cart(6, 0) = 3", "cart(6, 1) = 4", "cart(6, 2) = 8");
        Check six = Check.with(Streets.BARE + (house + "99;").repeat(6));
        six.due("carts(99) = 6", "cart(99, 5) = 32", "cart(99, 6) = -1", "carts(98) = -1");
        Check none = Check.with(Streets.BARE);
        none.due("carts(5) = 0", "cart(5, 0) = -1", "carts(1) = 0");
        // A HOUSE that wants no loads is in a cart all the same.
        Check light = Check.with(Streets.BARE + house + "0;" + house + "1;" + house + "0;");
        light.due("carts(1) = 1", "cart(1, 0) = 7");
    }

    private static void last() {
        Check x = Check.with(Streets.FIVE);
        x.due("wins() = 3", "price() = 50", "tell(1, 2, 60) = 20", "wins() = 1", "price() = 60");
        Check one = Check.with("town streets 2;house at 0 wants 0 pays 0 loads 0;");
        one.due("wins() = 0", "price() = 0", "tell(0, 2, 9) = 0", "price() = 0");
        Check none = Check.with(Streets.BARE);
        none.due("wins() = -1", "price() = -1");
    }

    private static void clerk() {
        Check x = Check.with(Streets.FIVE);
        x.due("rests() = 3", "clerk() = 0");
        // GLAD of all, lane 0 barred or lane 1: 5 or 0 if gate 0 is held, 10 or 30 if gate 1 is.
        Check y = Check.with("town streets 3;lane 0 to 1 takes 5;lane 0 to 2 takes 5;gate at 2 holds 99;gate at 0 holds 99;"
                + "house at 1 wants 134 pays 20 loads 0;house at 2 wants 99 pays 10 loads 0;");
        y.due("rests() = 1", "clerk() = 0");
        Check shut = Check.with("town streets 2;lane 0 to 1 takes 5 barred;gate at 0 holds 10;gate at 1 holds 10;"
                + "house at 0 wants 10 pays 20 loads 0;house at 1 wants 10 pays 30 loads 0;");
        shut.due("rests() = 0", "clerk() = 1");
        Check bare = Check.with(Streets.BARE + "lane 0 to 1 takes 5;");
        bare.due("rests() = 0", "clerk() = -1");
        Check even = Check.with("town streets 2;lane 0 to 1 takes 5;lane 0 to 1 takes 5;gate at 0 holds 1;gate at 1 holds 1;");
        even.due("rests() = 4", "clerk() = 0");
    }
}
