/** Promises 1 to 8 and 57: the TAPE, the TOWN's text and its FAULTS. */
public final class TextTest {
    public static void main(String[] args) {
        newObject();
        feedAndEnd();
        bytesHighestFirst();
        townAndParts();
        noTownByEmptyTape();
        townInPlaceOfAnother();
        faultsOfTokens();
        faultsOfLines();
        faultsOfNumbers();
        faultsOfTooMany();
        faultLeavesAll();
        Check.close("TextTest");
    }

    private static void newObject() {
        Check x = new Check();
        x.due("count(0) = 0", "count(1) = 0", "count(2) = 0", "count(3) = 0", "count(4) = 0", "count(5) = 0",
                "count(6) = 0", "count(7) = 0", "count(8) = 0", "count(9) = -1", "count(-1) = -1",
                "fault(0) = 0", "fault(1) = -1", "fault(2) = -1", "fault(-1) = -1",
                "lane(0, 0) = -2", "gate(0, 0) = -2", "house(0, 0) = -2", "comes(0) = -2", "from(0) = -2",
                "by(0) = -2", "light(0) = -2", "full() = -2", "last() = -2", "idle() = -2", "harm(0) = -2",
                "whose(0) = -2", "owns(0) = -2", "front() = -2", "late(0) = -2", "glad(0) = -2", "all() = -2",
                "steps(0) = -2", "have(0) = -2", "gladdest() = -2", "best(0) = -2", "bars(0) = -2", "opens(0) = -2",
                "cut(0, 0) = -2", "cuts(0, 0) = -2", "hold(0, 0, 0) = -2", "asks(0) = -2", "brings(0) = -2",
                "fits(0) = -2", "held(0) = -2", "fit(0, 0) = -2", "ask(0) = -2", "leaves(0) = -2", "place(1) = -2",
                "places(1) = -2", "soon(1) = -2", "carts(1) = -2", "cart(1, 0) = -2", "wins() = -2", "price() = -2",
                "rests() = -2", "clerk() = -2", "chance(0, 0, 0) = -2", "sure(0, 0) = -2", "bar(0, 0) = -2",
                "holds(0, 0) = -2", "undo() = -2", "anew() = -2", "drawn(0, 0) = -2", "luck(0, 1, 0, 0) = -2",
                "tell(0, 1, 0) = -2", "back(0) = -6", "back(1) = -6", "back(2) = -6");
        Check.same("NONE", DarkGate.NONE, -1);
    }

    private static void feedAndEnd() {
        Check x = new Check();
        x.due("end(0) = 0", "end(1) = -1", "end(-1) = -1");
        for (int i = 1; i <= 49; i++) {
            x.due("feed(0, 0, 0, 0, 0) = " + 20 * i);
        }
        x.due("end(981) = -1", "end(980) = 980", "feed(1, 2, 3, 4, 5) = 1000", "feed(0, 0, 0, 0, 0) = -1",
                "count(7) = 1000", "end(1001) = -1", "count(7) = 1000", "end(981) = 981", "feed(0, 0, 0, 0, 0) = -1",
                "count(7) = 981", "end(-1) = -1", "count(7) = 981", "end(980) = 980", "feed(0, 0, 0, 0, 0) = 1000",
                "end(0) = 0", "count(7) = 0", "feed(0, 0, 0, 0, 0) = 20", "end(7) = 7", "feed(0, 0, 0, 0, 0) = 27");
    }

    private static void bytesHighestFirst() {
        Check x = new Check();
        x.due("feed(" + 0x746f776e + ", " + 0x20737472 + ", " + 0x65657473 + ", " + 0x20323b0a + ", " + 0x0a20200a + ") = 20",
                "town() = 1", "count(0) = 2", "count(7) = 0");
        x.due("feed(-1, 0, 0, 0, 0) = 20", "town() = -4", "fault(0) = 1", "fault(1) = 0");
    }

    private static void townAndParts() {
        Check x = new Check();
        x.tape(Streets.FIVE);
        x.due("town() = 12", "count(7) = 0", "fault(0) = 0", "fault(1) = -1", "fault(2) = -1",
                "count(0) = 5", "count(1) = 5", "count(2) = 2", "count(3) = 4", "count(4) = 0", "count(5) = 0",
                "count(6) = 12", "count(8) = 0");
        x.due("lane(0, 0) = 0", "lane(0, 1) = 1", "lane(0, 2) = 10", "lane(0, 3) = 0", "lane(0, 4) = 0",
                "lane(1, 3) = 5", "lane(4, 0) = 0", "lane(4, 1) = 3", "lane(4, 2) = 1", "lane(4, 4) = 1",
                "lane(5, 0) = -2", "lane(-1, 0) = -2", "lane(0, 5) = -2", "lane(0, -1) = -2");
        x.due("gate(0, 0) = 0", "gate(0, 1) = 20", "gate(1, 0) = 2", "gate(1, 1) = 45", "gate(2, 0) = -2",
                "gate(-1, 0) = -2", "gate(0, 2) = -2", "gate(0, -1) = -2");
        x.due("house(0, 0) = 1", "house(0, 1) = 30", "house(0, 2) = 50", "house(0, 3) = 3", "house(3, 0) = 4",
                "house(4, 0) = -2", "house(-1, 0) = -2", "house(0, 4) = -2", "house(0, -1) = -2");
        Check y = Check.with(Streets.ROW);
        y.due("count(4) = 2", "count(3) = 0", "count(6) = 7");
        Check z = Check.with("town streets 8;lane 7 to 0 takes 60 muddy 10 barred;gate at 7 holds 99;"
                + "house at 7 wants 999 pays 999 loads 99;stranger at 7 from 999;");
        z.due("lane(0, 0) = 7", "lane(0, 2) = 60", "lane(0, 3) = 10", "lane(0, 4) = 1", "gate(0, 1) = 99",
                "house(0, 1) = 999", "house(0, 2) = 999", "house(0, 3) = 99");
        Check tight = Check.with("town\nstreets002;lane0to1takes1muddy0barred;gate at0holds0;");
        tight.due("count(6) = 3", "lane(0, 4) = 1", "lane(0, 3) = 0", "count(0) = 2");
    }

    private static void noTownByEmptyTape() {
        Check x = Check.with(Streets.FIVE);
        x.due("bar(0, 1) = 0", "town() = 0", "count(0) = 0", "count(1) = 0", "count(5) = 0", "count(6) = 0",
                "comes(0) = -2", "full() = -2", "fault(0) = 0", "fault(1) = -1");
        x.tape(" \n ");
        x.due("town() = 0", "count(7) = 0");
    }

    private static void townInPlaceOfAnother() {
        Check x = Check.with(Streets.FIVE);
        x.due("bar(0, 1) = 0", "count(5) = 1");
        x.tape(Streets.BARE);
        x.due("town() = 1", "count(0) = 2", "count(1) = 0", "count(2) = 0", "count(3) = 0", "count(5) = 0",
                "lane(0, 0) = -2", "undo() = -5");
        x.tape("town streets 3;lane 0 to 1 takes 4;");
        x.due("town() = 2", "lane(0, 3) = 0", "lane(0, 4) = 0", "count(1) = 1");
    }

    private static void faulty(String text, int fault, int place) {
        Check x = new Check();
        x.tape(text);
        Check.same("town of " + text, x.gate.town(), -4);
        Check.same("fault of " + text, x.gate.fault(0), fault);
        Check.same("place of fault of " + text, x.gate.fault(1), place);
        Check.same("fault(2)", x.gate.fault(2), -1);
        Check.same("tape behind " + text, x.gate.count(7), text.length());
    }

    private static void faultsOfTokens() {
        faulty("#", 1, 0);
        faulty("\t", 1, 0);
        faulty("town\tstreets 2;", 1, 4);
        faulty("town streets 2;\r", 1, 15);
        faulty("Town streets 2;", 1, 0);
        faulty("town streets 2.", 1, 14);
        faulty("town streets -2;", 1, 13);
        faulty("town streets 2;\u00e9", 1, 15);
        faulty("town streets 2;\u0000", 1, 15);
        faulty("town streets 2;lane 0 to 1 takes 5 muddY 3;", 1, 35);
    }

    private static void faultsOfLines() {
        faulty(";", 1, 0);
        faulty("7", 1, 0);
        faulty("lane 0 to 1 takes 5;", 1, 0);
        faulty("  gate at 0 holds 3;town streets 2;", 1, 2);
        faulty("streets 2;", 1, 0);
        faulty("towns streets 2;", 1, 0);
        faulty("town", 1, 4);
        faulty("town  ", 1, 6);
        faulty("town 2;", 1, 5);
        faulty("town streets;", 1, 12);
        faulty("town streets 2", 1, 14);
        faulty("town streets 2 \n", 1, 16);
        faulty("town streets 2 3;", 1, 15);
        faulty("town streets two;", 1, 13);
        faulty("townstreets 2;", 1, 0);
        faulty("town streets 2;;", 1, 15);
        faulty("town streets 2;town streets 2;", 1, 15);
        faulty("town streets 2;5", 1, 15);
        faulty("town streets 2;lan 0 to 1 takes 5;", 1, 15);
        faulty("town streets 2;lane at 1 takes 5;", 1, 20);
        faulty("town streets 2;lane 0 1 takes 5;", 1, 22);
        faulty("town streets 2;lane 0 to 1 5;", 1, 27);
        faulty("town streets 2;lane 0 to 1 takes 5 barred muddy 3;", 1, 42);
        faulty("town streets 2;lane 0 to 1 takes 5 muddy;", 1, 40);
        faulty("town streets 2;lane 0 to 1 takes 5 muddy 1 muddy 1;", 1, 43);
        faulty("town streets 2;lane 0 to 1 takes 5 barred barred;", 1, 42);
        faulty("town streets 2;gate 0 holds 3;", 1, 20);
        faulty("town streets 2;gate at 0 takes 3;", 1, 25);
        faulty("town streets 2;house at 0 pays 3 wants 3 loads 1;", 1, 26);
        faulty("town streets 2;house at 0 wants 3 pays 3;", 1, 40);
        faulty("town streets 2;stranger at 0 holds 3;", 1, 29);
        faulty("town streets 2;stranger at 0 from", 1, 33);
    }

    private static void faultsOfNumbers() {
        faulty("town streets 1;", 2, 13);
        faulty("town streets 9;", 2, 13);
        faulty("town streets 4294967298;", 2, 13);
        faulty("town streets 00000000000000000000000000000000000000000009;", 2, 13);
        faulty("town streets 99999999999999999999999999999999999999999992 #", 2, 13);
        faulty("town streets 2;lane 2 to 1 takes 5;", 2, 20);
        faulty("town streets 2;lane 0 to 2 takes 5;", 2, 25);
        faulty("town streets 2;lane 1 to 1 takes 5;", 2, 25);
        faulty("town streets 2;lane 1 to 01 takes 5;", 2, 25);
        faulty("town streets 2;lane 0 to 1 takes 0;", 2, 33);
        faulty("town streets 2;lane 0 to 1 takes 61;", 2, 33);
        faulty("town streets 2;lane 0 to 1 takes 60 muddy 11;", 2, 42);
        faulty("town streets 2;gate at 2 holds 3;", 2, 23);
        faulty("town streets 2;gate at 0 holds 100;", 2, 31);
        faulty("town streets 2;house at 2 wants 3 pays 3 loads 1;", 2, 24);
        faulty("town streets 2;house at 0 wants 1000 pays 3 loads 1;", 2, 32);
        faulty("town streets 2;house at 0 wants 3 pays 1000 loads 1;", 2, 39);
        faulty("town streets 2;house at 0 wants 3 pays 3 loads 100;", 2, 47);
        faulty("town streets 2;stranger at 2 from 3;", 2, 27);
        faulty("town streets 2;stranger at 0 from 1000;", 2, 34);
    }

    private static void faultsOfTooMany() {
        tooMany("lane 0 to 1 takes 5;", 10);
        tooMany("gate at 0 holds 3;", 4);
        tooMany("house at 0 wants 3 pays 3 loads 1;", 6);
        tooMany("stranger at 0 from 3;", 2);
    }

    private static void tooMany(String line, int most) {
        String text = Streets.BARE + line.repeat(most);
        Check.with(text).due("count(6) = " + (most + 1));
        faulty(text + " " + line, 3, text.length() + 1);
        faulty(text + line.substring(0, 4), line.startsWith("lane") || line.startsWith("gate") ? 3 : 1, text.length());
    }

    private static void faultLeavesAll() {
        Check x = Check.with(Streets.FIVE);
        x.due("bar(2, 1) = 0");
        x.tape("town streets 2");
        x.due("town() = -4", "fault(0) = 1", "fault(1) = 14", "count(0) = 5", "count(5) = 1", "lane(2, 4) = 1",
                "count(7) = 14", "town() = -4");
        x.tape(";");
        x.due("count(7) = 15", "town() = 1", "count(0) = 2", "fault(0) = 0", "fault(1) = -1");
    }
}
