/** What Term I and promises 1 to 8 say: the TAPE, the TOWN's text, its FAULTS, and what is in it. */
final class SaidOfText {
    private static final String TWO = "town streets 2;";
    private static final String LANE = "lane 0 to 1 takes 5;";
    private static final String GATE = "gate at 0 holds 3;";
    private static final String HOUSE = "house at 0 wants 3 pays 3 loads 1;";
    private static final String STRANGER = "stranger at 0 from 3;";

    private SaidOfText() {
    }

    static void all() {
        lines();
        townLine();
        bounds();
        numbered();
        tokens();
        places();
        faults();
        tooMany();
        newObject();
        feed();
        end();
        town();
        townStays();
        fault();
        parts();
    }

    private static void lines() {
        Check x = Said.term("I", "TOWN: {LINE ;}");
        x.reads("", 0).reads(TWO, 1).reads(TWO + LANE, 2).reads(TWO + GATE + GATE, 3);
        x.refuses(";", 1, 0).refuses(TWO + ";", 1, 15).refuses(";" + TWO, 1, 0).refuses(TWO + GATE + ";" + LANE, 1, 33);
        x.refuses("town streets 2", 1, 14).refuses(TWO + "gate at 0 holds 3", 1, 32).refuses("town streets 2 lane 0 to 1 takes 5;", 1, 15);
        x = Said.term("I", "LINE: town streets N");
        x.reads(TWO, 1).refuses("town;", 1, 4).refuses("town 2;", 1, 5).refuses("town streets;", 1, 12).refuses("town streets two;", 1, 13);
        x.refuses("town streets 2 3;", 1, 15).refuses("town streets streets 2;", 1, 13).refuses("streets 2;", 1, 0);
        x = Said.term("I", "lane S to S takes N [muddy N] [barred]");
        x.reads(TWO + "lane 1 to 0 takes 5;", 2).due("lane(0, 0) = 1", "lane(0, 1) = 0", "lane(0, 2) = 5", "lane(0, 3) = 0",
                "lane(0, 4) = 0");
        x.reads(TWO + "lane 0 to 1 takes 5 muddy 3;", 2).due("lane(0, 3) = 3", "lane(0, 4) = 0");
        x.reads(TWO + "lane 0 to 1 takes 5 barred;", 2).due("lane(0, 3) = 0", "lane(0, 4) = 1");
        x.reads(TWO + "lane 0 to 1 takes 5 muddy 3 barred;", 2).due("lane(0, 3) = 3", "lane(0, 4) = 1");
        x.refuses(TWO + "lane;", 1, 19).refuses(TWO + "lane 0;", 1, 21).refuses(TWO + "lane 0 to;", 1, 24).refuses(TWO + "lane 0 to 1;", 1,
                26);
        x.refuses(TWO + "lane 0 to 1 takes;", 1, 32).refuses(TWO + "lane at 0 to 1 takes 5;", 1, 20).refuses(TWO + "lane 0 1 takes 5;", 1,
                22);
        x.refuses(TWO + "lane 0 to 1 5;", 1, 27).refuses(TWO + "lane 0 to 1 takes 5 6;", 1, 35).refuses(TWO
                + "lane 0 to 1 muddy 3 takes 5;", 1, 27);
        x.refuses(TWO + "lane 0 to 1 takes 5 barred muddy 3;", 1, 42).refuses(TWO + "lane 0 to 1 takes 5 muddy;", 1, 40);
        x.refuses(TWO + "lane 0 to 1 takes 5 muddy barred;", 1, 41).refuses(TWO + "lane 0 to 1 takes 5 muddy 1 muddy 1;", 1, 43);
        x.refuses(TWO + "lane 0 to 1 takes 5 barred barred;", 1, 42).refuses(TWO + "lane 0 to 1 takes 5 barred 1;", 1, 42);
        x = Said.term("I", "gate at S holds N");
        x.reads(TWO + "gate at 1 holds 3;", 2).due("gate(0, 0) = 1", "gate(0, 1) = 3");
        x.refuses(TWO + "gate 0 holds 3;", 1, 20).refuses(TWO + "gate at holds 3;", 1, 23).refuses(TWO + "gate at 0;", 1, 24);
        x.refuses(TWO + "gate at 0 takes 3;", 1, 25).refuses(TWO + "gate at 0 holds;", 1, 30).refuses(TWO + "gate at 0 holds 3 barred;", 1,
                33);
        x = Said.term("I", "house at S wants N pays N loads N");
        x.reads(TWO + "house at 1 wants 2 pays 3 loads 4;", 2).due("house(0, 0) = 1", "house(0, 1) = 2", "house(0, 2) = 3",
                "house(0, 3) = 4");
        x.refuses(TWO + "house 1 wants 2 pays 3 loads 4;", 1, 21).refuses(TWO + "house at wants 2 pays 3 loads 4;", 1, 24);
        x.refuses(TWO + "house at 1 pays 3 wants 2 loads 4;", 1, 26).refuses(TWO + "house at 1 wants pays 3 loads 4;", 1, 32);
        x.refuses(TWO + "house at 1 wants 2 loads 4 pays 3;", 1, 34).refuses(TWO + "house at 1 wants 2 pays loads 4;", 1, 39);
        x.refuses(TWO + "house at 1 wants 2 pays 3;", 1, 40).refuses(TWO + "house at 1 wants 2 pays 3 loads;", 1, 46);
        x.refuses(TWO + "house at 1 wants 2 pays 3 loads 4 5;", 1, 49);
        x = Said.term("I", "stranger at S from N");
        x.reads(TWO + "stranger at 1 from 3;", 2).due("count(4) = 1", "whose(1) = 1", "whose(0) = -1");
        x.refuses(TWO + "stranger 1 from 3;", 1, 24).refuses(TWO + "stranger at from 3;", 1, 27).refuses(TWO + "stranger at 1 holds 3;", 1,
                29);
        x.refuses(TWO + "stranger at 1 from;", 1, 33).refuses(TWO + "stranger at 1 from 3 4;", 1, 36);
    }

    private static void townLine() {
        Check x = Said.term("I", "town is the first LINE and no other");
        x.reads("town streets 3;" + LANE, 2).refuses(TWO + TWO, 1, 15).refuses(TWO + GATE + TWO, 1, 33);
        x.refuses(LANE, 1, 0).refuses(GATE + TWO, 1, 0).refuses(HOUSE + TWO, 1, 0).refuses(STRANGER + TWO, 1, 0);
        x = Said.term("I", "streets 2 .. 8");
        x.refuses("town streets 0;", 2, 13).refuses("town streets 1;", 2, 13).refuses("town streets 9;", 2, 13);
        x.reads("town streets 2;", 1).due("count(0) = 2").reads("town streets 8;", 1).due("count(0) = 8");
    }

    /** The last numbers that a bound takes, and the first that it does not. */
    private static void bound(Check x, String ahead, int least, int most, String behind) {
        String text = TWO + ahead;
        if (least > 0) {
            x.refuses(text + (least - 1) + behind, 2, text.length());
        }
        x.reads(text + least + behind, 2).reads(text + most + behind, 2);
        x.refuses(text + (most + 1) + behind, 2, text.length());
    }

    private static void bounds() {
        Check x = Said.term("I", "S a STREET 0 .. streets less 1");
        x.reads(TWO + "lane 0 to 1 takes 5;lane 1 to 0 takes 5;", 3).refuses(TWO + "lane 2 to 1 takes 5;", 2, 20);
        x.refuses(TWO + "lane 0 to 2 takes 5;", 2, 25).reads(TWO + "gate at 0 holds 3;gate at 1 holds 3;", 3).refuses(TWO
                + "gate at 2 holds 3;", 2, 23);
        x.reads(TWO + HOUSE + "house at 1 wants 3 pays 3 loads 1;", 3).refuses(TWO + "house at 2 wants 3 pays 3 loads 1;", 2, 24);
        x.reads(TWO + STRANGER + "stranger at 1 from 3;", 3).refuses(TWO + "stranger at 2 from 3;", 2, 27);
        x.reads("town streets 8;lane 7 to 6 takes 5;gate at 7 holds 3;house at 7 wants 3 pays 3 loads 1;stranger at 7 from 3;", 5);
        x.refuses("town streets 8;lane 8 to 7 takes 5;", 2, 20).refuses("town streets 8;gate at 8 holds 3;", 2, 23);
        x = Said.term("I", "a lane's two unlike ones");
        x.refuses(TWO + "lane 1 to 1 takes 5;", 2, 25).refuses(TWO + "lane 0 to 0 takes 5;", 2, 25).refuses(TWO + "lane 1 to 01 takes 5;",
                2, 25);
        bound(Said.term("I", "takes 1 .. 60"), "lane 0 to 1 takes ", 1, 60, ";");
        bound(Said.term("I", "muddy 0 .. 10"), "lane 0 to 1 takes 5 muddy ", 0, 10, ";");
        x = Said.term("I", "(0 without)");
        x.reads(TWO + LANE, 2).due("lane(0, 3) = 0").reads(TWO + "lane 0 to 1 takes 5 barred;", 2).due("lane(0, 3) = 0");
        // Nothing of the TOWN ahead of it is left in a LANE without muddy.
        x.reads(TWO + "lane 0 to 1 takes 5 muddy 9 barred;", 2).tape(TWO + LANE).due("town() = 2", "lane(0, 3) = 0", "lane(0, 4) = 0");
        x.tape(TWO + LANE).due("town() = 2", "lane(0, 3) = 0", "lane(0, 4) = 0");
        bound(Said.term("I", "holds 0 .. 99"), "gate at 0 holds ", 0, 99, ";");
        x = Said.term("I", "wants, pays, from 0 .. 999");
        bound(x, "house at 0 wants ", 0, 999, " pays 3 loads 1;");
        bound(x, "house at 0 wants 3 pays ", 0, 999, " loads 1;");
        bound(x, "stranger at 0 from ", 0, 999, ";");
        bound(Said.term("I", "loads 0 .. 99"), "house at 0 wants 3 pays 3 loads ", 0, 99, ";");
    }

    private static void numbered() {
        Check x = Said.term("I", "LANES 0 .. 9, GATES 0 .. 3, HOUSES 0 .. 5, STRANGERS 0 .. 1 are numbered as they stand", Streets.FULL);
        x.due("lane(0, 0) = 0", "lane(0, 1) = 1", "lane(8, 2) = 1", "lane(9, 2) = 60", "lane(10, 2) = -2", "gate(0, 1) = 0",
                "gate(3, 0) = 3",
                "gate(4, 0) = -2", "house(0, 0) = 0", "house(5, 0) = 5", "house(6, 0) = -2", "owns(1) = 56", "owns(2) = 64",
                        "owns(3) = -2");
        x.fresh(TWO + "gate at 1 holds 9;lane 0 to 1 takes 7;" + HOUSE + "gate at 0 holds 8;" + STRANGER + "lane 1 to 0 takes 6;");
        x.due("gate(0, 1) = 9", "gate(1, 1) = 8", "lane(0, 2) = 7", "lane(1, 2) = 6", "lane(2, 2) = -2", "house(0, 0) = 0",
                "house(1, 0) = -2");
    }

    private static void tokens() {
        Check x = Said.term("I", "TOKENS, blanks (32, 10) aside");
        x.reads("   ", 0).reads("\n\n", 0).reads(" \ntown \n streets\n2 ;\n " + LANE + " \n", 2).reads("town\nstreets\n2\n;", 1);
        for (char sign : new char[] {0, 9, 11, 12, 13, 31, 33, 127, 160, 255}) {
            x.refuses("town" + sign + "streets 2;", 1, 4).refuses(TWO + sign, 1, 15);
        }
        x = Said.term("I", "the longest: words (a .. z), numbers (digits), the sign ;");
        x.reads("town streets2;lane0to1takes5muddy3barred;gate at1holds9;", 3).due("lane(0, 2) = 5", "lane(0, 3) = 3", "lane(0, 4) = 1");
        x.refuses("townstreets 2;", 1, 0).refuses("towns treets 2;", 1, 0).refuses("town streetss 2;", 1, 5).refuses(TWO
                + "gate atholds 3;", 1, 20);
        x.reads("town streets 02;", 1).reads("town streets 0000000000000000000000000000000002;", 1).due("count(0) = 2");
        x.refuses("town streets 2 2;", 1, 15).refuses("town streets 22;", 2, 13).refuses("t own streets 2;", 1, 0);
        x.refuses("town streets 4294967298;", 2, 13).refuses("town streets 18446744073709551618;", 2, 13).refuses(TWO
                + "gate at 0 holds 4294967299;", 2, 31);
        x.refuses("town streets 99999999999999999999999999999999999999999999999992;", 2, 13);
        // The signs next to a .. z, to 0 .. 9 and to ; are none; nor are capitals or signs above 127.
        for (char sign : new char[] {'`', '{', '/', ':', '<', 'A', 'Z', '-', '+', '.', '_', 0xe1, 0xb2, 0xbb}) {
            x.refuses(sign + TWO, 1, 0).refuses(TWO + sign, 1, 15).refuses("town streets " + sign + ";", 1, 13);
        }
        x.refuses("Town streets 2;", 1, 0).refuses("towna streets 2;", 1, 0).refuses("townz streets 2;", 1, 0)
                .refuses("town streets 2;azaz", 1, 15);
        everyLetter(x, "town streets 2;lane 0 to 1 takes 5 muddy 3 barred;gate at 0 holds 3;house at 0 wants 1 pays 2 loads 3;stranger at 0 from 4;");
    }

    /** A text in which any one letter is another is none, by a FAULT at the word in which that letter is. */
    private static void everyLetter(Check x, String text) {
        x.reads(text, 5);
        int word = 0;
        for (int i = 0; i < text.length(); i++) {
            if (!Character.isLetter(text.charAt(i))) {
                word = i + 1;
            } else {
                char other = text.charAt(i) == 'q' ? 'x' : 'q';
                x.refuses(text.substring(0, i) + other + text.substring(i + 1), 1, word);
            }
        }
    }

    private static void places() {
        Check x = Said.term("I", "FAULTS, the first by its place");
        x.refuses("town streets 9;#", 2, 13).refuses(TWO + "gate at 5 holds 100;", 2, 23).refuses("town streets 2#lane 1 to 1", 1, 14);
        x.refuses(TWO + GATE.repeat(5) + "lane 0 to 9 takes 5;", 3, 87).refuses(TWO + "lane 1 to 1 takes 99;" + TWO, 2, 25);
        x.refuses(TWO + "lane 0 to 1 takes 99 muddy 99", 2, 33).refuses(TWO + LANE.repeat(10) + "gate at 2 holds 1;" + LANE, 2, 223);
        x = Said.term("I", "(a TOKEN's first byte; the end's)");
        x.refuses("  \n town streets  999;", 2, 18).refuses(" towns;", 1, 1).refuses(TWO + " \n lanes", 1, 18).refuses("town", 1, 4);
        x.refuses("town  ", 1, 6).refuses("town streets 2\n\n", 1, 16).refuses(TWO + "lane 0 to 1 takes 5 muddy", 1, 40)
                .refuses("town streets", 1, 12);
        x.refuses(TWO + "stranger at 0 from", 1, 33).refuses(TWO + "house at 0 wants 3 pays 3 loads 1  ", 1, 50);
        // What stood on the TAPE behind its end is not read.
        x.fresh().tape("town streets 2;").due("end(14) = 14", "town() = -4", "fault(0) = 1", "fault(1) = 14");
        x.fresh().tape("town streets 25;").due("end(14) = 14", "town() = -4", "fault(0) = 1", "fault(1) = 14");
        x.fresh().tape(TWO + "lane").due("end(15) = 15", "town() = 1").fresh().tape(TWO + "lane").due("end(18) = 18", "town() = -4",
                "fault(1) = 15");
        x.refuses(" ".repeat(999) + "x", 1, 999).refuses(TWO + "lane 0 to 1 takes" + " ".repeat(968), 1, 1000);
        x = Said.term("I", "of one place the least");
        // A number that can't stand there is not asked for its bounds; nor is a lane's word, ahead of the town, for how many there are.
        x.refuses("town 999;", 1, 5).refuses(TWO + "lane 0 99 takes 5;", 1, 22).refuses("99999", 1, 0).refuses(TWO + "999;", 1, 15);
        x.refuses(TWO + LANE.repeat(10) + "lanes 0 to 1;", 1, 215).refuses(TWO + LANE.repeat(10) + "11;", 1, 215);
    }

    private static void faults() {
        Check x = Said.term("I", "1 a TOKEN that is none");
        x.refuses("#", 1, 0).refuses("\t", 1, 0).refuses("town streets -2;", 1, 13).refuses("town streets 2.", 1, 14)
                .refuses("town streets 2,", 1, 14);
        x.refuses(TWO + "lane 0 to 1 takes 5 muddY 3;", 1, 39 - 4).refuses("town street$ 2;", 1, 5).refuses("town streets 2$;", 1, 14);
        x = Said.term("I", "or can't stand there (town behind the first LINE, another word ahead of it)");
        x.refuses(TWO + TWO, 1, 15).refuses(TWO + LANE + "town", 1, 35).refuses("lane 0 to 1 takes 5;" + TWO, 1, 0)
                .refuses("towns streets 2;", 1, 0);
        x.refuses("tow streets 2;", 1, 0).refuses("7", 1, 0).refuses(TWO + "lan 0 to 1 takes 5;", 1, 15).refuses(TWO
                + "lanes 0 to 1 takes 5;", 1, 15);
        x.refuses(TWO + "5", 1, 15).refuses(TWO + "streets 2;", 1, 15).refuses(TWO + "barred;", 1, 15).refuses(TWO + "at 0;", 1, 15);
        x = Said.term("I", "2 a number out of its bounds, not as said");
        x.refuses("town streets 1;", 2, 13).refuses(TWO + "lane 0 to 1 takes 0;", 2, 33).refuses(TWO + "lane 0 to 1 takes 61 muddy 11;", 2,
                33);
        x.refuses(TWO + "lane 1 to 1 takes 5;", 2, 25).refuses(TWO + "house at 0 wants 1000 pays 1000 loads 100;", 2, 32);
    }

    private static void tooMany() {
        Check x = Said.term("I", "3 an 11th lane, 5th gate, 7th house, 3rd stranger, at its word");
        tooMany(x, "lane", LANE, 10);
        tooMany(x, "gate", GATE, 4);
        tooMany(x, "house", HOUSE, 6);
        tooMany(x, "stranger", STRANGER, 2);
    }

    private static void tooMany(Check x, String word, String line, int most) {
        String text = TWO + line.repeat(most);
        x.reads(text, most + 1).refuses(text + " " + line, 3, text.length() + 1).refuses(text + word, 3, text.length());
        x.refuses(text + word + " #", 3, text.length()).refuses(text + word + "s", 1, text.length());
        x.refuses(text + word.substring(1), 1, text.length());
    }

    private static void newObject() {
        Check x = Said.promise(1, "No TOWN.");
        x.due("count(0) = 0", "count(1) = 0", "count(2) = 0", "count(3) = 0", "count(4) = 0", "count(5) = 0", "count(6) = 0",
                "count(7) = 0",
                "count(8) = 0", "fault(0) = 0", "fault(1) = -1", "lane(0, 0) = -2", "gate(0, 0) = -2", "house(0, 0) = -2", "comes(0) = -2",
                "from(0) = -2", "by(0) = -2", "light(0) = -2", "full() = -2", "last() = -2", "idle() = -2", "harm(0) = -2", "whose(0) = -2",
                "owns(0) = -2", "front() = -2", "late(0) = -2", "glad(0) = -2", "all() = -2", "steps(0) = -2", "have(0) = -2",
                        "gladdest() = -2",
                "best(0) = -2", "bars(0) = -2", "opens(0) = -2", "cut(0, 0) = -2", "cuts(0, 0) = -2", "hold(0, 0, 0) = -2", "asks(0) = -2",
                "brings(0) = -2", "fits(0) = -2", "held(0) = -2", "fit(0, 0) = -2", "ask(0) = -2", "leaves(0) = -2", "place(1) = -2",
                "places(1) = -2", "soon(1) = -2", "carts(1) = -2", "cart(1, 0) = -2", "wins() = -2", "price() = -2", "rests() = -2",
                        "clerk() = -2",
                "chance(0, 0, 0) = -2", "sure(0, 0) = -2", "bar(0, 0) = -2", "holds(0, 0) = -2", "undo() = -2", "anew() = -2",
                        "drawn(0, 0) = -2",
                "luck(0, 1, 0, 0) = -2", "tell(0, 1, 0) = -2", "back(0) = -6", "back(1) = -6", "back(2) = -6", "write(0, 0, 0) = -6");
        Check.same("NONE", DarkGate.NONE, -1);
    }

    private static void feed() {
        Check x = Said.promise(2, "Twenty bytes come behind the TAPE");
        x.tape("town").due("count(7) = 4", "feed(" + 0x20737472 + ", " + 0x65657473 + ", " + 0x20333b0a + ", " + 0x0a0a0a0a + ", "
                + 0x20202020 + ") = 24",
                "town() = 1", "count(0) = 3");
        x = Said.promise(2, "four of each number, the highest first");
        x.due("feed(" + 0x746f776e + ", " + 0x20737472 + ", " + 0x65657473 + ", " + 0x20323b0a + ", " + 0x0a20200a + ") = 20",
                "town() = 1", "count(0) = 2");
        // The first byte of all, and the last of all, is the one that is no TOKEN.
        x.due("feed(" + 0xff202020 + ", " + 0x20202020 + ", " + 0x20202020 + ", " + 0x20202020 + ", " + 0x20202020 + ") = 20",
                "town() = -4", "fault(1) = 0");
        x.due("end(0) = 0", "feed(" + 0x20202020 + ", " + 0x20202020 + ", " + 0x20202020 + ", " + 0x20202020 + ", " + 0x202020ff
                + ") = 20", "town() = -4",
                "fault(1) = 19");
        x.due("end(0) = 0", "feed(" + 0x20202020 + ", " + 0x20200020 + ", " + 0x20202020 + ", " + 0x20202020 + ", " + 0x20202020
                + ") = 20", "town() = -4",
                "fault(1) = 6", "end(0) = 0", "feed(-2147483648, 0, 0, 0, 2147483647) = 20", "town() = -4", "fault(1) = 0");
        x = Said.promise(2, "how many it has");
        x.due("feed(0, 0, 0, 0, 0) = 20", "feed(1, 2, 3, 4, 5) = 40", "count(7) = 40", "end(7) = 7", "feed(0, 0, 0, 0, 0) = 27",
                "end(0) = 0",
                "feed(-1, -1, -1, -1, -1) = 20");
        x = Said.promise(2, "NONE, and none come, if it would have more than 1,000");
        for (int i = 1; i <= 50; i++) {
            x.due("feed(" + 0x20202020 + ", " + 0x20202020 + ", " + 0x20202020 + ", " + 0x20202020 + ", " + 0x20202020 + ") = " + 20 * i);
        }
        x.due("feed(1, 1, 1, 1, 1) = -1", "count(7) = 1000", "end(999) = 999", "feed(1, 1, 1, 1, 1) = -1", "end(981) = 981",
                "feed(1, 1, 1, 1, 1) = -1",
                "count(7) = 981", "end(982) = -1", "town() = 0", "feed(1, 1, 1, 1, 1) = 20");
        x.fresh().tape(" ".repeat(981)).due("feed(1, 1, 1, 1, 1) = -1", "end(980) = 980", "feed(1, 1, 1, 1, 1) = 1000",
                "feed(1, 1, 1, 1, 1) = -1",
                "town() = -4", "fault(1) = 980");
        // A TOWN of 1,000 bytes, its last sign in the last.
        x.reads("town streets 2" + " ".repeat(985) + ";", 1).due("count(0) = 2");
    }

    private static void end() {
        Check x = Said.promise(3, "The TAPE has its first n bytes alone: n");
        x.tape("town streets 2;streets 3;").due("end(25) = 25", "end(15) = 15", "count(7) = 15", "town() = 1", "count(0) = 2",
                "end(0) = 0");
        x.tape("#####").due("end(0) = 0", "count(7) = 0", "town() = 0").tape("#town").due("end(1) = 1", "end(1) = 1", "town() = -4",
                "fault(1) = 0");
        x = Said.promise(3, "NONE, and nothing happens, if it has not so many");
        x.due("end(1) = -1", "count(7) = 0", "end(0) = 0", "end(1000) = -1").tape(TWO).due("end(16) = -1", "count(7) = 15",
                "end(2147483647) = -1",
                "end(20) = -1", "count(7) = 15", "town() = 1", "end(1) = -1");
        x = Said.promise(3, "or n is below 0");
        x.due("end(-1) = -1").tape(TWO).due("end(-1) = -1", "count(7) = 15", "end(-2147483648) = -1", "count(7) = 15", "town() = 1");
    }

    private static void town() {
        Check x = Said.promise(4, "The TAPE (empty then) is the TOWN");
        x.tape(Streets.FIVE).due("town() = 12", "count(7) = 0", "count(0) = 5", "count(1) = 5", "count(2) = 2", "count(3) = 4",
                "count(4) = 0", "count(6) = 12");
        x.due("end(1) = -1", "feed(0, 0, 0, 0, 0) = 20");
        x = Said.promise(4, "(in place of another)", Streets.FIVE);
        x.due("comes(2) = 40").tape(Streets.BARE).due("town() = 1", "count(0) = 2", "count(1) = 0", "count(2) = 0", "count(3) = 0",
                "count(4) = 0",
                "lane(0, 0) = -2", "comes(2) = -2", "comes(0) = -1", "all() = 0").tape(Streets.ROW).due("town() = 7", "count(4) = 2",
                        "comes(3) = 18");
        x.tape(Streets.BARE).due("town() = 1").tape(Streets.BARE).due("town() = 1", "count(1) = 0", "count(2) = 0", "count(3) = 0",
                "count(4) = 0").tape(Streets.FIVE).due("town() = 12", "comes(2) = 40");
        x = Said.promise(4, "nothing done", Streets.FIVE);
        x.due("bar(0, 1) = 0", "holds(0, 5) = 20", "tell(0, 1, 5) = -5").tape(Streets.FIVE).due("town() = 12", "count(5) = 0",
                "lane(0, 4) = 0",
                "gate(0, 1) = 20", "undo() = -5", "anew() = 0", "tell(0, 1, 5) = 30").tape(Streets.FIVE).due("town() = 12", "count(5) = 0",
                        "undo() = -5", "lane(0, 4) = 0", "gate(0, 1) = 20", "house(0, 1) = 30");
        x = Said.promise(4, "how many LINES");
        x.reads(TWO, 1).reads(TWO + LANE, 2).reads(Streets.FULL, 23).due("count(6) = 23");
        x = Said.promise(4, "(0: there is none then)", Streets.FIVE);
        x.due("bar(0, 1) = 0", "town() = 0", "count(0) = 0", "count(1) = 0", "count(2) = 0", "count(3) = 0", "count(5) = 0",
                "count(6) = 0", "comes(0) = -2",
                "full() = -2", "undo() = -2", "bar(0, 1) = -2", "all() = -2", "fault(0) = 0", "fault(1) = -1");
        x.fresh(Streets.ROW).tape(" \n ").due("town() = 0", "count(7) = 0", "count(4) = 0", "owns(0) = -2", "town() = 0");
        // Nor is one left of the TOWNS ahead of the latest.
        x.fresh(Streets.FULL).tape(Streets.FIVE).due("town() = 12", "town() = 0", "count(0) = 0", "count(1) = 0", "count(2) = 0",
                "count(3) = 0", "count(4) = 0", "full() = -2", "town() = 0", "count(0) = 0");
    }

    private static void townStays() {
        Check x = Said.promise(4, "-4: a FAULT (all stays)", Streets.FIVE);
        x.due("bar(2, 1) = 0", "holds(0, 9) = 20", "image(1) = 0", "row(2, 1, 2) = 0", "write(2, 0, 2) = 0", "write(2, 1, 29) = 0",
                "fits(2) = 72");
        x.tape("town streets 2").due("town() = -4", "count(0) = 5", "count(1) = 5", "count(2) = 2", "count(3) = 4", "count(5) = 2",
                "count(6) = 12",
                "count(8) = 1", "lane(2, 4) = 1", "gate(0, 1) = 9", "comes(2) = 29", "fits(2) = 72", "count(7) = 14", "town() = -4",
                        "count(7) = 14");
        x.due("undo() = 1", "gate(0, 1) = 20", "back(1) = 0", "gate(0, 1) = 9", "back(0) = -6");
        // The TAPE stays, too: what comes behind it makes it whole.
        x.tape(";").due("count(7) = 15", "town() = 1", "count(0) = 2", "count(5) = 0", "count(7) = 0", "fault(0) = 0", "fault(1) = -1");
        x.fresh().tape("#").due("town() = -4", "count(0) = 0", "count(7) = 1", "full() = -2", "undo() = -2");
    }

    private static void fault() {
        Check x = Said.promise(5, "Of the latest town(), what 0: its FAULT, 0 without");
        x.tape("#").due("town() = -4", "fault(0) = 1", "end(0) = 0", "fault(0) = 1").tape("town streets 9;").due("fault(0) = 1",
                "town() = -4", "fault(0) = 2",
                "end(0) = 0").tape(TWO + STRANGER.repeat(3)).due("town() = -4", "fault(0) = 3", "end(15) = 15", "town() = 1",
                        "fault(0) = 0", "town() = 0",
                "fault(0) = 0");
        x.tape("#").due("fault(0) = 0", "town() = -4", "fault(0) = 1", "image(0) = 0", "back(0) = 0", "fault(0) = 1");
        x = Said.promise(5, "1: its place (NONE without)");
        x.tape("  #").due("town() = -4", "fault(1) = 2", "end(2) = 2", "fault(1) = 2", "town() = 0", "fault(1) = -1").tape(TWO)
                .due("town() = 1", "fault(1) = -1");
        x.tape("#").due("fault(1) = -1", "town() = -4", "fault(1) = 0");
        x = Said.promise(5, "NONE for another what");
        x.due("fault(2) = -1", "fault(-1) = -1").tape("#").due("town() = -4", "fault(2) = -1", "fault(-1) = -1", "fault(3) = -1",
                "fault(2147483647) = -1",
                "fault(-2147483648) = -1").fresh(TWO).due("fault(2) = -1", "fault(-1) = -1");
        x = Said.promise(5, "and ahead of any (what 1)");
        x.due("fault(1) = -1", "fault(0) = 0").tape("#").due("fault(1) = -1", "fault(0) = 0");
    }

    private static void parts() {
        Check x = Said.promise(6, "Of a LANE, what 0, 1: its STREETS, 2: takes, 3: muddy", Streets.FIVE);
        x.due("lane(1, 0) = 1", "lane(1, 1) = 2", "lane(1, 2) = 10", "lane(1, 3) = 5", "lane(4, 0) = 0", "lane(4, 1) = 3",
                "lane(4, 2) = 1", "lane(4, 3) = 0");
        x.fresh("town streets 8;lane 7 to 0 takes 60 muddy 10 barred;").due("lane(0, 0) = 7", "lane(0, 1) = 0", "lane(0, 2) = 60",
                "lane(0, 3) = 10");
        x = Said.promise(6, "4: 1 if it is barred now, else 0", Streets.FIVE);
        x.due("lane(0, 4) = 0", "lane(4, 4) = 1", "bar(0, 1) = 0", "bar(4, 0) = 1", "lane(0, 4) = 1", "lane(4, 4) = 0", "undo() = 1",
                "lane(4, 4) = 1",
                "lane(0, 4) = 1", "undo() = 0", "lane(0, 4) = 0");
        x = Said.promise(6, "-2: there are none such", Streets.FIVE);
        x.due("lane(5, 0) = -2", "lane(-1, 0) = -2", "lane(10, 4) = -2", "lane(0, 5) = -2", "lane(0, -1) = -2", "lane(5, 5) = -2",
                "lane(2147483647, 0) = -2",
                "lane(-2147483648, 0) = -2", "lane(0, 2147483647) = -2").fresh(Streets.BARE).due("lane(0, 0) = -2").fresh()
                        .due("lane(0, 0) = -2", "lane(0, 5) = -2");
        x = Said.promise(7, "Of a GATE, what 0: its STREET, 1: how long it holds now", Streets.FIVE);
        x.due("gate(0, 0) = 0", "gate(0, 1) = 20", "gate(1, 0) = 2", "gate(1, 1) = 45", "holds(1, 99) = 45", "gate(1, 1) = 99",
                "holds(1, 0) = 99", "gate(1, 1) = 0",
                "gate(1, 0) = 2", "anew() = 2", "gate(1, 1) = 45");
        x = Said.promise(7, "-2: there are none such", Streets.FIVE);
        x.due("gate(2, 0) = -2", "gate(-1, 0) = -2", "gate(4, 0) = -2", "gate(0, 2) = -2", "gate(0, -1) = -2", "gate(2, 2) = -2",
                "gate(2147483647, 1) = -2",
                "gate(-2147483648, 1) = -2").fresh(Streets.BARE).due("gate(0, 0) = -2").fresh().due("gate(0, 0) = -2", "gate(0, 2) = -2");
        x = Said.promise(8, "Of a HOUSE, what 0: its STREET, 1: wants, 2: pays, 3: loads", Streets.FIVE);
        x.due("house(0, 0) = 1", "house(0, 1) = 30", "house(0, 2) = 50", "house(0, 3) = 3", "house(3, 0) = 4", "house(3, 1) = 10",
                "house(3, 2) = 60",
                "house(3, 3) = 0", "tell(3, 1, 999) = 10", "house(3, 1) = 999", "tell(3, 2, 0) = 60", "house(3, 2) = 0");
        x = Said.promise(8, "-2: there are none such", Streets.FIVE);
        x.due("house(4, 0) = -2", "house(-1, 0) = -2", "house(6, 0) = -2", "house(0, 4) = -2", "house(0, -1) = -2", "house(4, 4) = -2",
                "house(2147483647, 0) = -2",
                "house(-2147483648, 0) = -2").fresh(Streets.BARE).due("house(0, 0) = -2").fresh().due("house(0, 0) = -2",
                        "house(0, 4) = -2");
    }
}
