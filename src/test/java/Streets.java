/** The TOWNS that several tests ask about. */
final class Streets {
    private Streets() {
    }

    /**
     * Dark comes to 0 in 20, to 1 in 30, to 2 in 40 (by 1; in 45 by lane 2 or its own gate), to 3
     * in 45, never to 4.
     */
    static final String FIVE = "town streets 5;\n"
            + "lane 0 to 1 takes 10;\n"
            + "lane 1 to 2 takes 10 muddy 5;\n"
            + "lane 0 to 2 takes 25;\n"
            + "lane 2 to 3 takes 5;\n"
            + "lane 0 to 3 takes 1 barred;\n"
            + "gate at 0 holds 20;\n"
            + "gate at 2 holds 45;\n"
            + "house at 1 wants 30 pays 50 loads 3;\n"
            + "house at 2 wants 50 pays 20 loads 4;\n"
            + "house at 3 wants 0 pays 30 loads 5;\n"
            + "house at 4 wants 10 pays 60 loads 0;\n";

    /** Dark: 3, 8, 13, 18. The first stranger's: 15, 10, 5, 0. The second one's: 15, 10, 5, 10. */
    static final String ROW = "town streets 4;"
            + "lane 0 to 1 takes 5;lane 1 to 2 takes 5;lane 2 to 3 takes 5;"
            + "gate at 0 holds 3;stranger at 3 from 0;stranger at 2 from 5;";

    /** As many of all as there may be: a ring of tens, and two lanes across. */
    static final String FULL = "town streets 8;"
            + "lane 0 to 1 takes 10;lane 1 to 2 takes 10;lane 2 to 3 takes 10;lane 3 to 4 takes 10;lane 4 to 5 takes 10;"
            + "lane 5 to 6 takes 10;lane 6 to 7 takes 10;lane 7 to 0 takes 10;lane 0 to 4 takes 1;lane 4 to 0 takes 60;"
            + "gate at 0 holds 0;gate at 1 holds 50;gate at 2 holds 50;gate at 3 holds 50;"
            + "house at 0 wants 0 pays 100 loads 50;house at 1 wants 0 pays 100 loads 50;house at 2 wants 0 pays 100 loads 50;"
            + "house at 3 wants 0 pays 100 loads 50;house at 4 wants 0 pays 100 loads 50;house at 5 wants 0 pays 100 loads 50;"
            + "stranger at 4 from 0;stranger at 6 from 5;";

    /** The longest way: 99 minutes at the gate, then seven LANES of 60, from STREET 0 to 7. */
    static final String LONG = "town streets 8;"
            + "lane 0 to 1 takes 60;lane 1 to 2 takes 60;lane 2 to 3 takes 60;lane 3 to 4 takes 60;lane 4 to 5 takes 60;"
            + "lane 5 to 6 takes 60;lane 6 to 7 takes 60;gate at 0 holds 99;";

    /**
     * Dark comes to 2 in 2 minutes; in 3 without LANE 0 or LANE 1, in 4 without both, in 5 without
     * LANES 0 and 3 (bits 9), or without LANES 1 and 2 (bits 6).
     */
    static final String PAIRS = "town streets 3;"
            + "lane 0 to 1 takes 1;lane 1 to 2 takes 1;lane 1 to 2 takes 2;lane 0 to 1 takes 2;lane 0 to 1 takes 4;lane 1 to 2 takes 4;"
            + "gate at 0 holds 0;house at 2 wants 5 pays 10 loads 0;";

    /** Two STREETS, and nothing else. */
    static final String BARE = "town streets 2;";
}
