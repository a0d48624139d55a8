import java.util.Random;

/** Texts of TOWNS, drawn. */
final class Towns {
    private Towns() {
    }

    static String any(Random random) {
        int streets = 2 + random.nextInt(7);
        StringBuilder text = new StringBuilder("town streets ").append(streets).append(';');
        int lanes = random.nextInt(11);
        int gates = random.nextInt(5);
        int houses = random.nextInt(7);
        int strangers = random.nextInt(3);
        int most = random.nextInt(3) == 0 ? 6 : 60;
        int left = lanes + gates + houses + strangers;
        while (left > 0) {
            int which = random.nextInt(left);
            left--;
            if (which < lanes) {
                lanes--;
                lane(random, text, streets, most);
            } else if (which < lanes + gates) {
                gates--;
                text.append("gate at ").append(random.nextInt(streets)).append(" holds ").append(hold(random, most));
            } else if (which < lanes + gates + houses) {
                houses--;
                house(random, text, streets, most);
            } else {
                strangers--;
                text.append("stranger at ").append(random.nextInt(streets)).append(" from ");
                text.append(random.nextInt(random.nextInt(5) == 0 ? 1000 : most + 1));
            }
            text.append(random.nextInt(4) == 0 ? "\n;\n" : ";");
            if (random.nextInt(3) == 0) {
                text.append(' ');
            }
        }
        return text.length() <= 1000 ? text.toString() : any(random);
    }

    private static int hold(Random random, int most) {
        return random.nextInt(8) == 0 ? random.nextInt(100) : random.nextInt(most + 1);
    }

    private static void lane(Random random, StringBuilder text, int streets, int most) {
        int from = random.nextInt(streets);
        int to = (from + 1 + random.nextInt(streets - 1)) % streets;
        text.append("lane ").append(from).append(" to ").append(to).append(" takes ").append(1 + random.nextInt(most));
        if (random.nextInt(2) == 0) {
            text.append(" muddy ").append(random.nextInt(11));
        }
        if (random.nextInt(5) == 0) {
            text.append(" barred");
        }
    }

    private static void house(Random random, StringBuilder text, int streets, int most) {
        text.append("house at ").append(random.nextInt(streets));
        text.append(" wants ").append(random.nextInt(random.nextInt(4) == 0 ? 1000 : 3 * most));
        text.append(" pays ").append(random.nextInt(random.nextInt(3) == 0 ? 1000 : 2 * most));
        text.append(" loads ").append(random.nextInt(random.nextInt(2) == 0 ? 100 : 12));
    }

    /** A TOWN with some of its signs changed, cut or doubled. */
    static String spoilt(Random random) {
        StringBuilder text = new StringBuilder(any(random));
        int times = 1 + random.nextInt(2);
        for (int i = 0; i < times && text.length() > 1; i++) {
            int at = random.nextInt(text.length());
            String signs = "0123456789;;; \nabz#A\u00e9";
            char sign = signs.charAt(random.nextInt(signs.length()));
            switch (random.nextInt(5)) {
                case 0: text.setCharAt(at, sign); break;
                case 1: text.deleteCharAt(at); break;
                case 2: text.insert(at, sign); break;
                case 3: text.setLength(at); break;
                default: text.append(words(random)); break;
            }
        }
        return text.length() <= 1000 ? text.toString() : text.substring(0, 1000);
    }

    private static String words(Random random) {
        String[] some = {"lane 0 to 1 takes 5;", "gate at 0 holds 3;", "house at 1 wants 2 pays 3 loads 4;",
            "stranger at 0 from 0;", "town streets 3;", "lane 1 to 1 takes 5;", "gate at 0 holds 100;", ";"};
        StringBuilder text = new StringBuilder();
        String line = some[random.nextInt(some.length)];
        int times = 1 + random.nextInt(6);
        for (int i = 0; i < times; i++) {
            text.append(line);
        }
        return text.toString();
    }
}
