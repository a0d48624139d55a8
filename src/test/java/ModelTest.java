import java.nio.charset.StandardCharsets;
import java.util.Random;

/** Runs of calls, drawn from fixed seeds, on a DarkGate and on the Model: every answer is alike. */
public final class ModelTest {
    private static final int RUNS = 400;
    private static final String[] OFTEN = {
        "lane", "gate", "house", "comes", "from", "by", "light", "full", "last", "idle", "harm", "whose", "owns",
        "front", "glad", "all", "steps", "have", "gladdest", "best", "bars", "opens", "cut", "cuts", "hold", "asks",
        "brings", "place", "places", "soon", "carts", "cart", "wins", "price", "rests", "clerk", "drawn", "luck",
        "bar", "bar", "bar", "holds", "holds", "undo", "tell", "count", "row", "write", "write", "paste", "fault"};
    private static final String[] DEAR = {"late", "chance", "sure", "fits", "held", "fit", "ask", "leaves", "sight"};
    private static final String[] SELDOM = {"image", "back", "back", "anew", "text", "faulty", "end", "noise"};

    private final Random random;
    private final DarkGate gate = new DarkGate();
    private final Model model = new Model();
    private final StringBuilder story = new StringBuilder();
    private int calls = 0;
    private boolean broken = false;

    private ModelTest(long seed) {
        random = new Random(seed);
    }

    public static void main(String[] args) {
        int runs = args.length > 0 ? Integer.parseInt(args[0]) : RUNS;
        long first = args.length > 1 ? Long.parseLong(args[1]) : 1;
        for (int i = 0; i < runs; i++) {
            new ModelTest(first + i).run();
        }
        Check.close("ModelTest");
    }

    private void run() {
        if (random.nextInt(4) > 0) {
            text(Towns.any(random));
        }
        while (calls < 500 && !broken) {
            step();
        }
    }

    private void ask(String name, long... numbers) {
        if (broken || calls >= 512) {
            return;
        }
        calls++;
        long got = Check.call(gate, name, numbers);
        long want = model.call(name, numbers);
        story.append(name).append(java.util.Arrays.toString(numbers)).append(" = ").append(want).append('\n');
        Check.same(got == want ? name : story + name, got, want);
        broken = got != want;
    }

    private void step() {
        int kind = random.nextInt(100);
        if (kind < 80) {
            askOne(OFTEN[random.nextInt(OFTEN.length)]);
        } else if (kind < 92) {
            askDear(DEAR[random.nextInt(DEAR.length)]);
        } else {
            askSeldom(SELDOM[random.nextInt(SELDOM.length)]);
        }
    }

    private void askOne(String name) {
        int size = Check.CALLS.get(name).getParameterCount();
        long[] numbers = new long[size];
        for (int i = 0; i < size; i++) {
            numbers[i] = random.nextInt(25) == 0 ? wild() : tame(name, i);
        }
        ask(name, numbers);
    }

    private void askDear(String name) {
        if (!name.equals("sight")) {
            askOne(name);
            return;
        }
        int pairs = random.nextInt(3);
        int slot = random.nextInt(4);
        ask("row", slot, 1 + random.nextInt(3), 2 * pairs);
        int streets = Math.max(1, (int) model.call("count", 0));
        for (int i = 0; i < pairs; i++) {
            int street = random.nextInt(streets);
            ask("write", slot, 2 * i, street);
            ask("write", slot, 2 * i + 1, model.call("comes", street) + (random.nextInt(4) == 0 ? random.nextInt(9) : 0));
        }
        for (String what : new String[] {"fits", "held", "ask", "leaves"}) {
            ask(what, slot);
        }
        ask("fit", slot, random.nextInt(4));
    }

    private void askSeldom(String name) {
        switch (name) {
            case "text":
                text(Towns.any(random));
                break;
            case "faulty":
                ask("end", 0);
                text(Towns.spoilt(random));
                ask("count", 7);
                break;
            case "end":
                ask("end", random.nextInt(5) == 0 ? wild() : random.nextInt(60));
                break;
            case "noise":
                ask("feed", random.nextInt(), random.nextInt(), random.nextInt(), random.nextInt(), random.nextInt());
                if (random.nextInt(3) == 0) {
                    ask("town");
                    ask("fault", 0);
                    ask("fault", 1);
                }
                ask("end", 0);
                break;
            default:
                askOne(name);
        }
    }

    private void text(String text) {
        ask("end", 0);
        byte[] bytes = text.getBytes(StandardCharsets.ISO_8859_1);
        for (int at = 0; at < bytes.length; at += 20) {
            int[] n = Check.fiveNumbers(bytes, at);
            ask("feed", n[0], n[1], n[2], n[3], n[4]);
        }
        ask("end", Math.min(bytes.length, 1000));
        ask("town");
        ask("fault", 0);
        ask("fault", 1);
    }

    private long wild() {
        int[] some = {-1, -2, 4, 8, 10, 61, 99, 100, 101, 1000, 1001, Integer.MAX_VALUE, Integer.MIN_VALUE, 2000000001};
        return some[random.nextInt(some.length)];
    }

    private long tame(String name, int i) {
        switch (name) {
            case "lane": return i == 0 ? random.nextInt(10) : random.nextInt(5);
            case "gate": return random.nextInt(i == 0 ? 4 : 2);
            case "house": return random.nextInt(i == 0 ? 6 : 4);
            case "light": case "have": return minute();
            case "owns": case "image": case "back": return random.nextInt(3);
            case "best": case "bars": case "opens": return random.nextInt(4);
            case "place": case "places": case "soon": return 1 + random.nextInt(4);
            case "cut": case "cuts": return i == 0 ? random.nextInt(8) : random.nextInt(4) == 0 ? 1000 : minute();
            case "hold": return i == 0 ? random.nextInt(3) : i == 1 ? random.nextInt(8) : minute();
            case "asks": case "brings": return random.nextInt(4);
            case "fits": case "held": case "ask": case "leaves": case "fit": return random.nextInt(4);
            case "carts": return cartSize();
            case "cart": return i == 0 ? cartSize() : random.nextInt(4);
            case "chance": return i == 0 ? random.nextInt(8) : i == 1 ? minute() : random.nextInt(2);
            case "sure": return i == 0 ? random.nextInt(8) : random.nextInt(101);
            case "bar": return i == 0 ? random.nextInt(10) : random.nextInt(2);
            case "holds": return i == 0 ? random.nextInt(4) : random.nextInt(100);
            case "drawn": return i == 0 ? seed() : random.nextInt(2);
            case "luck": return i == 0 ? seed() : i == 1 ? 1 + random.nextInt(20) : i == 2 ? random.nextInt(8) : minute();
            case "tell": return i == 0 ? random.nextInt(6) : i == 1 ? 1 + random.nextInt(2) : random.nextInt(1000);
            case "row": return random.nextInt(i < 2 ? 4 : 9);
            case "write": return i == 0 ? random.nextInt(4) : i == 1 ? random.nextInt(8) : number();
            case "paste": return i == 0 || i == 2 ? random.nextInt(4) : random.nextInt(5);
            case "count": return random.nextInt(10);
            case "fault": return random.nextInt(3);
            default: return random.nextInt(8);
        }
    }

    private int minute() {
        return random.nextInt(5) == 0 ? random.nextInt(1000) : random.nextInt(160);
    }

    private int cartSize() {
        return 1 + random.nextInt(random.nextInt(2) == 0 ? 20 : 99);
    }

    private long seed() {
        return random.nextInt(3) == 0 ? random.nextInt(2000000001) : random.nextInt(3) == 0 ? 2000000000 : random.nextInt(50);
    }

    private long number() {
        return random.nextInt(4) == 0 ? random.nextLong() : random.nextInt(100) - 1;
    }
}
