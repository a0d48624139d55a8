import java.lang.management.ManagementFactory;

/**
 * All calls of a run live in one room: no call makes an object, and a new DarkGate is small. Seen
 * by what the thread has been given; the machine itself takes a little now and then.
 */
public final class RoomTest {
    private static final com.sun.management.ThreadMXBean THREADS =
            (com.sun.management.ThreadMXBean) ManagementFactory.getThreadMXBean();
    private static final int ROUNDS = 40;
    private static long sum = 0;

    public static void main(String[] args) {
        DarkGate gate = new DarkGate();
        Check.tape(gate, fullTown());
        Check.same("lines", gate.town(), 23);
        everyCall(gate);
        long before = given();
        for (int i = 0; i < ROUNDS; i++) {
            everyCall(gate);
        }
        long bytes = (given() - before) / ROUNDS;
        Check.same("bytes a round of some sixty calls makes: " + bytes, bytes < 256 ? 0 : 1, 0);
        before = given();
        for (int i = 0; i < ROUNDS; i++) {
            sum += new DarkGate().count(0);
        }
        bytes = (given() - before) / ROUNDS;
        Check.same("bytes of a new object: " + bytes, bytes < 40000 ? 0 : 1, 0);
        System.out.println("RoomTest: a new object has " + bytes + " bytes (sum " + sum + ")");
        Check.close("RoomTest");
    }

    private static long given() {
        return THREADS.getThreadAllocatedBytes(Thread.currentThread().getId());
    }

    private static String fullTown() {
        StringBuilder text = new StringBuilder("town streets 8;");
        for (int i = 0; i < 10; i++) {
            text.append("lane ").append(i % 8).append(" to ").append((i % 8 + 1 + i / 8) % 8).append(" takes ").append(5 + i)
                    .append(" muddy ").append(1 + i % 9).append(';');
        }
        for (int i = 0; i < 4; i++) {
            text.append("gate at ").append(2 * i).append(" holds ").append(20 * i).append(';');
        }
        for (int i = 0; i < 6; i++) {
            text.append("house at ").append(i).append(" wants ").append(9 * i).append(" pays 40 loads 7;");
        }
        return text.append("stranger at 7 from 1;stranger at 3 from 9;").toString();
    }

    private static void everyCall(DarkGate x) {
        sum += x.feed(1, 2, 3, 4, 5) + x.town() + x.fault(1) + x.end(0) + x.lane(9, 2) + x.gate(3, 1) + x.house(5, 3);
        sum += x.comes(7) + x.from(7) + x.by(7) + x.light(20) + x.full() + x.last() + x.idle() + x.harm(0);
        sum += x.whose(7) + x.owns(1) + x.front() + x.late(0) + x.glad(5) + x.all() + x.steps(7) + x.have(9) + x.gladdest();
        sum += x.best(3) + x.bars(3) + x.opens(3) + x.cut(7, 1000) + x.cuts(5, 1000) + x.hold(0, 7, 99) + x.asks(0) + x.brings(3);
        sum += x.row(0, 3, 2) + x.write(0, 1, 20) + x.paste(0, 0, 0, 1, 1) + x.fits(0) + x.held(0) + x.fit(0, 1) + x.ask(0) + x.leaves(0);
        sum += x.place(4) + x.places(3) + x.soon(2) + x.carts(21) + x.cart(15, 1) + x.wins() + x.price() + x.rests() + x.clerk();
        sum += x.chance(7, 50, 1) + x.sure(5, 99) + x.drawn(9, 1) + x.luck(9, 20, 7, 50);
        sum += x.bar(0, 1) + x.holds(0, 9) + x.undo() + x.anew() + x.tell(0, 1, 9) + x.image(0) + x.back(0) + x.count(8);
    }
}
