import java.lang.management.ManagementFactory;

/** All calls of a run live in one room: a new object is small, and no call of it makes anything. */
public final class RoomTest {
    private static final int CALLS = 512;

    public static void main(String[] args) {
        int wrong = 0;
        BoatNames first = full();
        long sum = allCalls(first);
        long before = allocated();
        for (int i = 0; i < 4; i++) {
            sum += allCalls(first);
        }
        long made = allocated() - before;
        // The machine itself may make something on the side; rows of our own would be far more.
        if (made > 200_000) {
            wrong++;
            System.out.println("the calls made " + made + " bytes");
        }
        before = allocated();
        BoatNames other = full();
        made = allocated() - before;
        if (made > 20_000) {
            wrong++;
            System.out.println("a new object takes " + made + " bytes");
        }
        for (int i = 0; i < CALLS; i++) {
            sum += other.digest();
        }
        System.out.println(wrong == 0 ? "there is room (" + sum + ")" : wrong + " things take too much room");
        if (wrong != 0) {
            System.exit(1);
        }
    }

    private static long allocated() {
        return ((com.sun.management.ThreadMXBean) ManagementFactory.getThreadMXBean()).getCurrentThreadAllocatedBytes();
    }

    private static BoatNames full() {
        BoatNames x = new BoatNames();
        String hates = "103;205;301;012;716;527;034;121;643;416;255;378";
        String boats = "l0a5;s1b3;t2c9;l3d1;s4e6;t0f8;l5g7;s1h2";
        for (int i = 0; i < hates.length(); i++) {
            x.type(0, hates.charAt(i));
        }
        for (int i = 0; i < boats.length(); i++) {
            x.type(1, boats.charAt(i));
        }
        for (int i = 0; i < 8; i++) {
            x.event(i % 3, 2 * i, i);
            x.seen(i, i, 8);
        }
        return x;
    }

    private static long allCalls(BoatNames x) {
        long sum = 0;
        for (int i = 0; i < 50; i++) {
            int b = i % 8;
            sum += x.sheet(i % 4, i % 3, 60) + x.write(b, i % 4) + x.copy(i % 4, 0, i % 4, 1, 20) + x.lose(i % 4);
            sum += x.wrong(b, 0) + x.pay(b, 0) + x.waits(b, 0) + x.spare(0) + x.never() + x.sort(b);
            sum += x.hated(b, (b + 1) % 8) + x.ask(b, (b + 2) % 8) + x.decades(i, 8, 0) + x.bitter() + x.loved();
            sum += x.undo(1) + x.type(1, '2') + x.back() + x.event(0, 3, 3);
        }
        return sum + x.chance(5, 0, 0) + x.digest();
    }
}
