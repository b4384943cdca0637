import java.lang.management.ManagementFactory;

/** All calls of a run share one small room: only the constructor makes objects. */
public final class RoomTest {
    private static final int CALLS = 512;

    public static void main(String[] args) {
        com.sun.management.ThreadMXBean threads =
            (com.sun.management.ThreadMXBean) ManagementFactory.getThreadMXBean();
        long self = Thread.currentThread().getId();
        // The first rounds load classes and make what the machine keeps for itself.
        long least = Long.MAX_VALUE;
        for (int round = 0; round < 20; round++) {
            PeerStorage x = new PeerStorage();
            long before = threads.getThreadAllocatedBytes(self);
            run(x);
            least = Math.min(least, threads.getThreadAllocatedBytes(self) - before);
        }
        Due.is("bytes made by 512 calls, beyond a hundred", 0, Math.max(0, least - 100));
        Due.end();
    }

    private static void run(PeerStorage x) {
        for (int call = 0; call < 12; call++) {
            x.join(20);
        }
        for (int call = 12; call < CALLS; call++) {
            int a = call * 7 % 13;
            int b = call * 5 % 11;
            switch (call % 24) {
                case 0, 1, 2, 3, 4 -> x.word(call % 256);
                case 5 -> x.store(a, b % 5);
                case 6 -> x.spoil(a % 8, b, 1 + call % 256);
                case 7 -> x.audit(a, b, call % 257);
                case 8 -> x.passingSeeds(a, b);
                case 9 -> x.repair(a % 8);
                case 10 -> x.repairAll(b % 6);
                case 11 -> x.tolerance();
                case 12 -> x.leavers();
                case 13 -> x.decode(a % 8, 31, b % 6);
                case 14 -> x.read(a % 8, b % 6);
                case 15 -> x.endangered(a);
                case 16 -> x.setOnline(a, call / 24 % 2);
                case 17 -> x.pay(a, b, 1);
                case 18 -> x.leave(a);
                case 19 -> x.join(5);
                case 20 -> x.undo();
                case 21 -> x.count(b);
                case 22 -> x.delete(call % 300);
                default -> x.crash(call % 100);
            }
        }
    }
}
