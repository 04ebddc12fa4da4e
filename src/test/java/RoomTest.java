import java.lang.management.ManagementFactory;

/** Calls make nothing: all calls of a run live in one room, so rows are made by the constructor alone. */
public final class RoomTest {
    private static final int OBJECTS_OF_A_RUN = 64;

    private static int sum = 0;

    private static void put(WireFamily x) {
        String text = "FK0K1K2K3K0RaeimqRbfjnrRcgkosRdhlptRaeimqD01D12D23D34";
        sum += x.wipe();
        for (int place = 0; place < text.length(); place++) {
            sum += x.write(text.charAt(place));
        }
        sum += x.fault() + x.family();
    }

    private static void looks(WireFamily x, int n) {
        sum += x.about(n % 12) + x.cell(n % 6, n % 5, n % 4) + x.kin(n % 5, n % 5) + x.has(n % 2, n % 4) + x.can(n % 2);
        sum += x.draw(n % 5, n % 2) + x.change(n % 5) + x.judge(4, n * 10111) + x.undo() + x.join();
        sum += x.best(n % 2) + x.fewest(n % 4, n % 2) + x.fair(n * 97 % 10000, n * 89 % 10000, n % 2);
        sum += x.share(n % 5, n % 2, true) + x.see(n % 5, n % 3) + x.traces(n % 2) + x.unsee() + x.rests(n % 2);
        sum += x.slips(n % 4, n % 2, n % 11, false) + (int) x.seed(n) + x.years(1 + n % 30) + x.keep(n % 2) + x.again(n % 2);
    }

    private static long allocated() {
        com.sun.management.ThreadMXBean bean =
                (com.sun.management.ThreadMXBean) ManagementFactory.getThreadMXBean();
        return bean.getThreadAllocatedBytes(Thread.currentThread().getId());
    }

    public static void main(String[] args) {
        WireFamily warm = new WireFamily();
        put(warm);
        looks(warm, 1);
        allocated();

        long before = allocated();
        WireFamily[] made = new WireFamily[OBJECTS_OF_A_RUN];
        for (int at = 0; at < made.length; at++) {
            made[at] = new WireFamily();
        }
        long byConstructors = allocated() - before;

        before = allocated();
        for (WireFamily x : made) {
            put(x);
            for (int n = 0; n < 20; n++) {
                looks(x, n);
            }
        }
        long byCalls = allocated() - before;

        boolean fits = byCalls < 4096 && byConstructors < 4096L * OBJECTS_OF_A_RUN;
        if (!fits) {
            System.out.println("constructors took " + byConstructors + " bytes, calls " + byCalls + " (" + sum + ")");
            System.exit(1);
        }
    }
}
