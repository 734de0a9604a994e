import com.sun.management.ThreadMXBean;
import java.lang.management.ManagementFactory;

/** All calls of a run live in one room: no call but cave() makes anything new. */
public final class RoomTest {
    private static final int OBJECTS = 60;
    // of some 70 calls each, so that an object is used for no more than 512
    private static final int ROUNDS_EACH = 7;
    private static final int ROUNDS = OBJECTS * ROUNDS_EACH;
    // what the machine itself may make while it warms up
    private static final long SLACK = 64 * 1024;

    public static void main(String[] args) {
        ThreadMXBean bean = (ThreadMXBean) ManagementFactory.getThreadMXBean();
        long id = Thread.currentThread().getId();
        useAll(new RotaFathers());
        RotaFathers[] all = new RotaFathers[OBJECTS];
        for (int i = 0; i < OBJECTS; i++) {
            all[i] = new RotaFathers();
        }
        long before = bean.getThreadAllocatedBytes(id);
        long sum = 0;
        for (int round = 0; round < ROUNDS; round++) {
            sum += useAll(all[round % OBJECTS]);
        }
        long made = bean.getThreadAllocatedBytes(id) - before;
        long fathers = ROUNDS * 4L * 32;
        System.out.println(ROUNDS + " rounds of all calls made " + made + " bytes (" + sum + ")");
        if (made > fathers + SLACK) {
            System.out.println("that is more than their " + fathers + " bytes of fathers and " + SLACK);
            System.exit(1);
        }
    }

    private static long useAll(RotaFathers x) {
        String text = "f03,c24,s35,a42;3";
        for (int i = 0; i < text.length(); i++) {
            x.letter(text.charAt(i));
        }
        long sum = x.fault() + x.cave() + x.blank();
        for (int s = 0; s < 8; s++) {
            sum += x.rota(s, s % 5 - 1) + x.shift(s, 4) + x.shift(s, 5) + x.about(s % 4, 7) + x.as(s % 4, 1);
        }
        sum += x.best(2, 3, 11) + x.swaps() + x.months(30, 9, 2) + x.image() + x.found(3, 3) + x.day() + x.digest();
        return sum + x.restore() + x.forget() + x.count(10);
    }
}
