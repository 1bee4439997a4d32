import com.sun.management.ThreadMXBean;
import java.lang.management.ManagementFactory;

/**
 * Rule 12 of LANGUAGE.md: what a run makes is kept small. Bytes are told by the
 * machine; each call is made 200 times on an object of its own, and no run may
 * make much more than the constructor and eight states need.
 */
public final class RoomTest {
    private static final Due DUE = new Due();
    private static final int TIMES = 200;
    private static final long MOST_BYTES = 8_000;

    public static void main(String[] args) {
        if (!(ManagementFactory.getThreadMXBean() instanceof ThreadMXBean machine)) {
            System.out.println("this machine does not tell what a run makes");
            return;
        }
        long letters = Due.packed("5@11,6@1");
        Probe.Call[] calls = {
            x -> x.set(0, 7), x -> x.roof(0, x.pitch(0, 0) == 0), x -> x.come(5), x -> x.go(0), x -> x.height(0, 3),
            x -> x.stand(0, 11), x -> x.shuffle(3), x -> x.play(), x -> x.put('5') + x.read(), x -> x.booth(0, 2),
            x -> x.pitch(0, 2), x -> x.seen(0, 0, 0) + x.seen(0, 1, 1), x -> x.count(10), x -> x.lot(0),
            x -> x.ifStood(0, 5), x -> x.bestPitch(0), x -> x.ifPlayed(100, 0), x -> x.bestHeight(0),
            x -> x.put(letters), x -> x.wipe(), x -> x.fault(), x -> x.come(1) + x.undo(),
            x -> x.save(0) + x.save(1), x -> x.save(0) + x.restore(0)};
        for (int round = 0; round < 2; round++) {
            for (int i = 0; i < calls.length; i++) {
                long bytes = bytesMade(machine, calls[i]);
                // In the first round the machine itself loads what the calls need
                if (round == 1) {
                    DUE.is("call " + i + ": " + bytes + " bytes, too many", bytes > MOST_BYTES ? 1 : 0, 0);
                }
            }
        }
        DUE.end();
    }

    private static long bytesMade(ThreadMXBean machine, Probe.Call call) {
        long thread = Thread.currentThread().getId();
        long before = machine.getThreadAllocatedBytes(thread);
        PuppetPitches x = Due.planned("1@0,2,3@5,4,5@7,6,7,8@11");
        for (int time = 0; time < TIMES; time++) {
            call.on(x);
        }
        return machine.getThreadAllocatedBytes(thread) - before;
    }
}
