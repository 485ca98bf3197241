import java.lang.management.ManagementFactory;
import java.lang.reflect.Method;
import java.lang.reflect.Modifier;
import java.util.ArrayList;
import java.util.Comparator;
import java.util.List;
import java.util.Random;

/** No call ever throws, whatever its arguments and the state; calls answer alike on two objects, and make no objects. */
public final class AnyCallTest {
    private static final int RUNS = 300, CALLS = 490;
    private static final int[] EDGES = {0, 1, 2, 3, 4, 7, 8, 10, 12, 23, 24, 39, 40, 44, 65535, -1, -2, 255, 256, 1000, 1001, Integer.MAX_VALUE, Integer.MIN_VALUE};
    private static final String[] TEXTS = {
        "chain a{try b;try c;list 1;copy 1,0,2,0,2;take;}behind{log 1/(time-3);}chain b{fresh 2,6,4;put 0,byte(7),size;jump a;}chain c{learn 1,mark;mark mark+1;count 9,1;}",
        "chain a{if has(four)&four.next=17{jump b;}else{drop;}log head(1,1,flow);}chain b{log row(0,0);fresh 0,time%9,state;jump b;}behind{log spend(0);}",
        "chain a{log -(1;}", "chain a{" + "try a;".repeat(30) + "}behind{list 3;count 1,1;}"
    };

    public static void main(String[] args) throws Exception {
        List<Method> calls = new ArrayList<>();
        for (Method m : PacketWall.class.getDeclaredMethods()) {
            if (Modifier.isPublic(m.getModifiers())) {
                calls.add(m);
            }
        }
        calls.sort(Comparator.comparing(Method::getName));
        for (int run = 0; run < RUNS; run++) {
            Random random = new Random(run);
            PacketWall one = new PacketWall();
            PacketWall other = new PacketWall();
            for (int n = 0; n < CALLS; n++) {
                if (random.nextInt(4) == 0) {
                    n += fill(random, one, other);
                    continue;
                }
                Method m = calls.get(random.nextInt(calls.size()));
                Object[] given = new Object[m.getParameterCount()];
                for (int i = 0; i < given.length; i++) {
                    given[i] = random.nextInt(3) == 0 ? (Object) EDGES[random.nextInt(EDGES.length)] : (Object) random.nextInt(6);
                }
                long answer = ((Number) m.invoke(one, given)).longValue();
                Wall.due("run " + run + ", call " + n + ", " + m.getName(), ((Number) m.invoke(other, given)).longValue(), answer);
            }
        }
        makesNothing();
        Wall.finish();
    }

    /** Puts something sensible onto both tapes and uses it, so that states behind the first refusal are met. */
    private static int fill(Random random, PacketWall one, PacketWall other) {
        int[] bytes = random.nextInt(3) == 0 ? TEXTS[random.nextInt(TEXTS.length)].chars().toArray() : packet(random);
        if (random.nextInt(8) == 0 && bytes.length > 0) {
            bytes[random.nextInt(bytes.length)] = random.nextInt(256);
        }
        int calls = 0;
        for (PacketWall x : new PacketWall[] {one, other}) {
            calls = 0;
            x.end(0);
            for (int i = 0; i < bytes.length; i += 20) {
                int[] five = new int[20];
                for (int j = 0; j < 20 && i + j < bytes.length; j++) {
                    five[j / 4] |= bytes[i + j] << (24 - 8 * (j % 4));
                }
                x.feed(five[0], five[1], five[2], five[3], five[4]);
                calls++;
            }
            x.end(bytes.length);
            calls += 3;
        }
        int p = random.nextInt(4);
        boolean text = bytes.length > 0 && bytes[0] == 'c';
        long answer = text ? one.rules() : one.packet(p);
        Wall.due("what was filled", text ? other.rules() : other.packet(p), answer);
        int use = random.nextInt(4);
        Wall.due("its use", used(other, p, use), used(one, p, use));
        return calls;
    }

    private static long used(PacketWall x, int p, int use) {
        switch (use) {
            case 0: return x.verdict(p);
            case 1: return x.track(p);
            case 2: return x.gather(p);
            default: return x.repair(p);
        }
    }

    private static int[] packet(Random random) {
        int port = 1 + random.nextInt(3);
        int[] data = Wall.run(8 * random.nextInt(6));
        switch (random.nextInt(6)) {
            case 0: return Wall.streamPacket(random.nextInt(2), random.nextInt(200), new int[] {2, 18, 16, 17, 4, 0}[random.nextInt(6)], 4000, data.length);
            case 1: return Wall.datagramPacket(10, port, 11, 2);
            case 2: return Wall.link(4, Wall.fourPiece(99, random.nextInt(3), random.nextInt(2), random.nextInt(4), 10, 11, data));
            case 3: return Wall.link(6, Wall.six(44, 10, 11, Wall.part(99, random.nextInt(3), random.nextInt(2), 5, data)));
            case 4: return Wall.link(4, Wall.four(1, 10, 11, Wall.control(3, 0, Wall.four(17, 10, 11, Wall.datagram(port, 2, data)))));
            default: return Wall.run(random.nextInt(60));
        }
    }

    /** All calls of a run live in one room, so a call may make no object that grows with the calls. */
    private static void makesNothing() {
        com.sun.management.ThreadMXBean threads = (com.sun.management.ThreadMXBean) ManagementFactory.getThreadMXBean();
        Wall w = Wall.fresh().packet(0, Wall.datagramPacket(10, 1, 11, 2)).packet(1, Wall.link(4, Wall.fourPiece(99, 1, 0, 0, 10, 11, Wall.run(8))));
        w.rules(TEXTS[1]);
        useAll(w.x);
        long id = Thread.currentThread().getId();
        threads.getThreadAllocatedBytes(id);
        long before = threads.getThreadAllocatedBytes(id);
        long between = threads.getThreadAllocatedBytes(id);
        useAll(w.x);
        long after = threads.getThreadAllocatedBytes(id);
        Wall.due("bytes that calls made", after - between <= between - before ? 0 : after - between, 0);
    }

    private static void useAll(PacketWall x) {
        x.track(0);
        x.verdict(0);
        x.verdict(1);
        x.drop(x.gather(1));
        x.repair(0);
        x.digest(0);
        x.export();
        x.restore();
        x.feed(0x63686169, 0x6e20617b, 0x74616b65, 0x3b7d2020, 0x20202020);
        x.rules();
        x.tick(1);
    }
}
