import java.lang.management.ManagementFactory;

/** One room for all calls of a run: the rows are made in the constructor, and no call makes more. */
public final class RoomTest {
    private static final String TEXT = "order 120 limit 99 life 9;venue a plain lot 1 fee 1 least 9 delay 1"
        + ";venue b tiers lot 1 fee 5 least 9 delay 2;venue c flat lot 1 fee 1 least 9 delay 3"
        + ";venue d plain lot 1 fee -1 least 9 delay 4;venue e tiers lot 1 fee 3 least 9 delay 5"
        + ";level a 5 50;level b 5 50;level c 5 50;level d 5 50;level e 5 50;level a 9 99;level b 9 99"
        + ";event 3 a 0 9;event 99 c 0 99";
    /** The JVM's own doings at the first calls. */
    private static final long SLACK = 200_000;

    public static void main(String[] args) {
        com.sun.management.ThreadMXBean meter = (com.sun.management.ThreadMXBean) ManagementFactory.getThreadMXBean();
        long self = Thread.currentThread().getId();
        calls(Checks.made(TEXT), 3);
        long start = meter.getThreadAllocatedBytes(self);
        OrderSplit x = new OrderSplit();
        long made = meter.getThreadAllocatedBytes(self) - start;
        Checks.is("an object is small: " + made, made < 20_000, true);
        Checks.load(x, TEXT);
        start = meter.getThreadAllocatedBytes(self);
        calls(x, 500);
        long used = meter.getThreadAllocatedBytes(self) - start;
        Checks.is("calls make nothing: " + used, used < SLACK, true);
        Checks.end("RoomTest");
    }

    /** Some 20 calls a turn: over 10,000 in all, so that even one small object a call would be seen. */
    private static void calls(OrderSplit x, int turns) {
        for (int i = 0; i < turns; i++) {
            x.best(120);
            x.share(119, 2);
            x.gap(77);
            x.margin(120);
            x.greedy(120, 2);
            x.worth(120, 3);
            x.fewest(120);
            x.adopt(100);
            x.planned(2);
            x.move();
            x.keep();
            x.begin();
            x.will(3);
            x.call(1);
            x.ticks(20);
            x.entry(0, 0);
            x.part(0, 5);
            x.back();
            x.feed(0x6f726465, 0x72203020, 0, 0, 0);
            x.split(20);
        }
    }
}
