import java.lang.management.ManagementFactory;
import java.lang.reflect.Method;
import java.util.ArrayList;
import java.util.List;
import java.util.Random;

/** All calls of a run live in one room: none of them makes anything that stays, and any numbers are answered, in any state. */
public final class RoomTest {
    private RoomTest() {
    }

    public static void main(String[] args) throws Exception {
        anyNumbers();
        long grown = grownByCalls();
        System.out.println("RoomTest: 512 calls made " + grown + " bytes");
        System.exit(grown > 4096 ? 1 : 0);
    }

    /** Whatever is thrown ends this test with an exit code of its own. */
    private static void anyNumbers() throws Exception {
        Random random = new Random(11);
        List<Method> calls = new ArrayList<>();
        for (Method method : SightedMonths.class.getDeclaredMethods()) {
            if (java.lang.reflect.Modifier.isPublic(method.getModifiers())) {
                calls.add(method);
            }
        }
        calls.sort((a, b) -> a.getName().compareTo(b.getName()));
        int[] edges = {Integer.MIN_VALUE, -1000, -2, -1, 0, 1, 2, 3, 5, 6, 7, 8, 9, 23, 24, 25, 29, 30, 31, 600, 999, 1000, 1599,
            1600, 28000, 31000, 99999, Integer.MAX_VALUE};
        for (int run = 0; run < 2000; run++) {
            SightedMonths x = new SightedMonths();
            if (run % 4 != 0) {
                Texts.tell(x, Texts.madeUp(random, 2 + random.nextInt(23), 5));
            }
            for (int i = 0; i < 100; i++) {
                Method call = calls.get(random.nextInt(calls.size()));
                Object[] given = new Object[call.getParameterCount()];
                for (int g = 0; g < given.length; g++) {
                    given[g] = random.nextInt(8) == 0 ? random.nextInt() : edges[random.nextInt(edges.length)];
                }
                call.invoke(x, given);
            }
        }
    }

    private static int every(SightedMonths x, int t) {
        int sum = x.fault(0) + x.count(0) + x.place(0, 1) + x.report(0, 1) + x.deed(0, 1) + x.early(1) + x.judged(t, 0);
        sum += x.taken(t) + x.order(t, 0) + x.against(t, 1) + x.blind(t, 1) + x.ways(t) + x.begin(t, 1) + x.span(t, 3, 1);
        sum += x.sure(t) + x.lasts(t, 1) + x.could(t, 2, 59) + x.lean(t, 1) + x.ranked(t, 1, 2) + x.rank(t, 5) + x.drawn(t, 7);
        sum += x.day(t, 1, 30) + x.date(t, 70) + x.dates(t, 70) + x.likely(t, 70) + x.moved(0, t, 2) + x.shifts(2) + x.settled(2);
        sum += x.due(t, 0) + x.dueSpan(t, 0, 0) + x.dueOn(t, 0, 90) + x.redated(0) + x.longer(t, 0, 1) + x.own(t, 0, 2);
        sum += x.apart(t, 0, 1) + x.hang(t, 0) + x.telling(t) + x.trusted(t, 1) + x.days(t, 0) + x.weekday(t, 1, 1, 1);
        sum += x.later(t) + x.both(0, 1) + x.nearest(t, 0) + x.backed(t, 1) + x.tell(t) + x.octet(3);
        sum += x.reports(0, 1, 2, 58, 70) + x.strikes(2) + x.trusts(0, 4) + x.moon(t, 29500) + x.runs(2, 3);
        return sum;
    }

    private static long grownByCalls() {
        String text = "almanac months 24 full 2 lean 3;moon 0 step 29500;place a trust 3;place b trust 4;seen a month 3 on 88;"
            + "seen b month 3 on 89 known 100;deed month 1 day 30 for 2 months;deed month 2 day 3 for 100 days;";
        com.sun.management.ThreadMXBean threads = (com.sun.management.ThreadMXBean) ManagementFactory.getThreadMXBean();
        List<int[]> feeds = Texts.feeds(text);
        SightedMonths x = Texts.of(text);
        every(x, 5);
        threads.getCurrentThreadAllocatedBytes();
        long before = threads.getCurrentThreadAllocatedBytes();
        for (int i = 0; i < 10; i++) {
            for (int f = 0; f < feeds.size(); f++) {
                int[] feed = feeds.get(f);
                x.feed(feed[0], feed[1], feed[2], feed[3], feed[4]);
            }
            x.end(text.length());
            x.almanac();
            every(x, 80 + 5 * i);
        }
        return threads.getCurrentThreadAllocatedBytes() - before;
    }
}
