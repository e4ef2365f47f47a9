import java.util.Arrays;
import java.util.Random;

/**
 * Almanacs of many MONTHS with long RUNS, which leave millions of CALENDARS: each is written out as bits and looked at, and what
 * they say together is what the class has to answer. (OracleTest does so for few MONTHS or short RUNS.)
 */
public final class LargestTest {
    /** MONTHS, F, L, T. */
    private static final int[][] SHAPES = {{24, 5, 5, 999}, {24, 5, 5, 200}, {24, 5, 5, 0}, {24, 4, 5, 300}, {24, 5, 2, 40},
        {24, 1, 5, 100}, {24, 5, 1, 999}, {24, 3, 3, 400}, {23, 4, 4, 150}, {22, 2, 5, 999}, {21, 5, 5, 60}, {20, 3, 4, 500},
        {19, 5, 5, 90}, {18, 4, 3, 999}, {17, 5, 5, 130}, {16, 3, 5, 30}, {15, 5, 5, 999}, {14, 5, 4, 70}, {13, 5, 5, 200},
        {12, 4, 4, 0}, {11, 5, 5, 999}, {10, 5, 5, 50}};

    private static int wrong = 0;
    private static long asked = 0;

    private final Random random;
    private final String text;
    private SightedMonths x;
    private int calls = 0;
    private final int months;
    private final int t;

    /** All with F, L alone, in the order of ranked(): MONTH 0 is the highest bit, 1 is 30 days. */
    private int[] all = new int[1 << 10];
    private int allCount = 0;
    private int[] left;
    private int leftCount;
    private final int[][] starts;
    private final int[][] longOnes;

    private LargestTest(long seed, int months, int full, int lean, int t) {
        random = new Random(seed);
        String runs = "full " + full + " lean " + lean + ";";
        text = Texts.madeUp(random, months, 5).replaceFirst("full . lean .;", runs);
        x = Texts.of(text);
        this.months = months;
        this.t = t;
        starts = new int[months + 1][months + 1];
        longOnes = new int[months + 1][months + 1];
    }

    public static void main(String[] args) {
        for (int i = 0; i < SHAPES.length && wrong == 0; i++) {
            int[] shape = SHAPES[i];
            new LargestTest(700 + i, shape[0], shape[1], shape[2], shape[3]).run();
        }
        System.out.println("LargestTest: " + asked + " calls, " + wrong + " unlike");
        System.exit(wrong == 0 ? 0 : 1);
    }

    private void due(String what, int want, int got) {
        asked++;
        if (want != got) {
            wrong++;
            System.out.println(text + "\nby " + t + ", " + what + ": answered " + got + ", due is " + want);
        }
    }

    /** Made anew now and then, as nothing is promised behind the 512th call. */
    private SightedMonths x() {
        calls++;
        if (calls % 200 == 0) {
            x = Texts.of(text);
        }
        return x;
    }

    private void run() {
        grow(0, 0, 0);
        left = Arrays.copyOf(all, allCount);
        leftCount = allCount;
        judge();
        count();
        spans();
        dates();
        ranks();
        deeds();
        nearest();
        backed();
    }

    // ---- all CALENDARS

    private void grow(int bits, int month, int run) {
        if (month == months) {
            if (allCount == all.length) {
                all = Arrays.copyOf(all, 2 * allCount);
            }
            all[allCount] = bits;
            allCount++;
            return;
        }
        // A run below 0 is one of 29 days.
        if (run > -x.count(2)) {
            grow(2 * bits, month + 1, run < 0 ? run - 1 : -1);
        }
        if (run < x.count(1)) {
            grow(2 * bits + 1, month + 1, run > 0 ? run + 1 : 1);
        }
    }

    private int begin(int calendar, int month) {
        return 29 * month + Integer.bitCount(calendar >> months - month);
    }

    private int lasts(int calendar, int month) {
        return 29 + (calendar >> months - 1 - month & 1);
    }

    private int bitsOf(int calendar) {
        return Integer.reverse(calendar) >>> 32 - months;
    }

    // ---- judging

    private int[] keys(int report) {
        int place = x.report(report, 0);
        return new int[] {-x.place(place, 0), x.place(place, 1), x.report(report, 2), x.report(report, 3), x.report(report, 1),
            report};
    }

    private void judge() {
        x = Texts.of(text);
        Integer[] order = new Integer[x.count(4)];
        for (int i = 0; i < order.length; i++) {
            order[i] = i;
        }
        Arrays.sort(order, (a, b) -> Arrays.compare(keys(a), keys(b)));
        int turn = 0;
        for (int report : order) {
            x = Texts.of(text);
            if (x.report(report, 4) > t) {
                due("judged " + report, 3, x().judged(t, report));
                continue;
            }
            due("order " + turn, report, x().order(t, turn));
            turn++;
            int verdict = verdictOn(report);
            due("judged " + report, verdict, x().judged(t, report));
        }
        due("order behind all", -1, x().order(t, turn));
    }

    private int verdictOn(int report) {
        boolean hasMoon = x.count(10) > 0;
        if (hasMoon && x.report(report, 1) == 0 && x.report(report, 3) < early(x.report(report, 2))) {
            return 1;
        }
        int month = x.report(report, 2);
        int day = x.report(report, 3) + 1;
        int kind = x.report(report, 1);
        int[] kept = new int[leftCount];
        int keptCount = 0;
        for (int i = 0; i < leftCount; i++) {
            int begin = begin(left[i], month);
            if (kind == 2 || (kind == 0 ? begin == day : begin > day)) {
                kept[keptCount] = left[i];
                keptCount++;
            }
        }
        if (keptCount == 0) {
            return 2;
        }
        left = kept;
        leftCount = keptCount;
        return 0;
    }

    private int early(int month) {
        return Math.floorDiv(x.count(9) + month * x.count(10), 1000);
    }

    // ---- what is left

    private void count() {
        for (int i = 0; i < leftCount; i++) {
            int ahead = 0;
            for (int month = 0; month < months; month++) {
                starts[month][ahead]++;
                int bit = left[i] >> months - 1 - month & 1;
                longOnes[month][ahead] += bit;
                ahead += bit;
            }
            starts[months][ahead]++;
        }
        due("ways", leftCount, x().ways(t));
        for (int month = 0; month < months; month++) {
            int lean = leftCount - Arrays.stream(longOnes[month]).sum();
            due("lean " + month, lean, x().lean(t, month));
        }
    }

    private void spans() {
        int sure = 0;
        int telling = 1;
        for (int month = 0; month <= months; month++) {
            int[] begins = starts[month];
            int least = 0;
            while (begins[least] == 0) {
                least++;
            }
            int greatest = months;
            while (begins[greatest] == 0) {
                greatest--;
            }
            due("span " + month, 29 * month + least, x().span(t, month, 0));
            due("span " + month, 29 * month + greatest, x().span(t, month, 1));
            sure |= least == greatest ? 1 << month : 0;
            if (month > 0 && most(begins) < most(starts[telling])) {
                telling = month;
            }
            for (int ahead = -1; ahead <= months + 1; ahead++) {
                int want = ahead < 0 || ahead > months ? 0 : begins[ahead];
                due("could " + month, want, x().could(t, month, 29 * month + ahead));
            }
        }
        due("sure", sure, x().sure(t));
        due("telling", telling, x().telling(t));
    }

    private static int most(int[] numbers) {
        return Arrays.stream(numbers).max().orElse(0);
    }

    private void dates() {
        int official = left[leftCount - 1];
        for (int month = 0; month <= months; month++) {
            due("begin " + month, begin(official, month), x().begin(t, month));
        }
        for (int day = 0; day <= 30 * months + 1; day++) {
            int unlike = 0;
            int most = 0;
            int likely = -1;
            int date = -1;
            for (int month = 0; month < months; month++) {
                int past = day - begin(official, month);
                date = past >= 0 && past < lasts(official, month) ? 100 * month + past + 1 : date;
                // The later it BEGINS, the lesser is the date.
                for (int ahead = month; ahead >= 0; ahead--) {
                    int k = day - 29 * month - ahead + 1;
                    int many = k < 1 || k > 30 ? 0 : k == 30 ? longOnes[month][ahead] : starts[month][ahead];
                    unlike += many > 0 ? 1 : 0;
                    likely = many > most ? 100 * month + k : likely;
                    most = Math.max(most, many);
                }
            }
            due("date " + day, date, x().date(t, day));
            due("dates " + day, unlike, x().dates(t, day));
            due("likely " + day, likely, x().likely(t, day));
        }
    }

    private void ranks() {
        for (int i = 0; i < 60; i++) {
            int rank = i == 0 ? leftCount - 1 : random.nextInt(leftCount);
            int month = random.nextInt(months + 1);
            due("ranked " + rank, begin(left[rank], month), x().ranked(t, rank, month));
            due("rank of " + rank, rank, x().rank(t, bitsOf(left[rank])));
            int any = random.nextInt(1 << months);
            int found = Arrays.binarySearch(left, 0, leftCount, any);
            due("rank of any", found < 0 ? -1 : found, x().rank(t, bitsOf(any)));
            int seed = random.nextInt();
            int mixed = (int) (seed * 1103515245L + 12345L);
            due("drawn " + seed, (int) ((mixed & 0xffffffffL) / 65536 % leftCount), x().drawn(t, seed));
        }
        due("ranked behind all", -1, x().ranked(t, leftCount, 0));
    }

    // ---- deeds and days of the WEEK

    private int dayOf(int calendar, int month, int k) {
        return begin(calendar, month) + Math.min(k, lasts(calendar, month)) - 1;
    }

    private int endOf(int calendar, int[] deed) {
        return deed[3] == 0 ? dayOf(calendar, deed[0] + deed[2], deed[1]) : dayOf(calendar, deed[0], deed[1]) + deed[2];
    }

    private void deeds() {
        x = Texts.of(text);
        int[][] deeds = new int[x.count(5)][4];
        for (int d = 0; d < deeds.length; d++) {
            for (int what = 0; what < 4; what++) {
                deeds[d][what] = x.deed(d, what);
            }
        }
        for (int d = 0; d < deeds.length; d++) {
            int[] ends = new int[2000];
            boolean behind = true;
            boolean ahead = true;
            int other = deeds.length - 1 - d;
            for (int i = 0; i < leftCount; i++) {
                int end = endOf(left[i], deeds[d]);
                ends[end]++;
                int lead = end - endOf(left[i], deeds[other]);
                behind &= lead > 0;
                ahead &= lead < 0;
            }
            int least = 0;
            while (ends[least] == 0) {
                least++;
            }
            int greatest = ends.length - 1;
            while (ends[greatest] == 0) {
                greatest--;
            }
            int official = left[leftCount - 1];
            due("due " + d, endOf(official, deeds[d]), x().due(t, d));
            due("days " + d, endOf(official, deeds[d]) - dayOf(official, deeds[d][0], deeds[d][1]), x().days(t, d));
            due("dueSpan " + d, least, x().dueSpan(t, d, 0));
            due("dueSpan " + d, greatest, x().dueSpan(t, d, 1));
            due("longer " + d, behind ? 1 : ahead ? -1 : 0, x().longer(t, d, other));
            for (int day = least - 2; day <= greatest + 2; day++) {
                due("dueOn " + d, day < 0 ? 0 : ends[day], x().dueOn(t, d, day));
            }
            weekdays(deeds[d][0], deeds[d][1]);
        }
        weekdays(months - 1, 30);
    }

    private void weekdays(int month, int k) {
        int[] many = new int[7];
        for (int i = 0; i < leftCount; i++) {
            many[dayOf(left[i], month, k) % 7]++;
        }
        for (int week = 0; week < 7; week++) {
            due("weekday " + month + " " + k, many[week], x().weekday(t, month, k, week));
        }
    }

    // ---- the nearest, the best backed

    private void nearest() {
        x = Texts.of(text);
        if (x.count(10) == 0) {
            due("nearest", -2, x().nearest(t, 0));
            return;
        }
        int[] wanted = new int[months + 1];
        for (int month = 1; month <= months; month++) {
            wanted[month] = early(month) + 1;
        }
        int best = Integer.MAX_VALUE;
        int nearest = 0;
        for (int i = 0; i < leftCount; i++) {
            int off = 0;
            for (int month = 1; month <= months; month++) {
                off += Math.abs(begin(left[i], month) - wanted[month]);
            }
            nearest = off < best ? left[i] : nearest;
            best = Math.min(best, off);
        }
        due("nearest", best, x().nearest(t, 0));
        due("nearest", bitsOf(nearest), x().nearest(t, 1));
    }

    private void backed() {
        x = Texts.of(text);
        int reports = x.count(4);
        int[][] told = new int[reports][];
        for (int r = 0; r < reports; r++) {
            x = Texts.of(text);
            boolean counts = x.report(r, 4) <= t && x.report(r, 1) != 2;
            told[r] = new int[] {counts ? x.place(x.report(r, 0), 0) : 0, x.report(r, 1), x.report(r, 2), x.report(r, 3) + 1};
        }
        int best = -1;
        int backed = 0;
        for (int i = 0; i < allCount; i++) {
            int sum = 0;
            for (int[] report : told) {
                if (report[0] > 0) {
                    int begin = begin(all[i], report[2]);
                    sum += (report[1] == 0 ? begin == report[3] : begin > report[3]) ? report[0] : 0;
                }
            }
            backed = sum > best ? all[i] : backed;
            best = Math.max(best, sum);
        }
        due("backed", best, x().backed(t, 0));
        due("backed", bitsOf(backed), x().backed(t, 1));
    }
}
