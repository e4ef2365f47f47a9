/** Sentence by sentence: the edges of CALENDARS, days and dates (terms II, promises 16 to 32, 41, 44, 47, 48). */
public final class CalendarBoundsTest {
    private static final int LEAST = Integer.MIN_VALUE;
    private static final int MOST = Integer.MAX_VALUE;

    /** Ten CALENDARS: 0010 0011 0100 0101 0110 1001 1010 1011 1100 1101 (1: a MONTH of 30 days). */
    private static final String FOUR = "almanac months 4 full 2 lean 2;";
    /** Two: 29 30 29 .. 30, 30 29 30 .. 29. */
    private static final String YEARS = "almanac months 24 full 1 lean 1;";
    private static final String FREE = "almanac months 24 full 5 lean 5;";

    private static final Checks CHECKS = new Checks("CalendarBoundsTest");

    private CalendarBoundsTest() {
    }

    public static void main(String[] args) {
        waysOfRuns();
        begins();
        spans();
        sures();
        lengths();
        coulds();
        rankeds();
        ranks();
        drawns();
        days();
        dates();
        manyDates();
        likelies();
        moves();
        shifts();
        mostShifts();
        tellings();
        weekdays();
        nearests();
        backeds();
        CHECKS.end();
    }

    private static void says(int promise, String sentence) {
        CHECKS.says(promise, sentence);
    }

    private static void due(int want, int got) {
        CHECKS.due(want, got);
    }

    // ---- promises 16 to 22

    /** How many there are, by the RUN that the last MONTH stands in: a way of its own to count them. */
    private static int waysOf(int months, int full, int lean) {
        int[] fulls = new int[full + 1];
        int[] leans = new int[lean + 1];
        fulls[1] = 1;
        leans[1] = 1;
        for (int m = 1; m < months; m++) {
            int[] nextFulls = new int[full + 1];
            int[] nextLeans = new int[lean + 1];
            for (int run = 1; run <= full; run++) {
                nextLeans[1] += fulls[run];
                if (run < full) {
                    nextFulls[run + 1] = fulls[run];
                }
            }
            for (int run = 1; run <= lean; run++) {
                nextFulls[1] += leans[run];
                if (run < lean) {
                    nextLeans[run + 1] = leans[run];
                }
            }
            fulls = nextFulls;
            leans = nextLeans;
        }
        return java.util.stream.IntStream.of(fulls).sum() + java.util.stream.IntStream.of(leans).sum();
    }

    private static void waysOfRuns() {
        says(0, "at most F of 30 one behind the other, at most L of 29");
        for (int months = 2; months <= 24; months++) {
            for (int full = 1; full <= 5; full++) {
                for (int lean = 1; lean <= 5; lean++) {
                    String told = "almanac months " + months + " full " + full + " lean " + lean + ";";
                    SightedMonths x = Texts.of(told);
                    CHECKS.due(told, waysOf(months, full, lean), x.ways(0));
                    // As long, and as short, as it can be.
                    int shorter = months / (full + 1);
                    int longer = months / (lean + 1);
                    CHECKS.due(told + " longest", 30 * months - shorter, x.span(0, months, 1));
                    CHECKS.due(told + " shortest", 29 * months + longer, x.span(0, months, 0));
                    CHECKS.due(told + " official", 30 * months - shorter, x.begin(999, months));
                }
            }
        }
        says(16, "How many CALENDARS there are by T.");
        due(10, Texts.of(FOUR).ways(0));
        due(2, Texts.of(YEARS).ways(999));
        due(1, Texts.of(YEARS + "place a trust 0;seen a month 23 on 677;").ways(677));
        due(2, Texts.of(YEARS + "place a trust 0;seen a month 23 on 677;").ways(676));
    }

    private static void begins() {
        says(0, "BEGIN of MONTH 0 is day 0; of the next one so many days behind; the END behind the last MONTH.");
        SightedMonths x = Texts.of(FOUR);
        int[] begins = {0, 30, 60, 89, 119};
        for (int month = 0; month <= 4; month++) {
            due(begins[month], x.begin(0, month));
            due(begins[month], x.begin(999, month));
        }
        says(17, "(0 .. MONTHS; MONTHS: the END)");
        due(-2, x.begin(0, -1));
        due(-2, x.begin(0, 5));
        due(708, Texts.of(YEARS).begin(0, 24));
        due(-2, Texts.of(YEARS).begin(0, 25));
        due(59, Texts.of("almanac months 2 full 1 lean 1;").begin(0, 2));
        due(-2, Texts.of("almanac months 2 full 1 lean 1;").begin(0, 3));
        due(716, Texts.of("almanac months 24 full 5 lean 1;").begin(0, 24));
        says(0, "OFFICIAL: of these MONTH by MONTH that with 30 days, if there is such a one still.");
        SightedMonths y = Texts.of(FOUR + "place a trust 1;seen a month 3 on 87;");
        int[] held = {0, 30, 59, 88, 118};
        for (int month = 0; month <= 4; month++) {
            due(held[month], y.begin(87, month));
        }
        SightedMonths z = Texts.of(FREE + "place a trust 1;seen a month 23 on " + (29 * 23 + 3 - 1) + ";");
        // Three of 30 days have to part twenty of 29: the earliest is behind none, the others as early as they may be.
        int[] full = {5, 11, 17};
        int ahead = 0;
        for (int month = 0; month < 23; month++) {
            due(29 * month + ahead, z.begin(999, month));
            for (int one : full) {
                ahead += one == month ? 1 : 0;
            }
        }
        due(29 * 23 + 3, z.begin(999, 23));
        due(29 * 24 + 4, z.begin(999, 24));
    }

    private static void spans() {
        says(18, "The least (what 0), the greatest (1) BEGIN of it of all CALENDARS by T.");
        SightedMonths x = Texts.of(FOUR + "place a trust 1;clear a month 2 on 58 known 500;");
        int[][] free = {{0, 0}, {29, 30}, {58, 60}, {88, 89}, {117, 119}};
        int[][] held = {{0, 0}, {30, 30}, {60, 60}, {89, 89}, {118, 119}};
        for (int month = 0; month <= 4; month++) {
            for (int what = 0; what <= 1; what++) {
                due(free[month][what], x.span(499, month, what));
                due(held[month][what], x.span(500, month, what));
            }
        }
        due(-2, x.span(0, 0, 2));
        due(-2, x.span(0, 0, -1));
    }

    private static void sures() {
        says(19, "MONTHS (bits 0 .. MONTHS) whose BEGIN is the same in all CALENDARS by T.");
        due(1, Texts.of(FOUR).sure(0));
        due(0b0101010101010101010101010 ^ (1 << 25) - 1, Texts.of(YEARS).sure(0));
        due((1 << 25) - 1, Texts.of(YEARS + "place a trust 1;seen a month 1 on 28;").sure(28));
        due(0b101, Texts.of("almanac months 2 full 1 lean 1;").sure(0));
        due(0b111, Texts.of("almanac months 2 full 1 lean 1;place a trust 1;seen a month 1 on 29;").sure(999));
        due(0b01111, Texts.of(FOUR + "place a trust 1;clear a month 2 on 58;").sure(999));
    }

    private static void lengths() {
        says(20, "How many days a MONTH (0 .. MONTHS - 1) has by the OFFICIAL one by T.");
        SightedMonths x = Texts.of(FOUR + "place a trust 1;seen a month 3 on 87 known 900;");
        int[] free = {30, 30, 29, 30};
        int[] held = {30, 29, 29, 30};
        for (int month = 0; month < 4; month++) {
            due(free[month], x.lasts(899, month));
            due(held[month], x.lasts(900, month));
        }
        due(-2, x.lasts(0, 4));
        due(-2, x.lasts(0, -1));
        due(30, Texts.of(YEARS).lasts(0, 22));
        due(29, Texts.of(YEARS).lasts(0, 23));
        due(-2, Texts.of(YEARS).lasts(0, 24));
        says(22, "In how many CALENDARS by T a MONTH (0 .. MONTHS - 1) has 29 days.");
        int[] lean = {5, 5, 5, 5};
        int[] leanHeld = {4, 3, 3, 2};
        for (int month = 0; month < 4; month++) {
            due(lean[month], x.lean(899, month));
            due(leanHeld[month], x.lean(900, month));
        }
        due(-2, x.lean(0, 4));
        due(-2, x.lean(0, -1));
        for (int month = 0; month < 24; month++) {
            due(1, Texts.of(YEARS).lean(0, month));
        }
        due(0, Texts.of(YEARS + "place a trust 1;seen a month 1 on 29;").lean(999, 0));
        due(1, Texts.of(YEARS + "place a trust 1;seen a month 1 on 29;").lean(999, 23));
    }

    private static void coulds() {
        says(21, "In how many CALENDARS by T a MONTH (0 .. MONTHS) BEGINS on a day.");
        SightedMonths x = Texts.of(FOUR);
        int[][] many = {{10, 0}, {5, 5}, {2, 6, 2}, {0, 5, 5, 0}, {0, 2, 6, 2, 0}};
        for (int month = 0; month <= 4; month++) {
            for (int full = 0; full < many[month].length; full++) {
                due(many[month][full], x.could(0, month, 29 * month + full));
            }
            due(0, x.could(0, month, 29 * month - 1));
            due(0, x.could(0, month, 30 * month + 1));
            for (int day : new int[] {-1, LEAST, LEAST + 29 * month, MOST, 999, 1000}) {
                due(0, x.could(0, month, day));
            }
        }
        due(-2, x.could(0, 5, 119));
        due(-2, x.could(0, -1, 0));
        due(2, Texts.of(YEARS).could(0, 24, 708));
        due(1, Texts.of(YEARS).could(0, 23, 678));
        due(1, Texts.of(YEARS).could(0, 23, 679));
    }

    // ---- promises 23 to 25

    private static void rankeds() {
        says(23, "in order of their first MONTH, the second .., 29 days ahead of 30");
        SightedMonths x = Texts.of(FOUR);
        String[] all = {"0010", "0011", "0100", "0101", "0110", "1001", "1010", "1011", "1100", "1101"};
        for (int i = 0; i < all.length; i++) {
            int begin = 0;
            for (int month = 0; month <= 4; month++) {
                due(begin, x.ranked(0, i, month));
                begin += month < 4 ? 29 + all[i].charAt(month) - '0' : 0;
            }
        }
        says(23, "NONE: there are not so many; -2 (i below 0, too).");
        for (int month = 0; month <= 4; month++) {
            due(-1, x.ranked(0, 10, month));
            due(-1, x.ranked(0, MOST, month));
            due(-2, x.ranked(0, -1, month));
            due(-2, x.ranked(0, LEAST, month));
        }
        due(-2, x.ranked(0, 0, 5));
        due(-2, x.ranked(0, 0, -1));
        SightedMonths free = Texts.of(FREE);
        int ways = free.ways(0);
        due(29 * 24 + 4, free.ranked(0, 0, 24));
        due(30 * 24 - 4, free.ranked(0, ways - 1, 24));
        due(-1, free.ranked(0, ways, 24));
        SightedMonths one = Texts.of(YEARS + "place a trust 1;seen a month 1 on 29;");
        due(30, one.ranked(29, 0, 1));
        due(-1, one.ranked(29, 1, 1));
        due(29, one.ranked(28, 0, 1));
        due(30, one.ranked(28, 1, 1));
    }

    private static void ranks() {
        says(24, "Which of these has MONTHS as told by bits (bit m: MONTH m has 30 days).");
        SightedMonths x = Texts.of(FOUR);
        int[] inOrder = {0b0100, 0b1100, 0b0010, 0b1010, 0b0110, 0b1001, 0b0101, 0b1101, 0b0011, 0b1011};
        for (int i = 0; i < inOrder.length; i++) {
            due(i, x.rank(0, inOrder[i]));
        }
        SightedMonths free = Texts.of(FREE);
        // 30 of all but every sixth MONTH; 29 of all but every sixth.
        due(free.ways(0) - 1, free.rank(0, 0xffffff & ~(1 << 5 | 1 << 11 | 1 << 17 | 1 << 23)));
        due(0, free.rank(0, 1 << 5 | 1 << 11 | 1 << 17 | 1 << 23));
        says(24, "NONE: none by T; -2 (other bits, too).");
        int known = 0;
        for (int bits = 0; bits < 16; bits++) {
            known += x.rank(0, bits) >= 0 ? 1 : 0;
        }
        due(10, known);
        for (int bits : new int[] {0, 1, 7, 8, 14, 15}) {
            due(-1, x.rank(0, bits));
        }
        for (int bits : new int[] {16, 16 | 4, 32, 1 << 24, 1 << 30, LEAST, LEAST | 4, -1, MOST}) {
            due(-2, x.rank(0, bits));
        }
        due(-1, free.rank(0, 0));
        due(-1, free.rank(0, 0xffffff));
        due(-2, free.rank(0, 0x1000000));
        due(-2, free.rank(0, 0x1000000 | 1 << 5 | 1 << 11 | 1 << 17 | 1 << 23));
        SightedMonths held = Texts.of(FOUR + "place a trust 1;seen a month 1 on 29;");
        due(0, held.rank(28, 0b0100));
        due(-1, held.rank(29, 0b0100));
        due(0, held.rank(29, 0b1001));
        due(4, held.rank(29, 0b1011));
    }

    private static void drawns() {
        says(0, "DRAWN by a seed (an int): (seed times 1103515245 and 12345, as ints, then without sign by 65536) modulo how many there "
            + "are.");
        // More CALENDARS than there are numbers: what is DRAWN is the number itself.
        SightedMonths free = Texts.of(FREE);
        // Of the last four the lower half is 0 or 65535: one more or one less would be another number.
        int[][] seeds = {{0, 0}, {1, 16838}, {2, 33676}, {3, 50515}, {-1, 48697}, {-2, 31859}, {42627, 16213}, {-22909, 61672},
            {47902, 36998}, {-17634, 16921}};
        for (int[] seed : seeds) {
            due(seed[1], free.drawn(0, seed[0]));
            due(seed[1] % 10, Texts.of(FOUR).drawn(999, seed[0]));
            due(seed[1] % 2, Texts.of(YEARS).drawn(0, seed[0]));
            due(0, Texts.of(YEARS + "place a trust 1;seen a month 1 on 29;").drawn(29, seed[0]));
        }
        says(25, "What is DRAWN by a seed: which of these. -2.");
        due(-2, free.drawn(-1, 0));
        due(-2, free.drawn(1000, 0));
        SightedMonths held = Texts.of(FOUR + "place a trust 1;seen a month 1 on 28;");
        due(16838 % 10, held.drawn(27, 1));
        due(16838 % 5, held.drawn(28, 1));
        for (int seed : new int[] {LEAST, LEAST + 1, MOST, MOST - 1, 12345, -987654321}) {
            java.math.BigInteger whole = java.math.BigInteger.valueOf(seed).multiply(java.math.BigInteger.valueOf(1103515245))
                .add(java.math.BigInteger.valueOf(12345)).mod(java.math.BigInteger.ONE.shiftLeft(32)).shiftRight(16);
            due(whole.intValue(), free.drawn(0, seed));
            due(whole.intValue() % 10, Texts.of(FOUR).drawn(0, seed));
        }
    }

    // ---- promises 26 to 29

    private static void days() {
        says(26, "The DAY of a date (MONTH 0 .. MONTHS - 1, k 1 .. 30; in a MONTH of 29 days 30 is its last) by the OFFICIAL one by T.");
        SightedMonths x = Texts.of(FOUR);
        int[] begins = {0, 30, 60, 89, 119};
        for (int month = 0; month < 4; month++) {
            due(begins[month], x.day(0, month, 1));
            due(begins[month] + 28, x.day(0, month, 29));
            due(begins[month + 1] - 1, x.day(0, month, 30));
            due(-2, x.day(0, month, 0));
            due(-2, x.day(0, month, 31));
        }
        due(88, x.day(0, 2, 29));
        due(88, x.day(0, 2, 30));
        due(118, x.day(0, 3, 30));
        due(-2, x.day(0, 4, 1));
        due(-2, x.day(0, -1, 1));
        due(707, Texts.of(YEARS).day(0, 23, 30));
        due(707, Texts.of(YEARS).day(0, 23, 29));
        SightedMonths late = Texts.of(FOUR + "place a trust 1;seen a month 1 on 28;");
        due(29, late.day(27, 0, 30));
        due(28, late.day(28, 0, 30));
    }

    private static void dates() {
        says(27, "The date of a day (0 .. 999) by the OFFICIAL one by T: 100 times the MONTH and its day from 1 on.");
        SightedMonths x = Texts.of(FOUR);
        int[][] dates = {{0, 1}, {1, 2}, {29, 30}, {30, 101}, {59, 130}, {60, 201}, {88, 229}, {89, 301}, {118, 330}};
        for (int[] one : dates) {
            due(one[1], x.date(0, one[0]));
        }
        due(2329, Texts.of(YEARS).date(0, 707));
        due(2301, Texts.of(YEARS).date(0, 679));
        due(2230, Texts.of(YEARS).date(0, 678));
        says(27, "NONE: it is not ahead of the END; -2.");
        due(-1, x.date(0, 119));
        due(-1, x.date(0, 999));
        due(-2, x.date(0, 1000));
        due(-2, x.date(0, -1));
        due(-2, x.date(0, MOST));
        due(-2, x.date(0, LEAST));
        due(-1, Texts.of(YEARS).date(0, 708));
        SightedMonths late = Texts.of(FOUR + "place a trust 1;seen a month 1 on 28;");
        due(330, late.date(27, 118));
        due(-1, late.date(28, 118));
        due(329, late.date(28, 117));
    }

    private static void manyDates() {
        says(28, "How many unlike dates a day (0 .. 999) has in CALENDARS by T.");
        SightedMonths x = Texts.of(FOUR);
        int[][] many = {{0, 1}, {28, 1}, {29, 2}, {30, 2}, {57, 2}, {58, 3}, {59, 3}, {60, 3}, {87, 3}, {88, 3}, {89, 2}, {115, 2},
            {116, 2}, {117, 2}, {118, 1}, {119, 0}, {999, 0}, {1000, -2}, {-1, -2}, {MOST, -2}, {LEAST, -2}};
        for (int[] one : many) {
            CHECKS.due("day " + one[0], one[1], x.dates(0, one[0]));
        }
        SightedMonths one = Texts.of(YEARS + "place a trust 1;seen a month 1 on 29;");
        due(2, one.dates(28, 29));
        due(1, one.dates(29, 29));
        due(1, one.dates(29, 707));
        due(0, one.dates(29, 708));
        due(2, one.dates(28, 678));
    }

    private static void likelies() {
        says(29, "The date that a day has in most CALENDARS by T, of like ones the first.");
        SightedMonths x = Texts.of(FOUR);
        // On 29, five have 30 and five 101; on 59, two have 130, six 201 and two 202.
        int[][] likely = {{0, 1}, {28, 29}, {29, 30}, {30, 101}, {59, 201}, {60, 202}, {88, 301}, {89, 301}, {117, 329}, {118, 330}};
        for (int[] one : likely) {
            CHECKS.due("day " + one[0], one[1], x.likely(0, one[0]));
        }
        says(29, "NONE: in none; -2.");
        for (int day : new int[] {119, 999, 1000, MOST, -1, LEAST}) {
            due(-1, x.likely(0, day));
        }
        // In some CALENDARS it has none: that is no date.
        due(330, x.likely(0, 118));
        SightedMonths late = Texts.of(FOUR + "place a trust 1;seen a month 1 on 28;");
        due(30, late.likely(27, 29));
        due(101, late.likely(28, 29));
        due(2329, Texts.of(YEARS).likely(0, 707));
        due(-1, Texts.of(YEARS).likely(0, 708));
    }

    // ---- promises 30 to 32

    private static SightedMonths moving() {
        return Texts.of(FOUR + "place a trust 1;place b trust 2;place c trust 3;seen a month 2 on 57;"
            + "seen b month 2 on 59 known 70;seen c month 2 on 57 known 999;");
    }

    private static void moves() {
        says(30, "How much later (below 0: sooner) BEGIN of a MONTH (0 .. MONTHS) by the OFFICIAL one is by U than by T.");
        SightedMonths x = moving();
        due(-2, x.moved(56, 57, 2));
        due(2, x.moved(57, 56, 2));
        due(2, x.moved(57, 70, 2));
        due(0, x.moved(0, 70, 2));
        due(-2, x.moved(998, 999, 2));
        due(-2, x.moved(0, 999, 2));
        due(2, x.moved(999, 0, 2));
        due(0, x.moved(999, 999, 2));
        due(0, x.moved(0, 999, 0));
        due(-1, x.moved(0, 999, 1));
        due(-1, x.moved(0, 999, 3));
        due(-1, x.moved(0, 999, 4));
        says(30, "-2000: there are none such.");
        int[][] none = {{-1, 0, 0}, {1000, 0, 0}, {0, -1, 0}, {0, 1000, 0}, {0, 0, -1}, {0, 0, 5}, {LEAST, 0, 0}, {0, MOST, 0}};
        for (int[] one : none) {
            due(-2000, x.moved(one[0], one[1], one[2]));
            due(-2000, new SightedMonths().moved(0, 0, 0));
        }
    }

    private static void shifts() {
        says(31, "How often that of a MONTH (0 .. MONTHS) changes as T goes from 0 to 999.");
        SightedMonths x = moving();
        int[] shifts = {0, 3, 3, 3, 3};
        // 30 30 29 30, 29 29 30 30, 30 30 29 30, 29 29 30 30
        int[] ends = {0, 30, 60, 89, 119};
        int[] behind = {0, 29, 58, 88, 118};
        for (int month = 0; month <= 4; month++) {
            due(ends[month], x.begin(56, month));
            due(behind[month], x.begin(69, month));
            due(ends[month], x.begin(998, month));
            due(behind[month], x.begin(999, month));
            due(shifts[month], x.shifts(month));
        }
        due(-2, x.shifts(-1));
        due(-2, x.shifts(5));
        says(32, "The first T from which on it stays till 999.");
        int[] settled = {0, 999, 999, 999, 999};
        for (int month = 0; month <= 4; month++) {
            due(settled[month], x.settled(month));
        }
        due(-2, x.settled(-1));
        due(-2, x.settled(5));
        x.strikes(2);
        due(70, x.settled(2));
        due(2, x.shifts(2));
        x.strikes(1);
        due(57, x.settled(2));
        due(1, x.shifts(2));
        x.strikes(0);
        due(0, x.settled(2));
        due(0, x.shifts(2));
    }

    /** Twenty-four REPORTS, each JUDGED ahead of all that were known before it, and saying the other thing: by turns 29 and 30. */
    private static void mostShifts() {
        says(31, "changes as T goes from 0 to 999");
        SightedMonths x = Texts.of(YEARS + "place a trust 2;place b trust 1;");
        for (int i = 0; i < 24; i++) {
            int month = 23 - 2 * (i % 12);
            int fulls = i % 2 == 0 ? (month - 1) / 2 : (month + 1) / 2;
            due(i, x.reports(i < 12 ? 1 : 0, 0, month, 29 * month + fulls - 1, i == 23 ? 999 : 700 + 10 * i));
        }
        for (int month = 0; month <= 24; month++) {
            due(month % 2 == 0 ? 0 : 24, x.shifts(month));
            due(month % 2 == 0 ? 0 : 999, x.settled(month));
        }
        due(30, x.begin(699, 1));
        due(29, x.begin(700, 1));
        due(29, x.begin(998, 1));
        due(30, x.begin(999, 1));
        x.strikes(23);
        due(23, x.shifts(1));
        due(700 + 10 * 22, x.settled(1));
    }

    // ---- promises 41, 44, 47, 48

    private static void tellings() {
        says(41, "The MONTH (1 .. MONTHS) by which, its BEGIN being known, fewest CALENDARS by T are left at the most, of like ones the "
            + "first.");
        // At the most are left: 5 6 5 6 of ten.
        due(1, Texts.of(FOUR).telling(0));
        due(1, Texts.of(YEARS).telling(0));
        SightedMonths one = Texts.of(YEARS + "place a trust 1;seen a month 1 on 29;");
        due(1, one.telling(29));
        due(2, Texts.of("almanac months 2 full 2 lean 2;place a trust 1;seen a month 1 on 28;").telling(28));
        due(1, Texts.of("almanac months 2 full 2 lean 2;place a trust 1;seen a month 1 on 28;").telling(27));
        due(1, Texts.of("almanac months 2 full 1 lean 1;").telling(999));
        // All MONTHS are sure; the END alone tells.
        SightedMonths last = Texts.of(FREE + "place a trust 1;seen a month 23 on 676;seen a month 22 on 646;seen a month 21 on 617;"
            + "seen a month 20 on 588;seen a month 19 on 559;seen a month 18 on 530;seen a month 17 on 501;seen a month 16 on 471;"
            + "seen a month 15 on 442;seen a month 14 on 413;seen a month 13 on 384;seen a month 12 on 354;seen a month 11 on 325;"
            + "seen a month 10 on 295;seen a month 9 on 266;seen a month 8 on 236;seen a month 7 on 207;seen a month 6 on 177;"
            + "seen a month 5 on 147;seen a month 4 on 118;seen a month 3 on 88;seen a month 2 on 58;seen a month 1 on 29;");
        due(23, last.taken(999));
        due(2, last.ways(999));
        due(24, last.telling(999));
    }

    private static void weekdays() {
        says(44, "is on a day of the WEEK (0 .. 6: the day modulo 7)");
        SightedMonths x = Texts.of(FOUR);
        int[][] weeks = {{0, 1, 0, 10}, {0, 7, 6, 10}, {0, 8, 0, 10}, {0, 29, 0, 10}, {0, 30, 0, 5}, {0, 30, 1, 5}, {1, 1, 1, 5},
            {1, 1, 2, 5}, {3, 1, 4, 5}, {3, 1, 5, 5}, {3, 30, 4, 2}, {3, 30, 5, 6}, {3, 30, 6, 2}, {3, 30, 3, 0}, {3, 30, 0, 0}};
        for (int[] one : weeks) {
            CHECKS.due("month " + one[0] + " day " + one[1] + " week " + one[2], one[3], x.weekday(0, one[0], one[1], one[2]));
        }
        for (int month = 0; month < 4; month++) {
            for (int k = 1; k <= 30; k++) {
                int sum = 0;
                SightedMonths y = Texts.of(FOUR);
                for (int week = 0; week < 7; week++) {
                    sum += y.weekday(0, month, k, week);
                }
                due(10, sum);
            }
        }
        for (int week : new int[] {-1, 7, LEAST, MOST}) {
            due(-2, x.weekday(0, 0, 1, week));
        }
        due(2, Texts.of(YEARS).weekday(0, 23, 30, 0));
        due(1, Texts.of(YEARS).weekday(0, 22, 30, 6));
        due(1, Texts.of(YEARS).weekday(0, 22, 30, 5));
    }

    private static void nearests() {
        says(47, "nearest to EARLY and 1 (by how many days off, together), of like ones the first (as ranked())");
        // EARLY and 1: 30 60 89 119.
        SightedMonths x = Texts.of(FOUR);
        x.moon(0, 29500);
        due(0, x.nearest(0, 0));
        due(0b1011, x.nearest(0, 1));
        // EARLY and 1: 30 60 90 120.
        x.moon(0, 29750);
        due(2, x.nearest(0, 0));
        due(0b1011, x.nearest(0, 1));
        // EARLY and 1: 29 58 86 115, with the least BEGINS 29 58 88 117 behind it.
        x.moon(0, 28500);
        due(0 + 0 + 2 + 2, x.nearest(0, 0));
        due(0b0100, x.nearest(0, 1));
        // As far away as may be: all BEGINS are ahead of it, so the greatest are the nearest.
        x.moon(99999, 31000);
        due(131 + 162 + 193 + 224 - 30 - 60 - 89 - 119, x.nearest(0, 0));
        due(0b1011, x.nearest(0, 1));
        SightedMonths far = Texts.of("almanac months 24 full 1 lean 5;moon 99999 step 31000;");
        // 30 29 30 29 ..: 29 m and (m + 1) / 2; EARLY and 1: (99999 + 31000 m) / 1000 and 1.
        int off = 0;
        for (int m = 1; m <= 24; m++) {
            off += 100 + 31 * m - (29 * m + (m + 1) / 2);
        }
        due(off, far.nearest(999, 0));
        due(0x555555, far.nearest(999, 1));
        says(47, "what 0: how many days, 1: MONTHS of 30 days, as bits");
        due(-2, x.nearest(0, 2));
        due(-2, x.nearest(0, -1));
        // By T: what is TAKEN holds.
        SightedMonths y = Texts.of(FOUR + "moon 0 step 29000;place a trust 1;seen a month 2 on 59 known 70;");
        due(1, y.nearest(69, 0));
        due(0b0010, y.nearest(69, 1));
        due(3, y.nearest(70, 0));
        due(0b0011, y.nearest(70, 1));
    }

    private static void backeds() {
        says(48, "The greatest sum of trust of REPORTS (not of cloud) KNOWN by T that are so by one CALENDAR (with F, L alone; too EARLY or "
            + "not)");
        SightedMonths x = Texts.of(FOUR + "place a trust 9;" + "seen a month 1 on 28;".repeat(12) + "clear a month 2 on 56;".repeat(12));
        due(0, x.backed(27, 0));
        due(108, x.backed(28, 0));
        due(108, x.backed(55, 0));
        due(216, x.backed(56, 0));
        due(216, x.backed(999, 0));
        due(0b0100, x.backed(999, 1));
        x.strikes(0);
        due(207, x.backed(999, 0));
        x.moon(99999, 31000);
        due(207, x.backed(999, 0));
        due(1, x.judged(999, 1));
        x.trusts(0, 0);
        due(0, x.backed(999, 0));
        due(0b0100, x.backed(999, 1));
        SightedMonths y = Texts.of(FOUR + "place a trust 9;place b trust 5;place c trust 6;cloud a month 1 on 1;seen a month 1 on 29;"
            + "seen b month 1 on 28;seen c month 2 on 57;seen a month 3 on 500;");
        due(9, y.backed(28 + 1, 0));
        due(0b1001, y.backed(29, 1));
        due(5, y.backed(28, 0));
        due(11, y.backed(57, 0));
        due(0b0100, y.backed(57, 1));
        due(11, y.backed(999, 0));
        says(48, "what 0: it, 1: MONTHS of 30 days by the first such CALENDAR, as bits");
        due(0, y.backed(0, 0));
        due(0b0100, y.backed(0, 1));
        due(1 << 5 | 1 << 11 | 1 << 17 | 1 << 23, Texts.of(FREE).backed(0, 1));
        due(-2, y.backed(0, 2));
        due(-2, y.backed(0, -1));
    }
}
