/** Each promise of the document by itself: ordinary inputs, the edges that it names, wrong inputs. */
public final class PromisesTest {
    private static final int LEAST = Integer.MIN_VALUE;
    private static final int MOST = Integer.MAX_VALUE;

    /** Ten CALENDARS: 0010 0011 0100 0101 0110 1001 1010 1011 1100 1101 (1: a MONTH of 30 days). */
    private static final String FOUR = "almanac months 4 full 2 lean 2;";

    /**
     * EARLY 29, 59, 88, 117, 147. By trust and name: 4 (cd), 2 (ab), 0, 1, 5 (b), 3 (c). Report 0 is too EARLY; 4 wants MONTH 3
     * on 89, 1 wants MONTH 1 on 30, 2 MONTH 2 later than on 59, 3 is of cloud, 5 wants MONTH 3 on 90, until 4 is known.
     */
    private static final String FIVE = "almanac months 5 full 3 lean 2;\nmoon 300 step 29400;"
        + "place b trust 3;place cd trust 7;place ab trust 3;place c trust 0;"
        + "seen b month 1 on 28;seen b month 1 on 29 known 40;clear ab month 2 on 58 known 60;cloud c month 4 on 117;"
        + "seen cd month 3 on 88 known 95;seen b month 3 on 89;"
        + "deed month 1 day 30 for 2 months;deed month 0 day 1 for 88 days;deed month 4 day 30 for 0 months;"
        + "deed month 2 day 5 for 600 days;";

    private static int promise = 0;
    private static int row = 0;
    private static int wrong = 0;
    private static int checks = 0;

    private PromisesTest() {
    }

    public static void main(String[] args) {
        tapeAndText();
        faultsOfTokens();
        faultsOfValues();
        faultsOfNumbers();
        told();
        judging();
        judgingOrder();
        calendars();
        ranks();
        datesAndDays();
        latecomers();
        deeds();
        places();
        reportsByThemselves();
        more();
        searches();
        out();
        comings();
        changes();
        withoutAlmanac();
        noSuchTimes();
        System.out.println("PromisesTest: " + checks + " checks, " + wrong + " wrong");
        System.exit(wrong == 0 ? 0 : 1);
    }

    private static void of(int number) {
        promise = number;
        row = 0;
    }

    private static void due(int want, int got) {
        checks++;
        row++;
        if (got != want) {
            wrong++;
            System.out.println("promise " + promise + ", check " + row + ": answered " + got + ", due is " + want);
        }
    }

    // ---- promises 1 to 5

    private static void tapeAndText() {
        of(1);
        SightedMonths x = new SightedMonths();
        due(0, x.count(0));
        due(-2, x.ways(0));
        due(-1, SightedMonths.NONE);
        of(2);
        for (int n = 20; n <= 1580; n += 20) {
            due(n, x.feed(0, 0, 0, 0, 0));
        }
        due(1579, x.end(1579));
        due(1599, x.feed(1, 2, 3, 4, 5));
        due(-1, x.feed(1, 2, 3, 4, 5));
        due(1599, x.count(7));
        due(1580, x.end(1580));
        due(1600, x.feed(1, 2, 3, 4, 5));
        due(-1, x.feed(1, 2, 3, 4, 5));
        due(1600, x.count(7));
        of(3);
        due(-1, x.end(1601));
        due(-1, x.end(-1));
        due(-1, x.end(LEAST));
        due(-1, x.end(MOST));
        due(1600, x.count(7));
        due(1600, x.end(1600));
        due(7, x.end(7));
        due(-1, x.end(8));
        due(0, x.end(0));
        due(0, x.end(0));
        of(4);
        due(0, x.almanac());
        due(1, Texts.tell(x, FOUR));
        due(0, x.count(7));
        due(4, x.count(0));
        due(11, x.tell(0));
        due(-4, Texts.tell(x, FOUR + "moon"));
        due(0, x.count(7));
        due(4, x.count(0));
        due(1, x.count(6));
        due(16, Texts.tell(x, FIVE));
        due(5, x.count(0));
        due(4, x.count(3));
        due(1, Texts.tell(x, "almanac months 2 full 1 lean 5;"));
        due(0, x.count(3));
        due(0, x.count(4));
        due(0, x.count(5));
        due(-2, x.early(1));
        due(11, x.count(8));
        due(0, Texts.tell(x, " \n  \n"));
        due(0, x.count(0));
        due(0, x.count(6));
        due(-2, x.ways(0));
        due(3, Texts.tell(x, "almanac\n\nmonths 0012full 5lean 00001;place a trust 9;place month trust 0   ;\n"));
        due(12, x.count(0));
        due(1, x.count(2));
        of(5);
        x = new SightedMonths();
        due(0, x.fault(0));
        due(-1, x.fault(1));
        due(-1, x.fault(2));
        due(-1, x.fault(-1));
        Texts.tell(x, FOUR + "x");
        due(1, x.fault(0));
        due(31, x.fault(1));
        due(-1, x.fault(2));
        due(-1, x.fault(LEAST));
        Texts.put(x, FOUR);
        due(1, x.fault(0));
        x.almanac();
        due(0, x.fault(0));
        due(-1, x.fault(1));
    }

    /** Behind FOUR (31 bytes), or alone where it begins with a star. */
    private static void faulty(String text, int fault, int place) {
        SightedMonths x = Texts.of("almanac months 9 full 1 lean 1;");
        String whole = text.startsWith("*") ? text.substring(1) : FOUR + text;
        due(-4, Texts.tell(x, whole));
        due(fault, x.fault(0));
        due(place + (text.startsWith("*") ? 0 : 31), x.fault(1));
        due(9, x.count(0));
    }

    private static void faultsOfTokens() {
        of(4);
        faulty("*;", 1, 0);
        faulty("*4", 1, 0);
        faulty("*  moon 0 step 29000;", 1, 2);
        faulty("*almanac", 1, 7);
        faulty("*almanac  ", 1, 9);
        faulty("*almanacs months 4 full 2 lean 2;", 1, 0);
        faulty("*Almanac months 4 full 2 lean 2;", 1, 0);
        faulty("*almanac month 4 full 2 lean 2;", 1, 8);
        faulty("*almanac months four", 1, 15);
        faulty("*almanac months 4 full 2 lean 2", 1, 31 - 1);
        faulty("*almanac months 4 full 2 lean 2 \n ", 1, 33);
        faulty("*almanac months 4 full 2 lean 2 2;", 1, 31);
        faulty("*almanac months 4\tfull 2 lean 2;", 1, 16);
        faulty("*almanac months -4 full 2 lean 2;", 1, 15);
        faulty("*almanac months 4\u0000full 2 lean 2;", 1, 16);
        faulty("*almanac months 4\u00fffull 2 lean 2;", 1, 16);
        faulty(";", 1, 0);
        faulty(FOUR, 1, 0);
        faulty("moons 0 step 29000;", 1, 0);
        faulty("moon a step 29000;", 1, 5);
        faulty("moon 0 steps 29000;", 1, 7);
        faulty("moon 0 step 29000", 1, 17);
        faulty("place 7 trust 1;", 1, 6);
        faulty("place a 7;", 1, 8);
        faulty("place a trust;", 1, 13);
        faulty("place a trust 1;seen a month 1 on 3 known;", 1, 41);
        faulty("place a trust 1;seen a month 1 on 3 know 4;", 1, 36);
        faulty("place a trust 1;seen a month 1 on 3 known 4 known 5;", 1, 44);
        faulty("place a trust 1;seen a on 3;", 1, 23);
        faulty("deed month 1 day 1 for 1;", 1, 24);
        faulty("deed month 1 day 1 for 99999999999 month;", 1, 35);
        faulty("deed month 1 day 1 for 601", 1, 26);
        faulty("deed month 1 day 1 for days;", 1, 23);
        faulty("deed month 1 day 1 for 1 days", 1, 29);
    }

    private static void faultsOfValues() {
        of(4);
        faulty("*almanac months 1 full 2 lean 2;", 2, 15);
        faulty("*almanac months 25 full 2 lean 2;", 2, 15);
        faulty("*almanac months 99999999999999999999 full 2 lean 2;", 2, 15);
        faulty("*almanac months 4294967300 full 2 lean 2;", 2, 15);
        faulty("*almanac months 4 full 0 lean 2;", 2, 22);
        faulty("*almanac months 4 full 6 lean 2;", 2, 22);
        faulty("*almanac months 4 full 2 lean 0;", 2, 29);
        faulty("*almanac months 4 full 2 lean 6;", 2, 29);
        faulty("moon 100000 step 29000;", 2, 5);
        faulty("moon 0 step 27999;", 2, 12);
        faulty("moon 0 step 31001;", 2, 12);
        faulty("place abcdefg trust 1;", 2, 6);
        faulty("place a trust 10;", 2, 14);
        faulty("place a trust 1;place a trust 1;", 2, 22);
        faulty("seen a month 1 on 1;place a trust 1;", 2, 5);
        faulty("place a trust 1;seen b month 1 on 1;", 2, 21);
        faulty("place abcdef trust 1;seen abcdefg month 1 on 1;", 2, 26);
        faulty("place a trust 1;clear a month 0 on 1;", 2, 30);
        faulty("place a trust 1;cloud a month 4 on 1;", 2, 30);
        faulty("place a trust 1;seen a month 3 on 1000;", 2, 34);
        faulty("place a trust 1;seen a month 3 on 500 known 499;", 2, 44);
        faulty("place a trust 1;seen a month 3 on 500 known 1000;", 2, 44);
        faulty("deed month 4 day 1 for 1 days;", 2, 11);
        faulty("deed month 1 day 0 for 1 days;", 2, 17);
        faulty("deed month 1 day 31 for 1 days;", 2, 17);
        faulty("deed month 1 day 1 for 601 days;", 2, 23);
        faulty("deed month 1 day 1 for 99999999999 days", 2, 23);
        faulty("deed month 1 day 1 for 3 months", 2, 23);
        faulty("deed month 0 day 1 for 4 months#", 2, 23);
        SightedMonths x = new SightedMonths();
        due(9, Texts.tell(x, FOUR + "moon 99999 step 31000;place abcdef trust 9;place a trust 0;clear a month 3 on 999;"
            + "cloud a month 1 on 0 known 999;deed month 0 day 30 for 3 months;deed month 3 day 1 for 0 months;"
            + "deed month 3 day 1 for 600 days;"));
        due(2, Texts.tell(x, "almanac months 24 full 5 lean 5;moon 0 step 28000;"));
    }

    private static void faultsOfNumbers() {
        of(4);
        StringBuilder places = new StringBuilder();
        for (char c = 'a'; c <= 'f'; c++) {
            places.append("place ").append(c).append(" trust 1;");
        }
        StringBuilder reports = new StringBuilder("place a trust 1;");
        StringBuilder deeds = new StringBuilder();
        for (int i = 0; i < 24; i++) {
            reports.append(i % 3 == 0 ? "seen" : i % 3 == 1 ? "clear" : "cloud").append(" a month 1 on 9;");
            deeds.append(i < 8 ? "deed month 1 day 1 for 1 days;" : "");
        }
        due(7, Texts.tell(new SightedMonths(), FOUR + places));
        due(26, Texts.tell(new SightedMonths(), FOUR + reports));
        due(9, Texts.tell(new SightedMonths(), FOUR + deeds));
        faulty("moon 0 step 28000;moon", 3, 18);
        faulty(places + "place", 3, places.length());
        faulty(places + "place a", 3, places.length());
        faulty(reports + "seen ?", 3, reports.length());
        faulty(reports + "clear b", 3, reports.length());
        faulty(reports + "cloud", 3, reports.length());
        faulty(deeds + "deed month 9", 3, deeds.length());
    }

    // ---- promises 6 to 10

    private static void told() {
        SightedMonths x = Texts.of(FIVE);
        of(6);
        int[] all = {5, 3, 2, 4, 6, 4, 16, 0, 0, 300, 29400, -1};
        for (int what = 0; what < all.length; what++) {
            due(all[what], x.count(what));
        }
        due(-1, x.count(-1));
        due(-1, x.count(LEAST));
        x.feed(0, 0, 0, 0, 0);
        x.tell(0);
        x.strikes(0);
        due(20, x.count(7));
        due(14, x.count(8));
        due(6, x.count(4));
        due(0, Texts.of(FOUR).count(9));
        due(0, Texts.of(FOUR).count(10));
        x = Texts.of(FIVE);
        of(7);
        due(3, x.place(0, 0));
        due(7, x.place(1, 0));
        due(0, x.place(3, 0));
        due(1, x.place(0, 1));
        due(3, x.place(1, 1));
        due(0, x.place(2, 1));
        due(2, x.place(3, 1));
        due(3, x.place(0, 2));
        x.strikes(1);
        due(2, x.place(0, 2));
        due(1, x.place(2, 2));
        due(-2, x.place(4, 0));
        due(-2, x.place(-1, 0));
        due(-2, x.place(0, 3));
        due(-2, x.place(0, -1));
        SightedMonths fewer = Texts.of(FIVE);
        Texts.tell(fewer, FIVE);
        Texts.tell(fewer, FOUR + "place zz trust 1;");
        due(0, fewer.place(0, 1));
        due(0, fewer.place(0, 2));
        due(-2, fewer.place(1, 0));
        of(8);
        int[] second = {2, 1, 2, 58, 60, -2};
        for (int what = 0; what < second.length; what++) {
            due(second[what], x.report(2, what));
        }
        due(0, x.report(0, 1));
        due(28, x.report(0, 4));
        due(2, x.report(3, 1));
        due(3, x.report(1, 1));
        due(0, x.report(1, 0));
        due(1, x.report(1, 2));
        due(29, x.report(1, 3));
        due(40, x.report(1, 4));
        due(-2, x.report(6, 0));
        due(-2, x.report(-1, 0));
        due(-2, x.report(0, -1));
        of(9);
        int[] first = {1, 30, 2, 0, -2};
        int[] last = {2, 5, 600, 1, -2};
        for (int what = 0; what < first.length; what++) {
            due(first[what], x.deed(0, what));
            due(last[what], x.deed(3, what));
        }
        due(-2, x.deed(4, 0));
        due(-2, x.deed(-1, 0));
        due(-2, x.deed(0, -1));
        of(10);
        int[] early = {-2, 29, 59, 88, 117, 147, -2};
        for (int month = 0; month < early.length; month++) {
            due(early[month], x.early(month));
        }
        due(-2, x.early(MOST));
        due(-2, Texts.of(FOUR).early(1));
    }

    // ---- promises 11 to 16

    private static void judging() {
        SightedMonths x = Texts.of(FIVE);
        of(11);
        int[][] byDay = {{27, 3, 3, 3, 3, 3, 3}, {28, 1, 3, 3, 3, 3, 3}, {39, 1, 3, 3, 3, 3, 3}, {40, 1, 0, 3, 3, 3, 3},
            {60, 1, 0, 0, 3, 3, 3}, {89, 1, 0, 0, 3, 3, 0}, {95, 1, 0, 0, 3, 0, 2}, {117, 1, 0, 0, 0, 0, 2},
            {999, 1, 0, 0, 0, 0, 2}};
        for (int[] by : byDay) {
            for (int report = 0; report < 6; report++) {
                due(by[report + 1], x.judged(by[0], report));
            }
        }
        due(-2, x.judged(0, 6));
        due(-2, x.judged(0, -1));
        x.strikes(4);
        due(3, x.judged(999, 4));
        due(0, x.judged(999, 5));
        // A clear sky ahead of EARLY is no fault; to be seen on EARLY is none either.
        SightedMonths y = Texts.of(FOUR + "moon 0 step 29000;place a trust 1;clear a month 1 on 5;seen a month 2 on 58;");
        due(0, y.judged(999, 0));
        due(0, y.judged(999, 1));
        due(117, y.moon(88000, 29000));
        due(1, y.judged(999, 1));
        due(0, y.judged(999, 0));
        // A day far off is on no BEGIN, by whatever number of days.
        for (int day = 0; day < 24; day++) {
            SightedMonths off = Texts.of("almanac months 3 full 5 lean 5;place a trust 1;seen a month 1 on " + (day * 32 + 28)
                + ";seen a month 2 on " + (day * 32 + 57) + ";clear a month 2 on " + (day * 32 + 57) + ";");
            due(day == 0 ? 0 : 2, off.judged(999, 0));
            due(day == 0 ? 0 : 2, off.judged(999, 1));
            due(2, off.judged(999, 2));
        }
        x = Texts.of(FIVE);
        of(12);
        due(0, x.taken(39));
        due(1, x.taken(40));
        due(3, x.taken(90));
        due(4, x.taken(999));
        of(14);
        due(1 << 4, x.against(95, 5));
        due(0, x.against(89, 5));
        due(0, x.against(95, 0));
        due(0, x.against(95, 4));
        due(0, x.against(95, 3));
        due(-2, x.against(95, 6));
        due(-2, x.against(95, -1));
        // What no CALENDAR allows is against all that are TAKEN; what two forbid together is against neither.
        SightedMonths z = Texts.of(FOUR + "place a trust 5;place b trust 1;cloud a month 1 on 9;seen a month 1 on 28;"
            + "seen b month 3 on 999;seen a month 2 on 57;clear b month 3 on 86;clear b month 3 on 87;");
        due(0b11011, z.against(999, 2));
        due(2, z.judged(999, 5));
        due(1 << 3, z.against(999, 5));
        due(0, z.judged(999, 4));
        of(15);
        due(0, x.blind(116, 4));
        due(1, x.blind(117, 4));
        due(0, x.blind(999, 1));
        due(0, x.blind(999, 2));
        due(-2, x.blind(999, 0));
        due(-2, x.blind(999, 5));
        x.reports(0, 0, 4, 200, 300);
        due(1, x.blind(299, 4));
        due(0, x.blind(300, 4));
        x.strikes(6);
        due(1, x.blind(300, 4));
        x.strikes(3);
        due(0, x.blind(300, 4));
        of(16);
        due(10, Texts.of(FOUR).ways(0));
        due(2, Texts.of("almanac months 24 full 1 lean 1;").ways(999));
        due(4, Texts.of("almanac months 2 full 2 lean 2;").ways(0));
        due(150050, Texts.of("almanac months 24 full 2 lean 2;").ways(0));
        due(3, Texts.of("almanac months 2 full 1 lean 5;").ways(0));
        due(21, Texts.of(FIVE).ways(0));
        due(11, Texts.of(FIVE).ways(40));
        due(5, Texts.of(FIVE).ways(60));
        due(2, Texts.of(FIVE).ways(89));
        due(3, Texts.of(FIVE).ways(95));
    }

    private static void judgingOrder() {
        of(13);
        SightedMonths x = Texts.of(FIVE);
        int[] all = {4, 2, 0, 1, 5, 3, -1};
        for (int i = 0; i < all.length; i++) {
            due(all[i], x.order(999, i));
        }
        due(2, x.order(60, 0));
        due(1, x.order(60, 2));
        due(-1, x.order(60, 3));
        due(-1, x.order(0, 0));
        due(-1, x.order(999, MOST));
        due(-2, x.order(999, -1));
        due(-2, x.order(999, LEAST));
        x.strikes(2);
        due(0, x.order(999, 1));
        SightedMonths y = Texts.of("almanac months 9 full 2 lean 2;place abc trust 2;place ab trust 2;place b trust 3;"
            + "cloud abc month 1 on 9;cloud ab month 2 on 9;clear ab month 2 on 9;seen ab month 2 on 9;seen ab month 2 on 9;"
            + "seen ab month 2 on 8 known 800;seen ab month 1 on 50;cloud b month 8 on 999;");
        int[] sorted = {7, 6, 5, 3, 4, 2, 1, 0, -1};
        for (int i = 0; i < sorted.length; i++) {
            due(sorted[i], y.order(999, i));
        }
        y.trusts(0, 9);
        due(0, y.order(999, 0));
        // Letters count one by one, and what ends first is ahead.
        SightedMonths z = Texts.of("almanac months 9 full 2 lean 2;place zzzzzz trust 2;place z trust 2;place azzzzz trust 2;"
            + "place zzzzz trust 2;cloud zzzzzz month 1 on 1;cloud z month 1 on 1;cloud azzzzz month 1 on 1;"
            + "cloud zzzzz month 1 on 1;");
        int[] named = {2, 1, 3, 0};
        for (int i = 0; i < named.length; i++) {
            due(named[i], z.order(1, i));
        }
        SightedMonths a = Texts.of("almanac months 9 full 2 lean 2;place aaa trust 2;place aa trust 2;place a trust 2;"
            + "place b trust 2;place azzzzz trust 2;cloud b month 1 on 0;cloud azzzzz month 8 on 999;cloud a month 1 on 1;"
            + "cloud aa month 1 on 1;cloud aaa month 1 on 1;");
        int[] shortOnes = {2, 3, 4, 1, 0};
        for (int i = 0; i < shortOnes.length; i++) {
            due(shortOnes[i], a.order(999, i));
        }
        // What comes first by one is not caught up with by all that follows it.
        SightedMonths b = Texts.of("almanac months 24 full 2 lean 2;place a trust 2;seen a month 23 on 0;cloud a month 22 on 999;"
            + "seen a month 22 on 999;cloud a month 22 on 998;seen a month 1 on 0;cloud a month 1 on 999;");
        int[] weighed = {4, 5, 3, 2, 1, 0};
        for (int i = 0; i < weighed.length; i++) {
            due(weighed[i], b.order(999, i));
        }
    }

    // ---- promises 17 to 25

    private static void calendars() {
        SightedMonths x = Texts.of(FIVE);
        of(17);
        // 30 30 30 29 30, until MONTH 3 is seen on 88.
        int[][] begins = {{0, 0, 30, 60, 90, 119, 149}, {94, 0, 30, 60, 90, 119, 149}, {95, 0, 30, 60, 89, 119, 149}};
        for (int[] by : begins) {
            for (int month = 0; month <= 5; month++) {
                due(by[month + 1], x.begin(by[0], month));
            }
        }
        due(-2, x.begin(0, -1));
        due(-2, x.begin(0, 6));
        SightedMonths y = Texts.of(FOUR + "place a trust 1;seen a month 3 on 87;seen a month 2 on 57 known 90;");
        due(30, y.begin(88, 1));
        due(59, y.begin(88, 2));
        due(88, y.begin(88, 3));
        due(118, y.begin(88, 4));
        due(29, y.begin(90, 1));
        due(58, y.begin(90, 2));
        due(88, y.begin(90, 3));
        due(118, y.begin(90, 4));
        of(18);
        int[][] spans = {{0, 0}, {29, 30}, {58, 60}, {88, 89}, {117, 119}};
        for (int month = 0; month <= 4; month++) {
            due(spans[month][0], Texts.of(FOUR).span(0, month, 0));
            due(spans[month][1], Texts.of(FOUR).span(0, month, 1));
        }
        due(-2, x.span(0, 6, 0));
        due(-2, x.span(0, -1, 0));
        due(-2, x.span(0, 1, 2));
        due(-2, x.span(0, 1, -1));
        of(19);
        due(1, Texts.of(FOUR).sure(0));
        due(0b01001, y.sure(88));
        due(0b01111, y.sure(90));
        SightedMonths z = Texts.of("almanac months 24 full 1 lean 1;place a trust 1;seen a month 1 on 29;");
        due((1 << 25) - 1, z.sure(29));
        of(20);
        int[] lasts = {30, 29, 29, 30};
        for (int month = 0; month < 4; month++) {
            due(lasts[month], y.lasts(88, month));
        }
        due(-2, y.lasts(88, 4));
        due(-2, y.lasts(88, -1));
        of(21);
        SightedMonths four = Texts.of(FOUR);
        due(5, four.could(0, 1, 29));
        due(2, four.could(0, 2, 58));
        due(6, four.could(0, 2, 59));
        due(2, four.could(0, 2, 60));
        due(0, four.could(0, 2, 61));
        due(0, four.could(0, 2, 57));
        due(5, four.could(0, 3, 88));
        due(0, four.could(0, 0, 1));
        due(0, four.could(0, 4, LEAST));
        due(0, four.could(0, 4, MOST));
        due(2, four.could(0, 4, 117));
        due(-2, four.could(0, 5, 117));
        due(-2, four.could(0, -1, 117));
        of(22);
        due(5, four.lean(0, 0));
        due(5, four.lean(0, 1));
        due(5, four.lean(0, 2));
        due(5, four.lean(0, 3));
        due(1, y.lean(90, 3));
        due(2, y.lean(90, 0));
        due(-2, four.lean(0, 4));
        due(-2, four.lean(0, -1));
    }

    private static void ranks() {
        SightedMonths four = Texts.of(FOUR);
        int[] inOrder = {0b0100, 0b1100, 0b0010, 0b1010, 0b0110, 0b1001, 0b0101, 0b1101, 0b0011, 0b1011};
        of(23);
        for (int i = 0; i < inOrder.length; i++) {
            int begin = 0;
            for (int month = 0; month <= 4; month++) {
                due(begin, four.ranked(0, i, month));
                begin += 29 + (inOrder[i] >> month & 1);
            }
        }
        due(-1, four.ranked(0, 10, 4));
        due(-1, four.ranked(0, MOST, 0));
        due(-2, four.ranked(0, -1, 0));
        due(-2, four.ranked(0, LEAST, 0));
        due(-2, four.ranked(0, 0, 5));
        due(-2, four.ranked(0, 0, -1));
        due(-2, four.ranked(0, 99, 5));
        of(24);
        for (int i = 0; i < inOrder.length; i++) {
            due(i, four.rank(0, inOrder[i]));
        }
        due(-1, four.rank(0, 0));
        due(-1, four.rank(0, 15));
        due(-1, four.rank(0, 7));
        due(-1, four.rank(0, 14));
        due(-1, four.rank(0, 8));
        due(-2, four.rank(0, 16));
        due(-2, four.rank(0, -1));
        due(-2, four.rank(0, LEAST));
        due(-2, four.rank(0, 1 << 4 | 4));
        SightedMonths seen = Texts.of(FOUR + "place a trust 1;seen a month 1 on 29;");
        due(0, seen.rank(29, 0b1001));
        due(-1, seen.rank(29, 0b0100));
        due(4, seen.rank(29, 0b1011));
        due(0, Texts.of("almanac months 24 full 1 lean 1;").rank(0, 0xaaaaaa));
        due(1, Texts.of("almanac months 24 full 1 lean 1;").rank(0, 0x555555));
        of(25);
        due(0, four.drawn(0, 0));
        due(8, four.drawn(0, 1));
        for (int seed : new int[] {-1, 2, 77777, LEAST, MOST, -123456}) {
            long mixed = (seed * 1103515245L + 12345) & 0xffffffffL;
            due((int) (mixed / 65536 % 10), four.drawn(0, seed));
            due((int) (mixed / 65536 % 5), seen.drawn(29, seed));
        }
    }

    // ---- promises 26 to 29

    private static void datesAndDays() {
        SightedMonths four = Texts.of(FOUR);
        of(26);
        // The OFFICIAL one: 30 30 29 30.
        due(0, four.day(0, 0, 1));
        due(28, four.day(0, 0, 29));
        due(29, four.day(0, 0, 30));
        due(60, four.day(0, 2, 1));
        due(88, four.day(0, 2, 29));
        due(88, four.day(0, 2, 30));
        due(118, four.day(0, 3, 30));
        due(-2, four.day(0, 4, 1));
        due(-2, four.day(0, -1, 1));
        due(-2, four.day(0, 0, 0));
        due(-2, four.day(0, 0, 31));
        of(27);
        due(1, four.date(0, 0));
        due(30, four.date(0, 29));
        due(101, four.date(0, 30));
        due(229, four.date(0, 88));
        due(301, four.date(0, 89));
        due(330, four.date(0, 118));
        due(-1, four.date(0, 119));
        due(-1, four.date(0, 999));
        due(-2, four.date(0, 1000));
        due(-2, four.date(0, -1));
        SightedMonths year = Texts.of("almanac months 24 full 1 lean 1;");
        due(2329, year.date(0, 24 * 29 + 11));
        due(-1, year.date(0, 24 * 29 + 12));
        due(-1, year.date(0, 999));
        Texts.tell(year, FOUR);
        due(330, year.date(0, 118));
        due(-1, year.date(0, 119));
        of(28);
        due(1, four.dates(0, 28));
        due(2, four.dates(0, 29));
        due(2, four.dates(0, 30));
        due(3, four.dates(0, 60));
        due(3, four.dates(0, 88));
        due(2, four.dates(0, 116));
        due(1, four.dates(0, 118));
        due(0, four.dates(0, 119));
        due(0, four.dates(0, 999));
        due(-2, four.dates(0, 1000));
        due(-2, four.dates(0, -1));
        of(29);
        due(1, four.likely(0, 0));
        due(30, four.likely(0, 29));
        due(101, four.likely(0, 30));
        due(201, four.likely(0, 59));
        due(301, four.likely(0, 88));
        due(202, four.likely(0, 60));
        due(329, four.likely(0, 117));
        due(330, four.likely(0, 118));
        due(-1, four.likely(0, 119));
        due(-1, four.likely(0, 1000));
        due(-1, four.likely(0, -1));
        due(-1, four.likely(0, LEAST));
        due(-1, four.likely(0, MOST));
    }

    // ---- promises 30 to 32 and 36

    private static void latecomers() {
        // By 40 MONTH 2 on 58, by 70 on 60 (more trusted), by 80 struck down again by the most trusted one.
        SightedMonths x = Texts.of(FOUR + "place a trust 1;place b trust 2;place c trust 3;seen a month 2 on 57;"
            + "seen b month 2 on 59 known 70;seen c month 2 on 57 known 80;cloud c month 2 on 0 known 999;"
            + "deed month 1 day 30 for 9 days;deed month 0 day 5 for 3 months;deed month 0 day 5 for 9 days;");
        of(30);
        due(-2, x.moved(56, 57, 2));
        due(2, x.moved(57, 70, 2));
        due(0, x.moved(56, 70, 2));
        due(-1, x.moved(70, 80, 1));
        due(1, x.moved(80, 0, 1));
        due(0, x.moved(80, 0, 0));
        due(0, x.moved(80, 80, 2));
        due(-2000, x.moved(1000, 0, 0));
        due(-2000, x.moved(0, -1, 0));
        due(-2000, x.moved(0, 0, 5));
        due(-2000, x.moved(0, 0, -1));
        of(31);
        for (int month = 0; month <= 4; month++) {
            int begin = x.begin(0, month);
            int many = 0;
            for (int t = 1; t <= 999; t++) {
                many += x.begin(t, month) == begin ? 0 : 1;
                begin = x.begin(t, month);
            }
            due(many, x.shifts(month));
        }
        due(3, x.shifts(2));
        due(3, x.shifts(1));
        due(0, x.shifts(0));
        due(-2, x.shifts(5));
        due(-2, x.shifts(-1));
        of(32);
        due(80, x.settled(2));
        due(80, x.settled(1));
        due(0, x.settled(0));
        due(-2, x.settled(5));
        due(-2, x.settled(-1));
        of(36);
        due(3, x.redated(0));
        due(x.shifts(3), x.redated(1));
        due(0, x.redated(2));
        due(-2, x.redated(3));
        due(-2, x.redated(-1));
        of(31);
        x.strikes(1);
        due(1, x.shifts(2));
        due(57, x.settled(2));
        due(0, x.shifts(0));
        x.reports(2, 0, 2, 59, 999);
        due(1, x.shifts(2));
        x.reports(2, 1, 2, 56, 999);
        x.strikes(2);
        due(2, x.shifts(2));
        due(999, x.settled(2));
        StringBuilder many = new StringBuilder("almanac months 2 full 1 lean 1;place a trust 1;");
        for (int k = 1; k <= 24; k++) {
            many.append(k < 24 ? "cloud a month 1 on 1 known " + k : "seen a month 1 on 28 known 999").append(';');
        }
        due(1, Texts.of(many.toString()).shifts(1));
        due(0, Texts.of(many.toString()).shifts(2));
        of(32);
        due(999, Texts.of(many.toString()).settled(1));
        SightedMonths first = Texts.of(FOUR + "place a trust 1;clear a month 1 on 0;");
        due(0, first.settled(1));
    }

    // ---- promises 33 to 35, 37 and 43

    private static void deeds() {
        SightedMonths x = Texts.of(FOUR + "place a trust 1;seen a month 1 on 28 known 500;seen a month 2 on 57 known 500;"
            + "deed month 0 day 30 for 2 months;deed month 2 day 30 for 7 days;deed month 3 day 30 for 0 months;"
            + "deed month 0 day 1 for 60 days;deed month 2 day 1 for 0 days;deed month 1 day 1 for 1 months;"
            + "deed month 2 day 2 for 0 days;deed month 0 day 30 for 29 days;");
        of(33);
        int[] official = {88, 95, 118, 60, 60, 60, 61, 58};
        int[] by500 = {87, 94, 117, 60, 58, 58, 59, 57};
        for (int deed = 0; deed < 8; deed++) {
            due(official[deed], x.due(0, deed));
            due(by500[deed], x.due(500, deed));
        }
        due(-2, x.due(0, 8));
        due(-2, x.due(0, -1));
        of(34);
        int[][] spans = {{87, 88}, {94, 95}, {116, 118}, {60, 60}, {58, 60}, {58, 60}, {59, 61}, {57, 58}};
        for (int deed = 0; deed < 8; deed++) {
            due(spans[deed][0], x.dueSpan(0, deed, 0));
            due(spans[deed][1], x.dueSpan(0, deed, 1));
        }
        due(-2, x.dueSpan(0, 8, 0));
        due(-2, x.dueSpan(0, 0, 2));
        due(-2, x.dueSpan(0, 0, -1));
        of(35);
        due(5, x.dueOn(0, 0, 87));
        due(5, x.dueOn(0, 0, 88));
        due(0, x.dueOn(0, 0, 89));
        due(2, x.dueOn(0, 2, 116));
        due(10, x.dueOn(0, 3, 60));
        due(6, x.dueOn(0, 4, 59));
        due(0, x.dueOn(0, 4, LEAST));
        due(0, x.dueOn(0, 4, MOST));
        due(-2, x.dueOn(0, 8, 0));
        due(-2, x.dueOn(0, -1, 0));
        of(37);
        due(1, x.longer(0, 0, 3));
        due(-1, x.longer(0, 3, 0));
        due(0, x.longer(0, 3, 4));
        due(1, x.longer(500, 3, 4));
        due(-1, x.longer(500, 4, 3));
        due(0, x.longer(0, 4, 5));
        due(1, x.longer(0, 6, 4));
        due(-1, x.longer(0, 4, 6));
        due(0, x.longer(0, 3, 6));
        due(0, x.longer(0, 2, 2));
        due(1, x.longer(0, 4, 7));
        due(-1, x.longer(0, 7, 4));
        due(-2, x.longer(0, 8, 0));
        due(-2, x.longer(0, 0, 8));
        due(-2, x.longer(0, -1, 0));
        due(-2, x.longer(0, 0, -1));
        of(43);
        int[] days = {59, 7, 0, 60, 0, 30, 0, 29};
        for (int deed = 0; deed < 8; deed++) {
            due(days[deed], x.days(0, deed));
        }
        due(29, x.days(500, 5));
        due(59, x.days(500, 0));
        due(-2, x.days(0, 8));
        due(-2, x.days(0, -1));
    }

    // ---- promises 38 and 39

    private static void places() {
        SightedMonths x = Texts.of(FOUR + "moon 0 step 29000;place a trust 9;place b trust 1;place c trust 0;"
            + "seen a month 2 on 59;seen b month 2 on 58 known 70;seen b month 2 on 59 known 70;seen b month 1 on 28;"
            + "seen b month 1 on 29 known 80;");
        of(38);
        due(60, x.own(70, 0, 2));
        due(59, x.own(70, 1, 2));
        due(30, x.own(70, 1, 1));
        due(60, x.own(69, 1, 2));
        due(60, x.own(999, 2, 2));
        due(0, x.own(70, 1, 0));
        due(119, x.own(70, 1, 4));
        due(-2, x.own(70, 3, 0));
        due(-2, x.own(70, -1, 0));
        due(-2, x.own(70, 0, 5));
        due(-2, x.own(70, 0, -1));
        due(60, x.begin(70, 2));
        of(39);
        due(1 << 2, x.apart(70, 0, 1));
        due(1 << 2, x.apart(70, 1, 0));
        due(0, x.apart(69, 0, 1));
        due(0, x.apart(70, 0, 2));
        due(0, x.apart(70, 1, 1));
        due(-2, x.apart(70, 0, 3));
        due(-2, x.apart(70, -1, 0));
        SightedMonths y = Texts.of("almanac months 24 full 1 lean 1;place a trust 1;place b trust 0;seen a month 1 on 28;");
        due(0b0101010101010101010101010, y.apart(28, 0, 1));
        due(0, y.apart(27, 0, 1));
    }

    // ---- promises 40 to 42

    private static void reportsByThemselves() {
        SightedMonths x = Texts.of(FIVE);
        of(40);
        due(0, x.hang(999, 0));
        due(0, x.hang(999, 3));
        due(1 << 3, x.hang(999, 4));
        due(0, x.hang(94, 4));
        SightedMonths y = Texts.of(FOUR + "place a trust 5;place b trust 1;seen a month 1 on 28 known 60;seen b month 1 on 29;"
            + "seen b month 2 on 57 known 70;cloud b month 3 on 80;");
        due(1 << 1 | 1 << 2 | 1 << 4, y.hang(60, 0));
        due(0, y.hang(59, 0));
        due(1 << 1 | 1 << 2 | 1 << 4, y.hang(69, 0));
        due(1 << 1 | 1 << 2 | 1 << 3 | 1 << 4, y.hang(70, 0));
        due(0, y.hang(70, 1));
        due(1 << 2 | 1 << 3, y.hang(70, 2));
        due(0, y.hang(80, 3));
        due(-2, y.hang(80, 4));
        due(-2, y.hang(80, -1));
        y.strikes(3);
        due(-2, y.hang(80, 3));
        due(-2, y.hang(0, 3));
        due(3, y.report(3, 1));
        due(0, y.report(0, 1));
        of(41);
        due(1, Texts.of(FOUR).telling(0));
        SightedMonths six = Texts.of("almanac months 6 full 3 lean 3;");
        due(5, six.telling(0));
        due(1, Texts.of("almanac months 24 full 1 lean 1;").telling(0));
        SightedMonths one = Texts.of("almanac months 2 full 1 lean 1;place a trust 1;seen a month 1 on 28;");
        due(1, one.telling(999));
        due(2, Texts.of("almanac months 2 full 2 lean 2;place a trust 1;seen a month 1 on 28;").telling(999));
        of(42);
        SightedMonths z = Texts.of(FOUR + "place b trust 4;place a trust 5;place c trust 5;seen b month 1 on 28;"
            + "seen a month 1 on 29;seen c month 1 on 28 known 50;seen b month 1 on 3;cloud b month 1 on 30;");
        due(6, z.trusted(40, 0));
        due(4, z.trusted(40, 1));
        due(6, z.trusted(50, 0));
        due(5, z.trusted(50, 1));
        due(6, z.trusted(50, 2));
        due(-1, z.trusted(49, 2));
        due(-1, z.trusted(999, 3));
        due(0, z.trusted(999, 4));
        due(-2, z.trusted(999, 5));
        due(-2, z.trusted(999, -1));
        due(4, z.place(0, 0));
        due(2, z.judged(50, 0));
        z.strikes(4);
        due(-2, z.trusted(999, 4));
    }

    // ---- promises 44 to 46

    private static void more() {
        SightedMonths four = Texts.of(FOUR);
        of(44);
        int[] first = {0, 5, 5, 0, 0, 0, 0};
        int[] last = {5, 5, 0, 0, 0, 0, 0};
        int[] third = {0, 0, 0, 5, 5, 0, 0};
        for (int week = 0; week < 7; week++) {
            due(first[week], four.weekday(0, 1, 1, week));
            due(last[week], four.weekday(0, 0, 30, week));
            due(third[week], four.weekday(0, 2, 30, week));
        }
        due(10, four.weekday(0, 0, 1, 0));
        due(10, four.weekday(0, 0, 29, 0));
        due(-2, four.weekday(0, 4, 1, 0));
        due(-2, four.weekday(0, -1, 1, 0));
        due(-2, four.weekday(0, 0, 0, 0));
        due(-2, four.weekday(0, 0, 31, 0));
        due(-2, four.weekday(0, 0, 1, 7));
        due(-2, four.weekday(0, 0, 1, -1));
        of(45);
        SightedMonths x = Texts.of(FIVE);
        due(0b011110, x.later(0));
        due(0b011100, x.later(40));
        due(0b011000, x.later(60));
        due(0b001000, x.later(95));
        due(0, x.later(117));
        due(0, x.later(999));
        x.strikes(3);
        due(0b010000, x.later(94));
        of(46);
        due(1, x.both(1, 2));
        due(0, x.both(0, 1));
        due(0, x.both(0, 2));
        due(1, x.both(0, 4));
        due(0, x.both(4, 5));
        due(1, x.both(3, 4));
        due(1, x.both(0, 0));
        due(-2, x.both(0, 6));
        due(-2, x.both(-1, 0));
        SightedMonths y = Texts.of(FOUR + "place a trust 1;seen a month 1 on 5;cloud a month 1 on 5;clear a month 2 on 59;");
        due(0, y.both(0, 0));
        due(0, y.both(0, 1));
        due(0, y.both(1, 2));
        due(1, y.both(1, 1));
        y.strikes(1);
        due(1, y.both(1, 1));
    }

    // ---- promises 47 and 48

    private static void searches() {
        SightedMonths x = Texts.of(FOUR + "moon 0 step 29000;place a trust 2;place b trust 3;seen a month 1 on 29;"
            + "seen a month 2 on 59 known 70;");
        of(47);
        // EARLY and 1: 30 59 88 117; 29 30 29 29 is one day off, and so is 30 29 29 30, behind it.
        due(1, x.nearest(0, 0));
        due(0b0010, x.nearest(0, 1));
        due(1, x.nearest(29, 0));
        due(0b1001, x.nearest(29, 1));
        due(3, x.nearest(70, 0));
        due(0b0011, x.nearest(70, 1));
        due(-2, x.nearest(0, 2));
        due(-2, x.nearest(0, -1));
        due(-2, Texts.of(FOUR).nearest(0, 0));
        due(-2, Texts.of(FOUR).nearest(0, 1));
        SightedMonths far = Texts.of(FOUR);
        due(128, far.moon(99999, 28500));
        // EARLY and 1: 129 157 186 214, all behind the greatest BEGINS: 30 60 89 119.
        due(99 + 97 + 97 + 95, far.nearest(0, 0));
        due(0b1011, far.nearest(0, 1));
        of(48);
        SightedMonths y = Texts.of(FOUR + "moon 0 step 29000;place a trust 2;place b trust 3;place c trust 4;"
            + "seen a month 1 on 28;seen a month 2 on 57;clear b month 1 on 28 known 60;cloud c month 1 on 0;"
            + "seen c month 1 on 20;clear b month 2 on 57 known 80;");
        due(4, y.backed(60, 0));
        due(0b0100, y.backed(60, 1));
        due(6, y.backed(80, 0));
        due(0b1001, y.backed(80, 1));
        due(2, y.backed(28, 0));
        due(0, y.backed(0, 0));
        due(0b0100, y.backed(0, 1));
        due(-2, y.backed(0, 2));
        due(-2, y.backed(0, -1));
        y.strikes(2);
        due(5, y.backed(80, 0));
        due(0b0010, y.backed(80, 1));
        y.trusts(0, 9);
        due(18, y.backed(80, 0));
    }

    // ---- promises 49 and 50

    private static void out() {
        SightedMonths x = Texts.of(FOUR);
        of(49);
        due(-2, x.tell(-1));
        due(0, x.count(8));
        due(11, x.tell(0));
        due(-2, x.tell(1000));
        due(11, x.count(8));
        of(50);
        String told = "30 30 29 30";
        for (int i = 0; i < told.length(); i++) {
            due(told.charAt(i), x.octet(i));
        }
        due(-1, x.octet(11));
        due(-1, x.octet(-1));
        due(-1, x.octet(LEAST));
        due(-1, x.octet(MOST));
        of(49);
        Texts.tell(x, "almanac months 2 full 1 lean 1;");
        due(5, x.tell(999));
        due('9', x.octet(4));
        due(-1, x.octet(5));
        Texts.tell(x, "almanac months 24 full 5 lean 5;");
        due(71, x.tell(0));
        due(71, x.count(8));
        due('2', x.octet(15));
        due('9', x.octet(70));
        due('0', x.octet(67));
        due(-1, x.octet(71));
    }

    // ---- promises 51 to 53

    private static void comings() {
        SightedMonths x = Texts.of(FOUR + "place a trust 1;place b trust 2;");
        of(51);
        due(-2, x.reports(2, 0, 1, 29, 29));
        due(-2, x.reports(-1, 0, 1, 29, 29));
        due(-2, x.reports(0, 3, 1, 29, 29));
        due(-2, x.reports(0, -1, 1, 29, 29));
        due(-2, x.reports(0, 0, 0, 29, 29));
        due(-2, x.reports(0, 0, 4, 29, 29));
        due(-2, x.reports(0, 0, 1, -1, 29));
        due(-2, x.reports(0, 0, 1, 29, 28));
        due(-2, x.reports(0, 0, 1, 29, 1000));
        due(-2, x.reports(0, 0, 1, 1000, 1000));
        due(0, x.count(4));
        due(0, x.reports(0, 0, 1, 29, 33));
        due(1, x.reports(1, 1, 3, 999, 999));
        due(0, x.report(0, 0));
        due(33, x.report(0, 4));
        due(1, x.report(1, 1));
        due(3, x.report(1, 2));
        due(10, x.ways(32));
        due(5, x.ways(33));
        due(2, x.judged(999, 1));
        for (int i = 2; i < 24; i++) {
            due(i, x.reports(1, 2, 1, 0, 0));
        }
        due(-5, x.reports(1, 2, 1, 0, 0));
        due(-2, x.reports(2, 2, 1, 0, 0));
        due(24, x.count(4));
        SightedMonths again = Texts.of(FOUR + "place a trust 1;cloud a month 1 on 50;");
        due(10, again.ways(999));
        due(0, again.shifts(1));
        due(1, again.reports(0, 0, 1, 28, 50));
        due(5, again.ways(999));
        due(1, again.shifts(1));
        of(52);
        due(23, x.strikes(0));
        due(-5, x.strikes(0));
        due(10, x.ways(999));
        due(22, x.strikes(23));
        due(-2, x.strikes(24));
        due(-2, x.strikes(-1));
        of(51);
        due(-5, x.reports(1, 2, 1, 0, 0));
        of(53);
        SightedMonths y = Texts.of(FOUR + "place a trust 1;place b trust 2;seen a month 1 on 28;seen b month 1 on 29;");
        due(30, y.begin(999, 1));
        due(1, y.trusts(0, 9));
        due(29, y.begin(999, 1));
        due(9, y.trusts(0, 0));
        due(30, y.begin(999, 1));
        due(-2, y.trusts(0, 10));
        due(-2, y.trusts(0, -1));
        due(-2, y.trusts(2, 1));
        due(-2, y.trusts(-1, 1));
        due(0, y.place(0, 0));
        due(0, y.trusts(0, 2));
        due(29, y.begin(999, 1));
    }

    // ---- promises 54 and 55

    private static void changes() {
        SightedMonths x = Texts.of(FOUR + "place a trust 1;seen a month 1 on 28;");
        of(54);
        due(-2, x.moon(-1, 29000));
        due(-2, x.moon(100000, 29000));
        due(-2, x.moon(0, 27999));
        due(-2, x.moon(0, 31001));
        due(-2, x.early(1));
        due(0, x.count(10));
        due(0, x.judged(999, 0));
        due(28, x.moon(0, 28999));
        due(0, x.judged(999, 0));
        due(29, x.moon(1, 28999));
        due(1, x.judged(999, 0));
        due(1, x.count(9));
        due(28999, x.count(10));
        due(57, x.early(2));
        due(130, x.moon(99999, 31000));
        due(28, x.moon(0, 28000));
        of(55);
        SightedMonths y = Texts.of("almanac months 3 full 2 lean 2;place a trust 1;seen a month 2 on 59;seen a month 2 on 57;");
        due(2, y.judged(999, 0));
        due(0, y.judged(999, 1));
        due(-5, y.runs(2, 1));
        due(2, y.count(2));
        due(0, y.runs(1, 2));
        due(1, y.count(1));
        due(1, y.ways(999));
        due(-2, y.runs(0, 1));
        due(-2, y.runs(6, 1));
        due(-2, y.runs(1, 0));
        due(-2, y.runs(1, 6));
        due(0, y.runs(5, 5));
        due(2, y.ways(999));
        // What was REFUSED would be TAKEN.
        SightedMonths z = Texts.of("almanac months 3 full 1 lean 1;place a trust 1;seen a month 2 on 59 known 999;");
        due(2, z.judged(999, 0));
        due(-5, z.runs(2, 1));
        due(1, z.count(1));
        due(0, z.runs(1, 2));
        due(2, z.count(2));
        z.strikes(0);
        due(0, z.runs(2, 1));
        SightedMonths late = Texts.of("almanac months 3 full 1 lean 1;place a trust 1;");
        due(2, late.ways(0));
        due(0, late.runs(3, 3));
        due(8, late.ways(0));
    }

    // ---- -2 wherever there is no ALMANAC, no such T

    private static void withoutAlmanac() {
        SightedMonths x = Texts.of(FIVE);
        Texts.tell(x, "");
        int[] promises = {7, 8, 9, 10, 11, 12, 13, 14, 15, 16, 17, 18, 19, 20, 21, 22, 23, 24, 25, 26, 27, 28, 29, 31, 32, 33, 34,
            35, 36, 37, 38, 39, 40, 41, 42, 43, 44, 45, 46, 47, 48, 49, 51, 52, 53, 54, 55};
        int[] got = {x.place(0, 0), x.report(0, 0), x.deed(0, 0), x.early(1), x.judged(0, 0), x.taken(0), x.order(0, 0),
            x.against(0, 0), x.blind(0, 1), x.ways(0), x.begin(0, 0), x.span(0, 0, 0), x.sure(0), x.lasts(0, 0),
            x.could(0, 0, 0), x.lean(0, 0), x.ranked(0, 0, 0), x.rank(0, 0), x.drawn(0, 0), x.day(0, 0, 1), x.date(0, 0),
            x.dates(0, 0), x.likely(0, 0), x.shifts(0), x.settled(0), x.due(0, 0), x.dueSpan(0, 0, 0), x.dueOn(0, 0, 0),
            x.redated(0), x.longer(0, 0, 0), x.own(0, 0, 0), x.apart(0, 0, 0), x.hang(0, 0), x.telling(0), x.trusted(0, 0),
            x.days(0, 0), x.weekday(0, 0, 1, 0), x.later(0), x.both(0, 0), x.nearest(0, 0), x.backed(0, 0), x.tell(0),
            x.reports(0, 0, 1, 0, 0), x.strikes(0), x.trusts(0, 0), x.moon(0, 29000), x.runs(1, 1)};
        for (int i = 0; i < got.length; i++) {
            of(promises[i]);
            due(-2, got[i]);
        }
        of(30);
        due(-2000, x.moved(0, 0, 0));
    }

    private static void noSuchTimes() {
        SightedMonths x = Texts.of(FIVE);
        for (int t : new int[] {-1, 1000, LEAST, MOST}) {
            int[] promises = {11, 12, 13, 14, 15, 16, 17, 18, 19, 20, 21, 22, 23, 24, 25, 26, 27, 28, 29, 33, 34, 35, 37, 38, 39,
                40, 41, 42, 43, 44, 45, 47, 48, 49};
            int[] got = {x.judged(t, 0), x.taken(t), x.order(t, 0), x.against(t, 0), x.blind(t, 1), x.ways(t), x.begin(t, 0),
                x.span(t, 0, 0), x.sure(t), x.lasts(t, 0), x.could(t, 0, 0), x.lean(t, 0), x.ranked(t, 0, 0), x.rank(t, 0),
                x.drawn(t, 0), x.day(t, 0, 1), x.date(t, 0), x.dates(t, 0), x.likely(t, 0), x.due(t, 0), x.dueSpan(t, 0, 0),
                x.dueOn(t, 0, 0), x.longer(t, 0, 0), x.own(t, 0, 0), x.apart(t, 0, 0), x.hang(t, 0), x.telling(t),
                x.trusted(t, 0), x.days(t, 0), x.weekday(t, 0, 1, 0), x.later(t), x.nearest(t, 0), x.backed(t, 0), x.tell(t)};
            for (int i = 0; i < got.length; i++) {
                of(promises[i]);
                due(-2, got[i]);
            }
            of(30);
            due(-2000, x.moved(t, 0, 0));
            due(-2000, x.moved(0, t, 0));
        }
    }
}
