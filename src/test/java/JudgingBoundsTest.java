/** Sentence by sentence: the edges of what is KNOWN, JUDGED, TAKEN and REFUSED (terms II, promises 10 to 15, 38 to 42, 45, 46). */
public final class JudgingBoundsTest {
    private static final int MOST = Integer.MAX_VALUE;
    private static final String FOUR = "almanac months 4 full 2 lean 2;";
    private static final String FREE = "almanac months 24 full 5 lean 5;place a trust 5;place b trust 5;";

    private static final Checks CHECKS = new Checks("JudgingBoundsTest");

    private JudgingBoundsTest() {
    }

    public static void main(String[] args) {
        earlies();
        known();
        orders();
        tooEarly();
        seen();
        clear();
        cloud();
        noCalendar();
        takens();
        againsts();
        blinds();
        owns();
        byTheMoon();
        hangs();
        trusteds();
        laters();
        boths();
        CHECKS.end();
    }

    private static void says(int promise, String sentence) {
        CHECKS.says(promise, sentence);
    }

    private static void due(int want, int got) {
        CHECKS.due(want, got);
    }

    private static void earlies() {
        says(0, "EARLY of MONTH m: A and m times S, by 1000, downward.");
        int[][] edges = {{0, 28999, 1, 28}, {1, 28999, 1, 29}, {999, 29000, 1, 29}, {1000, 29000, 1, 30}, {0, 28000, 1, 28},
            {0, 31000, 1, 31}, {99999, 28000, 1, 127}, {99999, 31000, 1, 130}, {99999, 31000, 24, 843}, {0, 28000, 24, 672},
            {3, 29333, 3, 88}, {0, 29333, 3, 87}, {99, 29999, 24, 720}, {0, 29999, 24, 719}};
        for (int[] edge : edges) {
            SightedMonths x = Texts.of("almanac months 24 full 5 lean 5;moon " + edge[0] + " step " + edge[1] + ";");
            due(edge[3], x.early(edge[2]));
        }
        says(10, "EARLY of a MONTH (1 .. MONTHS)");
        for (int months = 2; months <= 24; months++) {
            SightedMonths x = Texts.of("almanac months " + months + " full 5 lean 5;moon 500 step 29500;");
            due(-2, x.early(0));
            due(30, x.early(1));
            due((500 + months * 29500) / 1000, x.early(months));
            due(-2, x.early(months + 1));
        }
    }

    private static void known() {
        says(0, "KNOWN by T (0 .. 999) is a REPORT with K not above T that is not struck.");
        for (int k : new int[] {0, 1, 29, 500, 998, 999}) {
            SightedMonths x = Texts.of(FOUR + "place a trust 1;cloud a month 1 on 0 known " + k + ";");
            for (int t : new int[] {0, 1, 28, 29, 30, 499, 500, 501, 997, 998, 999}) {
                due(k <= t ? 0 : 3, x.judged(t, 0));
                due(k <= t ? 0 : -1, x.order(t, 0));
                due(k <= t ? 1 : 0, x.taken(t));
                due(k <= t ? 1 : 0, x.blind(t, 1));
                due(k <= t ? 0 : 1, x.later(t));
            }
            due(0, x.strikes(0));
            due(3, x.judged(999, 0));
            due(-1, x.order(999, 0));
            due(0, x.taken(999));
            due(0, x.blind(999, 1));
            due(0, x.later(0));
        }
        // By K, not by D.
        SightedMonths y = Texts.of(FOUR + "place a trust 1;seen a month 1 on 28 known 70;");
        due(3, y.judged(69, 0));
        due(10, y.ways(69));
        due(0, y.judged(70, 0));
        due(5, y.ways(70));
        says(11, "0 TAKEN, 1, 2 REFUSED so, 3 not KNOWN, struck");
        SightedMonths z = Texts.of(FOUR + "moon 0 step 29000;place a trust 1;seen a month 1 on 29;seen a month 1 on 28;"
            + "seen a month 1 on 30;cloud a month 1 on 31;");
        due(0, z.judged(30, 0));
        due(1, z.judged(30, 1));
        due(2, z.judged(30, 2));
        due(3, z.judged(30, 3));
        z.strikes(1);
        z.strikes(2);
        due(3, z.judged(999, 1));
        due(3, z.judged(999, 2));
        due(0, z.judged(999, 3));
    }

    // ---- the order

    /** Two REPORTS, the second of which is JUDGED first. */
    private static void ahead(String sentence, String places, String later, String first) {
        says(0, sentence);
        SightedMonths x = Texts.of("almanac months 24 full 5 lean 5;" + places + later + ";" + first + ";");
        due(1, x.order(999, 0));
        due(0, x.order(999, 1));
        due(-1, x.order(999, 2));
    }

    private static void orders() {
        String places = "place m trust 5;place b trust 6;place z trust 9;place bb trust 6;place y trust 0;place ba trust 6;";
        ahead("of PLACES of greater trust first", places, "seen m month 1 on 0", "cloud b month 23 on 999");
        ahead("of PLACES of greater trust first", places, "seen y month 1 on 0", "cloud z month 23 on 999");
        ahead("of PLACES of greater trust first", places, "seen b month 1 on 0", "cloud z month 23 on 999");
        ahead("then by NAMES (letter by letter; what ends first is ahead)", places, "seen ba month 1 on 0", "cloud b month 23 on 999");
        ahead("then by NAMES (letter by letter; what ends first is ahead)", places, "seen bb month 1 on 0", "cloud ba month 23 on 999");
        String names = "place zzzzzz trust 1;place zzzzzy trust 1;place azzzzz trust 1;place b trust 1;place a trust 1;";
        ahead("then by NAMES (letter by letter; what ends first is ahead)", names, "seen zzzzzz month 1 on 0",
            "cloud zzzzzy month 23 on 999");
        ahead("then by NAMES (letter by letter; what ends first is ahead)", names, "seen b month 1 on 0", "cloud azzzzz month 23 on 999");
        ahead("then by NAMES (letter by letter; what ends first is ahead)", names, "seen azzzzz month 1 on 0", "cloud a month 23 on 999");
        ahead("then by M", names, "seen a month 2 on 0", "cloud a month 1 on 999");
        ahead("then by M", names, "seen a month 23 on 0", "cloud a month 22 on 999");
        ahead("then by D", names, "seen a month 1 on 1", "cloud a month 1 on 0");
        ahead("then by D", names, "seen a month 1 on 999", "cloud a month 1 on 998");
        ahead("then seen, clear, cloud", names, "clear a month 1 on 1", "seen a month 1 on 1 known 999");
        ahead("then seen, clear, cloud", names, "cloud a month 1 on 1", "seen a month 1 on 1 known 999");
        ahead("then seen, clear, cloud", names, "cloud a month 1 on 1", "clear a month 1 on 1 known 999");
        says(0, "then seen, clear, cloud");
        SightedMonths far = Texts.of(FREE + "clear a month 1 on 1;" + "cloud a month 2 on 1;".repeat(22) + "seen a month 1 on 1;");
        due(23, far.order(999, 0));
        due(0, far.order(999, 1));
        due(1, far.order(999, 2));
        due(22, far.order(999, 23));
        says(0, "then by number");
        SightedMonths x = Texts.of(FREE + "seen a month 1 on 9 known 999;" + "seen a month 1 on 9;".repeat(22)
            + "seen a month 1 on 9 known 10;");
        for (int i = 0; i < 24; i++) {
            due(i, x.order(999, i));
        }
        due(-1, x.order(999, 24));
        due(1, x.order(9, 0));
        due(22, x.order(9, 21));
        due(-1, x.order(9, 22));
        due(23, x.order(10, 22));
        says(13, "NONE: not so many; -2 (i below 0, too)");
        due(-1, x.order(8, 0));
        due(-1, x.order(999, MOST));
        due(-2, x.order(999, -1));
        due(-2, x.order(8, -1));
        x.strikes(0);
        due(1, x.order(999, 0));
        due(-1, x.order(999, 23));
    }

    // ---- refused or taken

    private static void tooEarly() {
        says(0, "1: seen on a D less than EARLY of its M (with a moon)");
        // EARLY of MONTH 2: 59.
        String text = FOUR + "moon 0 step 29500;place a trust 1;";
        due(1, Texts.of(text + "seen a month 2 on 58;").judged(999, 0));
        due(0, Texts.of(text + "seen a month 2 on 59;").judged(999, 0));
        due(1, Texts.of(text + "seen a month 2 on 0;").judged(999, 0));
        due(2, Texts.of(text + "seen a month 2 on 60;").judged(999, 0));
        due(0, Texts.of(text + "clear a month 2 on 58;").judged(999, 0));
        due(0, Texts.of(text + "clear a month 2 on 0;").judged(999, 0));
        due(0, Texts.of(text + "cloud a month 2 on 0;").judged(999, 0));
        due(0, Texts.of(FOUR + "place a trust 1;seen a month 2 on 58;").judged(999, 0));
        due(2, Texts.of(FOUR + "place a trust 1;seen a month 2 on 0;").judged(999, 0));
        // EARLY goes ahead of what there is no CALENDAR for, and what is too EARLY binds nobody.
        SightedMonths x = Texts.of(text + "place b trust 0;seen a month 2 on 57;seen b month 2 on 59;");
        due(1, x.judged(999, 0));
        due(0, x.judged(999, 1));
        due(60, x.begin(999, 2));
        // The moon comes later, and goes with another text.
        SightedMonths y = Texts.of(FOUR + "place a trust 1;seen a month 2 on 58;");
        due(0, y.judged(999, 0));
        due(29, y.moon(0, 29500));
        due(1, y.judged(999, 0));
        due(29, y.moon(0, 29499));
        due(0, y.judged(999, 0));
        due(29, y.moon(1000, 28999));
        due(0, y.judged(999, 0));
        due(30, y.moon(1002, 28999));
        due(1, y.judged(999, 0));
    }

    private static void seen() {
        says(0, "seen: M BEGINS on D and 1");
        for (int month = 1; month < 24; month++) {
            // With F, L 5, MONTH m can begin on 29 m and from m / 6 MONTHS of 30 days on, rounded down, to as many of 29.
            int fewest = month / 6;
            for (int full = -2; full <= month + 2; full++) {
                int day = 29 * month + full - 1;
                SightedMonths x = Texts.of(FREE + "seen a month " + month + " on " + day + ";");
                boolean can = full >= fewest && full <= month - fewest;
                CHECKS.due("month " + month + " full " + full, can ? 0 : 2, x.judged(999, 0));
                due(can ? day + 1 : x.begin(0, month), x.begin(999, month));
            }
            for (int day : new int[] {0, 29 * month + 30, 29 * month + 31, 29 * month + 62, 999}) {
                due(2, Texts.of(FREE + "seen a month " + month + " on " + day + ";").judged(999, 0));
            }
        }
    }

    private static void clear() {
        says(0, "clear: it BEGINS later than on D and 1");
        for (int month = 1; month < 24; month++) {
            int greatest = 30 * month - month / 6;
            int least = 29 * month + month / 6;
            for (int day : new int[] {0, least - 3, least - 2, least - 1, least, greatest - 2, greatest - 1, greatest, 999}) {
                SightedMonths x = Texts.of(FREE + "clear a month " + month + " on " + day + ";");
                boolean can = greatest > day + 1;
                CHECKS.due("month " + month + " day " + day, can ? 0 : 2, x.judged(999, 0));
                due(can ? Math.max(least, day + 2) : least, x.span(999, month, 0));
                due(greatest, x.span(999, month, 1));
            }
        }
        SightedMonths y = Texts.of(FOUR + "place a trust 1;clear a month 1 on 27;");
        due(10, y.ways(999));
        due(5, Texts.of(FOUR + "place a trust 1;clear a month 1 on 28;").ways(999));
        due(2, Texts.of(FOUR + "place a trust 1;clear a month 1 on 29;").judged(999, 0));
    }

    private static void cloud() {
        says(0, "cloud: nothing.");
        for (int day : new int[] {0, 28, 29, 30, 999}) {
            SightedMonths x = Texts.of(FOUR + "moon 99999 step 31000;place a trust 9;cloud a month 1 on " + day + ";");
            due(0, x.judged(999, 0));
            due(10, x.ways(999));
            due(1, x.taken(999));
        }
    }

    private static void noCalendar() {
        says(0, "2: there is no CALENDAR by which it and all TAKEN ahead are so; else TAKEN.");
        // By L 2 there is no CALENDAR for the third, whoever is trusted; by L 3 there is one for all.
        String three = "place a trust 3;place b trust 2;place c trust 1;seen a month 1 on 28;seen b month 2 on 57;seen c month 3 on 86;";
        SightedMonths x = Texts.of(FOUR + three);
        due(0, x.judged(999, 0));
        due(0, x.judged(999, 1));
        due(2, x.judged(999, 2));
        x.trusts(2, 9);
        due(2, x.judged(999, 2));
        due(0, x.judged(999, 1));
        SightedMonths y = Texts.of("almanac months 4 full 2 lean 3;" + three);
        due(0, y.judged(999, 2));
        due(1, y.ways(999));
        // What is REFUSED binds nobody behind it; what was TAKEN without it is so by 40, and not by 50.
        SightedMonths z = Texts.of(FOUR + "place a trust 3;place b trust 2;place c trust 1;seen a month 1 on 28 known 50;"
            + "seen b month 1 on 29;seen c month 2 on 59 known 60;seen c month 2 on 57 known 60;");
        due(0, z.judged(49, 1));
        due(30, z.begin(49, 1));
        due(2, z.judged(50, 1));
        due(29, z.begin(50, 1));
        due(2, z.judged(60, 2));
        due(0, z.judged(60, 3));
        due(58, z.begin(60, 2));
        z.strikes(0);
        due(0, z.judged(60, 1));
        due(0, z.judged(60, 2));
        due(2, z.judged(60, 3));
        says(0, "CALENDARS by T: by which all TAKEN are so.");
        due(10, z.ways(28));
        due(5, z.ways(29));
        due(2, z.ways(60));
    }

    private static void takens() {
        says(12, "How many REPORTS are TAKEN by T.");
        SightedMonths x = Texts.of(FREE + "cloud a month 1 on 1;".repeat(24));
        due(0, x.taken(0));
        due(24, x.taken(1));
        due(24, x.taken(999));
        x.strikes(23);
        due(23, x.taken(999));
        SightedMonths y = Texts.of(FREE + "seen a month 1 on 1;".repeat(24));
        due(0, y.taken(999));
    }

    private static void againsts() {
        says(14, "REPORTS TAKEN by T, as bits, each of which alone leaves no CALENDAR with it. 0 for others");
        String text = FOUR + "moon 0 step 29000;place a trust 9;place b trust 1;place c trust 0;seen a month 1 on 29;"
            + "seen b month 1 on 30;seen b month 1 on 20;cloud b month 1 on 20;clear a month 2 on 58 known 70;seen b month 2 on 58;"
            + "seen c month 1 on 29;";
        SightedMonths x = Texts.of(text);
        // Nobody can see MONTH 1 on 30: each that is TAKEN leaves no CALENDAR with it.
        due(0b1001001, x.against(30, 1));
        due(0b1101001, x.against(69, 1));
        due(0b1011001, x.against(999, 1));
        due(0, x.against(999, 0));
        due(0, x.against(999, 2));
        due(0, x.against(999, 3));
        due(0, x.against(69, 5));
        due(0b0010000, x.against(70, 5));
        due(0, x.against(0, 1));
        x.strikes(4);
        due(0, x.against(70, 5));
        due(0b1101001, x.against(70, 1));
        x.strikes(1);
        due(0, x.against(999, 1));
        // MONTH 2 on 58 goes with the first, not with the second and the third.
        SightedMonths y = Texts.of(FOUR + "place a trust 9;place b trust 1;seen a month 1 on 28;seen b month 3 on 88;"
            + "clear a month 2 on 57;seen b month 2 on 57;");
        due(2, y.judged(999, 3));
        due(1 << 1 | 1 << 2, y.against(999, 3));
        due(1 << 2, y.against(87, 3));
        // There is no CALENDAR for it, and nobody is against it.
        SightedMonths alone = Texts.of(FOUR + "place a trust 9;seen a month 1 on 99;");
        due(2, alone.judged(999, 0));
        due(0, alone.against(999, 0));
        // As bit 23, too.
        SightedMonths last = Texts.of(FOUR + "place a trust 9;place b trust 1;seen b month 1 on 28;" + "cloud a month 1 on 1;".repeat(22)
            + "seen a month 1 on 29;");
        due(1 << 23, last.against(999, 0));
    }

    private static void blinds() {
        says(15, "1 if MONTH (1 .. MONTHS - 1) has REPORTS KNOWN by T, and all are of cloud, else 0.");
        SightedMonths x = Texts.of(FOUR + "moon 0 step 29000;place a trust 1;cloud a month 1 on 20;cloud a month 1 on 25;"
            + "seen a month 1 on 26;clear a month 2 on 99;cloud a month 2 on 98;cloud a month 3 on 50 known 999;");
        due(0, x.blind(19, 1));
        due(1, x.blind(20, 1));
        due(1, x.blind(25, 1));
        // One that is REFUSED is a REPORT all the same.
        due(1, x.judged(26, 2));
        due(0, x.blind(26, 1));
        due(1, x.blind(98, 2));
        due(2, x.judged(99, 3));
        due(0, x.blind(99, 2));
        due(0, x.blind(998, 3));
        due(1, x.blind(999, 3));
        due(-2, x.blind(999, 0));
        due(-2, x.blind(999, 4));
        x.strikes(2);
        due(1, x.blind(999, 1));
        x.strikes(0);
        due(1, x.blind(999, 1));
        x.strikes(1);
        due(0, x.blind(999, 1));
        due(1, Texts.of("almanac months 2 full 1 lean 1;place a trust 1;cloud a month 1 on 1;").blind(1, 1));
    }

    // ---- promises 38 to 42

    private static void owns() {
        SightedMonths x = Texts.of(FOUR + "place a trust 9;place b trust 1;place c trust 0;seen a month 1 on 29;"
            + "seen b month 1 on 28 known 60;seen b month 3 on 87;");
        says(38, "BEGIN of a MONTH (0 .. MONTHS) by the OFFICIAL one by T, were there REPORTS of one PLACE alone.");
        int[] none = {0, 30, 60, 89, 119};
        int[] ofB = {0, 29, 59, 88, 118};
        for (int month = 0; month <= 4; month++) {
            due(none[month], x.own(999, 2, month));
            due(none[month], x.own(999, 0, month));
            due(ofB[month], x.own(999, 1, month));
            due(none[month], x.own(59, 1, month));
        }
        due(30, x.own(87, 0, 1));
        due(88, x.begin(87, 3));
        due(30, x.begin(999, 1));
        says(39, "MONTHS (bits 1 .. MONTHS) whose BEGINS by own() of two PLACES are not the same.");
        due(0b11110, x.apart(999, 0, 1));
        due(0b11110, x.apart(999, 1, 0));
        due(0b11110, x.apart(999, 1, 2));
        due(0, x.apart(999, 0, 2));
        due(0, x.apart(999, 1, 1));
        due(0, x.apart(59, 0, 1));
        due(0b10110, x.apart(60, 0, 1));
        // A MONTH of 29 days behind every five of 30; one ahead of all, then one behind every five; two at the end.
        SightedMonths y = Texts.of("almanac months 24 full 5 lean 5;place a trust 1;place b trust 0;place c trust 0;"
            + "seen a month 1 on 28;seen c month 23 on 684;");
        due((1 << 25) - 2 & ~(1 << 6 | 1 << 12 | 1 << 18 | 1 << 24), y.apart(999, 0, 1));
        due(1 << 22 | 1 << 23 | 1 << 24, y.apart(999, 1, 2));
    }

    /** What would be is JUDGED by the same moon: EARLY of MONTH 1 is 29, by A. */
    private static void byTheMoon() {
        SightedMonths x = Texts.of(FOUR + "moon 500 step 28500;place a trust 9;place b trust 1;seen b month 1 on 28;seen a month 1 on 29;");
        says(38, "by the OFFICIAL one by T, were there REPORTS of one PLACE alone");
        due(30, x.own(999, 1, 1));
        due(0, x.apart(999, 0, 1));
        says(40, "were a REPORT not there");
        due(0, x.hang(999, 1));
        says(42, "by which a REPORT of it is TAKEN by T");
        due(-1, x.trusted(999, 0));
        x.moon(499, 28500);
        due(29, x.own(999, 1, 1));
        due(0b10110, x.apart(999, 0, 1));
        due(0b10110, x.hang(999, 1));
        due(-1, x.trusted(999, 0));
        x.trusts(0, 8);
        due(9, x.trusted(999, 0));
    }

    private static void hangs() {
        says(40, "whose BEGINS by the OFFICIAL one by T would not be the same, were a REPORT not there.");
        SightedMonths x = Texts.of(FOUR + "place a trust 9;place b trust 1;seen a month 1 on 28;seen b month 1 on 29;"
            + "seen a month 1 on 28 known 500;cloud a month 1 on 1;");
        due(0b10110, x.hang(499, 0));
        due(0, x.hang(500, 0));
        due(0, x.hang(500, 2));
        due(0, x.hang(499, 2));
        due(0, x.hang(999, 1));
        due(0, x.hang(999, 3));
        due(0, x.hang(27, 0));
        x.strikes(2);
        due(0b10110, x.hang(999, 0));
        due(-2, x.hang(999, 2));
        due(-2, x.hang(0, 2));
        SightedMonths far = Texts.of("almanac months 24 full 5 lean 5;place a trust 1;seen a month 23 on 684;");
        due(1 << 22 | 1 << 23 | 1 << 24, far.hang(684, 0));
        due(0, far.hang(683, 0));
        SightedMonths year = Texts.of("almanac months 24 full 1 lean 1;place a trust 1;seen a month 1 on 28;");
        due(0b0101010101010101010101010, year.hang(999, 0));
    }

    private static void trusteds() {
        says(42, "The least trust (0 .. 9) of a PLACE by which a REPORT of it is TAKEN by T, others as they are.");
        for (int other = 0; other <= 9; other++) {
            String places = "place b trust 4;place a trust " + other + ";place c trust " + other + ";";
            SightedMonths aFirst = Texts.of(FOUR + places + "seen b month 1 on 28;seen a month 1 on 29;");
            SightedMonths cFirst = Texts.of(FOUR + places + "seen b month 1 on 28;seen c month 1 on 29;");
            due(other == 9 ? -1 : other + 1, aFirst.trusted(999, 0));
            due(other, cFirst.trusted(999, 0));
            due(-1, aFirst.trusted(27, 0));
            due(0, aFirst.trusted(28, 0));
            due(4, aFirst.place(0, 0));
            due(other, aFirst.place(1, 0));
        }
        says(42, "NONE: by none");
        SightedMonths x = Texts.of(FOUR + "moon 0 step 29000;place a trust 1;seen a month 1 on 28;seen a month 1 on 30;"
            + "cloud a month 1 on 900;seen a month 2 on 58;seen a month 2 on 59;");
        due(-1, x.trusted(999, 0));
        due(-1, x.trusted(999, 1));
        due(-1, x.trusted(899, 2));
        due(0, x.trusted(900, 2));
        due(0, x.trusted(999, 3));
        due(-1, x.trusted(999, 4));
    }

    // ---- promises 45 and 46

    private static void laters() {
        says(45, "REPORTS (bits) that are not KNOWN by T, and TAKEN by 999.");
        SightedMonths x = Texts.of(FOUR + "place a trust 1;" + "cloud a month 1 on 5;".repeat(22) + "seen a month 1 on 200;"
            + "cloud a month 1 on 999;");
        due((1 << 22) - 1 | 1 << 23, x.later(0));
        due((1 << 22) - 1 | 1 << 23, x.later(4));
        due(1 << 23, x.later(5));
        due(1 << 23, x.later(998));
        due(0, x.later(999));
        x.strikes(23);
        due(0, x.later(998));
        x.strikes(0);
        due((1 << 22) - 2, x.later(0));
        // TAKEN by 100 and REFUSED by 999.
        SightedMonths y = Texts.of(FOUR + "place a trust 1;place b trust 2;seen a month 1 on 29;seen b month 1 on 28 known 200;");
        due(0b10, y.later(0));
        due(0b10, y.later(199));
        due(0, y.later(200));
        due(0, y.judged(100, 0));
    }

    private static void boths() {
        says(46, "1 if there is a CALENDAR (with F, L alone) by which both of two REPORTS are so, else 0 (struck ones, those too EARLY, "
            + "too).");
        SightedMonths x = Texts.of(FOUR + "moon 0 step 29500;place a trust 1;place b trust 9;seen a month 1 on 28;seen a month 1 on 29;"
            + "seen a month 2 on 57;seen a month 3 on 86;cloud a month 1 on 0;seen a month 1 on 30 known 999;seen b month 1 on 29;"
            + "seen a month 3 on 88;");
        due(1, x.judged(999, 0));
        due(1, x.both(0, 0));
        due(1, x.both(0, 2));
        due(1, x.both(2, 0));
        due(0, x.both(0, 1));
        due(0, x.both(0, 3));
        due(0, x.both(3, 3));
        due(0, x.both(3, 4));
        due(0, x.both(4, 5));
        due(1, x.both(4, 4));
        due(1, x.both(4, 0));
        due(1, x.both(1, 6));
        due(0, x.both(2, 7));
        due(1, x.both(0, 7));
        x.strikes(0);
        x.strikes(2);
        due(1, x.both(0, 2));
        due(0, x.both(0, 1));
        due(-2, x.both(8, 0));
        due(-2, x.both(0, 8));
        due(-2, x.both(0, -1));
        due(0, x.runs(2, 1));
        due(0, x.both(0, 2));
    }
}
