/** Sentence by sentence: the edges of what is TOLD in OUT, and of the calls that change the ALMANAC (promises 49 to 55). */
public final class ChangeBoundsTest {
    private static final int LEAST = Integer.MIN_VALUE;
    private static final int MOST = Integer.MAX_VALUE;
    private static final String FOUR = "almanac months 4 full 2 lean 2;";

    private static final Checks CHECKS = new Checks("ChangeBoundsTest");

    private ChangeBoundsTest() {
    }

    public static void main(String[] args) {
        tells();
        octets();
        reports();
        fullOfReports();
        strikes();
        trusts();
        moons();
        runs();
        runsRefused();
        CHECKS.end();
    }

    private static void says(int promise, String sentence) {
        CHECKS.says(promise, sentence);
    }

    private static void due(int want, int got) {
        CHECKS.due(want, got);
    }

    private static String out(SightedMonths x) {
        StringBuilder out = new StringBuilder();
        for (int i = 0; i < x.count(8); i++) {
            out.append((char) x.octet(i));
        }
        return out.toString();
    }

    private static void holds(String want, SightedMonths x) {
        String got = out(x);
        CHECKS.isSo("OUT is " + got + ", due is " + want, got.equals(want));
    }

    // ---- promises 49 and 50

    private static void tells() {
        says(49, "how many bytes: 29, 30 of each MONTH, a blank between.");
        SightedMonths x = Texts.of(FOUR + "place a trust 1;seen a month 1 on 28;");
        holds("", x);
        due(11, x.tell(27));
        holds("30 30 29 30", x);
        due(11, x.tell(28));
        holds("29 30 30 29", x);
        due(11, x.tell(0));
        holds("30 30 29 30", x);
        due(5, Texts.of("almanac months 2 full 1 lean 1;").tell(999));
        SightedMonths year = Texts.of("almanac months 24 full 5 lean 5;");
        due(71, year.tell(0));
        due(71, year.count(8));
        holds("30 30 30 30 30 29 ".repeat(4).trim(), year);
        // What is shorter leaves nothing of what was longer.
        Texts.tell(year, "almanac months 2 full 1 lean 1;");
        due(71, year.count(8));
        due(5, year.tell(0));
        holds("30 29", year);
        due(-1, year.octet(5));
        says(49, "-2 (OUT stays).");
        for (int t : new int[] {-1, 1000, LEAST, MOST}) {
            due(-2, x.tell(t));
            holds("30 30 29 30", x);
            due(-2, new SightedMonths().tell(t));
        }
        Texts.tell(x, "");
        due(-2, x.tell(0));
        holds("30 30 29 30", x);
        due(11, x.count(8));
        SightedMonths none = new SightedMonths();
        due(-2, none.tell(0));
        due(0, none.count(8));
    }

    private static void octets() {
        says(50, "Byte i of OUT. NONE: there is none such.");
        SightedMonths x = Texts.of(FOUR);
        due(-1, x.octet(0));
        x.tell(0);
        due('3', x.octet(0));
        due('0', x.octet(1));
        due(' ', x.octet(2));
        due('2', x.octet(6));
        due('9', x.octet(7));
        due('0', x.octet(10));
        for (int i : new int[] {-1, 11, 12, 71, 72, 1600, LEAST, MOST}) {
            due(-1, x.octet(i));
        }
    }

    // ---- promises 51 to 53

    private static void reports() {
        says(51, "A REPORT comes (kind 0 seen, 1 clear, 2 cloud): its number.");
        SightedMonths x = Texts.of(FOUR + "place a trust 1;place b trust 9;cloud a month 1 on 28;");
        due(10, x.ways(999));
        due(0, x.shifts(1));
        due(1, x.reports(0, 0, 1, 28, 50));
        due(2, x.reports(1, 1, 1, 28, 60));
        due(3, x.reports(1, 2, 3, 0, 999));
        int[][] told = {{0, 2, 1, 28, 28}, {0, 0, 1, 28, 50}, {1, 1, 1, 28, 60}, {1, 2, 3, 0, 999}};
        for (int report = 0; report < 4; report++) {
            for (int what = 0; what < 5; what++) {
                due(told[report][what], x.report(report, what));
            }
        }
        due(4, x.count(4));
        // The class may have reckoned all this already: it is reckoned anew.
        due(10, x.ways(49));
        due(29, x.begin(50, 1));
        due(30, x.begin(60, 1));
        due(2, x.shifts(1));
        due(60, x.settled(1));
        due(2, x.judged(60, 1));
        due(4, x.count(6));
    }

    private static void fullOfReports() {
        says(51, "-5: there are 24.");
        SightedMonths x = Texts.of(FOUR + "place a trust 1;" + "cloud a month 1 on 1;".repeat(22));
        due(22, x.reports(0, 2, 1, 0, 0));
        due(23, x.reports(0, 2, 3, 999, 999));
        for (int i = 0; i < 3; i++) {
            due(-5, x.reports(0, 0, 1, 28, 28));
            due(24, x.count(4));
        }
        due(10, x.ways(999));
        // Struck ones are there, too.
        due(23, x.strikes(23));
        due(22, x.strikes(0));
        due(-5, x.reports(0, 0, 1, 28, 28));
        due(24, x.count(4));
        // What is not there is refused ahead of that.
        due(-2, x.reports(1, 0, 1, 28, 28));
        due(-2, x.reports(0, 3, 1, 28, 28));
        due(-2, x.reports(0, 0, 4, 28, 28));
        due(-2, x.reports(0, 0, 1, 28, 27));
        Texts.tell(x, FOUR + "place a trust 1;");
        due(0, x.reports(0, 0, 1, 28, 28));
        SightedMonths text = Texts.of(FOUR + "place a trust 1;" + "cloud a month 1 on 1;".repeat(24));
        due(-5, text.reports(0, 0, 1, 28, 28));
    }

    private static void strikes() {
        says(52, "A REPORT is struck: how many are not. -2: there is none such; -5: it is.");
        SightedMonths x = Texts.of(FOUR + "place a trust 1;place b trust 2;seen a month 1 on 28;" + "cloud b month 1 on 1;".repeat(23));
        due(29, x.begin(999, 1));
        due(1, x.shifts(1));
        due(1, x.place(0, 2));
        due(-2, x.strikes(24));
        due(-2, x.strikes(-1));
        due(-2, x.strikes(LEAST));
        due(-2, x.strikes(MOST));
        for (int report = 0; report < 24; report++) {
            due(23 - report, x.strikes(report));
            due(-5, x.strikes(report));
            due(3, x.report(report, 1));
        }
        due(30, x.begin(999, 1));
        due(0, x.shifts(1));
        due(0, x.taken(999));
        due(0, x.place(0, 2));
        due(0, x.place(1, 2));
        due(24, x.count(4));
        // Another text's REPORTS are not struck.
        Texts.tell(x, FOUR + "place a trust 1;seen a month 1 on 28;");
        due(0, x.report(0, 1));
        due(0, x.strikes(0));
        due(1, x.reports(0, 0, 1, 28, 28));
        due(0, x.report(1, 1));
        due(0, x.strikes(1));
    }

    private static void trusts() {
        says(53, "The trust of a PLACE (0 .. 9): what it was. -2: there are none such.");
        SightedMonths x = Texts.of(FOUR + "place a trust 5;place b trust 5;seen a month 1 on 28;seen b month 1 on 29 known 60;");
        due(29, x.begin(60, 1));
        due(1, x.shifts(1));
        due(5, x.trusts(1, 6));
        due(30, x.begin(60, 1));
        due(2, x.shifts(1));
        due(6, x.trusts(1, 9));
        due(9, x.trusts(1, 0));
        due(0, x.trusts(1, 0));
        due(29, x.begin(60, 1));
        due(5, x.trusts(0, 0));
        due(0, x.order(60, 0));
        for (int trust : new int[] {-1, 10, LEAST, MOST}) {
            due(-2, x.trusts(0, trust));
        }
        for (int place : new int[] {-1, 2, 6, LEAST, MOST}) {
            due(-2, x.trusts(place, 5));
        }
        due(0, x.place(0, 0));
        due(0, x.place(1, 0));
    }

    // ---- promises 54 and 55

    private static void moons() {
        says(54, "A, S (28000 .. 31000) of the moon: EARLY of MONTH 1 then. -2: there are none such, no ALMANAC.");
        SightedMonths x = Texts.of(FOUR + "place a trust 1;seen a month 1 on 28;");
        due(0, x.judged(999, 0));
        due(1, x.shifts(1));
        int[][] wrong = {{-1, 29000}, {100000, 29000}, {0, 27999}, {0, 31001}, {LEAST, 29000}, {MOST, 29000}, {0, LEAST}, {0, MOST}};
        for (int[] one : wrong) {
            due(-2, x.moon(one[0], one[1]));
            due(-2, x.early(1));
            due(0, x.count(9));
            due(0, x.count(10));
        }
        due(28, x.moon(0, 28000));
        due(0, x.judged(999, 0));
        due(28, x.moon(999, 28000));
        due(29, x.moon(1000, 28000));
        due(1, x.judged(999, 0));
        due(0, x.shifts(1));
        due(31, x.moon(0, 31000));
        due(127, x.moon(99999, 28000));
        due(130, x.moon(99999, 31000));
        due(99999, x.count(9));
        due(31000, x.count(10));
        due(3, x.count(6));
        for (int[] one : wrong) {
            due(-2, x.moon(one[0], one[1]));
            due(130, x.early(1));
        }
        due(-2, new SightedMonths().moon(0, 29000));
        // A moon that was told by a text may be told anew by the call.
        SightedMonths y = Texts.of(FOUR + "moon 5 step 28005;");
        due(28, y.early(1));
        due(30, y.moon(600, 29500));
        due(600, y.count(9));
    }

    private static void runs() {
        says(55, "F, L (1 .. 5): 0. -2: there are none such, no ALMANAC");
        SightedMonths x = Texts.of(FOUR);
        due(10, x.ways(0));
        for (int f = 1; f <= 5; f++) {
            for (int l = 1; l <= 5; l++) {
                due(0, x.runs(f, l));
                due(f, x.count(1));
                due(l, x.count(2));
            }
        }
        due(16, x.ways(0));
        due(120, x.begin(0, 4));
        due(0, x.runs(1, 1));
        due(2, x.ways(0));
        due(0, x.shifts(1));
        int[][] wrong = {{0, 1}, {6, 1}, {1, 0}, {1, 6}, {-1, 1}, {1, -1}, {LEAST, 1}, {1, MOST}, {0, 0}, {6, 6}};
        for (int[] one : wrong) {
            due(-2, x.runs(one[0], one[1]));
            due(1, x.count(1));
            due(1, x.count(2));
        }
        due(-2, new SightedMonths().runs(1, 1));
    }

    private static void runsRefused() {
        says(55, "-5, and nothing happens: REPORTS TAKEN by 999 would be REFUSED, or the other way round.");
        // TAKEN, and would be REFUSED.
        SightedMonths x = Texts.of("almanac months 3 full 2 lean 2;place a trust 1;seen a month 2 on 59 known 999;");
        due(-5, x.runs(1, 2));
        due(2, x.count(1));
        due(0, x.judged(999, 0));
        due(6, x.ways(0));
        due(0, x.runs(2, 1));
        due(0, x.runs(3, 1));
        due(-5, x.runs(1, 1));
        x.strikes(0);
        due(0, x.runs(1, 1));
        SightedMonths lean = Texts.of("almanac months 3 full 2 lean 2;place a trust 1;seen a month 2 on 57;");
        due(-5, lean.runs(2, 1));
        due(2, lean.count(2));
        due(58, lean.begin(999, 2));
        due(0, lean.runs(1, 2));
        due(0, lean.runs(1, 3));
        // REFUSED, and would be TAKEN.
        SightedMonths shorter = Texts.of("almanac months 3 full 1 lean 1;place a trust 1;seen a month 2 on 57;");
        due(-5, shorter.runs(1, 2));
        due(1, shorter.count(2));
        due(0, shorter.runs(5, 1));
        SightedMonths y = Texts.of("almanac months 3 full 1 lean 1;place a trust 1;seen a month 2 on 59 known 999;");
        due(2, y.judged(999, 0));
        due(-5, y.runs(2, 1));
        due(-5, y.runs(5, 5));
        due(1, y.count(1));
        due(1, y.count(2));
        due(0, y.runs(1, 5));
        due(5, y.count(2));
        // As many are TAKEN, and they are others.
        SightedMonths z = Texts.of("almanac months 3 full 2 lean 1;place a trust 1;seen a month 2 on 57;seen a month 2 on 59;");
        due(2, z.judged(999, 0));
        due(0, z.judged(999, 1));
        due(-5, z.runs(1, 2));
        due(2, z.judged(999, 0));
        due(0, z.runs(2, 1));
        // One that is TAKEN by 100 and REFUSED by 999 does not count; nor does one that is too EARLY.
        SightedMonths w = Texts.of("almanac months 3 full 2 lean 2;place a trust 1;place b trust 2;seen a month 2 on 59;"
            + "seen b month 2 on 58 known 999;");
        due(0, w.judged(100, 0));
        due(2, w.judged(999, 0));
        due(0, w.runs(1, 1));
        due(2, w.judged(100, 0));
        SightedMonths early = Texts.of("almanac months 3 full 2 lean 2;moon 0 step 31000;place a trust 1;seen a month 2 on 59;");
        due(1, early.judged(999, 0));
        due(0, early.runs(1, 1));
        due(1, early.judged(999, 0));
        // EARLY of MONTH 2 is 60 by A alone.
        SightedMonths byStart = Texts.of("almanac months 3 full 2 lean 2;moon 1000 step 29500;place a trust 1;seen a month 2 on 59;");
        due(1, byStart.judged(999, 0));
        due(0, byStart.runs(1, 1));
    }
}
