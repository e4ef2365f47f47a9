/** Sentence by sentence: the edges of DEEDS (terms III, promises 33 to 37, 43). */
public final class DeedBoundsTest {
    private static final int LEAST = Integer.MIN_VALUE;
    private static final int MOST = Integer.MAX_VALUE;

    /** Ten CALENDARS: 0010 0011 0100 0101 0110 1001 1010 1011 1100 1101; OFFICIAL 30 30 29 30: 0 30 60 89 119. */
    private static final String FOUR = "almanac months 4 full 2 lean 2;";
    private static final String YEARS = "almanac months 24 full 1 lean 1;";

    private static final Checks CHECKS = new Checks("DeedBoundsTest");

    private DeedBoundsTest() {
    }

    public static void main(String[] args) {
        starts();
        ends();
        spans();
        counts();
        redated();
        longer();
        days();
        CHECKS.end();
    }

    private static void says(int promise, String sentence) {
        CHECKS.says(promise, sentence);
    }

    private static void due(int want, int got) {
        CHECKS.due(want, got);
    }

    private static SightedMonths with(String... deeds) {
        StringBuilder text = new StringBuilder(FOUR).append("place a trust 1;seen a month 1 on 28 known 500;");
        for (String deed : deeds) {
            text.append("deed ").append(deed).append(';');
        }
        return Texts.of(text.toString());
    }

    private static void starts() {
        says(0, "from the DAY of its date (M, Q; in a MONTH of 29 days 30 is its last) on");
        // A DEED of 0 days ENDS on the DAY of its date.
        SightedMonths x = with("month 0 day 1 for 0 days", "month 0 day 30 for 0 days", "month 2 day 29 for 0 days",
            "month 2 day 30 for 0 days", "month 3 day 30 for 0 days", "month 3 day 1 for 0 days", "month 1 day 30 for 0 days",
            "month 1 day 29 for 0 days");
        int[] free = {0, 29, 88, 88, 118, 89, 59, 58};
        // From 500 on: 29 30 30 29.
        int[] held = {0, 28, 87, 88, 117, 89, 58, 57};
        for (int deed = 0; deed < 8; deed++) {
            due(free[deed], x.due(0, deed));
            due(free[deed], x.due(499, deed));
            due(held[deed], x.due(500, deed));
            due(held[deed], x.due(999, deed));
            due(0, x.days(0, deed));
        }
        due(-2, x.due(0, 8));
        due(-2, x.due(0, -1));
    }

    private static void ends() {
        says(0, "it ENDS, of months, on the DAY of the date N MONTHS later (Q likewise); of days, N days later");
        SightedMonths x = with("month 0 day 30 for 2 months", "month 0 day 30 for 3 months", "month 0 day 30 for 0 months",
            "month 2 day 30 for 1 months", "month 0 day 1 for 3 months", "month 0 day 29 for 2 months", "month 2 day 30 for 1 days",
            "month 3 day 30 for 600 days");
        int[] free = {88, 118, 29, 118, 89, 88, 89, 718};
        int[] held = {88, 117, 28, 117, 89, 87, 89, 717};
        for (int deed = 0; deed < 8; deed++) {
            CHECKS.due("deed " + deed, free[deed], x.due(0, deed));
            CHECKS.due("deed " + deed + " by 500", held[deed], x.due(500, deed));
        }
        says(33, "The DAY on which a DEED ENDS by the OFFICIAL one by T.");
        // Behind 999, and on the last day of all.
        SightedMonths years = Texts.of(YEARS + "deed month 23 day 30 for 600 days;deed month 0 day 30 for 23 months;"
            + "deed month 23 day 30 for 0 months;deed month 0 day 1 for 600 days;");
        due(1307, years.due(0, 0));
        due(707, years.due(999, 1));
        due(707, years.due(0, 2));
        due(600, years.due(0, 3));
        says(0, "N: of months 0 .. what leaves a MONTH of the ALMANAC, of days 0 .. 600.");
        due(707, Texts.of(YEARS + "deed month 22 day 30 for 1 months;").due(0, 0));
        due(-4, Texts.tell(new SightedMonths(), YEARS + "deed month 22 day 30 for 2 months;"));
    }

    private static void spans() {
        says(34, "The least (what 0), the greatest (1) day on which it ENDS of all CALENDARS by T.");
        SightedMonths x = with("month 0 day 30 for 2 months", "month 0 day 1 for 600 days", "month 3 day 30 for 0 months",
            "month 3 day 30 for 600 days", "month 2 day 29 for 0 days", "month 0 day 30 for 0 days");
        int[][] free = {{87, 88}, {600, 600}, {116, 118}, {716, 718}, {86, 88}, {28, 29}};
        int[][] held = {{87, 88}, {600, 600}, {116, 117}, {716, 717}, {86, 87}, {28, 28}};
        for (int deed = 0; deed < free.length; deed++) {
            for (int what = 0; what <= 1; what++) {
                CHECKS.due("deed " + deed, free[deed][what], x.dueSpan(499, deed, what));
                CHECKS.due("deed " + deed + " by 500", held[deed][what], x.dueSpan(500, deed, what));
            }
            due(-2, x.dueSpan(0, deed, 2));
            due(-2, x.dueSpan(0, deed, -1));
        }
        due(-2, x.dueSpan(0, 6, 0));
        due(-2, x.dueSpan(0, -1, 0));
        SightedMonths years = Texts.of(YEARS + "deed month 23 day 30 for 600 days;deed month 22 day 30 for 600 days;");
        due(1307, years.dueSpan(0, 0, 0));
        due(1307, years.dueSpan(0, 0, 1));
        due(1277, years.dueSpan(0, 1, 0));
        due(1278, years.dueSpan(0, 1, 1));
    }

    private static void counts() {
        says(35, "In how many CALENDARS by T it ENDS on a day.");
        SightedMonths x = with("month 3 day 30 for 0 months", "month 0 day 1 for 600 days", "month 3 day 30 for 600 days",
            "month 2 day 1 for 0 months", "month 0 day 30 for 0 days");
        int[][] many = {{0, 115, 0}, {0, 116, 2}, {0, 117, 6}, {0, 118, 2}, {0, 119, 0}, {1, 599, 0}, {1, 600, 10}, {1, 601, 0},
            {2, 716, 2}, {2, 717, 6}, {2, 718, 2}, {2, 719, 0}, {2, 715, 0}, {3, 57, 0}, {3, 58, 2}, {3, 59, 6}, {3, 60, 2}, {3, 61, 0},
            {4, 27, 0}, {4, 28, 5}, {4, 29, 5}, {4, 30, 0}};
        for (int[] one : many) {
            CHECKS.due("deed " + one[0] + " day " + one[1], one[2], x.dueOn(0, one[0], one[1]));
        }
        due(5, x.dueOn(500, 4, 28));
        due(0, x.dueOn(500, 4, 29));
        for (int deed = 0; deed < 5; deed++) {
            for (int day : new int[] {-1, LEAST, LEAST + 1, LEAST + 700, MOST, MOST - 700}) {
                due(0, x.dueOn(0, deed, day));
            }
        }
        due(2, Texts.of(YEARS + "deed month 23 day 30 for 600 days;").dueOn(0, 0, 1307));
    }

    private static void redated() {
        says(36, "How often the DAY on which it ENDS changes as T goes from 0 to 999.");
        SightedMonths x = Texts.of(FOUR + "place a trust 1;place b trust 2;place c trust 3;seen a month 2 on 57;"
            + "seen b month 2 on 59 known 70;seen c month 2 on 57 known 999;deed month 0 day 1 for 600 days;"
            + "deed month 1 day 30 for 0 months;deed month 0 day 30 for 600 days;deed month 3 day 30 for 0 days;"
            + "deed month 0 day 29 for 0 months;deed month 0 day 29 for 2 months;");
        int[] often = {0, 3, 3, 3, 0, 3};
        for (int deed = 0; deed < often.length; deed++) {
            CHECKS.due("deed " + deed, often[deed], x.redated(deed));
        }
        due(-2, x.redated(6));
        due(-2, x.redated(-1));
        x.strikes(2);
        due(2, x.redated(1));
        x.strikes(0);
        due(0, x.redated(1));
        // The MONTH moves by a day, the last of it not.
        SightedMonths y = with("month 1 day 1 for 0 days", "month 2 day 30 for 0 days", "month 2 day 29 for 0 days");
        due(1, y.redated(0));
        due(0, y.redated(1));
        due(1, y.redated(2));
    }

    private static void longer() {
        says(37, "1 if the first DEED ENDS behind the other one in all CALENDARS by T, -1: ahead of it in all, 0: neither.");
        SightedMonths x = with("month 1 day 1 for 0 days", "month 0 day 1 for 28 days", "month 0 day 1 for 29 days",
            "month 0 day 1 for 30 days", "month 0 day 1 for 31 days", "month 0 day 30 for 0 days", "month 1 day 2 for 0 months",
            "month 3 day 30 for 600 days");
        int[] free = {0, 1, 0, 0, -1, 1, -1, -1};
        // From 500 on it is day 29 for sure.
        int[] held = {0, 1, 0, -1, -1, 1, -1, -1};
        for (int other = 0; other < 8; other++) {
            CHECKS.due("0 and " + other, free[other], x.longer(0, 0, other));
            CHECKS.due(other + " and 0", -free[other], x.longer(0, other, 0));
            CHECKS.due("0 and " + other + " by 500", held[other], x.longer(500, 0, other));
            CHECKS.due(other + " and 0 by 500", -held[other], x.longer(500, other, 0));
            CHECKS.due(other + " and itself", 0, x.longer(999, other, other));
        }
        due(-2, x.longer(0, 8, 0));
        due(-2, x.longer(0, 0, 8));
        due(-2, x.longer(0, -1, 0));
        due(-2, x.longer(0, 0, -1));
        SightedMonths years = Texts.of(YEARS + "deed month 23 day 30 for 600 days;deed month 0 day 1 for 0 days;"
            + "deed month 0 day 30 for 600 days;");
        due(1, years.longer(0, 0, 1));
        due(-1, years.longer(0, 1, 0));
        due(1, years.longer(0, 0, 2));
    }

    private static void days() {
        says(43, "How many days a DEED runs by the OFFICIAL one by T: the DAY on which it ENDS less that of its date.");
        SightedMonths x = with("month 0 day 30 for 2 months", "month 0 day 30 for 0 months", "month 2 day 30 for 1 months",
            "month 0 day 1 for 3 months", "month 3 day 30 for 600 days", "month 3 day 30 for 0 days", "month 0 day 29 for 2 months",
            "month 0 day 30 for 3 months");
        int[] free = {59, 0, 30, 89, 600, 0, 60, 89};
        int[] held = {60, 0, 29, 89, 600, 0, 59, 89};
        for (int deed = 0; deed < 8; deed++) {
            CHECKS.due("deed " + deed, free[deed], x.days(0, deed));
            CHECKS.due("deed " + deed + " by 500", held[deed], x.days(500, deed));
        }
        due(-2, x.days(0, 8));
        due(-2, x.days(0, -1));
    }
}
