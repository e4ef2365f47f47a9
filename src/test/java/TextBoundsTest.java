import java.util.List;
import java.util.function.Supplier;

/** Sentence by sentence: the edges of the TAPE, of the TEXT and its FAULTS, and of what was told (terms I, promises 1 to 9). */
public final class TextBoundsTest {
    private static final int LEAST = Integer.MIN_VALUE;
    private static final int MOST = Integer.MAX_VALUE;
    private static final String TWO = "almanac months 2 full 1 lean 1;";
    private static final String FOUR = "almanac months 4 full 2 lean 2;";
    private static final String ONE_PLACE = FOUR + "place a trust 1;";
    private static final String RICH = "almanac months 5 full 3 lean 2;moon 300 step 29400;place b trust 3;place cd trust 7;"
        + "seen b month 1 on 29 known 40;clear cd month 2 on 58 known 60;cloud b month 4 on 117;"
        + "deed month 1 day 30 for 2 months;deed month 0 day 1 for 88 days;";

    private static final Checks CHECKS = new Checks("TextBoundsTest");

    private TextBoundsTest() {
    }

    public static void main(String[] args) {
        newObject();
        feeds();
        ends();
        almanacs();
        faultsAsked();
        counts();
        lines();
        firstLine();
        moons();
        places();
        reports();
        deeds();
        words();
        tokens();
        names();
        faultPlaces();
        faultKinds();
        tooMany();
        whatWasTold();
        CHECKS.end();
    }

    private static void says(int promise, String sentence) {
        CHECKS.says(promise, sentence);
    }

    private static void due(int want, int got) {
        CHECKS.due(want, got);
    }

    // ---- what texts come to

    private static void takes(int lines, String text) {
        CHECKS.due(text, lines, Texts.tell(new SightedMonths(), text));
    }

    /** The place of the FAULT is where the sign ^ stands, which is no byte of the text. */
    private static void refuses(int kind, String marked) {
        int place = marked.indexOf('^');
        String text = marked.substring(0, place) + marked.substring(place + 1);
        SightedMonths x = Texts.of(RICH);
        CHECKS.due(marked, -4, Texts.tell(x, text));
        CHECKS.due(marked + " kind", kind, x.fault(0));
        CHECKS.due(marked + " place", place, x.fault(1));
        CHECKS.due(marked + " months", 5, x.count(0));
    }

    /** A number that may be as told, and no other; ahead and behind are the texts around it. */
    private static void bounded(String ahead, int least, int most, String behind) {
        int lines = (ahead + behind).split(";").length;
        takes(lines, ahead + least + behind);
        takes(lines, ahead + most + behind);
        takes(lines, ahead + "000000000000000" + least + behind);
        refuses(2, ahead + "^" + (most + 1) + behind);
        if (least > 0) {
            refuses(2, ahead + "^" + (least - 1) + behind);
            refuses(2, ahead + "^0" + behind);
        }
        for (String huge : new String[] {"99999999999999999999999", "2147483647", "2147483648"}) {
            refuses(2, ahead + "^" + huge + behind);
        }
        // Numbers that an int or a long would take for the least.
        refuses(2, ahead + "^" + (4294967296L + least) + behind);
        refuses(2, ahead + "^" + new java.math.BigInteger("18446744073709551616").add(java.math.BigInteger.valueOf(least)) + behind);
        refuses(1, ahead + "^-" + least + behind);
        refuses(1, ahead + "^x" + behind);
        refuses(1, ahead + "^;" + behind);
    }

    // ---- promises 1 to 3

    private static void newObject() {
        says(1, "No ALMANAC.");
        SightedMonths x = new SightedMonths();
        for (int what = 0; what <= 10; what++) {
            due(0, x.count(what));
        }
        due(-2, x.ways(0));
        due(-2, x.begin(0, 0));
        due(-2, x.moon(0, 29000));
        due(-2, x.runs(1, 1));
        due(-1, x.octet(0));
    }

    /** Five numbers with a byte at one place, the others blank. */
    private static int feedOne(SightedMonths x, int at, int sign) {
        int[] five = {0x20202020, 0x20202020, 0x20202020, 0x20202020, 0x20202020};
        int shift = 24 - 8 * (at % 4);
        five[at / 4] = five[at / 4] & ~(255 << shift) | sign << shift;
        return x.feed(five[0], five[1], five[2], five[3], five[4]);
    }

    private static void feedBlanks(SightedMonths x, int bytes) {
        for (int n = 0; n < bytes; n += 20) {
            feedOne(x, 0, ' ');
        }
        x.end(bytes);
    }

    private static void feeds() {
        says(2, "Twenty bytes come behind the TAPE, four of each number, the highest first: how many it has");
        for (int at = 0; at < 20; at++) {
            for (int sign : new int[] {0, 1, 127, 128, 255}) {
                SightedMonths x = new SightedMonths();
                due(20, feedOne(x, at, sign));
                due(-4, x.almanac());
                due(at, x.fault(1));
            }
        }
        SightedMonths x = new SightedMonths();
        due(20, feedOne(x, 0, ' '));
        due(40, feedOne(x, 19, '#'));
        due(-4, x.almanac());
        due(39, x.fault(1));
        says(2, "NONE, and none come, if it would have more than 1600");
        x = new SightedMonths();
        for (int n = 20; n <= 1600; n += 20) {
            due(n, feedOne(x, 0, ' '));
        }
        due(-1, feedOne(x, 0, '#'));
        due(1600, x.count(7));
        due(0, x.almanac());
        for (int length : new int[] {1581, 1590, 1599, 1600}) {
            x = new SightedMonths();
            feedBlanks(x, length);
            due(-1, feedOne(x, 0, '#'));
            due(-1, x.feed(MOST, LEAST, -1, 0, 1));
            due(length, x.count(7));
            due(0, x.almanac());
        }
        x = new SightedMonths();
        feedBlanks(x, 1580);
        due(1600, feedOne(x, 19, '#'));
        due(-4, x.almanac());
        due(1599, x.fault(1));
        x = new SightedMonths();
        feedBlanks(x, 1579);
        due(1599, feedOne(x, 19, '#'));
        due(-4, x.almanac());
        due(1598, x.fault(1));
    }

    private static void ends() {
        says(3, "The TAPE has its first n bytes alone: n");
        SightedMonths x = new SightedMonths();
        Texts.put(x, FOUR + "#");
        due(32, x.end(32));
        due(31, x.end(31));
        due(31, x.count(7));
        due(1, x.almanac());
        due(0, x.end(0));
        Texts.put(x, FOUR);
        due(0, x.end(0));
        due(0, x.count(7));
        due(0, x.almanac());
        Texts.put(x, "#########");
        x.end(5);
        feedOne(x, 0, ' ');
        due(25, x.count(7));
        x.end(6);
        due(-4, x.almanac());
        due(0, x.fault(1));
        feedOne(x, 19, '#');
        due(10, x.end(10));
        due(30, feedOne(x, 3, '#'));
        due(-4, x.almanac());
        due(13, x.fault(1));
        says(3, "NONE, and nothing happens, if it has not so many, or n is below 0");
        x = new SightedMonths();
        due(-1, x.end(1));
        due(-1, x.end(-1));
        Texts.put(x, FOUR);
        for (int n : new int[] {32, 40, 1600, 1601, MOST, -1, -31, LEAST}) {
            due(-1, x.end(n));
            due(31, x.count(7));
        }
        due(1, x.almanac());
        due(-1, x.end(1));
    }

    // ---- promises 4 to 6

    private static void almanacs() {
        says(4, "The TAPE (empty then) tells the ALMANAC");
        for (String text : new String[] {"", "   ", FOUR, FOUR + "#", RICH}) {
            SightedMonths x = new SightedMonths();
            Texts.tell(x, text);
            due(0, x.count(7));
            due(-1, x.end(1));
            due(20, x.feed(0, 0, 0, 0, 0));
        }
        says(4, "(in place of another)");
        SightedMonths x = Texts.of(RICH);
        x.strikes(0);
        due(1, Texts.tell(x, FOUR));
        int[] bare = {4, 2, 2, 0, 0, 0, 1, 0, 0, 0, 0};
        for (int what = 0; what < bare.length; what++) {
            CHECKS.due("count " + what, bare[what], x.count(what));
        }
        due(-2, x.place(0, 0));
        due(-2, x.report(0, 0));
        due(-2, x.deed(0, 0));
        due(-2, x.early(1));
        due(10, x.ways(999));
        SightedMonths again = Texts.of(RICH);
        again.strikes(0);
        again.trusts(0, 0);
        again.moon(0, 28000);
        Texts.tell(again, RICH);
        due(0, again.report(0, 1));
        due(3, again.place(0, 0));
        due(300, again.count(9));
        CHECKS.isSo("all as told", Calls.unlike(Calls.answers(() -> Texts.of(RICH)), Calls.answers(() -> toldTwice())).isEmpty());
        leftovers();
        says(4, "how many LINES (0: there is none then)");
        takes(0, "");
        takes(0, " ");
        takes(0, "\n");
        takes(0, " \n \n\n ");
        takes(1, FOUR);
        takes(9, RICH);
        takes(14, FOUR + "place a trust 1;" + "seen a month 1 on 29;".repeat(12));
        Texts.tell(again, "  ");
        for (int what = 0; what <= 10; what++) {
            due(0, again.count(what));
        }
        due(-2, again.ways(0));
        due(-2, again.place(0, 0));
        due(-2, again.moon(0, 29000));
        due(0, again.fault(0));
        says(4, "-4: a FAULT (all else stays).");
        for (String faulty : new String[] {"#", FOUR + "#", TWO + "place z trust 3;place z trust 1;", RICH + "moon", "almanac"}) {
            List<String> before = Calls.answers(TextBoundsTest::changed);
            CHECKS.due(faulty, -4, Texts.tell(changed(), faulty));
            Supplier<SightedMonths> behind = () -> {
                SightedMonths y = changed();
                Texts.tell(y, faulty);
                return y;
            };
            String unlike = Calls.unlike(before, Calls.answers(behind));
            CHECKS.isSo(faulty + ": " + unlike, unlike.isEmpty());
        }
        SightedMonths none = new SightedMonths();
        due(-4, Texts.tell(none, FOUR + "#"));
        due(0, none.count(0));
        due(-2, none.ways(0));
    }

    /** Nothing is left of any text told before, nor of one that had a FAULT. */
    private static void leftovers() {
        for (int times = 1; times <= 4; times++) {
            for (String faulty : new String[] {"", RICH + "#"}) {
                SightedMonths x = Texts.of(RICH);
                x.strikes(0);
                x.strikes(1);
                x.strikes(2);
                for (int i = 0; i < times; i++) {
                    due(faulty.isEmpty() ? 0 : -4, Texts.tell(x, faulty));
                    due(1, Texts.tell(x, FOUR));
                }
                int[] bare = {4, 2, 2, 0, 0, 0, 1, 0, 0, 0, 0};
                for (int what = 0; what < bare.length; what++) {
                    CHECKS.due("count " + what, bare[what], x.count(what));
                }
                due(-2, x.early(1));
                due(-2, x.nearest(0, 0));
                due(2, Texts.tell(x, ONE_PLACE));
                for (int report = 0; report < 3; report++) {
                    due(report, x.reports(0, 0, 1, 28, 28));
                    due(0, x.report(report, 1));
                    due(0, x.judged(28, report));
                }
            }
        }
    }

    private static SightedMonths toldTwice() {
        SightedMonths x = Texts.of(FOUR + "place a trust 1;place c trust 2;place d trust 3;" + "seen a month 1 on 29;".repeat(9)
            + "deed month 0 day 1 for 3 months;".repeat(5));
        x.strikes(0);
        x.strikes(8);
        x.ways(999);
        x.shifts(1);
        Texts.tell(x, RICH);
        return x;
    }

    /** With something of every kind, and something in OUT. */
    private static SightedMonths changed() {
        SightedMonths x = Texts.of(RICH);
        x.strikes(2);
        x.trusts(0, 9);
        x.reports(1, 0, 3, 89, 100);
        x.tell(0);
        return x;
    }

    private static void faultsAsked() {
        says(5, "what 0: its FAULT, 0 without, 1: its place (NONE without)");
        SightedMonths x = Texts.of(FOUR + "#");
        due(1, x.fault(0));
        due(31, x.fault(1));
        Texts.tell(x, FOUR);
        due(0, x.fault(0));
        due(-1, x.fault(1));
        Texts.tell(x, "#");
        due(0, x.fault(1));
        Texts.tell(x, "");
        due(0, x.fault(0));
        due(-1, x.fault(1));
        says(5, "Of the latest almanac()");
        Texts.tell(x, "almanac months 1");
        Texts.put(x, FOUR);
        due(2, x.fault(0));
        due(15, x.fault(1));
        x.end(0);
        due(2, x.fault(0));
        says(5, "NONE for another what, and ahead of any (what 1)");
        for (int what : new int[] {-1, 2, 3, LEAST, MOST}) {
            due(-1, x.fault(what));
            due(-1, new SightedMonths().fault(what));
            due(-1, Texts.of(FOUR).fault(what));
        }
        due(0, new SightedMonths().fault(0));
        due(-1, new SightedMonths().fault(1));
    }

    private static void counts() {
        says(6, "4 REPORTS (struck ones, too)");
        SightedMonths x = Texts.of(RICH);
        due(2, x.strikes(0));
        due(3, x.count(4));
        x.strikes(1);
        x.strikes(2);
        due(3, x.count(4));
        says(6, "7 bytes of the TAPE, 8 of OUT");
        due(0, x.count(7));
        due(0, x.count(8));
        x.feed(0, 0, 0, 0, 0);
        x.tell(0);
        due(20, x.count(7));
        due(14, x.count(8));
        says(6, "9 A, 10 S (0, 0 without a moon)");
        due(300, x.count(9));
        due(29400, x.count(10));
        x.moon(0, 28000);
        due(0, x.count(9));
        due(28000, x.count(10));
        due(0, Texts.of(FOUR).count(9));
        due(0, Texts.of(FOUR).count(10));
        says(6, "NONE for others");
        for (int what : new int[] {-1, 11, 12, LEAST, MOST}) {
            due(-1, x.count(what));
            due(-1, new SightedMonths().count(what));
        }
    }

    // ---- terms I: lines

    private static void lines() {
        says(0, "TEXT: {LINE ;}");
        takes(1, "almanac months 4 full 2 lean 2;");
        refuses(1, "almanac months 4 full 2 lean 2^");
        refuses(1, FOUR + "^;");
        refuses(1, "^;" + FOUR);
        refuses(1, "^;");
        refuses(1, "almanac months 4 full 2 lean 2 ^moon 0 step 29000;");
        refuses(1, FOUR + "moon 0 step 29000^");
        refuses(1, FOUR + "place a trust 1^");
        refuses(1, ONE_PLACE + "seen a month 1 on 1^");
        refuses(1, ONE_PLACE + "seen a month 1 on 1 known 1^");
        refuses(1, FOUR + "deed month 1 day 1 for 1 days^");
        says(0, "almanac is the first LINE and no other");
        refuses(1, FOUR + "^" + FOUR);
        refuses(1, RICH + "^almanac");
        refuses(1, "^moon 0 step 29000;" + FOUR);
        says(0, "(almanac behind the first LINE, another word ahead of it)");
        for (String word : new String[] {"moon", "place", "seen", "clear", "cloud", "deed", "months", "almanacs", "almana", "x"}) {
            refuses(1, "^" + word + " months 4 full 2 lean 2;");
        }
        for (String word : new String[] {"almanac", "months", "sight", "moons", "places", "see", "seens", "clears", "clou", "deeds",
            "known", "x"}) {
            refuses(1, FOUR + "^" + word + ";");
        }
        refuses(1, "^4;");
        refuses(1, FOUR + "^4;");
    }

    private static void firstLine() {
        says(0, "MONTHS 0 .. N - 1 (N 2 .. 24)");
        bounded("almanac months ", 2, 24, " full 2 lean 2;");
        due(2, Texts.of("almanac months 2 full 1 lean 1;").count(0));
        due(24, Texts.of("almanac months 24 full 1 lean 1;").count(0));
        says(0, "F, L 1 .. 5");
        bounded("almanac months 4 full ", 1, 5, " lean 2;");
        bounded("almanac months 4 full 2 lean ", 1, 5, ";");
        due(5, Texts.of("almanac months 4 full 5 lean 1;").count(1));
        due(1, Texts.of("almanac months 4 full 5 lean 1;").count(2));
        says(0, "almanac months N full F lean L");
        refuses(1, "^months 4 full 2 lean 2;");
        refuses(1, "almanac ^4 full 2 lean 2;");
        refuses(1, "almanac months ^full 2 lean 2;");
        refuses(1, "almanac months 4 ^2 lean 2;");
        refuses(1, "almanac months 4 full ^lean 2;");
        refuses(1, "almanac months 4 full 2 ^2;");
        refuses(1, "almanac months 4 full 2 lean ^;");
        refuses(1, "almanac months 4 full 2 lean 2 ^2;");
        refuses(1, "almanac ^");
        refuses(1, "almanac months^");
        refuses(1, "almanac months 4^");
        refuses(1, "almanac months 4 full^");
        refuses(1, "almanac months 4 full 2^");
        refuses(1, "almanac months 4 full 2 lean^");
        refuses(1, "almanac months 4 ^lean 2 full 2;");
    }

    private static void moons() {
        says(0, "A 0 .. 99999");
        bounded(FOUR + "moon ", 0, 99999, " step 29000;");
        says(0, "S 28000 .. 31000");
        bounded(FOUR + "moon 0 step ", 28000, 31000, ";");
        says(0, "moon once at most");
        takes(1, FOUR);
        takes(2, FOUR + "moon 0 step 29000;");
        takes(3, ONE_PLACE + "moon 0 step 29000;");
        refuses(3, FOUR + "moon 0 step 29000;^moon 0 step 29000;");
        refuses(3, FOUR + "moon 0 step 29000;place a trust 1;^moon 1 step 29001;");
        says(0, "moon A step S");
        refuses(1, FOUR + "moon ^step 29000;");
        refuses(1, FOUR + "moon 0 ^29000;");
        refuses(1, FOUR + "moon 0 step ^;");
        refuses(1, FOUR + "moon 0 step 29000 ^1;");
        refuses(1, FOUR + "moon^");
        refuses(1, FOUR + "moon 0^");
        refuses(1, FOUR + "moon 0 step^");
    }

    private static void places() {
        says(0, "PLACES 0 .. 5 as they stand");
        SightedMonths x = Texts.of(FOUR + "place f trust 9;place e trust 0;place d trust 3;place c trust 4;place b trust 5;"
            + "place a trust 6;");
        int[] trust = {9, 0, 3, 4, 5, 6};
        for (int place = 0; place < 6; place++) {
            due(trust[place], x.place(place, 0));
            due(5 - place, x.place(place, 1));
        }
        due(6, x.count(3));
        due(-2, x.place(6, 0));
        says(0, "(a new NAME; W 0 .. 9)");
        bounded(FOUR + "place a trust ", 0, 9, ";");
        takes(3, FOUR + "place a trust 1;place aa trust 1;");
        refuses(2, FOUR + "place a trust 1;place ^a trust 1;");
        says(0, "place NAME trust W");
        refuses(1, FOUR + "place ^;");
        refuses(1, FOUR + "place a ^1;");
        refuses(1, FOUR + "place a trust ^;");
        refuses(1, FOUR + "place a trust 1 ^2;");
        refuses(1, FOUR + "place^");
        refuses(1, FOUR + "place a^");
        refuses(1, FOUR + "place a trust^");
        refuses(1, FOUR + "place a ^trus 1;");
    }

    private static void reports() {
        for (String kind : new String[] {"seen", "clear", "cloud"}) {
            says(0, "M 1 .. MONTHS - 1");
            bounded(ONE_PLACE + kind + " a month ", 1, 3, " on 29;");
            bounded("almanac months 24 full 2 lean 2;place a trust 1;" + kind + " a month ", 1, 23, " on 29;");
            bounded(TWO + "place a trust 1;" + kind + " a month ", 1, 1, " on 29;");
            says(0, "D 0 .. 999");
            bounded(ONE_PLACE + kind + " a month 1 on ", 0, 999, ";");
            says(0, "K D .. 999 (without: D)");
            bounded(ONE_PLACE + kind + " a month 1 on 500 known ", 500, 999, ";");
            bounded(ONE_PLACE + kind + " a month 1 on 0 known ", 0, 999, ";");
            bounded(ONE_PLACE + kind + " a month 1 on 999 known ", 999, 999, ";");
            due(77, Texts.of(ONE_PLACE + kind + " a month 1 on 77;").report(0, 4));
            due(0, Texts.of(ONE_PLACE + kind + " a month 1 on 0;").report(0, 4));
            due(999, Texts.of(ONE_PLACE + kind + " a month 1 on 77 known 999;").report(0, 4));
            says(0, "(seen | clear | cloud) NAME month M on D [known K]");
            String line = ONE_PLACE + kind;
            refuses(1, line + "^");
            refuses(1, line + " ^;");
            refuses(1, line + " ^1 month 1 on 1;");
            refuses(1, line + " a^");
            refuses(1, line + " a ^on 1;");
            refuses(1, line + " a month^");
            refuses(1, line + " a month ^on 1;");
            refuses(1, line + " a month 1^");
            refuses(1, line + " a month 1 ^1;");
            refuses(1, line + " a month 1 on^");
            refuses(1, line + " a month 1 on ^known 1;");
            refuses(1, line + " a month 1 on 1 known^");
            refuses(1, line + " a month 1 on 1 known ^;");
            refuses(1, line + " a month 1 on 1 ^knows 1;");
            refuses(1, line + " a month 1 on 1 known 1 ^known 1;");
            refuses(1, line + " a ^months 1 on 1;");
            refuses(1, line + " a month 1 ^known 1;");
        }
        says(0, "REPORTS 0 .. 23 as they stand");
        SightedMonths x = Texts.of(ONE_PLACE + reports(24));
        due(24, x.count(4));
        for (int report = 0; report < 24; report++) {
            due(report, x.report(report, 3));
            due(report % 3, x.report(report, 1));
        }
        due(-2, x.report(24, 0));
    }

    private static String reports(int many) {
        StringBuilder text = new StringBuilder();
        for (int i = 0; i < many; i++) {
            text.append(i % 3 == 0 ? "seen" : i % 3 == 1 ? "clear" : "cloud").append(" a month 1 on ").append(i).append(';');
        }
        return text.toString();
    }

    private static void deeds() {
        says(0, "DEEDS 0 .. 7: M 0 .. MONTHS - 1, Q 1 .. 30");
        bounded(FOUR + "deed month ", 0, 3, " day 1 for 0 months;");
        bounded(FOUR + "deed month ", 0, 3, " day 1 for 600 days;");
        bounded(TWO + "deed month ", 0, 1, " day 1 for 1 days;");
        bounded(FOUR + "deed month 1 day ", 1, 30, " for 0 months;");
        bounded(FOUR + "deed month 1 day ", 1, 30, " for 0 days;");
        SightedMonths x = Texts.of(FOUR + deeds(8));
        due(8, x.count(5));
        for (int deed = 0; deed < 8; deed++) {
            due(deed + 1, x.deed(deed, 1));
        }
        due(-2, x.deed(8, 0));
        says(0, "N: of months 0 .. what leaves a MONTH of the ALMANAC, of days 0 .. 600");
        for (int month = 0; month < 4; month++) {
            bounded(FOUR + "deed month " + month + " day 1 for ", 0, 3 - month, " months;");
            bounded(FOUR + "deed month " + month + " day 30 for ", 0, 600, " days;");
        }
        bounded("almanac months 24 full 2 lean 2;deed month 0 day 30 for ", 0, 23, " months;");
        bounded("almanac months 24 full 2 lean 2;deed month 23 day 30 for ", 0, 0, " months;");
        says(0, "(of a DEED N by what is behind it: at N)");
        refuses(2, FOUR + "deed month 0 day 1 for ^4 months");
        takes(2, FOUR + "deed month 0 day 1 for 4 days;");
        refuses(2, FOUR + "deed month 0 day 1 for ^601 days#");
        refuses(2, FOUR + "deed month 0 day 1 for ^4 months 4");
        refuses(1, FOUR + "deed month 0 day 1 for 601^");
        refuses(1, FOUR + "deed month 0 day 1 for 601 ^;");
        refuses(1, FOUR + "deed month 0 day 1 for 601 ^weeks;");
        refuses(1, FOUR + "deed month 0 day 1 for 601 ^#days;");
        refuses(1, FOUR + "deed month 0 day 1 for 99999999999999999999 ^day;");
        refuses(1, FOUR + "deed month 0 day 1 for 601 ^601 days;");
        says(0, "deed month M day Q for N (months | days)");
        refuses(1, FOUR + "deed^");
        refuses(1, FOUR + "deed ^1 day 1 for 1 days;");
        refuses(1, FOUR + "deed month^");
        refuses(1, FOUR + "deed month ^day 1 for 1 days;");
        refuses(1, FOUR + "deed month 1^");
        refuses(1, FOUR + "deed month 1 ^1 for 1 days;");
        refuses(1, FOUR + "deed month 1 day^");
        refuses(1, FOUR + "deed month 1 day ^for 1 days;");
        refuses(1, FOUR + "deed month 1 day 1^");
        refuses(1, FOUR + "deed month 1 day 1 ^1 days;");
        refuses(1, FOUR + "deed month 1 day 1 for^");
        refuses(1, FOUR + "deed month 1 day 1 for ^days;");
        refuses(1, FOUR + "deed month 1 day 1 for 1 ^month;");
        refuses(1, FOUR + "deed month 1 day 1 for 1 days ^days;");
    }

    private static String deeds(int many) {
        StringBuilder text = new StringBuilder();
        for (int i = 0; i < many; i++) {
            text.append("deed month 1 day ").append(i + 1).append(" for 1 ").append(i % 2 == 0 ? "days;" : "months;");
        }
        return text.toString();
    }

    /** A text with every word of the language, each of whose letters may be another: then it is no such word. */
    private static void words() {
        says(0, "1 a TOKEN that is none, or can't stand there");
        String text = "almanac months 4 full 2 lean 2;moon 0 step 29000;place u trust 1;seen u month 1 on 29 known 30;"
            + "clear u month 1 on 29;cloud u month 1 on 29;deed month 1 day 1 for 1 days;deed month 1 day 1 for 1 months;";
        takes(8, text);
        java.util.regex.Matcher word = java.util.regex.Pattern.compile("[a-z]{2,}").matcher(text);
        while (word.find()) {
            String ahead = text.substring(0, word.start());
            String behind = text.substring(word.end());
            for (int i = 0; i < word.group().length(); i++) {
                String first = word.group().substring(0, i);
                String rest = word.group().substring(i + 1);
                refuses(1, ahead + "^" + first + "q" + rest + behind);
            }
            refuses(1, ahead + "^" + word.group() + "s" + (word.group().equals("month") ? "s" : "") + behind);
            refuses(1, ahead + "^" + word.group().substring(0, word.group().length() - 1) + behind);
        }
    }

    // ---- terms I: tokens and faults

    private static void tokens() {
        says(0, "TOKENS, blanks (32, 10) aside");
        takes(2, "  almanac\nmonths\n\n4 full   2 \n lean 2\n;\n \nplace a trust 1 ; ");
        for (int sign = 0; sign < 256; sign++) {
            if (sign != 32 && sign != 10) {
                String one = String.valueOf((char) sign);
                boolean goesOn = sign == ';' || sign >= 'a' && sign <= 'z' || sign >= '0' && sign <= '9';
                if (!goesOn) {
                    says(0, "1 a TOKEN that is none, or can't stand there");
                    refuses(1, "almanac months 4^" + one + "full 2 lean 2;");
                    refuses(1, "almanac^" + one + "months 4 full 2 lean 2;");
                    refuses(1, "^" + one + FOUR);
                    refuses(1, FOUR + "^" + one);
                    refuses(1, FOUR + "place ^" + one + "a trust 1;");
                    refuses(1, FOUR + "place a^" + one + " trust 1;");
                }
            }
        }
        says(0, "the longest: words (a .. z), numbers (digits), the sign ;");
        takes(2, "almanac months4full2lean2;place z trust1;");
        takes(1, "almanac months 04full 0002lean 00000000000000000000000000000002;");
        refuses(1, "^almanacmonths 4 full 2 lean 2;");
        refuses(1, "almanac months 4 ^ful 2 lean 2;");
        refuses(1, "almanac months 2 ^4 full 2 lean 2;");
        refuses(1, "almanac ^mon ths 4 full 2 lean 2;");
        refuses(2, "almanac months ^244 full 2 lean 2;");
        takes(4, FOUR + "place az trust 9;place za trust 0;seen az month1on29known30;");
        takes(2, FOUR + "moon1step29876;");
        takes(2, FOUR + "moon 1 step 30543;");
    }

    private static void names() {
        says(0, "NAMES: words of at most 6 letters, any");
        for (String name : new String[] {"a", "z", "zzzzzz", "aaaaaa", "almanac".substring(0, 6), "month", "months", "trust", "place",
            "seen", "clear", "cloud", "known", "on", "deed", "moon", "full", "lean", "for", "day", "days", "step"}) {
            takes(3, FOUR + "place " + name + " trust 1;seen " + name + " month 1 on 29;");
        }
        for (String name : new String[] {"aaaaaaa", "almanac", "zzzzzzzzzzzzzzzzzzzzzzzz"}) {
            refuses(2, FOUR + "place ^" + name + " trust 1;");
            refuses(2, FOUR + "place " + name.substring(0, 6) + " trust 1;seen ^" + name + " month 1 on 29;");
            refuses(2, FOUR + "place " + name.substring(0, 6) + " trust 1;place ^" + name + " trust 1;");
        }
        refuses(1, FOUR + "place ^A trust 1;");
        refuses(1, FOUR + "place ab^2 trust 1;");
        says(0, "a NAME not as said, told already (place), not told");
        for (String other : new String[] {"b", "aa", "abcdeg", "abcde", "abcdef"}) {
            refuses(2, ONE_PLACE + "seen ^" + other + " month 1 on 29;");
            refuses(2, ONE_PLACE + "clear ^" + other);
            refuses(2, ONE_PLACE + "cloud ^" + other + " month 99");
            takes(3, ONE_PLACE + "place " + other + " trust 1;");
            refuses(2, ONE_PLACE + "place " + other + " trust 1;place ^" + other + " trust 2;");
        }
        refuses(2, FOUR + "seen ^a month 1 on 29;place a trust 1;");
        refuses(2, FOUR + "seen ^a month 1 on 29;");
        // A REPORT's NAME is told already, and may be; it may be told again and again.
        takes(5, ONE_PLACE + "seen a month 1 on 29;seen a month 1 on 29;cloud a month 1 on 29;");
    }

    private static void faultPlaces() {
        says(0, "FAULTS, the first by its place (a TOKEN's first byte; the end's)");
        refuses(1, "almanac^");
        refuses(1, "almanac   ^");
        refuses(1, "almanac \n^");
        refuses(1, "almanac months 4 full 2 lean 2  \n  ^");
        refuses(2, "almanac   months   ^0025 full 2 lean 2;");
        refuses(1, "\n\n ^almanax months 25;");
        refuses(1, "almanac months 2 full 1 lean 1;\n\n ^sight#;");
        // Of two, the one ahead, whatever it is.
        refuses(1, "almanac ^month 25 full 9 lean 2;");
        refuses(2, "almanac months ^25 ful 2 lean 2;");
        refuses(2, "almanac months ^25 full 0 lean 0;");
        refuses(2, FOUR + "place ^abcdefg trust 1;place a trust 1;place a trust 1;");
        refuses(2, FOUR + "moon ^100000 step 29000;moon 0 step 29000;");
        refuses(3, FOUR + "moon 0 step 29000;^moon 100000 step 1;");
        refuses(3, FOUR + "moon 0 step 29000;^moon#");
        refuses(1, FOUR + "^# moon 0 step 29000;moon");
        refuses(1, FOUR + "moon 0 step 29000 ^moon;");
        refuses(2, ONE_PLACE + "seen a month ^4 on 1000 known 5;");
        refuses(2, ONE_PLACE + "seen a month 3 on ^1000 known 5;");
        refuses(2, ONE_PLACE + "seen a month 3 on 6 known ^5 known;");
        refuses(2, FOUR + "deed month ^4 day 31 for 601 days;");
        refuses(2, FOUR + "deed month 3 day ^31 for 601 days;");
        refuses(1, FOUR + "deed month 3 day 30 ^fur 601 days;");
    }

    private static void faultKinds() {
        says(0, "of one place the least");
        // No word and no number: it can't stand there, whatever else it is not.
        refuses(1, FOUR + "place ^1234567 trust 1;");
        refuses(1, FOUR + "seen ^7 month 1 on 1;");
        refuses(1, "almanac months ^full 99;");
        refuses(1, "^place a trust 1;");
        refuses(1, FOUR + "moon 0 step 29000;^almanac");
        refuses(1, FOUR + "moon 0 step 29000;^moonmoon");
    }

    private static void tooMany() {
        says(0, "3 a second moon, a seventh place, a 25th REPORT, a ninth deed, at its word");
        String six = "place a trust 1;place b trust 1;place c trust 1;place d trust 1;place e trust 1;place f trust 1;";
        takes(7, FOUR + six);
        for (String rest : new String[] {"", " ", " g trust 1;", " a trust 1;", " 7", "#"}) {
            refuses(3, FOUR + six + "^place" + rest);
            refuses(3, ONE_PLACE + reports(24) + "^seen" + rest);
            refuses(3, ONE_PLACE + reports(24) + "^clear" + rest);
            refuses(3, ONE_PLACE + reports(24) + "^cloud" + rest);
            refuses(3, FOUR + deeds(8) + "^deed" + rest);
            refuses(3, FOUR + "moon 0 step 29000;^moon" + rest);
        }
        takes(26, ONE_PLACE + reports(24));
        takes(9, FOUR + deeds(8));
        takes(1 + 1 + 6 + 24 + 8, shortest(6, 24, 8));
        refuses(3, shortest(6, 24, 8) + "^moon");
        refuses(3, shortest(6, 24, 8) + "^place");
        refuses(3, shortest(6, 24, 8) + "^seen");
        refuses(3, shortest(6, 24, 8) + "^deed");
        refuses(1, shortest(6, 24, 8) + "^x");
        // What is full of one kind has room for the others.
        takes(8, FOUR + six + "moon 0 step 29000;");
        takes(27, ONE_PLACE + reports(24) + "place b trust 1;");
        takes(10, FOUR + deeds(8) + "place b trust 1;");
    }

    /** All that a TEXT may have. */
    private static String shortest(int places, int reports, int deeds) {
        StringBuilder text = new StringBuilder("almanac months4full2lean2;moon0step29000;");
        for (int i = 0; i < places; i++) {
            text.append("place ").append((char) ('a' + i)).append(" trust1;");
        }
        text.append("seen a month1on29;".repeat(reports));
        text.append("deed month0day1for1days;".repeat(deeds));
        return text.toString();
    }

    // ---- promises 7 to 9

    private static void whatWasTold() {
        SightedMonths x = Texts.of(FOUR + "place b trust 0;place ab trust 9;place a trust 5;seen a month 3 on 0 known 999;"
            + "clear ab month 1 on 999;cloud a month 2 on 5;deed month 3 day 30 for 0 months;deed month 0 day 1 for 600 days;");
        says(7, "what 0: its trust, 1: which it is by NAME (from 0), 2: how many REPORTS of it are not struck. -2: there are none such.");
        int[][] places = {{0, 2, 0}, {9, 1, 1}, {5, 0, 2}};
        for (int place = 0; place < 3; place++) {
            for (int what = 0; what < 3; what++) {
                due(places[place][what], x.place(place, what));
            }
        }
        SightedMonths inOrder = Texts.of(FOUR + "place a trust 0;place aa trust 0;place ab trust 0;place b trust 0;place zz trust 0;"
            + "place zzz trust 0;");
        for (int place = 0; place < 6; place++) {
            due(place, inOrder.place(place, 1));
        }
        says(8, "what 0: its PLACE, 1: 0 seen, 1 clear, 2 cloud, 3 struck, 2: MONTH, 3: D, 4: K. -2: there are none such.");
        int[][] reports = {{2, 0, 3, 0, 999}, {1, 1, 1, 999, 999}, {2, 2, 2, 5, 5}};
        for (int report = 0; report < 3; report++) {
            for (int what = 0; what < 5; what++) {
                due(reports[report][what], x.report(report, what));
            }
        }
        x.strikes(2);
        int[] struck = {2, 3, 2, 5, 5};
        for (int what = 0; what < 5; what++) {
            due(struck[what], x.report(2, what));
        }
        due(1, x.place(2, 2));
        x.strikes(0);
        due(0, x.place(2, 2));
        due(1, x.place(1, 2));
        says(9, "what 0: MONTH, 1: DAY of it, 2: N, 3: 0 months, 1 days. -2: there are none such.");
        int[][] deeds = {{3, 30, 0, 0}, {0, 1, 600, 1}};
        for (int deed = 0; deed < 2; deed++) {
            for (int what = 0; what < 4; what++) {
                due(deeds[deed][what], x.deed(deed, what));
            }
        }
    }
}
