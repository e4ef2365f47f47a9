import java.util.Arrays;
import java.util.List;
import java.util.function.Supplier;

/**
 * What there is not, by every number of every call: one below the least, one above the greatest, and the outermost ints are
 * refused; the least and the greatest are not. What is refused, and what only asks, changes nothing.
 */
public final class RefusalTest {
    private static final int LEAST = Integer.MIN_VALUE;
    private static final int MOST = Integer.MAX_VALUE;

    private static final String SMALL = "almanac months 2 full 1 lean 1;moon 0 step 29000;place a trust 4;seen a month 1 on 28;"
        + "deed month 1 day 30 for 0 months;";
    private static final String MIDDLE = "almanac months 5 full 3 lean 2;moon 300 step 29400;place b trust 3;place cd trust 7;"
        + "place ab trust 3;seen b month 1 on 28;seen b month 1 on 29 known 40;clear ab month 2 on 58 known 60;"
        + "cloud cd month 4 on 117;seen cd month 3 on 88 known 95;seen b month 3 on 89;deed month 1 day 30 for 2 months;"
        + "deed month 0 day 1 for 88 days;";

    private static final Checks CHECKS = new Checks("RefusalTest");

    private RefusalTest() {
    }

    public static void main(String[] args) {
        for (String text : new String[] {SMALL, MIDDLE, large()}) {
            edges(text, Calls.ASKING);
            edges(text, Calls.CHANGING);
            comings(text);
        }
        withoutAlmanac();
        nothingOfItsKind();
        refusedAhead();
        askingChangesNothing();
        refusedChangesNothing();
        CHECKS.end();
    }

    /** As much of all as there may be. */
    private static String large() {
        StringBuilder text = new StringBuilder("almanac months24full5lean5;moon99999step31000;");
        for (int i = 0; i < 6; i++) {
            text.append("place ").append((char) ('f' - i)).append(" trust").append(i).append(';');
        }
        text.append("seen a month1on29;clear b month2on58;".repeat(12));
        text.append("deed month23day30for0months;".repeat(4)).append("deed month0day1for600days;".repeat(4));
        return text.toString();
    }

    private static int refusal(String name) {
        return name.equals("moved") ? -2000 : -2;
    }

    private static int ask(Supplier<SightedMonths> made, String name, int[] args) {
        return Calls.call(made.get(), name, args);
    }

    private static void edges(String text, String[] calls) {
        CHECKS.says(0, "-2: there is no ALMANAC, no such T, MONTH, day (where no other is told: any int), PLACE, REPORT, DEED, "
            + "what (where nothing else is told).");
        Supplier<SightedMonths> made = () -> Texts.of(text);
        for (String call : calls) {
            String[] words = call.split(" ");
            int[] low = new int[words.length - 1];
            int[] high = new int[low.length];
            for (int a = 0; a < low.length; a++) {
                int[] range = Calls.range(made.get(), words[a + 1].charAt(0));
                low[a] = range[0];
                high[a] = range[1];
            }
            for (int a = 0; a < low.length; a++) {
                for (int[] others : new int[][] {low, high}) {
                    edge(made, words[0], others, a, low[a], high[a]);
                }
            }
        }
    }

    private static void edge(Supplier<SightedMonths> made, String name, int[] others, int at, int least, int most) {
        int[] args = others.clone();
        // runs() may be refused by -5 as well; that is no -2.
        for (int there : new int[] {least, most}) {
            args[at] = there;
            int got = ask(made, name, args);
            CHECKS.isSo(name + Arrays.toString(args) + " is there, answered " + got, got != refusal(name));
        }
        if (least != LEAST) {
            for (int below : new int[] {least - 1, LEAST, Math.min(-1, least - 1)}) {
                args[at] = below;
                CHECKS.due(name + Arrays.toString(args), refusal(name), ask(made, name, args));
            }
        }
        if (most != MOST) {
            for (int above : new int[] {most + 1, MOST}) {
                args[at] = above;
                CHECKS.due(name + Arrays.toString(args), refusal(name), ask(made, name, args));
            }
        }
    }

    private static void coming(String text, int want, int... args) {
        SightedMonths x = Texts.of(text);
        int before = x.count(4);
        int got = Calls.call(x, "reports", args);
        boolean full = before == 24 && want >= 0;
        CHECKS.due("reports" + Arrays.toString(args), full ? -5 : want < 0 ? want : before, got);
        CHECKS.due("count(4) then", got < 0 ? before : before + 1, x.count(4));
    }

    private static void comings(String text) {
        CHECKS.says(51, "A REPORT comes (kind 0 seen, 1 clear, 2 cloud): its number. -2: there are none such, no ALMANAC");
        SightedMonths x = Texts.of(text);
        int places = x.count(3);
        int months = x.count(0);
        int[][] right = {{0, 0, 1, 0, 0}, {places - 1, 2, months - 1, 999, 999}, {0, 1, 1, 0, 999}, {0, 0, 1, 998, 999}};
        int[] below = {-1, -1, 0, -1, -1};
        int[] above = {places, 3, months, 1000, 1000};
        for (int[] args : right) {
            coming(text, 0, args);
            for (int at = 0; at < 5; at++) {
                int[] wrong = args.clone();
                for (int value : new int[] {below[at], above[at], LEAST, MOST}) {
                    wrong[at] = value;
                    coming(text, -2, wrong);
                }
            }
        }
        coming(text, -2, 0, 0, 1, 5, 4);
        coming(text, 0, 0, 0, 1, 5, 5);
        coming(text, -2, 0, 0, 1, 999, 998);
        coming(text, -2, 0, 0, 1, 1000, 1000);
        coming(text, -2, 0, 0, 1, -1, 0);
    }

    private static void withoutAlmanac() {
        CHECKS.says(0, "-2: there is no ALMANAC");
        Supplier<SightedMonths> fresh = SightedMonths::new;
        Supplier<SightedMonths> gone = () -> {
            SightedMonths x = Texts.of(MIDDLE);
            x.ways(999);
            x.shifts(1);
            Texts.tell(x, "\n");
            return x;
        };
        Supplier<SightedMonths> faulty = () -> Texts.of(MIDDLE + "#");
        for (Supplier<SightedMonths> made : List.of(fresh, gone, faulty)) {
            for (String[] calls : new String[][] {Calls.ASKING, Calls.CHANGING}) {
                for (String call : calls) {
                    String[] words = call.split(" ");
                    int[] args = new int[words.length - 1];
                    int[] ones = new int[words.length - 1];
                    for (int a = 0; a < args.length; a++) {
                        int least = Calls.range(Texts.of(SMALL), words[a + 1].charAt(0))[0];
                        args[a] = least == LEAST ? 0 : least;
                        ones[a] = Math.max(1, args[a]);
                    }
                    CHECKS.due(words[0] + " least", refusal(words[0]), ask(made, words[0], args));
                    CHECKS.due(words[0] + " ones", refusal(words[0]), ask(made, words[0], ones));
                }
            }
            CHECKS.due("reports", -2, made.get().reports(0, 0, 1, 0, 0));
            CHECKS.due("count(0)", 0, made.get().count(0));
        }
    }

    /** An ALMANAC of one LINE has no PLACE, no REPORT, no DEED, no moon. */
    private static void nothingOfItsKind() {
        CHECKS.says(0, "PLACE, REPORT, DEED");
        SightedMonths x = Texts.of("almanac months 4 full 2 lean 2;");
        int[] got = {x.place(0, 0), x.report(0, 0), x.deed(0, 0), x.judged(0, 0), x.against(0, 0), x.due(0, 0), x.dueSpan(0, 0, 0),
            x.dueOn(0, 0, 0), x.redated(0), x.longer(0, 0, 0), x.own(0, 0, 0), x.apart(0, 0, 0), x.hang(0, 0), x.trusted(0, 0),
            x.days(0, 0), x.both(0, 0), x.reports(0, 0, 1, 0, 0), x.strikes(0), x.trusts(0, 0)};
        for (int i = 0; i < got.length; i++) {
            CHECKS.due("call " + i, -2, got[i]);
        }
        CHECKS.says(10, "-2: there is none such, no moon.");
        CHECKS.due(-2, x.early(1));
        CHECKS.due(-2, x.early(4));
        CHECKS.says(47, "-2: there is no moon.");
        CHECKS.due(-2, x.nearest(0, 0));
        CHECKS.due(-2, x.nearest(0, 1));
        CHECKS.due(29, x.moon(0, 29000));
        CHECKS.due(29, x.early(1));
        CHECKS.due(116, x.early(4));
        CHECKS.due(1, x.nearest(0, 0));
        CHECKS.says(12, "How many REPORTS are TAKEN by T. -2.");
        CHECKS.due(0, x.taken(0));
        CHECKS.due(0, x.taken(999));
    }

    /** What is not there is refused, even where the answer would be NONE or -5. */
    private static void refusedAhead() {
        SightedMonths x = Texts.of(MIDDLE);
        CHECKS.says(13, "NONE: not so many; -2 (i below 0, too)");
        CHECKS.due(-2, x.order(1000, MOST));
        CHECKS.due(-2, x.order(-1, 99));
        CHECKS.says(23, "NONE: there are not so many; -2 (i below 0, too)");
        CHECKS.due(-2, x.ranked(0, MOST, 6));
        CHECKS.due(-2, x.ranked(0, MOST, -1));
        CHECKS.due(-2, x.ranked(1000, MOST, 0));
        CHECKS.due(-1, x.ranked(0, MOST, 5));
        CHECKS.says(24, "NONE: none by T; -2 (other bits, too)");
        CHECKS.due(-2, x.rank(1000, 0));
        CHECKS.due(-1, x.rank(999, 0));
        CHECKS.says(27, "NONE: it is not ahead of the END; -2");
        CHECKS.due(-2, x.date(1000, 999));
        CHECKS.due(-2, x.date(0, 1000));
        CHECKS.due(-1, x.date(0, 999));
        CHECKS.says(29, "NONE: in none; -2");
        CHECKS.due(-2, x.likely(1000, 999));
        CHECKS.due(-1, x.likely(0, 999));
        CHECKS.says(42, "NONE: by none; -2: there is none such, it is struck.");
        CHECKS.due(-1, x.trusted(999, 0));
        CHECKS.due(-2, x.trusted(1000, 0));
        CHECKS.due(5, x.strikes(0));
        CHECKS.due(-2, x.trusted(999, 0));
        CHECKS.due(-2, x.trusted(0, 0));
        CHECKS.says(40, "-2: there is none such, it is struck.");
        CHECKS.due(-2, x.hang(999, 0));
        CHECKS.due(-2, x.hang(0, 0));
        CHECKS.due(0, x.hang(0, 1));
        CHECKS.says(52, "-2: there is none such; -5: it is.");
        CHECKS.due(-5, x.strikes(0));
        CHECKS.due(-2, x.strikes(6));
        CHECKS.due(-2, x.strikes(-1));
    }

    private static SightedMonths changed() {
        SightedMonths x = Texts.of(MIDDLE);
        x.strikes(3);
        x.trusts(2, 8);
        x.reports(1, 1, 4, 116, 200);
        x.tell(999);
        x.feed(1, 2, 3, 4, 5);
        return x;
    }

    private static void same(String what, List<String> before, Supplier<SightedMonths> made) {
        String unlike = Calls.unlike(before, Calls.answers(made));
        CHECKS.isSo(what + " left all as it was: " + unlike, unlike.isEmpty());
    }

    private static void askingChangesNothing() {
        CHECKS.says(38, "were there REPORTS of one PLACE alone");
        List<String> before = Calls.answers(RefusalTest::changed);
        for (String call : Calls.ASKING) {
            String[] words = call.split(" ");
            int[] args = new int[words.length - 1];
            for (int a = 0; a < args.length; a++) {
                int[] range = Calls.range(changed(), words[a + 1].charAt(0));
                args[a] = words[a + 1].equals("t") ? 95 : range[0] == LEAST ? 59 : Math.min(1, range[1]);
            }
            same(words[0], before, () -> {
                SightedMonths x = changed();
                int first = Calls.call(x, words[0], args);
                CHECKS.due(words[0] + " twice", first, Calls.call(x, words[0], args));
                return x;
            });
        }
        same("octet", before, () -> {
            SightedMonths x = changed();
            x.octet(0);
            x.octet(99);
            x.fault(0);
            x.count(4);
            return x;
        });
    }

    private static void refusedChangesNothing() {
        List<String> before = Calls.answers(RefusalTest::changed);
        CHECKS.says(2, "NONE, and none come");
        List<String> full = Calls.answers(RefusalTest::fullTape);
        same("feed", full, () -> {
            SightedMonths x = fullTape();
            CHECKS.due(-1, x.feed(1, 1, 1, 1, 1));
            return x;
        });
        CHECKS.says(3, "NONE, and nothing happens");
        same("end", before, () -> after(x -> CHECKS.due(-1, x.end(21))));
        same("end", before, () -> after(x -> CHECKS.due(-1, x.end(-1))));
        CHECKS.says(49, "-2 (OUT stays)");
        same("tell", before, () -> after(x -> CHECKS.due(-2, x.tell(1000))));
        same("tell", before, () -> after(x -> CHECKS.due(-2, x.tell(-1))));
        CHECKS.says(51, "-2: there are none such, no ALMANAC; -5: there are 24.");
        same("reports", before, () -> after(x -> CHECKS.due(-2, x.reports(0, 0, 1, 30, 29))));
        List<String> twentyFour = Calls.answers(RefusalTest::fullOfReports);
        same("reports", twentyFour, () -> {
            SightedMonths x = fullOfReports();
            CHECKS.due(-5, x.reports(0, 0, 1, 29, 29));
            return x;
        });
        CHECKS.says(52, "-2: there is none such; -5: it is.");
        same("strikes", before, () -> after(x -> CHECKS.due(-5, x.strikes(3))));
        same("strikes", before, () -> after(x -> CHECKS.due(-2, x.strikes(7))));
        CHECKS.says(53, "-2: there are none such.");
        same("trusts", before, () -> after(x -> CHECKS.due(-2, x.trusts(0, 10))));
        same("trusts", before, () -> after(x -> CHECKS.due(-2, x.trusts(3, 0))));
        CHECKS.says(54, "-2: there are none such, no ALMANAC.");
        same("moon", before, () -> after(x -> CHECKS.due(-2, x.moon(100000, 29000))));
        same("moon", before, () -> after(x -> CHECKS.due(-2, x.moon(0, 31001))));
        CHECKS.says(55, "-5, and nothing happens");
        same("runs", before, () -> after(x -> CHECKS.due(-5, x.runs(1, 1))));
        same("runs", before, () -> after(x -> CHECKS.due(-2, x.runs(1, 6))));
        same("runs", before, () -> after(x -> CHECKS.due(-2, x.runs(0, 1))));
    }

    private static SightedMonths after(java.util.function.Consumer<SightedMonths> call) {
        SightedMonths x = changed();
        call.accept(x);
        return x;
    }

    private static SightedMonths fullTape() {
        SightedMonths x = changed();
        for (int n = 0; n < 79; n++) {
            x.feed(n, 0, 0, 0, 0);
        }
        return x;
    }

    private static SightedMonths fullOfReports() {
        SightedMonths x = changed();
        for (int n = x.count(4); n < 24; n++) {
            x.reports(n % 3, n % 2 + 1, 2 + n % 2, 57 + n, 60 + n);
        }
        return x;
    }
}
