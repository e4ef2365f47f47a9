import java.io.IOException;
import java.nio.charset.StandardCharsets;
import java.nio.file.Files;
import java.nio.file.Path;
import java.util.ArrayList;
import java.util.List;
import java.util.regex.Matcher;
import java.util.regex.Pattern;
import java.util.stream.Collectors;
import java.util.stream.Stream;

/**
 * From the document's first line to its last: the face as it is written there, the sentences that name no edge (the others stand in
 * the bounds tests), and that no sentence stands without a check.
 */
public final class WholeDocumentTest {
    /** Of four MONTHS with F and L 2, in the order of ranked(): 1 is a MONTH of 30 days. */
    private static final String[] CALENDARS = {"0010", "0011", "0100", "0101", "0110", "1001", "1010", "1011", "1100", "1101"};
    private static final String FOUR = "almanac months 4 full 2 lean 2;";
    /** By 28 MONTH 1 BEGINS on 29 (0...), by 40 it BEGINS later (1...), as kish is trusted more. */
    private static final String TEXT = FOUR + "moon 0 step 28900;place ur trust 4;place kish trust 7;seen ur month 1 on 28;"
        + "clear kish month 1 on 28 known 40;seen ur month 2 on 57;cloud ur month 3 on 88;deed month 0 day 30 for 1 months;"
        + "deed month 0 day 10 for 50 days;";
    private static final int[] TIMES = {0, 27, 28, 39, 40, 57, 88, 999};

    private static final Checks CHECKS = new Checks("WholeDocumentTest");

    private WholeDocumentTest() {
    }

    public static void main(String[] args) throws IOException {
        manyCalls();
        face();
        calendars();
        counts();
        judging();
        official();
        nearestOfAll();
        weekdays();
        numbersOfLines();
        nothingUnchecked();
        CHECKS.end();
    }

    private static void due(int want, int got) {
        CHECKS.due(want, got);
    }

    // ---- "What it is", "The public face"

    /** An object that has had 511 calls answers as a new one does. */
    private static void manyCalls() {
        CHECKS.says(-1, "An object is used for at most 512 calls after it has been made");
        for (String call : Calls.ASKING) {
            String[] words = call.split(" ");
            int[] args = new int[words.length - 1];
            for (int a = 0; a < args.length; a++) {
                int[] range = Calls.range(Texts.of(TEXT), words[a + 1].charAt(0));
                args[a] = words[a + 1].equals("t") ? 40 : range[0] < 0 ? 59 : Math.min(1, range[1]);
            }
            SightedMonths old = Texts.of(TEXT);
            for (int made = Texts.feeds(TEXT).size() + 2; made < 511; made++) {
                switch (made % 4) {
                    case 0:
                        old.trusts(0, 4);
                        break;
                    case 1:
                        old.ways(made);
                        break;
                    case 2:
                        old.tell(made);
                        break;
                    default:
                        old.shifts(made % 5);
                }
            }
            CHECKS.due(words[0], Calls.call(Texts.of(TEXT), words[0], args), Calls.call(old, words[0], args));
        }
    }

    /** Every line of the document's code block stands in the source, letter by letter. */
    private static void face() throws IOException {
        CHECKS.says(-1, "Months that begin as they are sighted");
        String source = Files.readString(Path.of("src/main/java/SightedMonths.java"), StandardCharsets.UTF_8);
        Path document = Path.of("../shared/DOC.md");
        if (!Files.exists(document)) {
            return;
        }
        String block = Files.readString(document, StandardCharsets.UTF_8).split("```java\n")[1].split("```")[0];
        int found = 0;
        for (String line : block.split("\n")) {
            String member = line.replaceFirst("\\);$", ") {");
            CHECKS.isSo(member, source.contains("\n" + member + "\n"));
            found += member.startsWith("    public ") ? 1 : 0;
        }
        int members = source.split("\n    public ", -1).length - 1;
        CHECKS.due("members of the face", found, members);
    }

    // ---- the CALENDARS written out

    private static int begin(String calendar, int month) {
        return 29 * month + (int) calendar.chars().limit(month).filter(c -> c == '1').count();
    }

    private static int fullBits(String calendar) {
        return Integer.parseInt(new StringBuilder(calendar).reverse().toString(), 2);
    }

    private static List<String> left(int t) {
        List<String> left = new ArrayList<>();
        for (String calendar : CALENDARS) {
            if (t < 28 || calendar.charAt(0) == (t < 40 ? '0' : '1')) {
                left.add(calendar);
            }
        }
        return left;
    }

    private static void calendars() {
        SightedMonths x = Texts.of(FOUR);
        CHECKS.says(0, "CALENDAR: MONTHS, each of 29 or 30 days; at most F of 30 one behind the other, at most L of 29.");
        due(CALENDARS.length, x.ways(0));
        CHECKS.says(23, "BEGIN of a MONTH (0 .. MONTHS) by the i-th CALENDAR (from 0): in order of their first MONTH, the second .., "
            + "29 days ahead of 30.");
        for (int i = 0; i < CALENDARS.length; i++) {
            for (int month = 0; month <= 4; month++) {
                due(begin(CALENDARS[i], month), x.ranked(0, i, month));
            }
        }
        SightedMonths y = Texts.of(TEXT);
        for (int t : TIMES) {
            List<String> left = left(t);
            for (int i = 0; i < left.size(); i++) {
                due(begin(left.get(i), 3), y.ranked(t, i, 3));
                due(i, y.rank(t, fullBits(left.get(i))));
            }
            due(-1, y.ranked(t, left.size(), 3));
        }
    }

    private static void counts() {
        SightedMonths x = Texts.of(TEXT);
        CHECKS.says(6, "0 MONTHS, 1 F, 2 L, 3 PLACES, 4 REPORTS (struck ones, too), 5 DEEDS, 6 LINES, 7 bytes of the TAPE, 8 of OUT, "
            + "9 A, 10 S (0, 0 without a moon).");
        int[] due = {4, 2, 2, 2, 4, 2, 10, 0, 0, 0, 28900};
        for (int what = 0; what < due.length; what++) {
            due(due[what], x.count(what));
        }
        SightedMonths other = Texts.of("almanac months 24 full 5 lean 1;moon 99999 step 31000;");
        int[] others = {24, 5, 1, 0, 0, 0, 2, 0, 0, 99999, 31000};
        for (int what = 0; what < others.length; what++) {
            due(others[what], other.count(what));
        }
        CHECKS.says(7, "Of a PLACE, what 0: its trust, 1: which it is by NAME (from 0), 2: how many REPORTS of it are not struck.");
        int[][] places = {{4, 1, 3}, {7, 0, 1}};
        for (int place = 0; place < 2; place++) {
            for (int what = 0; what < 3; what++) {
                due(places[place][what], x.place(place, what));
            }
        }
        CHECKS.says(8, "Of a REPORT, what 0: its PLACE, 1: 0 seen, 1 clear, 2 cloud, 3 struck, 2: MONTH, 3: D, 4: K.");
        int[][] reports = {{0, 0, 1, 28, 28}, {1, 1, 1, 28, 40}, {0, 0, 2, 57, 57}, {0, 2, 3, 88, 88}};
        for (int report = 0; report < 4; report++) {
            for (int what = 0; what < 5; what++) {
                due(reports[report][what], x.report(report, what));
            }
        }
        CHECKS.says(9, "Of a DEED, what 0: MONTH, 1: DAY of it, 2: N, 3: 0 months, 1 days.");
        int[][] deeds = {{0, 30, 1, 0}, {0, 10, 50, 1}};
        for (int deed = 0; deed < 2; deed++) {
            for (int what = 0; what < 4; what++) {
                due(deeds[deed][what], x.deed(deed, what));
            }
        }
    }

    private static void judging() {
        SightedMonths x = Texts.of(TEXT);
        int[][] verdicts = {{3, 3, 3, 3}, {3, 3, 3, 3}, {0, 3, 3, 3}, {0, 3, 3, 3}, {2, 0, 3, 3}, {2, 0, 2, 3}, {2, 0, 2, 0},
            {2, 0, 2, 0}};
        int[][] orders = {{}, {}, {0}, {0}, {1, 0}, {1, 0, 2}, {1, 0, 2, 3}, {1, 0, 2, 3}};
        for (int i = 0; i < TIMES.length; i++) {
            CHECKS.says(11, "How a REPORT is JUDGED by T: 0 TAKEN, 1, 2 REFUSED so, 3 not KNOWN, struck. -2: there are none such.");
            for (int report = 0; report < 4; report++) {
                due(verdicts[i][report], x.judged(TIMES[i], report));
            }
            due(-2, x.judged(TIMES[i], 4));
            CHECKS.says(13, "The i-th REPORT (from 0) in the order in which those KNOWN by T are JUDGED.");
            for (int turn = 0; turn < 4; turn++) {
                due(turn < orders[i].length ? orders[i][turn] : -1, x.order(TIMES[i], turn));
            }
            CHECKS.says(14, "Of a REPORT that is REFUSED by T as 2: REPORTS TAKEN by T, as bits");
            for (int report = 0; report < 4; report++) {
                due(verdicts[i][report] == 2 ? 2 : 0, x.against(TIMES[i], report));
            }
            due(-2, x.against(TIMES[i], 4));
        }
        CHECKS.says(14, "-2: there are none such.");
        due(-2, x.against(999, -1));
        CHECKS.says(40, "MONTHS (bits 1 .. MONTHS) whose BEGINS by the OFFICIAL one by T would not be the same, were a REPORT not there.");
        // Without what kish tells, ur is TAKEN twice: 29 58 88 118, in place of 30 60 89 119.
        due(0b11110, x.hang(999, 1));
        due(0b10110, x.hang(39, 0));
        due(0, x.hang(39, 1));
        due(0, x.hang(999, 0));
        due(0, x.hang(999, 3));
    }

    // ---- what is asked of all that are left

    private static void official() {
        SightedMonths x = Texts.of(TEXT);
        for (int t : TIMES) {
            List<String> left = left(t);
            String official = left.get(left.size() - 1);
            CHECKS.says(17, "BEGIN of a MONTH (0 .. MONTHS; MONTHS: the END) by the OFFICIAL one by T.");
            StringBuilder told = new StringBuilder();
            for (int month = 0; month <= 4; month++) {
                due(begin(official, month), x.begin(t, month));
                told.append(month == 4 ? "" : official.charAt(month) == '1' ? "30 " : "29 ");
            }
            CHECKS.says(49, "The OFFICIAL CALENDAR by T is TOLD in OUT: how many bytes: 29, 30 of each MONTH, a blank between.");
            due(11, x.tell(t));
            for (int i = 0; i < 11; i++) {
                due(told.charAt(i), x.octet(i));
            }
            due(-1, x.octet(11));
        }
    }

    private static void nearestOfAll() {
        CHECKS.says(47, "That CALENDAR by T by which all BEGINS of MONTHS 1 .. MONTHS are nearest to EARLY and 1 (by how many days off, "
            + "together), of like ones the first (as ranked())");
        int[][] moons = {{0, 28900}, {0, 29500}, {400, 29600}, {999, 30000}, {700, 29300}, {99999, 28000}};
        for (int[] moon : moons) {
            SightedMonths x = Texts.of(TEXT);
            x.strikes(2);
            x.moon(moon[0], moon[1]);
            for (int t : TIMES) {
                // A moon that is later makes what ur has seen too EARLY.
                boolean early = 28 < (moon[0] + moon[1]) / 1000;
                int best = Integer.MAX_VALUE;
                String first = "";
                for (String calendar : early && t < 40 ? List.of(CALENDARS) : left(t)) {
                    int off = 0;
                    for (int month = 1; month <= 4; month++) {
                        off += Math.abs(begin(calendar, month) - (moon[0] + month * moon[1]) / 1000 - 1);
                    }
                    first = off < best ? calendar : first;
                    best = Math.min(best, off);
                }
                due(best, x.nearest(t, 0));
                due(fullBits(first), x.nearest(t, 1));
            }
        }
    }

    private static void weekdays() {
        CHECKS.says(44, "In how many CALENDARS by T the DAY of a date (as day()) is on a day of the WEEK (0 .. 6: the day modulo 7).");
        SightedMonths x = Texts.of(TEXT);
        for (int t : new int[] {0, 28, 40}) {
            for (int month = 0; month < 4; month++) {
                for (int k : new int[] {1, 29, 30}) {
                    int[] many = new int[7];
                    for (String calendar : left(t)) {
                        many[Math.min(begin(calendar, month) + k, begin(calendar, month + 1)) % 7]++;
                    }
                    for (int week = 0; week < 7; week++) {
                        // The k-th day is the one ahead of BEGIN and k.
                        due(many[(week + 1) % 7], x.weekday(t, month, k, week));
                    }
                }
                x = Texts.of(TEXT);
            }
        }
    }

    /** Each number of each LINE, one too small and one too great, and no number at all. */
    private static void numbersOfLines() {
        String head = "almanac months 9 full 3 lean 3;place ur trust 1;";
        String[] lines = {"almanac months 2..24 full 1..5 lean 1..5;", head + "moon 0..99999 step 28000..31000;",
            head + "place b trust 0..9;", head + "seen ur month 1..8 on 0..999;", head + "clear ur month 1..8 on 7 known 7..999;",
            head + "cloud ur month 1..8 on 999 known 999..999;", head + "deed month 0..8 day 1..30 for 0 months;",
            head + "deed month 8 day 1..30 for 0..0 months;", head + "deed month 3 day 1..30 for 0..5 months;",
            head + "deed month 0..8 day 1..30 for 0..600 days;"};
        Pattern bounds = Pattern.compile("(\\d+)\\.\\.(\\d+)");
        for (String line : lines) {
            String least = bounds.matcher(line).replaceAll("$1");
            Matcher found = bounds.matcher(line);
            CHECKS.says(0, "2 a number out of its bounds");
            CHECKS.isSo(least + " stands", Texts.tell(new SightedMonths(), least) > 0);
            while (found.find()) {
                int place = bounds.matcher(line.substring(0, found.start())).replaceAll("$1").length();
                String ahead = least.substring(0, place);
                String behind = bounds.matcher(line.substring(found.end())).replaceAll("$1");
                int low = Integer.parseInt(found.group(1));
                int high = Integer.parseInt(found.group(2));
                faultAt(place, ahead + (high + 1) + behind, 2);
                if (low > 0) {
                    faultAt(place, ahead + (low - 1) + behind, 2);
                }
                faultAt(place, ahead + "4294967297" + behind, 2);
                faultAt(place, ahead + "x" + behind, 1);
            }
        }
    }

    private static void faultAt(int place, String text, int kind) {
        SightedMonths x = new SightedMonths();
        CHECKS.due(text, -4, Texts.tell(x, text));
        CHECKS.due(text, kind, x.fault(0));
        CHECKS.due(text, place, x.fault(1));
    }

    // ---- no sentence without a check

    /** What the tests quote is taken out of the document: but for headings, signatures and refusals, nothing may be left. */
    private static void nothingUnchecked() throws IOException {
        CHECKS.says(-1, "An object is used for at most 512 calls after it has been made; what later calls answer is free.");
        Pattern literals = Pattern.compile("(?:says\\((-?\\d+),|ahead\\()\\s*((?:\"(?:[^\"\\\\]|\\\\.)*\"\\s*\\+?\\s*)+)");
        String[] parts = new String[56];
        boolean[][] quoted = new boolean[parts.length][];
        for (int promise = 0; promise < parts.length; promise++) {
            parts[promise] = CHECKS.part(promise);
            quoted[promise] = new boolean[parts[promise].length()];
        }
        for (String source : sources()) {
            Matcher literal = literals.matcher(source);
            while (literal.find()) {
                int promise = literal.group(1) == null ? 0 : Integer.parseInt(literal.group(1));
                if (promise >= 0) {
                    mark(parts[promise], quoted[promise], Checks.plain(joined(literal.group(2))));
                }
            }
        }
        for (int promise = 0; promise < parts.length; promise++) {
            String rest = unmarked(parts[promise], quoted[promise]);
            CHECKS.isSo("part " + promise + ", unchecked: " + rest, rest.isEmpty());
        }
    }

    private static List<String> sources() throws IOException {
        List<Path> paths;
        try (Stream<Path> files = Files.list(Path.of("src/test/java"))) {
            paths = files.filter(f -> f.toString().endsWith("Test.java")).sorted().collect(Collectors.toList());
        }
        List<String> sources = new ArrayList<>();
        for (Path path : paths) {
            sources.add(Files.readString(path, StandardCharsets.UTF_8));
        }
        return sources;
    }

    private static String joined(String literals) {
        Matcher parts = Pattern.compile("\"((?:[^\"\\\\]|\\\\.)*)\"").matcher(literals);
        StringBuilder text = new StringBuilder();
        while (parts.find()) {
            text.append(parts.group(1).replace("\\\"", "\""));
        }
        return text.toString();
    }

    private static void mark(String part, boolean[] quoted, String quote) {
        for (int at = part.indexOf(quote); at >= 0; at = part.indexOf(quote, at + 1)) {
            java.util.Arrays.fill(quoted, at, at + quote.length(), true);
        }
    }

    private static String unmarked(String part, boolean[] quoted) {
        StringBuilder rest = new StringBuilder();
        for (int i = 0; i < quoted.length; i++) {
            rest.append(quoted[i] ? '\u0000' : part.charAt(i));
        }
        // RefusalTest has every -2 of every call under the sentence of the terms that tells of it.
        return rest.toString().replaceFirst("## (Terms|Promise \\d+: \\w+( new object)?)", "").replaceFirst("`[^`]*\\)`:", "")
            .replaceAll("```(text)?", "").replaceAll("-2: there are none such", "").replaceAll("-2", "")
            .replaceAll("\\b(I|II|III)\\. ?(LINE:|DEED:)?|LINE:|DEED:|REFUSED:", "").replaceAll("They are JUDGED one by one:", "")
            .replaceAll("[\\s\u0000.,:;|]+", " ").trim();
    }
}
