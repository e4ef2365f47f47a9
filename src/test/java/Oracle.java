import java.util.ArrayList;
import java.util.Comparator;
import java.util.HashMap;
import java.util.HashSet;
import java.util.List;
import java.util.Map;
import java.util.Set;
import java.util.TreeMap;
import java.util.function.Predicate;
import java.util.function.ToIntFunction;

/**
 * The document said over again as plainly as can be: every CALENDAR is written out, and every answer is found by going
 * through all of them. Slow, and on purpose unlike the class that it is held against.
 */
final class Oracle {
    static final class Place {
        String name;
        int trust;
    }

    static final class Report {
        int number;
        int place;
        int kind;
        int month;
        int day;
        int known;
        boolean struck;
    }

    static final class Deed {
        int month;
        int day;
        int length;
        boolean inDays;
    }

    /** What stands until a text tells another one. */
    static final class Book {
        int months;
        int full;
        int lean;
        int lines;
        boolean hasMoon;
        int moonA;
        int moonS;
        List<Place> places = new ArrayList<>();
        List<Report> reports = new ArrayList<>();
        List<Deed> deeds = new ArrayList<>();
    }

    static final class Fault extends RuntimeException {
        private static final long serialVersionUID = 1L;
        final int kind;
        final int place;

        Fault(int kind, int place) {
            this.kind = kind;
            this.place = place;
        }
    }

    /** A CALENDAR: BEGINS 0 .. MONTHS. */
    static final class Calendar {
        final int[] begins;
        final int bits;

        Calendar(int months, int bits) {
            this.bits = bits;
            begins = new int[months + 1];
            for (int m = 0; m < months; m++) {
                begins[m + 1] = begins[m] + 29 + (bits >> m & 1);
            }
        }

        int lasts(int m) {
            return begins[m + 1] - begins[m];
        }

        int dayOf(int m, int k) {
            return begins[m] + Math.min(k, lasts(m)) - 1;
        }

        int ends(Deed d) {
            return d.inDays ? dayOf(d.month, d.day) + d.length : dayOf(d.month + d.length, d.day);
        }

        int dateOf(int day) {
            for (int m = 0; m < begins.length - 1; m++) {
                if (day >= begins[m] && day < begins[m + 1]) {
                    return 100 * m + day - begins[m] + 1;
                }
            }
            return -1;
        }
    }

    static final class Judged {
        final Map<Integer, Integer> verdicts = new TreeMap<>();
        final List<Integer> queue = new ArrayList<>();
        List<Calendar> left;
    }

    private final StringBuilder tape = new StringBuilder();
    private String out = "";
    private Book book = new Book();
    private int fault = 0;
    private int faultPlace = -1;
    private final Map<String, List<Calendar>> allKept = new HashMap<>();

    // ---- tape and text

    int feed(int a, int b, int c, int d, int e) {
        if (tape.length() + 20 > 1600) {
            return -1;
        }
        for (int n : new int[] {a, b, c, d, e}) {
            for (int shift = 24; shift >= 0; shift -= 8) {
                tape.append((char) (n >>> shift & 255));
            }
        }
        return tape.length();
    }

    int end(int n) {
        if (n < 0 || n > tape.length()) {
            return -1;
        }
        tape.setLength(n);
        return n;
    }

    int almanac() {
        String text = tape.toString();
        tape.setLength(0);
        try {
            book = new Parser(text).parse();
            fault = 0;
            faultPlace = -1;
            return book.lines;
        } catch (Fault f) {
            fault = f.kind;
            faultPlace = f.place;
            return -4;
        }
    }

    static final class Parser {
        final List<String> tokens = new ArrayList<>();
        final List<Integer> places = new ArrayList<>();
        int at = 0;
        final Book b = new Book();

        Parser(String text) {
            java.util.regex.Matcher m = java.util.regex.Pattern.compile("[a-z]+|[0-9]+|;|[^ \\n]", java.util.regex.Pattern.DOTALL)
                .matcher(text);
            while (m.find()) {
                tokens.add(m.group());
                places.add(m.start());
            }
            tokens.add("");
            places.add(text.length());
        }

        String now() {
            return tokens.get(at);
        }

        Fault wrong(int kind) {
            return new Fault(kind, places.get(at));
        }

        void word(String w) {
            if (!now().equals(w)) {
                throw wrong(1);
            }
            at++;
        }

        int number(int least, int most) {
            if (!now().matches("[0-9]+")) {
                throw wrong(1);
            }
            java.math.BigInteger v = new java.math.BigInteger(now());
            if (v.compareTo(java.math.BigInteger.valueOf(least)) < 0 || v.compareTo(java.math.BigInteger.valueOf(most)) > 0) {
                throw wrong(2);
            }
            at++;
            return v.intValue();
        }

        int name(boolean isNew) {
            if (!now().matches("[a-z]+")) {
                throw wrong(1);
            }
            int found = -1;
            for (int i = 0; i < b.places.size(); i++) {
                if (b.places.get(i).name.equals(now())) {
                    found = i;
                }
            }
            if (now().length() > 6 || isNew == (found >= 0)) {
                throw wrong(2);
            }
            at++;
            return found;
        }

        void room(boolean there) {
            if (!there) {
                throw wrong(3);
            }
            at++;
        }

        Book parse() {
            while (!now().isEmpty()) {
                line();
                word(";");
                b.lines++;
            }
            return b;
        }

        void line() {
            if (b.lines == 0) {
                word("almanac");
                word("months");
                b.months = number(2, 24);
                word("full");
                b.full = number(1, 5);
                word("lean");
                b.lean = number(1, 5);
                return;
            }
            switch (now()) {
                case "moon":
                    room(!b.hasMoon);
                    b.hasMoon = true;
                    b.moonA = number(0, 99999);
                    word("step");
                    b.moonS = number(28000, 31000);
                    break;
                case "place":
                    room(b.places.size() < 6);
                    Place p = new Place();
                    p.name = now();
                    name(true);
                    word("trust");
                    p.trust = number(0, 9);
                    b.places.add(p);
                    break;
                case "seen":
                case "clear":
                case "cloud":
                    report(List.of("seen", "clear", "cloud").indexOf(now()));
                    break;
                case "deed":
                    deed();
                    break;
                default:
                    throw wrong(1);
            }
        }

        void report(int kind) {
            room(b.reports.size() < 24);
            Report r = new Report();
            r.kind = kind;
            r.number = b.reports.size();
            r.place = name(false);
            word("month");
            r.month = number(1, b.months - 1);
            word("on");
            r.day = number(0, 999);
            r.known = r.day;
            if (now().equals("known")) {
                at++;
                r.known = number(r.day, 999);
            }
            b.reports.add(r);
        }

        void deed() {
            room(b.deeds.size() < 8);
            Deed d = new Deed();
            word("month");
            d.month = number(0, b.months - 1);
            word("day");
            d.day = number(1, 30);
            word("for");
            int back = at;
            String said = now();
            if (!said.matches("[0-9]+")) {
                throw wrong(1);
            }
            at++;
            if (!now().equals("months") && !now().equals("days")) {
                throw wrong(1);
            }
            d.inDays = now().equals("days");
            int behind = at + 1;
            at = back;
            d.length = number(0, d.inDays ? 600 : b.months - 1 - d.month);
            at = behind;
            b.deeds.add(d);
        }
    }

    int fault(int what) {
        return what == 0 ? fault : what == 1 ? faultPlace : -1;
    }

    int count(int what) {
        int[] all = {book.months, book.full, book.lean, book.places.size(), book.reports.size(), book.deeds.size(),
            book.lines, tape.length(), out.length(), book.moonA, book.moonS};
        return what < 0 || what >= all.length ? -1 : all[what];
    }

    // ---- what there is

    private boolean t(int t) {
        return book.months > 0 && t >= 0 && t <= 999;
    }

    private boolean m(int m, int first, int last) {
        return book.months > 0 && m >= first && m <= last;
    }

    private boolean p(int p) {
        return p >= 0 && p < book.places.size();
    }

    private boolean r(int r) {
        return r >= 0 && r < book.reports.size();
    }

    private boolean d(int d) {
        return d >= 0 && d < book.deeds.size();
    }

    private boolean two(int what) {
        return what == 0 || what == 1;
    }

    int place(int place, int what) {
        if (!p(place) || what < 0 || what > 2) {
            return -2;
        }
        Place x = book.places.get(place);
        if (what == 0) {
            return x.trust;
        }
        if (what == 1) {
            return (int) book.places.stream().filter(o -> o.name.compareTo(x.name) < 0).count();
        }
        return (int) book.reports.stream().filter(o -> o.place == place && !o.struck).count();
    }

    int report(int report, int what) {
        if (!r(report) || what < 0 || what > 4) {
            return -2;
        }
        Report x = book.reports.get(report);
        return new int[] {x.place, x.struck ? 3 : x.kind, x.month, x.day, x.known}[what];
    }

    int deed(int deed, int what) {
        if (!d(deed) || what < 0 || what > 3) {
            return -2;
        }
        Deed x = book.deeds.get(deed);
        return new int[] {x.month, x.day, x.length, x.inDays ? 1 : 0}[what];
    }

    private int earlyOf(int month) {
        return Math.floorDiv(book.moonA + month * book.moonS, 1000);
    }

    int early(int month) {
        return book.hasMoon && m(month, 1, book.months) ? earlyOf(month) : -2;
    }

    // ---- judging

    /** All CALENDARS with F and L alone, 29 ahead of 30 from the first MONTH on. */
    private List<Calendar> all(int full, int lean) {
        return allKept.computeIfAbsent(book.months + " " + full + " " + lean, key -> {
            List<Calendar> found = new ArrayList<>();
            grow(found, new int[book.months], 0, full, lean);
            return found;
        });
    }

    private void grow(List<Calendar> found, int[] lengths, int m, int full, int lean) {
        if (m == lengths.length) {
            int bits = 0;
            for (int i = 0; i < m; i++) {
                bits |= (lengths[i] - 29) << i;
            }
            found.add(new Calendar(m, bits));
            return;
        }
        for (int length = 29; length <= 30; length++) {
            lengths[m] = length;
            int run = 0;
            while (run <= m && lengths[m - run] == length) {
                run++;
            }
            if (run <= (length == 30 ? full : lean)) {
                grow(found, lengths, m + 1, full, lean);
            }
        }
    }

    private static boolean isSo(Report r, Calendar c) {
        switch (r.kind) {
            case 0:
                return c.begins[r.month] == r.day + 1;
            case 1:
                return c.begins[r.month] > r.day + 1;
            default:
                return true;
        }
    }

    private static List<Calendar> keep(List<Calendar> from, Predicate<Calendar> which) {
        List<Calendar> kept = new ArrayList<>();
        for (Calendar c : from) {
            if (which.test(c)) {
                kept.add(c);
            }
        }
        return kept;
    }

    private Judged judge(int t) {
        return judge(t, x -> true, book.full, book.lean);
    }

    private Judged judge(int t, Predicate<Report> there, int full, int lean) {
        List<Report> known = new ArrayList<>();
        Judged j = new Judged();
        for (Report x : book.reports) {
            j.verdicts.put(x.number, 3);
            if (!x.struck && x.known <= t && there.test(x)) {
                known.add(x);
            }
        }
        known.sort(Comparator.<Report>comparingInt(x -> -book.places.get(x.place).trust)
            .thenComparing(x -> book.places.get(x.place).name).thenComparingInt(x -> x.month)
            .thenComparingInt(x -> x.day).thenComparingInt(x -> x.kind).thenComparingInt(x -> x.number));
        j.left = all(full, lean);
        for (Report x : known) {
            j.queue.add(x.number);
            if (x.kind == 0 && book.hasMoon && x.day < earlyOf(x.month)) {
                j.verdicts.put(x.number, 1);
                continue;
            }
            List<Calendar> still = keep(j.left, c -> isSo(x, c));
            j.verdicts.put(x.number, still.isEmpty() ? 2 : 0);
            j.left = still.isEmpty() ? j.left : still;
        }
        return j;
    }

    private static Calendar official(List<Calendar> left) {
        List<Calendar> still = left;
        for (int m = 0; m < left.get(0).begins.length - 1; m++) {
            int month = m;
            List<Calendar> longOnes = keep(still, c -> c.lasts(month) == 30);
            still = longOnes.isEmpty() ? still : longOnes;
        }
        return still.get(0);
    }

    private Calendar official(int t) {
        return official(judge(t).left);
    }

    int judged(int t, int report) {
        return t(t) && r(report) ? judge(t).verdicts.get(report) : -2;
    }

    private int takenBits(Judged j) {
        int bits = 0;
        for (int i = 0; i < book.reports.size(); i++) {
            bits |= j.verdicts.get(i) == 0 ? 1 << i : 0;
        }
        return bits;
    }

    int taken(int t) {
        return t(t) ? Integer.bitCount(takenBits(judge(t))) : -2;
    }

    int order(int t, int i) {
        if (!t(t) || i < 0) {
            return -2;
        }
        List<Integer> queue = judge(t).queue;
        return i < queue.size() ? queue.get(i) : -1;
    }

    private boolean together(int a, int b) {
        return all(book.full, book.lean).stream()
            .anyMatch(c -> isSo(book.reports.get(a), c) && isSo(book.reports.get(b), c));
    }

    int against(int t, int report) {
        if (!t(t) || !r(report)) {
            return -2;
        }
        Judged j = judge(t);
        int bits = 0;
        for (int i = 0; i < book.reports.size(); i++) {
            if (j.verdicts.get(report) == 2 && j.verdicts.get(i) == 0 && !together(i, report)) {
                bits |= 1 << i;
            }
        }
        return bits;
    }

    int blind(int t, int month) {
        if (!t(t) || !m(month, 1, book.months - 1)) {
            return -2;
        }
        Set<Integer> kinds = new HashSet<>();
        for (Report x : book.reports) {
            if (!x.struck && x.known <= t && x.month == month) {
                kinds.add(x.kind);
            }
        }
        return kinds.equals(Set.of(2)) ? 1 : 0;
    }

    // ---- calendars

    int ways(int t) {
        return t(t) ? judge(t).left.size() : -2;
    }

    int begin(int t, int month) {
        return t(t) && m(month, 0, book.months) ? official(t).begins[month] : -2;
    }

    private int extreme(List<Calendar> left, ToIntFunction<Calendar> of, int what) {
        return what == 0 ? left.stream().mapToInt(of).min().getAsInt() : left.stream().mapToInt(of).max().getAsInt();
    }

    int span(int t, int month, int what) {
        return t(t) && m(month, 0, book.months) && two(what) ? extreme(judge(t).left, c -> c.begins[month], what) : -2;
    }

    int sure(int t) {
        if (!t(t)) {
            return -2;
        }
        int bits = 0;
        List<Calendar> left = judge(t).left;
        for (int m = 0; m <= book.months; m++) {
            int month = m;
            bits |= left.stream().allMatch(c -> c.begins[month] == left.get(0).begins[month]) ? 1 << m : 0;
        }
        return bits;
    }

    int lasts(int t, int month) {
        return t(t) && m(month, 0, book.months - 1) ? official(t).lasts(month) : -2;
    }

    int could(int t, int month, int day) {
        return t(t) && m(month, 0, book.months) ? keep(judge(t).left, c -> c.begins[month] == day).size() : -2;
    }

    int lean(int t, int month) {
        return t(t) && m(month, 0, book.months - 1) ? keep(judge(t).left, c -> c.lasts(month) == 29).size() : -2;
    }

    int ranked(int t, int i, int month) {
        if (!t(t) || i < 0 || !m(month, 0, book.months)) {
            return -2;
        }
        List<Calendar> left = judge(t).left;
        return i < left.size() ? left.get(i).begins[month] : -1;
    }

    int rank(int t, int full) {
        if (!t(t) || full >>> book.months != 0) {
            return -2;
        }
        List<Calendar> left = judge(t).left;
        for (int i = 0; i < left.size(); i++) {
            if (left.get(i).bits == full) {
                return i;
            }
        }
        return -1;
    }

    int drawn(int t, int seed) {
        if (!t(t)) {
            return -2;
        }
        int mixed = seed * 1103515245 + 12345;
        return Integer.remainderUnsigned(Integer.divideUnsigned(mixed, 65536), judge(t).left.size());
    }

    int day(int t, int month, int k) {
        return t(t) && m(month, 0, book.months - 1) && k >= 1 && k <= 30 ? official(t).dayOf(month, k) : -2;
    }

    int date(int t, int day) {
        return t(t) && day >= 0 && day <= 999 ? official(t).dateOf(day) : -2;
    }

    private TreeMap<Integer, Integer> datesOf(int t, int day) {
        TreeMap<Integer, Integer> many = new TreeMap<>();
        for (Calendar c : judge(t).left) {
            if (c.dateOf(day) >= 0) {
                many.merge(c.dateOf(day), 1, Integer::sum);
            }
        }
        return many;
    }

    int dates(int t, int day) {
        return t(t) && day >= 0 && day <= 999 ? datesOf(t, day).size() : -2;
    }

    int likely(int t, int day) {
        if (!t(t)) {
            return -2;
        }
        int best = -1;
        int most = 0;
        for (Map.Entry<Integer, Integer> e : datesOf(t, day).entrySet()) {
            if (e.getValue() > most) {
                most = e.getValue();
                best = e.getKey();
            }
        }
        return best;
    }

    int moved(int t, int u, int month) {
        return t(t) && t(u) && m(month, 0, book.months) ? official(u).begins[month] - official(t).begins[month] : -2000;
    }

    /** What is asked of the OFFICIAL one by each T; a T on which nothing is new is like the one ahead of it. */
    private int[] through(ToIntFunction<Calendar> of) {
        int[] all = new int[1000];
        for (int t = 0; t < 1000; t++) {
            int now = t;
            boolean news = t == 0 || book.reports.stream().anyMatch(x -> x.known == now);
            all[t] = news ? of.applyAsInt(official(t)) : all[t - 1];
        }
        return all;
    }

    private int changes(int[] all) {
        int many = 0;
        for (int t = 1; t < 1000; t++) {
            many += all[t] == all[t - 1] ? 0 : 1;
        }
        return many;
    }

    int shifts(int month) {
        return m(month, 0, book.months) ? changes(through(c -> c.begins[month])) : -2;
    }

    int settled(int month) {
        if (!m(month, 0, book.months)) {
            return -2;
        }
        int[] all = through(c -> c.begins[month]);
        int t = 999;
        while (t > 0 && all[t - 1] == all[999]) {
            t--;
        }
        return t;
    }

    // ---- deeds

    int due(int t, int deed) {
        return t(t) && d(deed) ? official(t).ends(book.deeds.get(deed)) : -2;
    }

    int dueSpan(int t, int deed, int what) {
        return t(t) && d(deed) && two(what) ? extreme(judge(t).left, c -> c.ends(book.deeds.get(deed)), what) : -2;
    }

    int dueOn(int t, int deed, int day) {
        return t(t) && d(deed) ? keep(judge(t).left, c -> c.ends(book.deeds.get(deed)) == day).size() : -2;
    }

    int redated(int deed) {
        return d(deed) ? changes(through(c -> c.ends(book.deeds.get(deed)))) : -2;
    }

    int longer(int t, int deed, int other) {
        if (!t(t) || !d(deed) || !d(other)) {
            return -2;
        }
        List<Calendar> left = judge(t).left;
        ToIntFunction<Calendar> lead = c -> c.ends(book.deeds.get(deed)) - c.ends(book.deeds.get(other));
        if (left.stream().allMatch(c -> lead.applyAsInt(c) > 0)) {
            return 1;
        }
        return left.stream().allMatch(c -> lead.applyAsInt(c) < 0) ? -1 : 0;
    }

    int days(int t, int deed) {
        if (!t(t) || !d(deed)) {
            return -2;
        }
        Deed x = book.deeds.get(deed);
        Calendar c = official(t);
        return c.ends(x) - c.dayOf(x.month, x.day);
    }

    // ---- places and reports by themselves

    private Calendar alone(int t, int place) {
        return official(judge(t, x -> x.place == place, book.full, book.lean).left);
    }

    private int unlike(Calendar a, Calendar b) {
        int bits = 0;
        for (int m = 1; m <= book.months; m++) {
            bits |= a.begins[m] == b.begins[m] ? 0 : 1 << m;
        }
        return bits;
    }

    int own(int t, int place, int month) {
        return t(t) && p(place) && m(month, 0, book.months) ? alone(t, place).begins[month] : -2;
    }

    int apart(int t, int place, int other) {
        return t(t) && p(place) && p(other) ? unlike(alone(t, place), alone(t, other)) : -2;
    }

    int hang(int t, int report) {
        if (!t(t) || !r(report) || book.reports.get(report).struck) {
            return -2;
        }
        return unlike(official(t), official(judge(t, x -> x.number != report, book.full, book.lean).left));
    }

    int telling(int t) {
        if (!t(t)) {
            return -2;
        }
        List<Calendar> left = judge(t).left;
        int best = 0;
        int fewest = Integer.MAX_VALUE;
        for (int m = 1; m <= book.months; m++) {
            Map<Integer, Integer> many = new HashMap<>();
            for (Calendar c : left) {
                many.merge(c.begins[m], 1, Integer::sum);
            }
            int most = many.values().stream().mapToInt(x -> x).max().getAsInt();
            if (most < fewest) {
                fewest = most;
                best = m;
            }
        }
        return best;
    }

    int trusted(int t, int report) {
        if (!t(t) || !r(report) || book.reports.get(report).struck) {
            return -2;
        }
        Place place = book.places.get(book.reports.get(report).place);
        int was = place.trust;
        int found = -1;
        for (int trust = 9; trust >= 0; trust--) {
            place.trust = trust;
            found = judge(t).verdicts.get(report) == 0 ? trust : found;
        }
        place.trust = was;
        return found;
    }

    int weekday(int t, int month, int k, int week) {
        if (!t(t) || !m(month, 0, book.months - 1) || k < 1 || k > 30 || week < 0 || week > 6) {
            return -2;
        }
        return keep(judge(t).left, c -> c.dayOf(month, k) % 7 == week).size();
    }

    int later(int t) {
        if (!t(t)) {
            return -2;
        }
        int bits = takenBits(judge(999));
        for (Report x : book.reports) {
            bits &= x.known <= t ? ~(1 << x.number) : -1;
        }
        return bits;
    }

    int both(int report, int other) {
        return r(report) && r(other) ? together(report, other) ? 1 : 0 : -2;
    }

    int nearest(int t, int what) {
        if (!t(t) || !book.hasMoon || !two(what)) {
            return -2;
        }
        int least = Integer.MAX_VALUE;
        int bits = 0;
        for (Calendar c : judge(t).left) {
            int off = 0;
            for (int m = 1; m <= book.months; m++) {
                off += Math.abs(c.begins[m] - (earlyOf(m) + 1));
            }
            if (off < least) {
                least = off;
                bits = c.bits;
            }
        }
        return what == 0 ? least : bits;
    }

    int backed(int t, int what) {
        if (!t(t) || !two(what)) {
            return -2;
        }
        int most = -1;
        int bits = 0;
        for (Calendar c : all(book.full, book.lean)) {
            int sum = 0;
            for (Report x : book.reports) {
                boolean counts = !x.struck && x.known <= t && x.kind != 2 && isSo(x, c);
                sum += counts ? book.places.get(x.place).trust : 0;
            }
            if (sum > most) {
                most = sum;
                bits = c.bits;
            }
        }
        return what == 0 ? most : bits;
    }

    int tell(int t) {
        if (!t(t)) {
            return -2;
        }
        List<String> words = new ArrayList<>();
        for (int m = 0; m < book.months; m++) {
            words.add(String.valueOf(official(t).lasts(m)));
        }
        out = String.join(" ", words);
        return out.length();
    }

    int octet(int i) {
        return i < 0 || i >= out.length() ? -1 : out.charAt(i);
    }

    // ---- changes

    int reports(int place, int kind, int month, int day, int known) {
        boolean fine = p(place) && kind >= 0 && kind <= 2 && m(month, 1, book.months - 1) && day >= 0 && day <= 999
            && known >= day && known <= 999;
        if (!fine) {
            return -2;
        }
        if (book.reports.size() == 24) {
            return -5;
        }
        Report x = new Report();
        x.number = book.reports.size();
        x.place = place;
        x.kind = kind;
        x.month = month;
        x.day = day;
        x.known = known;
        book.reports.add(x);
        return x.number;
    }

    int strikes(int report) {
        if (!r(report)) {
            return -2;
        }
        if (book.reports.get(report).struck) {
            return -5;
        }
        book.reports.get(report).struck = true;
        return (int) book.reports.stream().filter(x -> !x.struck).count();
    }

    int trusts(int place, int trust) {
        if (!p(place) || trust < 0 || trust > 9) {
            return -2;
        }
        int was = book.places.get(place).trust;
        book.places.get(place).trust = trust;
        return was;
    }

    int moon(int a, int s) {
        if (book.months == 0 || a < 0 || a > 99999 || s < 28000 || s > 31000) {
            return -2;
        }
        book.hasMoon = true;
        book.moonA = a;
        book.moonS = s;
        return earlyOf(1);
    }

    int runs(int f, int l) {
        if (book.months == 0 || f < 1 || f > 5 || l < 1 || l > 5) {
            return -2;
        }
        if (takenBits(judge(999)) != takenBits(judge(999, x -> true, f, l))) {
            return -5;
        }
        book.full = f;
        book.lean = l;
        return 0;
    }
}
