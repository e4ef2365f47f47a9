import java.util.Arrays;

/**
 * Months that begin as they are sighted: which reports of a young moon are judged true, and what calendars they leave.
 *
 * <p>A calendar is walked MONTH by MONTH. How far it has come is told by three numbers: the MONTH m, how many of the
 * MONTHS ahead of it had 30 days (BEGIN of m is then 29 times m and so many), and the RUN that it stands in.
 */
public final class SightedMonths {
    public static final int NONE = -1;

    private static final int NO_SUCH = -2;
    private static final int FAULTY = -4;
    private static final int CANNOT = -5;
    private static final int NO_SUCH_MOVE = -2000;

    private static final int LEAST_MONTHS = 2;
    private static final int MOST_MONTHS = 24;
    private static final int MOST_RUN = 5;
    private static final int MOST_START = 99999;
    private static final int LEAST_STEP = 28000;
    private static final int MOST_STEP = 31000;
    private static final int MOST_PLACES = 6;
    private static final int MOST_TRUST = 9;
    private static final int MOST_REPORTS = 24;
    private static final int MOST_DEEDS = 8;
    private static final int MOST_DEED_DAYS = 600;
    private static final int LAST_DAY = 999;
    private static final int MOST_TAPE = 1600;
    private static final int FEED_BYTES = 20;

    private static final int SHORT_DAYS = 29;
    private static final int LONG_DAYS = 30;
    private static final int WEEK_DAYS = 7;

    private static final int SEEN = 0;
    private static final int CLEAR = 1;
    private static final int CLOUD = 2;
    private static final int KINDS = 3;
    private static final int STRUCK = 3;

    private static final int TAKEN = 0;
    private static final int TOO_EARLY = 1;
    private static final int IMPOSSIBLE = 2;
    private static final int UNKNOWN = 3;

    private static final int BEGINS = MOST_MONTHS + 1;
    /**
     * A RUN is 0 ahead of MONTH 0; behind it 1 .. F (so many of 30 days one behind the other), F and 1 .. L (of 29), or
     * 0: one that is too long, at which no table has anything.
     */
    private static final int RUNS = 2 * MOST_RUN + 1;
    private static final int CELLS = BEGINS * (BEGINS + 1) / 2;
    private static final int SPOTS = CELLS * RUNS;

    private final Reader reader;
    private Almanac almanac;
    private final Almanac spare;
    private final Frame freeFrame;
    private final Court court;
    private final Court otherCourt;
    private final Tally tally;
    private final Search search;
    private final History history;
    private final int[] kept;
    private final byte[] out;
    private int outLength;
    private boolean courtStands;
    private int courtNews;
    private boolean tallyStands;
    private boolean historyStands;

    public SightedMonths() {
        reader = new Reader();
        almanac = new Almanac();
        spare = new Almanac();
        freeFrame = new Frame();
        court = new Court();
        otherCourt = new Court();
        tally = new Tally();
        search = new Search();
        history = new History();
        kept = new int[BEGINS];
        out = new byte[3 * MOST_MONTHS];
        outLength = 0;
        courtStands = false;
        courtNews = NONE;
        tallyStands = false;
        historyStands = false;
    }

    // ---- the tape and the text

    public int feed(int a, int b, int c, int d, int e) {
        Tape tape = reader.tape;
        if (tape.length > MOST_TAPE - FEED_BYTES) {
            return NONE;
        }
        tape.put(a);
        tape.put(b);
        tape.put(c);
        tape.put(d);
        tape.put(e);
        return tape.length;
    }

    public int end(int n) {
        if (n < 0 || n > reader.tape.length) {
            return NONE;
        }
        reader.tape.length = n;
        return n;
    }

    public int almanac() {
        reader.read();
        reader.tape.length = 0;
        if (reader.faultKind != 0) {
            return FAULTY;
        }
        Almanac told = reader.draft;
        reader.draft = almanac;
        almanac = told;
        forget();
        return almanac.lines;
    }

    public int fault(int what) {
        if (what == 0) {
            return reader.faultKind;
        }
        return what == 1 ? reader.faultPlace : NONE;
    }

    // ---- what was told

    public int count(int what) {
        switch (what) {
            case 0:
                return almanac.months;
            case 1:
                return almanac.full;
            case 2:
                return almanac.lean;
            case 3:
                return almanac.placeCount;
            case 4:
                return almanac.reportCount;
            case 5:
                return almanac.deedCount;
            case 6:
                return almanac.lines;
            case 7:
                return reader.tape.length;
            case 8:
                return outLength;
            case 9:
                return almanac.moonStart;
            case 10:
                return almanac.moonStep;
            default:
                return NONE;
        }
    }

    public int place(int place, int what) {
        if (!hasPlace(place)) {
            return NO_SUCH;
        }
        switch (what) {
            case 0:
                return almanac.places[place].trust;
            case 1:
                return almanac.namesAhead(place);
            case 2:
                return almanac.standingOf(place);
            default:
                return NO_SUCH;
        }
    }

    public int report(int report, int what) {
        if (!hasReport(report)) {
            return NO_SUCH;
        }
        Report told = almanac.reports[report];
        switch (what) {
            case 0:
                return told.place;
            case 1:
                return told.struck ? STRUCK : told.kind;
            case 2:
                return told.month;
            case 3:
                return told.day;
            case 4:
                return told.known;
            default:
                return NO_SUCH;
        }
    }

    public int deed(int deed, int what) {
        if (!hasDeed(deed)) {
            return NO_SUCH;
        }
        Deed told = almanac.deeds[deed];
        switch (what) {
            case 0:
                return told.month;
            case 1:
                return told.day;
            case 2:
                return told.length;
            case 3:
                return told.inDays ? 1 : 0;
            default:
                return NO_SUCH;
        }
    }

    public int early(int month) {
        if (!almanac.hasMoon || !hasMonth(month, 1, almanac.months)) {
            return NO_SUCH;
        }
        return almanac.earlyOf(month);
    }

    // ---- how reports are judged

    public int judged(int t, int report) {
        if (!hasTime(t) || !hasReport(report)) {
            return NO_SUCH;
        }
        return courtBy(t).verdicts[report];
    }

    public int taken(int t) {
        return hasTime(t) ? Integer.bitCount(courtBy(t).takenBits) : NO_SUCH;
    }

    public int order(int t, int i) {
        if (!hasTime(t) || i < 0) {
            return NO_SUCH;
        }
        Court judge = courtBy(t);
        return i < judge.queueLength ? judge.queue[i] : NONE;
    }

    public int against(int t, int report) {
        if (!hasTime(t) || !hasReport(report)) {
            return NO_SUCH;
        }
        Court judge = courtBy(t);
        if (judge.verdicts[report] != IMPOSSIBLE) {
            return 0;
        }
        int bits = 0;
        for (int other = 0; other < almanac.reportCount; other++) {
            if (judge.verdicts[other] == TAKEN && !canBothBe(report, other)) {
                bits |= 1 << other;
            }
        }
        return bits;
    }

    public int blind(int t, int month) {
        if (!hasTime(t) || !hasMonth(month, 1, almanac.months - 1)) {
            return NO_SUCH;
        }
        int blind = 0;
        for (int report = 0; report < almanac.reportCount; report++) {
            Report told = almanac.reports[report];
            if (told.month == month && told.isKnownBy(t)) {
                if (told.kind != CLOUD) {
                    return 0;
                }
                blind = 1;
            }
        }
        return blind;
    }

    public int later(int t) {
        return hasTime(t) ? courtBy(LAST_DAY).takenBits & ~almanac.knownBits(t) : NO_SUCH;
    }

    public int both(int report, int other) {
        if (!hasReport(report) || !hasReport(other)) {
            return NO_SUCH;
        }
        return canBothBe(report, other) ? 1 : 0;
    }

    public int trusted(int t, int report) {
        if (!hasTime(t) || !hasReport(report) || almanac.reports[report].struck) {
            return NO_SUCH;
        }
        spare.copyFrom(almanac);
        Place place = spare.places[spare.reports[report].place];
        for (int trust = 0; trust <= MOST_TRUST; trust++) {
            place.trust = trust;
            otherCourt.judge(spare, t);
            if (otherCourt.verdicts[report] == TAKEN) {
                return trust;
            }
        }
        return NONE;
    }

    public int hang(int t, int report) {
        if (!hasTime(t) || !hasReport(report) || almanac.reports[report].struck) {
            return NO_SUCH;
        }
        spare.copyFrom(almanac);
        spare.reports[report].struck = true;
        otherCourt.judge(spare, t);
        return unlikeBegins(courtBy(t).begins, otherCourt.begins);
    }

    public int own(int t, int place, int month) {
        if (!hasTime(t) || !hasPlace(place) || !hasMonth(month, 0, almanac.months)) {
            return NO_SUCH;
        }
        judgeAlone(t, place);
        return otherCourt.begins[month];
    }

    public int apart(int t, int place, int other) {
        if (!hasTime(t) || !hasPlace(place) || !hasPlace(other)) {
            return NO_SUCH;
        }
        judgeAlone(t, place);
        System.arraycopy(otherCourt.begins, 0, kept, 0, BEGINS);
        judgeAlone(t, other);
        return unlikeBegins(kept, otherCourt.begins);
    }

    // ---- all calendars that are left

    public int ways(int t) {
        return hasTime(t) ? tallyBy(t).total() : NO_SUCH;
    }

    public int span(int t, int month, int what) {
        if (!hasTime(t) || !hasMonth(month, 0, almanac.months) || !isEither(what)) {
            return NO_SUCH;
        }
        return tallyBy(t).bound(month, what == 1);
    }

    public int sure(int t) {
        if (!hasTime(t)) {
            return NO_SUCH;
        }
        Tally counts = tallyBy(t);
        int bits = 0;
        for (int month = 0; month <= almanac.months; month++) {
            if (counts.bound(month, false) == counts.bound(month, true)) {
                bits |= 1 << month;
            }
        }
        return bits;
    }

    public int could(int t, int month, int day) {
        if (!hasTime(t) || !hasMonth(month, 0, almanac.months)) {
            return NO_SUCH;
        }
        return tallyBy(t).onDay(month, day);
    }

    public int lean(int t, int month) {
        if (!hasTime(t) || !hasMonth(month, 0, almanac.months - 1)) {
            return NO_SUCH;
        }
        return tallyBy(t).leanIn(month);
    }

    public int ranked(int t, int i, int month) {
        if (!hasTime(t) || i < 0 || !hasMonth(month, 0, almanac.months)) {
            return NO_SUCH;
        }
        Tally counts = tallyBy(t);
        return i < counts.total() ? counts.beginOf(i, month) : NONE;
    }

    public int rank(int t, int full) {
        if (!hasTime(t) || full < 0 || full >= 1 << almanac.months) {
            return NO_SUCH;
        }
        return tallyBy(t).indexOf(full);
    }

    public int drawn(int t, int seed) {
        if (!hasTime(t)) {
            return NO_SUCH;
        }
        int ways = tallyBy(t).total();
        int mixed = seed * 1103515245 + 12345;
        return ways > 0 ? (mixed >>> 16) % ways : NO_SUCH;
    }

    public int dates(int t, int day) {
        if (!hasTime(t) || day < 0 || day > LAST_DAY) {
            return NO_SUCH;
        }
        Tally counts = tallyBy(t);
        int unlike = 0;
        for (int month = 0; month < almanac.months; month++) {
            for (int ahead = 0; ahead <= month; ahead++) {
                if (counts.dated(month, ahead, day) > 0) {
                    unlike++;
                }
            }
        }
        return unlike;
    }

    public int likely(int t, int day) {
        if (!hasTime(t)) {
            return NO_SUCH;
        }
        Tally counts = tallyBy(t);
        int most = 0;
        int best = NONE;
        for (int month = 0; month < almanac.months; month++) {
            // A later BEGIN makes the date of one day an earlier one: so the greatest comes first.
            for (int ahead = month; ahead >= 0; ahead--) {
                int many = counts.dated(month, ahead, day);
                if (many > most) {
                    most = many;
                    best = 100 * month + day - dayOf(month, ahead) + 1;
                }
            }
        }
        return best;
    }

    public int telling(int t) {
        if (!hasTime(t)) {
            return NO_SUCH;
        }
        Tally counts = tallyBy(t);
        int best = 1;
        for (int month = 2; month <= almanac.months; month++) {
            if (counts.mostLeft(month) < counts.mostLeft(best)) {
                best = month;
            }
        }
        return best;
    }

    public int weekday(int t, int month, int k, int week) {
        if (!hasTime(t) || !hasDate(month, k) || week < 0 || week >= WEEK_DAYS) {
            return NO_SUCH;
        }
        return tallyBy(t).onWeekday(anchorOf(month, k), offsetOf(k), week);
    }

    public int nearest(int t, int what) {
        if (!hasTime(t) || !almanac.hasMoon || !isEither(what)) {
            return NO_SUCH;
        }
        search.wipe();
        for (int month = 1; month <= almanac.months; month++) {
            int wanted = almanac.earlyOf(month) + 1;
            for (int ahead = 0; ahead <= month; ahead++) {
                search.charge(month, ahead, Math.abs(dayOf(month, ahead) - wanted));
            }
        }
        search.run(courtBy(t).frame);
        return what == 0 ? search.least() : search.fullBits();
    }

    public int backed(int t, int what) {
        if (!hasTime(t) || !isEither(what)) {
            return NO_SUCH;
        }
        search.wipe();
        for (int report = 0; report < almanac.reportCount; report++) {
            Report told = almanac.reports[report];
            if (told.isKnownBy(t) && told.kind != CLOUD) {
                backReport(told);
            }
        }
        freeFrame.open(almanac);
        search.run(freeFrame);
        return what == 0 ? -search.least() : search.fullBits();
    }

    // ---- the official calendar

    public int begin(int t, int month) {
        if (!hasTime(t) || !hasMonth(month, 0, almanac.months)) {
            return NO_SUCH;
        }
        return courtBy(t).begins[month];
    }

    public int lasts(int t, int month) {
        if (!hasTime(t) || !hasMonth(month, 0, almanac.months - 1)) {
            return NO_SUCH;
        }
        return courtBy(t).lengthOf(month);
    }

    public int day(int t, int month, int k) {
        if (!hasTime(t) || !hasDate(month, k)) {
            return NO_SUCH;
        }
        return courtBy(t).begins[anchorOf(month, k)] + offsetOf(k);
    }

    public int date(int t, int day) {
        if (!hasTime(t) || day < 0 || day > LAST_DAY) {
            return NO_SUCH;
        }
        int[] begins = courtBy(t).begins;
        for (int month = 0; month < almanac.months; month++) {
            if (day < begins[month + 1]) {
                return 100 * month + day - begins[month] + 1;
            }
        }
        return NONE;
    }

    public int moved(int t, int u, int month) {
        if (!hasTime(t) || !hasTime(u) || !hasMonth(month, 0, almanac.months)) {
            return NO_SUCH_MOVE;
        }
        int before = courtBy(t).begins[month];
        return courtBy(u).begins[month] - before;
    }

    public int shifts(int month) {
        if (!hasMonth(month, 0, almanac.months)) {
            return NO_SUCH;
        }
        return historyNow().changesOf(month);
    }

    public int settled(int month) {
        if (!hasMonth(month, 0, almanac.months)) {
            return NO_SUCH;
        }
        return historyNow().lastChangeOf(month);
    }

    public int tell(int t) {
        if (!hasTime(t)) {
            return NO_SUCH;
        }
        Court judge = courtBy(t);
        outLength = 0;
        for (int month = 0; month < almanac.months; month++) {
            if (month > 0) {
                putOut(' ');
            }
            boolean isLong = judge.lengthOf(month) == LONG_DAYS;
            putOut(isLong ? '3' : '2');
            putOut(isLong ? '0' : '9');
        }
        return outLength;
    }

    public int octet(int i) {
        return i < 0 || i >= outLength ? NONE : out[i];
    }

    // ---- deeds

    public int due(int t, int deed) {
        if (!hasTime(t) || !hasDeed(deed)) {
            return NO_SUCH;
        }
        return endByOfficial(t, deed);
    }

    public int dueSpan(int t, int deed, int what) {
        if (!hasTime(t) || !hasDeed(deed) || !isEither(what)) {
            return NO_SUCH;
        }
        Deed told = almanac.deeds[deed];
        return tallyBy(t).bound(told.endAnchor(), what == 1) + told.endOffset();
    }

    public int dueOn(int t, int deed, int day) {
        if (!hasTime(t) || !hasDeed(deed)) {
            return NO_SUCH;
        }
        Deed told = almanac.deeds[deed];
        return tallyBy(t).onDay(told.endAnchor(), day - told.endOffset());
    }

    public int redated(int deed) {
        return hasDeed(deed) ? historyNow().changesOf(almanac.deeds[deed].endAnchor()) : NO_SUCH;
    }

    public int longer(int t, int deed, int other) {
        if (!hasTime(t) || !hasDeed(deed) || !hasDeed(other)) {
            return NO_SUCH;
        }
        if (leastLead(t, almanac.deeds[deed], almanac.deeds[other]) > 0) {
            return 1;
        }
        return leastLead(t, almanac.deeds[other], almanac.deeds[deed]) > 0 ? -1 : 0;
    }

    public int days(int t, int deed) {
        if (!hasTime(t) || !hasDeed(deed)) {
            return NO_SUCH;
        }
        Deed told = almanac.deeds[deed];
        int start = courtBy(t).begins[anchorOf(told.month, told.day)] + offsetOf(told.day);
        return endByOfficial(t, deed) - start;
    }

    // ---- what changes the almanac

    public int reports(int place, int kind, int month, int day, int known) {
        boolean told = hasPlace(place) && kind >= SEEN && kind <= CLOUD && hasMonth(month, 1, almanac.months - 1);
        if (!told || day < 0 || known < day || known > LAST_DAY) {
            return NO_SUCH;
        }
        if (almanac.reportCount >= MOST_REPORTS) {
            return CANNOT;
        }
        almanac.addReport(place, kind, month, day, known);
        forget();
        return almanac.reportCount - 1;
    }

    public int strikes(int report) {
        if (!hasReport(report)) {
            return NO_SUCH;
        }
        if (almanac.reports[report].struck) {
            return CANNOT;
        }
        almanac.reports[report].struck = true;
        forget();
        return almanac.standing();
    }

    public int trusts(int place, int trust) {
        if (!hasPlace(place) || trust < 0 || trust > MOST_TRUST) {
            return NO_SUCH;
        }
        int before = almanac.places[place].trust;
        almanac.places[place].trust = trust;
        forget();
        return before;
    }

    public int moon(int a, int s) {
        if (!isTold() || a < 0 || a > MOST_START || s < LEAST_STEP || s > MOST_STEP) {
            return NO_SUCH;
        }
        almanac.setMoon(a, s);
        forget();
        return almanac.earlyOf(1);
    }

    public int runs(int f, int l) {
        if (!isTold() || f < 1 || f > MOST_RUN || l < 1 || l > MOST_RUN) {
            return NO_SUCH;
        }
        spare.copyFrom(almanac);
        spare.full = f;
        spare.lean = l;
        otherCourt.judge(spare, LAST_DAY);
        if (otherCourt.takenBits != courtBy(LAST_DAY).takenBits) {
            return CANNOT;
        }
        almanac.full = f;
        almanac.lean = l;
        forget();
        return 0;
    }

    // ---- what there is

    private boolean isTold() {
        return almanac.months > 0;
    }

    private boolean hasTime(int t) {
        return isTold() && t >= 0 && t <= LAST_DAY;
    }

    private boolean hasMonth(int month, int first, int last) {
        return isTold() && month >= first && month <= last;
    }

    private boolean hasDate(int month, int k) {
        return hasMonth(month, 0, almanac.months - 1) && k >= 1 && k <= LONG_DAYS;
    }

    private boolean hasPlace(int place) {
        return place >= 0 && place < almanac.placeCount;
    }

    private boolean hasReport(int report) {
        return report >= 0 && report < almanac.reportCount;
    }

    private boolean hasDeed(int deed) {
        return deed >= 0 && deed < almanac.deedCount;
    }

    private static boolean isEither(int what) {
        return what == 0 || what == 1;
    }

    // ---- what is reckoned once and kept until the almanac changes

    private void forget() {
        courtStands = false;
        tallyStands = false;
        historyStands = false;
    }

    private Court courtBy(int t) {
        // Between two days on which something new is known, nothing is judged otherwise.
        int news = almanac.latestNews(t);
        if (!courtStands || news != courtNews) {
            court.judge(almanac, t);
            courtNews = news;
            courtStands = true;
            tallyStands = false;
        }
        return court;
    }

    private Tally tallyBy(int t) {
        Court judge = courtBy(t);
        if (!tallyStands) {
            tally.fill(judge.frame);
            tallyStands = true;
        }
        return tally;
    }

    private History historyNow() {
        if (!historyStands) {
            history.fill(almanac, otherCourt);
            historyStands = true;
        }
        return history;
    }

    // ---- parts of the calls above

    private boolean canBothBe(int report, int other) {
        freeFrame.open(almanac);
        freeFrame.narrow(almanac.reports[report]);
        freeFrame.narrow(almanac.reports[other]);
        return freeFrame.fits();
    }

    private void judgeAlone(int t, int place) {
        spare.copyFrom(almanac);
        spare.strikeAllBut(place);
        otherCourt.judge(spare, t);
    }

    private int unlikeBegins(int[] ones, int[] others) {
        int bits = 0;
        for (int month = 1; month <= almanac.months; month++) {
            if (ones[month] != others[month]) {
                bits |= 1 << month;
            }
        }
        return bits;
    }

    private void backReport(Report told) {
        int right = Frame.rightFor(told);
        for (int ahead = 0; ahead <= told.month; ahead++) {
            if ((right >> ahead & 1) != 0) {
                search.charge(told.month, ahead, -almanac.places[told.place].trust);
            }
        }
    }

    private int endByOfficial(int t, int deed) {
        Deed told = almanac.deeds[deed];
        return courtBy(t).begins[told.endAnchor()] + told.endOffset();
    }

    /** By how many days, at the least, one DEED ENDS behind another. */
    private int leastLead(int t, Deed one, Deed other) {
        int oneAnchor = one.endAnchor();
        int otherAnchor = other.endAnchor();
        search.wipe();
        for (int ahead = 0; ahead <= oneAnchor; ahead++) {
            search.charge(oneAnchor, ahead, dayOf(oneAnchor, ahead));
        }
        for (int ahead = 0; ahead <= otherAnchor; ahead++) {
            search.charge(otherAnchor, ahead, -dayOf(otherAnchor, ahead));
        }
        search.run(courtBy(t).frame);
        return search.least() + one.endOffset() - other.endOffset();
    }

    private void putOut(char sign) {
        if (outLength < out.length) {
            out[outLength] = (byte) sign;
            outLength++;
        }
    }

    // ---- days, dates and runs

    private static int dayOf(int month, int ahead) {
        return SHORT_DAYS * month + ahead;
    }

    /** The MONTH from whose BEGIN a date is reckoned: day 30 is the day ahead of the next, however long its own is. */
    private static int anchorOf(int month, int k) {
        return k == LONG_DAYS ? month + 1 : month;
    }

    private static int offsetOf(int k) {
        return k == LONG_DAYS ? -1 : k - 1;
    }

    private static int runWithFull(int run, int full) {
        if (run == 0 || run > full) {
            return 1;
        }
        return run < full ? run + 1 : 0;
    }

    private static int runWithLean(int run, int full, int lean) {
        if (run <= full) {
            return full + 1;
        }
        return run < full + lean ? run + 1 : 0;
    }

    private static int firstRun(int month) {
        return month == 0 ? 0 : 1;
    }

    private static int lastRun(int month, int full, int lean) {
        return month == 0 ? 0 : full + lean;
    }

    private static int cell(int month, int ahead) {
        return month * (month + 1) / 2 + ahead;
    }

    private static int spot(int month, int ahead, int run) {
        return cell(month, ahead) * RUNS + run;
    }

    /** The bytes that came, and have not been told yet. */
    private static final class Tape {
        final byte[] bytes = new byte[MOST_TAPE];
        int length = 0;

        void put(int number) {
            if (length > MOST_TAPE - 4) {
                return;
            }
            bytes[length] = (byte) (number >>> 24);
            bytes[length + 1] = (byte) (number >>> 16);
            bytes[length + 2] = (byte) (number >>> 8);
            bytes[length + 3] = (byte) number;
            length += 4;
        }
    }

    private static final class Place {
        int name;
        int trust;
    }

    private static final class Report {
        int place;
        int kind;
        int month;
        int day;
        int known;
        boolean struck;

        boolean isKnownBy(int t) {
            return !struck && known <= t;
        }
    }

    private static final class Deed {
        int month;
        int day;
        int length;
        boolean inDays;

        int endAnchor() {
            return anchorOf(inDays ? month : month + length, day);
        }

        int endOffset() {
            return offsetOf(day) + (inDays ? length : 0);
        }
    }

    /** What a text told, and what calls changed in it; without MONTHS it is none. */
    private static final class Almanac {
        int months;
        int full;
        int lean;
        int lines;
        boolean hasMoon;
        int moonStart;
        int moonStep;
        int placeCount;
        int reportCount;
        int deedCount;
        final Place[] places = new Place[MOST_PLACES];
        final Report[] reports = new Report[MOST_REPORTS];
        final Deed[] deeds = new Deed[MOST_DEEDS];

        Almanac() {
            for (int i = 0; i < MOST_PLACES; i++) {
                places[i] = new Place();
            }
            for (int i = 0; i < MOST_REPORTS; i++) {
                reports[i] = new Report();
            }
            for (int i = 0; i < MOST_DEEDS; i++) {
                deeds[i] = new Deed();
            }
        }

        void wipe() {
            months = 0;
            full = 0;
            lean = 0;
            lines = 0;
            hasMoon = false;
            moonStart = 0;
            moonStep = 0;
            placeCount = 0;
            reportCount = 0;
            deedCount = 0;
        }

        /** DEEDS stay behind: a copy is made to be judged, and DEEDS are not judged. */
        void copyFrom(Almanac from) {
            wipe();
            months = from.months;
            full = from.full;
            lean = from.lean;
            hasMoon = from.hasMoon;
            moonStart = from.moonStart;
            moonStep = from.moonStep;
            for (int i = 0; i < from.placeCount; i++) {
                addPlace(from.places[i].name, from.places[i].trust);
            }
            for (int i = 0; i < from.reportCount; i++) {
                Report told = from.reports[i];
                addReport(told.place, told.kind, told.month, told.day, told.known);
                reports[i].struck = told.struck;
            }
        }

        void setMoon(int start, int step) {
            hasMoon = true;
            moonStart = start;
            moonStep = step;
        }

        void addPlace(int name, int trust) {
            if (placeCount < MOST_PLACES) {
                places[placeCount].name = name;
                places[placeCount].trust = trust;
                placeCount++;
            }
        }

        void addReport(int place, int kind, int month, int day, int known) {
            if (reportCount < MOST_REPORTS) {
                Report added = reports[reportCount];
                added.place = place;
                added.kind = kind;
                added.month = month;
                added.day = day;
                added.known = known;
                added.struck = false;
                reportCount++;
            }
        }

        void addDeed(int month, int day, int length, boolean inDays) {
            if (deedCount < MOST_DEEDS) {
                Deed added = deeds[deedCount];
                added.month = month;
                added.day = day;
                added.length = length;
                added.inDays = inDays;
                deedCount++;
            }
        }

        int placeNamed(int name) {
            for (int i = 0; i < placeCount; i++) {
                if (places[i].name == name) {
                    return i;
                }
            }
            return NONE;
        }

        int namesAhead(int place) {
            int ahead = 0;
            for (int i = 0; i < placeCount; i++) {
                if (places[i].name < places[place].name) {
                    ahead++;
                }
            }
            return ahead;
        }

        int standing() {
            int many = 0;
            for (int i = 0; i < placeCount; i++) {
                many += standingOf(i);
            }
            return many;
        }

        int standingOf(int place) {
            int many = 0;
            for (int i = 0; i < reportCount; i++) {
                if (reports[i].place == place && !reports[i].struck) {
                    many++;
                }
            }
            return many;
        }

        void strikeAllBut(int place) {
            for (int i = 0; i < reportCount; i++) {
                if (reports[i].place != place) {
                    reports[i].struck = true;
                }
            }
        }

        int earlyOf(int month) {
            return (moonStart + month * moonStep) / 1000;
        }

        int knownBits(int t) {
            int bits = 0;
            for (int i = 0; i < reportCount; i++) {
                if (reports[i].isKnownBy(t)) {
                    bits |= 1 << i;
                }
            }
            return bits;
        }

        int latestNews(int t) {
            int latest = NONE;
            for (int i = 0; i < reportCount; i++) {
                if (reports[i].isKnownBy(t)) {
                    latest = Math.max(latest, reports[i].known);
                }
            }
            return latest;
        }

        int newsBehind(int t) {
            int next = LAST_DAY + 1;
            for (int i = 0; i < reportCount; i++) {
                if (!reports[i].struck && reports[i].known > t) {
                    next = Math.min(next, reports[i].known);
                }
            }
            return next;
        }
    }

    /** Reads the TAPE token by token; behind the first FAULT every step does nothing. */
    private static final class Reader {
        private static final int THE_END = 0;
        private static final int NO_TOKEN = 1;
        private static final int WORD = 2;
        private static final int NUMBER = 3;
        private static final int SIGN = 4;

        private static final int WRONG_TOKEN = 1;
        private static final int WRONG_VALUE = 2;
        private static final int TOO_MANY = 3;

        private static final int MOST_LETTERS = 6;
        private static final int LETTERS = 27;
        /** Above every bound of the text, so that no number grows beyond an int. */
        private static final int HUGE = 1000000;

        final Tape tape = new Tape();
        Almanac draft = new Almanac();
        int faultKind = 0;
        int faultPlace = NONE;
        int token = THE_END;
        int start = 0;
        int stop = 0;

        void read() {
            draft.wipe();
            faultKind = 0;
            faultPlace = NONE;
            stop = 0;
            step();
            for (int i = 0; i < MOST_TAPE && token != THE_END && faultKind == 0; i++) {
                readLine();
            }
        }

        private void readLine() {
            if (draft.lines == 0) {
                readFirst();
            } else if (isWord("moon")) {
                readMoon();
            } else if (isWord("place")) {
                readPlace();
            } else if (isWord("seen")) {
                readReport(SEEN);
            } else if (isWord("clear")) {
                readReport(CLEAR);
            } else if (isWord("cloud")) {
                readReport(CLOUD);
            } else if (isWord("deed")) {
                readDeed();
            } else {
                blame(WRONG_TOKEN, start);
            }
            passSign();
            if (faultKind == 0) {
                draft.lines++;
            }
        }

        private void readFirst() {
            passWord("almanac");
            passWord("months");
            int months = passNumber(LEAST_MONTHS, MOST_MONTHS);
            passWord("full");
            int full = passNumber(1, MOST_RUN);
            passWord("lean");
            int lean = passNumber(1, MOST_RUN);
            if (faultKind == 0) {
                draft.months = months;
                draft.full = full;
                draft.lean = lean;
            }
        }

        private void readMoon() {
            passHead(!draft.hasMoon);
            int from = passNumber(0, MOST_START);
            passWord("step");
            int step = passNumber(LEAST_STEP, MOST_STEP);
            if (faultKind == 0) {
                draft.setMoon(from, step);
            }
        }

        private void readPlace() {
            passHead(draft.placeCount < MOST_PLACES);
            int name = passName(false);
            passWord("trust");
            int trust = passNumber(0, MOST_TRUST);
            if (faultKind == 0) {
                draft.addPlace(name, trust);
            }
        }

        private void readReport(int kind) {
            passHead(draft.reportCount < MOST_REPORTS);
            int name = passName(true);
            passWord("month");
            int month = passNumber(1, draft.months - 1);
            passWord("on");
            int day = passNumber(0, LAST_DAY);
            int known = day;
            if (faultKind == 0 && isWord("known")) {
                step();
                known = passNumber(day, LAST_DAY);
            }
            if (faultKind == 0) {
                draft.addReport(draft.placeNamed(name), kind, month, day, known);
            }
        }

        private void readDeed() {
            passHead(draft.deedCount < MOST_DEEDS);
            passWord("month");
            int month = passNumber(0, draft.months - 1);
            passWord("day");
            int day = passNumber(1, LONG_DAYS);
            passWord("for");
            int lengthPlace = start;
            int length = passNumber(0, HUGE);
            boolean inDays = isWord("days");
            if (!inDays) {
                expect(isWord("months"), WRONG_TOKEN);
            }
            int most = inDays ? MOST_DEED_DAYS : draft.months - 1 - month;
            if (faultKind == 0 && length > most) {
                blame(WRONG_VALUE, lengthPlace);
            }
            step();
            if (faultKind == 0) {
                draft.addDeed(month, day, length, inDays);
            }
        }

        private void blame(int kind, int place) {
            if (faultKind == 0) {
                faultKind = kind;
                faultPlace = place;
            }
        }

        private void expect(boolean holds, int kind) {
            if (!holds) {
                blame(kind, start);
            }
        }

        private void passHead(boolean hasRoom) {
            expect(hasRoom, TOO_MANY);
            step();
        }

        private void passWord(String word) {
            expect(isWord(word), WRONG_TOKEN);
            step();
        }

        private void passSign() {
            expect(token == SIGN, WRONG_TOKEN);
            step();
        }

        private int passNumber(int least, int most) {
            expect(token == NUMBER, WRONG_TOKEN);
            int value = valueHere();
            expect(value >= least && value <= most, WRONG_VALUE);
            step();
            return value;
        }

        private int passName(boolean told) {
            expect(token == WORD, WRONG_TOKEN);
            expect(stop - start <= MOST_LETTERS, WRONG_VALUE);
            int name = nameHere();
            expect((draft.placeNamed(name) != NONE) == told, WRONG_VALUE);
            step();
            return name;
        }

        /** Letters as digits, blanks behind the last: names are then in their order as numbers are. */
        private int nameHere() {
            int name = 0;
            for (int i = 0; i < MOST_LETTERS; i++) {
                int found = start + i < stop ? byteAt(start + i) : NONE;
                name = name * LETTERS + (isLetter(found) ? found - 'a' + 1 : 0);
            }
            return name;
        }

        private int valueHere() {
            int value = 0;
            for (int place = start; place < stop; place++) {
                int found = byteAt(place);
                value = isDigit(found) ? Math.min(value * 10 + found - '0', HUGE) : value;
            }
            return value;
        }

        private boolean isWord(String word) {
            if (token != WORD || stop - start != word.length()) {
                return false;
            }
            for (int i = 0; i < word.length(); i++) {
                if (byteAt(start + i) != word.charAt(i)) {
                    return false;
                }
            }
            return true;
        }

        private void step() {
            if (faultKind != 0) {
                return;
            }
            start = stop;
            while (start < tape.length && isBlank(byteAt(start))) {
                start++;
            }
            stop = start;
            int first = byteAt(start);
            if (start >= tape.length) {
                token = THE_END;
            } else if (isLetter(first)) {
                token = WORD;
                while (stop < tape.length && isLetter(byteAt(stop))) {
                    stop++;
                }
            } else if (isDigit(first)) {
                token = NUMBER;
                while (stop < tape.length && isDigit(byteAt(stop))) {
                    stop++;
                }
            } else {
                token = first == ';' ? SIGN : NO_TOKEN;
                stop++;
            }
        }

        private int byteAt(int place) {
            return place >= 0 && place < tape.length ? tape.bytes[place] : NONE;
        }

        private static boolean isLetter(int sign) {
            return sign >= 'a' && sign <= 'z';
        }

        private static boolean isDigit(int sign) {
            return sign >= '0' && sign <= '9';
        }

        private static boolean isBlank(int sign) {
            return sign == ' ' || sign == '\n';
        }
    }

    /** Which CALENDARS there may be: bit i of allowed[m] says that i MONTHS of 30 days may be ahead of MONTH m. */
    private static final class Frame {
        int months;
        int full;
        int lean;
        final int[] allowed = new int[BEGINS];
        /** Of each MONTH and run: with how many MONTHS of 30 days ahead there is a way to the END. */
        final int[] onward = new int[BEGINS * RUNS];

        void open(Almanac almanac) {
            months = almanac.months;
            full = almanac.full;
            lean = almanac.lean;
            for (int month = 0; month <= months; month++) {
                allowed[month] = (2 << month) - 1;
            }
        }

        /** How many MONTHS of 30 days may be ahead of the REPORT's MONTH, as bits, if it is so. */
        static int rightFor(Report report) {
            int all = (2 << report.month) - 1;
            int ahead = report.day + 1 - SHORT_DAYS * report.month;
            if (report.kind == CLOUD || (report.kind == CLEAR && ahead < 0)) {
                return all;
            }
            if (ahead < 0 || ahead > report.month) {
                return 0;
            }
            return report.kind == SEEN ? 1 << ahead : all & -2 << ahead;
        }

        void narrow(Report report) {
            allowed[report.month] &= rightFor(report);
        }

        boolean allows(int month, int ahead) {
            return (allowed[month] >> ahead & 1) != 0;
        }

        boolean fits() {
            for (int run = 1; run <= full + lean; run++) {
                onward[months * RUNS + run] = allowed[months];
            }
            for (int month = months - 1; month >= 0; month--) {
                int next = (month + 1) * RUNS;
                for (int run = firstRun(month); run <= lastRun(month, full, lean); run++) {
                    int withFull = onward[next + runWithFull(run, full)] >> 1;
                    int withLean = onward[next + runWithLean(run, full, lean)];
                    onward[month * RUNS + run] = allowed[month] & (withFull | withLean);
                }
            }
            return (onward[0] & 1) != 0;
        }

        /** The OFFICIAL one; fits() has to have said yes. */
        void beginsInto(int[] begins) {
            int ahead = 0;
            int run = 0;
            begins[0] = 0;
            for (int month = 0; month < months; month++) {
                int longer = runWithFull(run, full);
                if ((onward[(month + 1) * RUNS + longer] >> (ahead + 1) & 1) != 0) {
                    run = longer;
                    ahead++;
                } else {
                    run = runWithLean(run, full, lean);
                }
                begins[month + 1] = dayOf(month + 1, ahead);
            }
        }
    }

    /** How the REPORTS of an ALMANAC are JUDGED by a T, and the OFFICIAL CALENDAR that comes of it. */
    private static final class Court {
        /** 27 to the sixth: no name is told by as great a number. */
        private static final int NAMES = 387420489;

        final Frame frame = new Frame();
        final int[] verdicts = new int[MOST_REPORTS];
        final int[] queue = new int[MOST_REPORTS];
        final long[] turns = new long[MOST_REPORTS];
        final int[] begins = new int[BEGINS];
        int queueLength = 0;
        int takenBits = 0;

        void judge(Almanac almanac, int t) {
            lineUp(almanac, t);
            frame.open(almanac);
            takenBits = 0;
            for (int i = 0; i < queueLength; i++) {
                int report = queue[i];
                verdicts[report] = verdictOn(almanac, almanac.reports[report]);
                if (verdicts[report] == TAKEN) {
                    takenBits |= 1 << report;
                }
            }
            frame.fits();
            frame.beginsInto(begins);
        }

        private void lineUp(Almanac almanac, int t) {
            queueLength = 0;
            for (int report = 0; report < almanac.reportCount; report++) {
                verdicts[report] = UNKNOWN;
                if (almanac.reports[report].isKnownBy(t)) {
                    insert(report, turnOf(almanac, report));
                }
            }
        }

        private void insert(int report, long turn) {
            int i = queueLength;
            while (i > 0 && turns[i - 1] > turn) {
                turns[i] = turns[i - 1];
                queue[i] = queue[i - 1];
                i--;
            }
            turns[i] = turn;
            queue[i] = report;
            queueLength++;
        }

        /** All by which they are put in order, the weightiest first, as one number. */
        private static long turnOf(Almanac almanac, int number) {
            Report report = almanac.reports[number];
            Place place = almanac.places[report.place];
            long turn = MOST_TRUST - place.trust;
            turn = turn * NAMES + place.name;
            turn = turn * MOST_MONTHS + report.month;
            turn = turn * (LAST_DAY + 1) + report.day;
            turn = turn * KINDS + report.kind;
            return turn * MOST_REPORTS + number;
        }

        private int verdictOn(Almanac almanac, Report report) {
            boolean mayBeEarly = report.kind == SEEN && almanac.hasMoon;
            if (mayBeEarly && report.day < almanac.earlyOf(report.month)) {
                return TOO_EARLY;
            }
            int before = frame.allowed[report.month];
            frame.narrow(report);
            if (frame.allowed[report.month] == before || frame.fits()) {
                return TAKEN;
            }
            frame.allowed[report.month] = before;
            return IMPOSSIBLE;
        }

        int lengthOf(int month) {
            return begins[month + 1] - begins[month];
        }
    }

    /** How many CALENDARS of a frame there are, by every way to go through them. */
    private static final class Tally {
        final int[] before = new int[SPOTS];
        final int[] behind = new int[SPOTS];
        final int[] starts = new int[CELLS];
        int months;
        int full;
        int lean;

        void fill(Frame frame) {
            months = frame.months;
            full = frame.full;
            lean = frame.lean;
            Arrays.fill(before, 0);
            Arrays.fill(behind, 0);
            countBefore(frame);
            countBehind();
            countStarts();
        }

        private void countBefore(Frame frame) {
            before[0] = 1;
            for (int month = 0; month < months; month++) {
                for (int ahead = 0; ahead <= month; ahead++) {
                    if (frame.allows(month + 1, ahead + 1)) {
                        takeOnWithFull(month, ahead);
                    }
                    if (frame.allows(month + 1, ahead)) {
                        takeOnWithLean(month, ahead);
                    }
                }
            }
        }

        private void takeOnWithFull(int month, int ahead) {
            int here = spot(month, ahead, 0);
            int there = spot(month + 1, ahead + 1, 0);
            for (int run = firstRun(month); run <= lastRun(month, full, lean); run++) {
                int next = runWithFull(run, full);
                if (next != 0) {
                    before[there + next] += before[here + run];
                }
            }
        }

        private void takeOnWithLean(int month, int ahead) {
            int here = spot(month, ahead, 0);
            int there = spot(month + 1, ahead, 0);
            for (int run = firstRun(month); run <= lastRun(month, full, lean); run++) {
                int next = runWithLean(run, full, lean);
                if (next != 0) {
                    before[there + next] += before[here + run];
                }
            }
        }

        private void countBehind() {
            int first = spot(months, 0, 0);
            for (int here = first; here < first + (months + 1) * RUNS; here++) {
                behind[here] = Math.min(before[here], 1);
            }
            for (int month = months - 1; month >= 0; month--) {
                for (int ahead = 0; ahead <= month; ahead++) {
                    int here = spot(month, ahead, 0);
                    for (int run = firstRun(month); run <= lastRun(month, full, lean); run++) {
                        if (before[here + run] > 0) {
                            behind[here + run] = withFull(month, ahead, run) + withLean(month, ahead, run);
                        }
                    }
                }
            }
        }

        private void countStarts() {
            for (int month = 0; month <= months; month++) {
                for (int ahead = 0; ahead <= month; ahead++) {
                    int here = spot(month, ahead, 0);
                    int sum = 0;
                    for (int run = firstRun(month); run <= lastRun(month, full, lean); run++) {
                        sum += before[here + run] * behind[here + run];
                    }
                    starts[cell(month, ahead)] = sum;
                }
            }
        }

        private int withFull(int month, int ahead, int run) {
            return behind[spot(month + 1, ahead + 1, runWithFull(run, full))];
        }

        private int withLean(int month, int ahead, int run) {
            return behind[spot(month + 1, ahead, runWithLean(run, full, lean))];
        }

        int total() {
            return behind[0];
        }

        int onDay(int month, int day) {
            int ahead = day - SHORT_DAYS * month;
            return ahead < 0 || ahead > month ? 0 : starts[cell(month, ahead)];
        }

        int onWeekday(int month, int offset, int week) {
            int many = 0;
            for (int ahead = 0; ahead <= month; ahead++) {
                if ((dayOf(month, ahead) + offset) % WEEK_DAYS == week) {
                    many += starts[cell(month, ahead)];
                }
            }
            return many;
        }

        int bound(int month, boolean greatest) {
            for (int i = 0; i <= month; i++) {
                int ahead = greatest ? month - i : i;
                if (starts[cell(month, ahead)] > 0) {
                    return dayOf(month, ahead);
                }
            }
            return NONE;
        }

        int mostLeft(int month) {
            int most = 0;
            for (int ahead = 0; ahead <= month; ahead++) {
                most = Math.max(most, starts[cell(month, ahead)]);
            }
            return most;
        }

        int leanIn(int month) {
            int many = 0;
            for (int ahead = 0; ahead <= month; ahead++) {
                for (int run = firstRun(month); run <= lastRun(month, full, lean); run++) {
                    many += before[spot(month, ahead, run)] * withLean(month, ahead, run);
                }
            }
            return many;
        }

        /** In how many a MONTH with so many of 30 days ahead has the day. */
        int dated(int month, int ahead, int day) {
            int past = day - dayOf(month, ahead);
            if (past < 0 || past >= LONG_DAYS) {
                return 0;
            }
            if (past < SHORT_DAYS) {
                return starts[cell(month, ahead)];
            }
            int many = 0;
            for (int run = firstRun(month); run <= lastRun(month, full, lean); run++) {
                many += before[spot(month, ahead, run)] * withFull(month, ahead, run);
            }
            return many;
        }

        int beginOf(int index, int month) {
            int left = index;
            int ahead = 0;
            int run = 0;
            for (int i = 0; i < month; i++) {
                int lower = withLean(i, ahead, run);
                if (left < lower) {
                    run = runWithLean(run, full, lean);
                } else {
                    left -= lower;
                    run = runWithFull(run, full);
                    ahead++;
                }
            }
            return dayOf(month, ahead);
        }

        int indexOf(int fullBits) {
            int index = 0;
            int ahead = 0;
            int run = 0;
            for (int month = 0; month < months; month++) {
                if ((fullBits >> month & 1) != 0) {
                    index += withLean(month, ahead, run);
                    run = runWithFull(run, full);
                    ahead++;
                } else {
                    run = runWithLean(run, full, lean);
                }
                if (behind[spot(month + 1, ahead, run)] == 0) {
                    return NONE;
                }
            }
            return index;
        }
    }

    /** The CALENDAR of a frame whose BEGINS cost least together, the first of like ones. */
    private static final class Search {
        private static final int TOO_DEAR = 1000000;

        final int[] costs = new int[CELLS];
        final int[] leasts = new int[SPOTS];
        int months;
        int full;
        int lean;

        void wipe() {
            Arrays.fill(costs, 0);
        }

        void charge(int month, int ahead, int cost) {
            costs[cell(month, ahead)] += cost;
        }

        void run(Frame frame) {
            months = frame.months;
            full = frame.full;
            lean = frame.lean;
            Arrays.fill(leasts, TOO_DEAR);
            for (int month = months; month >= 0; month--) {
                for (int ahead = 0; ahead <= month; ahead++) {
                    if (frame.allows(month, ahead)) {
                        fillCell(month, ahead);
                    }
                }
            }
        }

        private void fillCell(int month, int ahead) {
            for (int run = firstRun(month); run <= lastRun(month, full, lean); run++) {
                int rest = month == months ? 0 : Math.min(withFull(month, ahead, run), withLean(month, ahead, run));
                if (rest < TOO_DEAR) {
                    leasts[spot(month, ahead, run)] = rest + costs[cell(month, ahead)];
                }
            }
        }

        private int withFull(int month, int ahead, int run) {
            return leasts[spot(month + 1, ahead + 1, runWithFull(run, full))];
        }

        private int withLean(int month, int ahead, int run) {
            return leasts[spot(month + 1, ahead, runWithLean(run, full, lean))];
        }

        int least() {
            return leasts[0];
        }

        int fullBits() {
            int bits = 0;
            int ahead = 0;
            int run = 0;
            for (int month = 0; month < months; month++) {
                if (withLean(month, ahead, run) <= withFull(month, ahead, run)) {
                    run = runWithLean(run, full, lean);
                } else {
                    bits |= 1 << month;
                    run = runWithFull(run, full);
                    ahead++;
                }
            }
            return bits;
        }
    }

    /** The OFFICIAL CALENDARS as T goes from 0 to 999: a new one is looked for only when something new is known. */
    private static final class History {
        private static final int MOST_ERAS = MOST_REPORTS + 1;

        final int[] since = new int[MOST_ERAS];
        final int[] begins = new int[MOST_ERAS * BEGINS];
        int eras = 0;

        void fill(Almanac almanac, Court court) {
            eras = 0;
            int t = 0;
            while (eras < MOST_ERAS && t <= LAST_DAY) {
                court.judge(almanac, t);
                since[eras] = t;
                System.arraycopy(court.begins, 0, begins, eras * BEGINS, BEGINS);
                t = almanac.newsBehind(t);
                eras++;
            }
        }

        private boolean changesAt(int era, int month) {
            return begins[era * BEGINS + month] != begins[(era - 1) * BEGINS + month];
        }

        int changesOf(int month) {
            int many = 0;
            for (int era = 1; era < eras; era++) {
                if (changesAt(era, month)) {
                    many++;
                }
            }
            return many;
        }

        int lastChangeOf(int month) {
            for (int era = eras - 1; era >= 1; era--) {
                if (changesAt(era, month)) {
                    return since[era];
                }
            }
            return 0;
        }
    }
}
