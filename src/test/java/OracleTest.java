import java.lang.reflect.Method;
import java.util.ArrayList;
import java.util.Arrays;
import java.util.List;
import java.util.Random;

/** The same calls on the class and on the Oracle, made up anew from fixed seeds: both answer alike. */
public final class OracleTest {
    /** Every call that is made up, with what each of its numbers is. */
    private static final String[] CALLS = {"fault w", "count c", "place p w", "report r w", "deed d w", "early m", "judged t r",
        "taken t", "order t i", "against t r", "blind t m", "ways t", "begin t m", "span t m w", "sure t", "lasts t m",
        "could t m y", "lean t m", "ranked t i m", "rank t b", "drawn t x", "day t m k", "date t y", "dates t y", "likely t y",
        "moved t t m", "shifts m", "settled m", "due t d", "dueSpan t d w", "dueOn t d y", "redated d", "longer t d d",
        "own t p m", "apart t p p", "hang t r", "telling t", "trusted t r", "days t d", "weekday t m k z", "later t", "both r r",
        "nearest t w", "backed t w", "tell t", "octet o", "reports p g n y u", "strikes r", "trusts p q", "moon a s",
        "runs f f"};

    private static int wrong = 0;
    private static long made = 0;

    private final Random random;
    private final SightedMonths x = new SightedMonths();
    private final Oracle oracle = new Oracle();
    private final List<String> story = new ArrayList<>();
    private int lastDay = 0;

    private OracleTest(long seed) {
        random = new Random(seed);
        story.add("seed " + seed);
    }

    public static void main(String[] args) throws Exception {
        for (int seed = 0; seed < 3000 && wrong == 0; seed++) {
            OracleTest test = new OracleTest(seed);
            test.run(2 + test.random.nextInt(8), 5, 120);
        }
        for (int seed = 0; seed < 12 && wrong == 0; seed++) {
            OracleTest test = new OracleTest(10000 + seed);
            test.run(20 + test.random.nextInt(5), 2, 40);
        }
        for (int seed = 0; seed < 60000 && wrong == 0; seed++) {
            new OracleTest(20000 + seed).runTexts();
        }
        System.out.println("OracleTest: " + made + " calls, " + wrong + " unlike");
        System.exit(wrong == 0 ? 0 : 1);
    }

    private void run(int months, int most, int calls) throws Exception {
        tell(Texts.madeUp(random, months, most));
        for (int i = 0; i < calls && wrong == 0; i++) {
            if (random.nextInt(60) == 0 && most == 5) {
                tell(random.nextBoolean() ? Texts.madeUp(random, months, most)
                    : Texts.spoilt(random, Texts.madeUp(random, months, most)));
            }
            String[] words = CALLS[random.nextInt(CALLS.length)].split(" ");
            if (most == 2 && words[0].equals("runs")) {
                continue;
            }
            int[] args = new int[words.length - 1];
            for (int a = 0; a < args.length; a++) {
                args[a] = number(words[a + 1].charAt(0), args, a);
            }
            same(words[0], args);
        }
    }

    private void runTexts() throws Exception {
        String text = Texts.madeUp(random, 2 + random.nextInt(23), 5);
        tell(text);
        for (int i = 0; i < 6; i++) {
            tell(Texts.spoilt(random, text));
            for (int what = 0; what <= 10; what++) {
                same("count", new int[] {what});
            }
        }
    }

    private void tell(String text) throws Exception {
        story.add("text " + text);
        for (int[] feed : Texts.feeds(text)) {
            same("feed", feed);
        }
        same("end", new int[] {text.length()});
        same("almanac", new int[0]);
        same("fault", new int[] {0});
        same("fault", new int[] {1});
    }

    private void same(String name, int[] args) throws Exception {
        Class<?>[] kinds = new Class<?>[args.length];
        Arrays.fill(kinds, int.class);
        Object[] given = new Object[args.length];
        for (int i = 0; i < args.length; i++) {
            given[i] = args[i];
        }
        Method asked = SightedMonths.class.getMethod(name, kinds);
        Method due = Oracle.class.getDeclaredMethod(name, kinds);
        int got = (Integer) asked.invoke(x, given);
        int want = (Integer) due.invoke(oracle, given);
        made++;
        story.add(name + Arrays.toString(args) + " " + got);
        if (got != want) {
            wrong++;
            System.out.println(String.join("\n", story));
            System.out.println("due is " + want);
        }
    }

    private int within(int least, int most) {
        return most < least ? least : least + random.nextInt(most - least + 1);
    }

    /** Mostly what there is, now and then what there is not. */
    private int number(char kind, int[] args, int at) {
        if (random.nextInt(25) == 0) {
            int[] odd = {-1, -2, 1000, 31, 24, 25, 7, Integer.MIN_VALUE, Integer.MAX_VALUE, 10, 6, 999, 0};
            return odd[random.nextInt(odd.length)];
        }
        int months = oracle.count(0);
        switch (kind) {
            case 't':
                return random.nextInt(4) == 0 ? within(0, 999) : within(0, 30 * months + 30);
            case 'm':
                return within(0, months);
            case 'n':
                return within(1, months - 1);
            case 'r':
                return within(0, oracle.count(4) - 1);
            case 'p':
                return within(0, oracle.count(3) - 1);
            case 'd':
                return within(0, oracle.count(5) - 1);
            case 'w':
                return random.nextInt(6) == 0 ? within(-1, 5) : within(0, 1);
            case 'i':
                return random.nextInt(4) == 0 ? within(0, 30) : within(0, 8);
            default:
                return numberMore(kind, args, at, months);
        }
    }

    private int numberMore(char kind, int[] args, int at, int months) {
        switch (kind) {
            case 'y':
                // Where a MONTH is told ahead of it, a day near its BEGIN.
                boolean near = at > 0 && args[at - 1] >= 1 && args[at - 1] <= 24 && random.nextInt(4) != 0;
                lastDay = near ? Texts.nearDay(random, args[at - 1]) + within(0, 1) : within(0, 30 * months);
                return lastDay;
            case 'u':
                return Math.min(999, lastDay + within(0, 60));
            case 'b':
                return random.nextInt(3) == 0 ? within(0, (1 << months) - 1) : oracle.nearest(999, 1) < 0
                    ? oracle.backed(999, 1) : oracle.nearest(999, 1);
            case 'x':
                return random.nextInt();
            case 'k':
                return random.nextInt(3) == 0 ? 30 : within(1, 30);
            case 'z':
                return within(0, 6);
            case 'c':
                return within(0, 11);
            case 'g':
                return within(0, 2);
            case 'q':
                return within(0, 9);
            case 'a':
                return random.nextInt(4) == 0 ? within(0, 99999) : within(0, 1500);
            case 's':
                return random.nextInt(4) == 0 ? within(28000, 31000) : within(28900, 29800);
            case 'f':
                return within(1, 5);
            default:
                return within(0, 30);
        }
    }
}
