import java.lang.reflect.Method;
import java.util.ArrayList;
import java.util.Arrays;
import java.util.List;
import java.util.function.Supplier;

/** The calls that ask and those that change, each with a letter for what each of its numbers is. */
final class Calls {
    /** Those that answer -2 (moved: -2000) for what there is not. */
    static final String[] ASKING = {"place p 3", "report r 5", "deed d 4", "early e", "judged t r", "taken t", "order t i",
        "against t r", "blind t n", "ways t", "begin t m", "span t m w", "sure t", "lasts t l", "could t m x", "lean t l",
        "ranked t i m", "rank t b", "drawn t x", "day t l k", "date t y", "dates t y", "likely t x", "moved t t m", "shifts m",
        "settled m", "due t d", "dueSpan t d w", "dueOn t d x", "redated d", "longer t d d", "own t p m", "apart t p p",
        "hang t r", "telling t", "trusted t r", "days t d", "weekday t l k z", "later t", "both r r", "nearest t w", "backed t w"};

    static final String[] CHANGING = {"strikes r", "trusts p q", "moon a s", "runs f f", "tell t"};

    private static final int[] TIMES = {0, 28, 29, 40, 59, 60, 70, 88, 95, 117, 500, 998, 999};

    private Calls() {
    }

    /** The least and the greatest that there is; where there is no end, the least or the greatest int. */
    static int[] range(SightedMonths x, char kind) {
        switch (kind) {
            case 't':
            case 'y':
                return new int[] {0, 999};
            case 'm':
                return new int[] {0, x.count(0)};
            case 'e':
                return new int[] {1, x.count(0)};
            case 'n':
                return new int[] {1, x.count(0) - 1};
            case 'l':
                return new int[] {0, x.count(0) - 1};
            case 'p':
                return new int[] {0, x.count(3) - 1};
            case 'r':
                return new int[] {0, x.count(4) - 1};
            case 'd':
                return new int[] {0, x.count(5) - 1};
            case 'b':
                return new int[] {0, (1 << x.count(0)) - 1};
            case 'k':
                return new int[] {1, 30};
            case 'z':
                return new int[] {0, 6};
            case 'i':
                return new int[] {0, Integer.MAX_VALUE};
            case 'q':
                return new int[] {0, 9};
            case 'a':
                return new int[] {0, 99999};
            case 's':
                return new int[] {28000, 31000};
            case 'f':
                return new int[] {1, 5};
            case 'x':
                return new int[] {Integer.MIN_VALUE, Integer.MAX_VALUE};
            case 'w':
                return new int[] {0, 1};
            default:
                return new int[] {0, kind - '1'};
        }
    }

    static int call(SightedMonths x, String name, int... args) {
        Class<?>[] kinds = new Class<?>[args.length];
        Arrays.fill(kinds, int.class);
        Object[] given = new Object[args.length];
        for (int i = 0; i < args.length; i++) {
            given[i] = args[i];
        }
        try {
            Method method = SightedMonths.class.getMethod(name, kinds);
            return (Integer) method.invoke(x, given);
        } catch (ReflectiveOperationException e) {
            throw new IllegalStateException(name + Arrays.toString(args), e);
        }
    }

    /**
     * What objects made alike answer to some thousand calls that ask; each is asked some hundred times only, as no object is used
     * for more than 512 calls.
     */
    static List<String> answers(Supplier<SightedMonths> made) {
        List<String> answers = new ArrayList<>();
        SightedMonths x = made.get();
        for (int what = 0; what <= 10; what++) {
            answers.add("count " + what + " " + x.count(what));
        }
        for (int i = 0; i < 72; i++) {
            answers.add("octet " + i + " " + x.octet(i));
        }
        for (String call : ASKING) {
            String[] words = call.split(" ");
            x = made.get();
            for (int turn = 0; turn < 40; turn++) {
                int[] args = new int[words.length - 1];
                for (int a = 0; a < args.length; a++) {
                    args[a] = some(x, words[a + 1].charAt(0), turn, a);
                }
                answers.add(words[0] + Arrays.toString(args) + " " + call(x, words[0], args));
            }
        }
        return answers;
    }

    /** Now this, now that: so that forty turns go through most of what there is. */
    private static int some(SightedMonths x, char kind, int turn, int at) {
        int[] range = range(x, kind);
        int step = turn * (at + 1) + turn / 7;
        switch (kind) {
            case 't':
                return TIMES[step % TIMES.length];
            case 'x':
            case 'y':
                return 28 + 7 * step % 150;
            case 'i':
                return step % 25;
            default:
                return range[1] < range[0] ? range[0] : range[0] + step % (range[1] - range[0] + 1);
        }
    }

    /** The first that is not the same; "" if all are. */
    static String unlike(List<String> ones, List<String> others) {
        for (int i = 0; i < ones.size(); i++) {
            if (!ones.get(i).equals(others.get(i))) {
                return ones.get(i) + " then " + others.get(i);
            }
        }
        return "";
    }
}
