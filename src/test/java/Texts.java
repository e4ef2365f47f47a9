import java.nio.charset.StandardCharsets;
import java.util.ArrayList;
import java.util.List;
import java.util.Random;

/** Texts for tests: fed to an object, or made up. */
final class Texts {
    private Texts() {
    }

    /** The five numbers of each feed() that bring the text; what is left of the last is zero. */
    static List<int[]> feeds(String text) {
        byte[] bytes = text.getBytes(StandardCharsets.ISO_8859_1);
        List<int[]> feeds = new ArrayList<>();
        for (int from = 0; from < bytes.length; from += 20) {
            int[] feed = new int[5];
            for (int i = 0; i < 20; i++) {
                int one = from + i < bytes.length ? bytes[from + i] & 255 : 0;
                feed[i / 4] |= one << 24 - 8 * (i % 4);
            }
            feeds.add(feed);
        }
        return feeds;
    }

    static int tell(SightedMonths x, String text) {
        put(x, text);
        return x.almanac();
    }

    static void put(SightedMonths x, String text) {
        for (int[] f : feeds(text)) {
            x.feed(f[0], f[1], f[2], f[3], f[4]);
        }
        x.end(text.length());
    }

    static SightedMonths of(String text) {
        SightedMonths x = new SightedMonths();
        tell(x, text);
        return x;
    }

    private static String name(Random random) {
        String[] names = {"a", "ab", "aba", "b", "abcdef", "zz", "month", "seen", "known", "abcdeg", "aa"};
        return names[random.nextInt(names.length)];
    }

    /** A text that is mostly right, of as many MONTHS as told. */
    static String madeUp(Random random, int months, int most) {
        StringBuilder text = new StringBuilder();
        text.append("almanac months ").append(months).append(" full ").append(1 + random.nextInt(most)).append(" lean ")
            .append(1 + random.nextInt(most)).append(';');
        if (random.nextInt(10) < 6) {
            text.append("moon ").append(random.nextInt(4) == 0 ? random.nextInt(100000) : random.nextInt(1500))
                .append(" step ").append(28700 + random.nextInt(1200)).append(';');
        }
        List<String> names = new ArrayList<>();
        int places = random.nextInt(7);
        for (int i = 0; i < places; i++) {
            String name = name(random);
            if (!names.contains(name)) {
                names.add(name);
                text.append("place ").append(name).append(" trust ").append(random.nextInt(10)).append(";\n");
            }
        }
        int reports = names.isEmpty() ? 0 : random.nextInt(8) == 0 ? 24 : random.nextInt(14);
        for (int i = 0; i < reports; i++) {
            text.append(report(random, months, names.get(random.nextInt(names.size())))).append(';');
        }
        int deeds = random.nextInt(5);
        for (int i = 0; i < deeds; i++) {
            text.append(deed(random, months)).append(" ;");
        }
        return text.toString();
    }

    static int nearDay(Random random, int month) {
        return Math.max(0, Math.min(999, 29 * month + random.nextInt(month + 3) - 2));
    }

    private static String report(Random random, int months, String name) {
        int month = 1 + random.nextInt(months - 1);
        int day = nearDay(random, month);
        String kind = new String[] {"seen", "clear", "cloud"}[random.nextInt(7) * 3 / 8];
        String known = random.nextBoolean() ? "" : " known " + Math.min(999, day + random.nextInt(120));
        return kind + " " + name + " month " + month + " on " + day + known;
    }

    private static String deed(Random random, int months) {
        int month = random.nextInt(months);
        int day = random.nextInt(3) == 0 ? 30 : 1 + random.nextInt(30);
        String run = random.nextBoolean() ? random.nextInt(months - month) + " months" : random.nextInt(601) + " days";
        return "deed month " + month + " day " + day + " for " + run;
    }

    /** The text with a few of its bytes or words gone, doubled or others. */
    static String spoilt(Random random, String text) {
        StringBuilder spoilt = new StringBuilder(text);
        String[] bits = {" ", ";", "0", "9", "a", "almanac ", "moon 0 step 29000;", "A", "\t", "99999999999999999999", "known 3",
            "place q trust 1;", "deed month 0 day 1 for 0 days;", "-", "\u00e9", "months", "days", "cloud a month 1 on 1;"};
        for (int n = 1 + random.nextInt(2); n > 0 && spoilt.length() > 0; n--) {
            int at = random.nextInt(spoilt.length());
            int to = Math.min(spoilt.length(), at + 1 + random.nextInt(6));
            switch (random.nextInt(4)) {
                case 0:
                    spoilt.delete(at, to);
                    break;
                case 1:
                    spoilt.insert(at, spoilt.substring(at, to));
                    break;
                case 2:
                    spoilt.setLength(at);
                    break;
                default:
                    spoilt.insert(at, bits[random.nextInt(bits.length)]);
            }
        }
        return spoilt.length() > 1600 ? spoilt.substring(0, 1600) : spoilt.toString();
    }
}
