import java.io.IOException;
import java.lang.reflect.Field;
import java.lang.reflect.Member;
import java.lang.reflect.Method;
import java.lang.reflect.Modifier;
import java.nio.charset.StandardCharsets;
import java.nio.file.Files;
import java.nio.file.Path;
import java.util.Set;
import java.util.TreeSet;
import java.util.regex.Matcher;
import java.util.regex.Pattern;

/** The document's face and no more, and those rules of LANGUAGE.md that can be read off the class or its source. */
public final class FaceTest {
    private static final String FACE = "feed5 end1 almanac0 fault1 count1 place2 report2 deed2 early1 judged2 taken1 order2 "
        + "against2 blind2 ways1 begin2 span3 sure1 lasts2 could3 lean2 ranked3 rank2 drawn2 day3 date2 dates2 likely2 moved3 "
        + "shifts1 settled1 due2 dueSpan3 dueOn3 redated1 longer3 own3 apart3 hang2 telling1 trusted2 days2 weekday4 later1 "
        + "both2 nearest2 backed2 tell1 octet1 reports5 strikes1 trusts2 moon2 runs2";

    private static int wrong = 0;

    private FaceTest() {
    }

    public static void main(String[] args) throws IOException {
        face();
        members(SightedMonths.class);
        for (Class<?> inner : SightedMonths.class.getDeclaredClasses()) {
            must(Modifier.isStatic(inner.getModifiers()) && !Modifier.isPublic(inner.getModifiers()), inner + " is private, static");
            members(inner);
        }
        must(SightedMonths.class.getDeclaredClasses().length <= 12, "some twelve classes");
        source(Files.readString(Path.of("src/main/java/SightedMonths.java"), StandardCharsets.ISO_8859_1));
        System.out.println("FaceTest: " + wrong + " wrong");
        System.exit(wrong == 0 ? 0 : 1);
    }

    private static void must(boolean holds, String what) {
        if (!holds) {
            wrong++;
            System.out.println("not so: " + what);
        }
    }

    private static void face() {
        Set<String> due = new TreeSet<>(Set.of(FACE.split(" ")));
        Set<String> found = new TreeSet<>();
        for (Method method : SightedMonths.class.getDeclaredMethods()) {
            if (Modifier.isPublic(method.getModifiers())) {
                found.add(method.getName() + method.getParameterCount());
                must(method.getReturnType() == int.class && !Modifier.isStatic(method.getModifiers()), method + " answers an int");
                for (Class<?> kind : method.getParameterTypes()) {
                    must(kind == int.class, method + " takes ints");
                }
            }
        }
        must(due.equals(found), "the face is " + due + ", not " + found);
        must(SightedMonths.class.getConstructors().length == 1, "one constructor");
        must(SightedMonths.class.getFields().length == 1, "one constant");
        must(Modifier.isFinal(SightedMonths.class.getModifiers()), "a final class");
        must(SightedMonths.class.getPackageName().isEmpty(), "no package");
    }

    private static void members(Class<?> owner) {
        Set<String> names = new TreeSet<>();
        for (Method method : SightedMonths.class.getMethods()) {
            names.add(method.getName());
        }
        int fields = 0;
        for (Field field : owner.getDeclaredFields()) {
            boolean isStatic = Modifier.isStatic(field.getModifiers());
            fields += isStatic ? 0 : 1;
            must(!isStatic || Modifier.isFinal(field.getModifiers()), field + " is final");
            must(owner != SightedMonths.class || field.getName().equals("NONE") || isPrivate(field), field + " is private");
        }
        must(fields <= 20, owner + " has some twenty fields");
        for (Method method : owner.getDeclaredMethods()) {
            boolean isFace = owner == SightedMonths.class && Modifier.isPublic(method.getModifiers());
            must(isFace || owner != SightedMonths.class || isPrivate(method), method + " is private");
            must(isFace || !names.contains(method.getName()), method + " has a name of its own");
            must(method.getParameterCount() <= 7, method + " takes at most seven");
        }
    }

    private static boolean isPrivate(Member member) {
        return Modifier.isPrivate(member.getModifiers());
    }

    private static void source(String source) {
        must(source.chars().allMatch(c -> c == '\n' || c >= 32 && c < 127), "plain signs");
        String code = source.replaceAll("(?s)/\\*.*?\\*/", "").replaceAll("//[^\n]*", "");
        for (String word : new String[] {"throw", "throws", "try", "catch", "synchronized", "assert", "null", "double", "float",
            "System.out", "Random", "Thread"}) {
            must(!Pattern.compile("\\b" + word + "\\b").matcher(code).find(), "no " + word);
        }
        must(!code.contains("->") && !code.contains("::") && !code.contains("Exact("), "no lambda, no reference, no Exact");
        Matcher imports = Pattern.compile("import ([^;]*);").matcher(code);
        while (imports.find()) {
            must(imports.group(1).equals("java.util.Arrays"), "import " + imports.group(1));
        }
        int open = 0;
        int since = 0;
        String[] lines = code.split("\n");
        for (int i = 0; i < lines.length; i++) {
            if (Pattern.matches(" +(\\w+ )*[\\w\\[\\]]+ \\w+\\([^;]*\\) \\{", lines[i]) && !lines[i].contains("else")) {
                since = i;
                open = lines[i].indexOf(lines[i].trim());
            }
            if (lines[i].equals(" ".repeat(open) + "}")) {
                must(i - since <= 60, "a short method at " + lines[since].trim());
            }
        }
    }
}
