import java.lang.reflect.Method;
import java.nio.file.Files;
import java.nio.file.Path;
import java.util.ArrayList;
import java.util.Arrays;
import java.util.List;
import java.util.Map;
import java.util.Random;
import java.util.TreeMap;
import java.util.TreeSet;

/**
 * Runs of up to 512 calls (the document promises no more of one object) by a fixed seed, each call made of
 * the class and of PlainMirror, which reads the document in the plainest way: both must answer the same,
 * promises 1 to 45. At the end every call must have come to each refusal that its promise names.
 * An argument tells how many runs there are.
 */
public final class PlainTest {
    private static final Checks c = new Checks();
    private static final Path DOCUMENT = Path.of("../shared/DOC.md");
    private static final int CALLS_MOST = 512, RUNS = 800;
    private static final int[] WILD = {
        Integer.MIN_VALUE, -2147483647, -7, -2, -1, 1, 4, 6, 7, 13, 40, 41, 60, 61, 2147483646, Integer.MAX_VALUE,
    };
    private static final String[] FINDINGS = {"", "NOTHING", "BEYOND", "UNLIKE", "NOUGHT", "SIZE"};

    /** Of each call what its numbers are: a row, a text, a glass, a step, .. (see number()). */
    private static final String[] CALLS = {
        "row row size", "lay row place any", "at row place", "tear row", "copy row place row place few", "mean row",
        "text text length", "put text spot any", "fault text", "room text", "glass glass four", "mark glass kind",
        "habit step", "term term two", "step glass step", "deed deed four", "broken", "undo deed", "keep kept", "on kept",
        "show glass row row", "breaks glass row", "alike glass row", "fit row row", "ways glass row",
        "first glass row row", "can glass row few", "laws row row", "next row row", "he glass row row",
        "keeps glass few", "still glass few", "game three", "picks three", "odds glass row twelve",
        "mid glass row twelve", "lots many seed", "asked", "upper", "lower", "count nine", "finding", "findings kind",
        "digest",
    };
    private static final Map<String, Method> REAL = new TreeMap<>();
    private static final Map<String, Method> PLAIN = new TreeMap<>();
    private static final TreeSet<String> SEEN = new TreeSet<>();

    private final Random random;
    private final LimpMirror real = new LimpMirror();
    private final PlainMirror plain = new PlainMirror();
    private final List<String> made = new ArrayList<>();
    private boolean isSame = true;

    private PlainTest(long seed) {
        random = new Random(seed);
    }

    public static void main(String[] args) throws Exception {
        for (Method m : LimpMirror.class.getMethods()) {
            REAL.put(m.getName(), m);
        }
        for (Method m : PlainMirror.class.getDeclaredMethods()) {
            PLAIN.putIfAbsent(m.getName(), m);
        }
        int runs = args.length == 0 ? RUNS : Integer.parseInt(args[0]);
        for (int seed = 1; seed <= runs; seed++) {
            new PlainTest(seed).run();
        }
        lookAtRefusals();
        c.end();
    }

    private void run() throws Exception {
        if (random.nextInt(6) > 0) {
            writeRoom();
        }
        // the dearest of these is a room's text: 60 places and what is looked at behind it
        while (isSame && made.size() < CALLS_MOST - 80) {
            int what = random.nextInt(60);
            if (what == 0) {
                writeRoom();
            } else if (what < 5) {
                layRow(random.nextInt(6));
            } else if (what == 5) {
                both("lots", 10 + random.nextInt(11), 1 + random.nextInt(2147483646));
            } else if (what == 6) {
                lookThrough();
            } else if (what == 7) {
                keepAndGoOn();
            } else {
                anyCall();
            }
            lookAround();
        }
    }

    // ---- what is called

    private void writeRoom() throws Exception {
        StringBuilder text = new StringBuilder(blanks() + "h");
        for (int step = 0; step < 6; step++) {
            text.append(random.nextInt(6));
        }
        for (int many = 1 + random.nextInt(random.nextInt(6) == 0 ? 7 : 6); many > 0; many--) {
            text.append(blanks()).append("gltoif".charAt(random.nextInt(6))).append(random.nextInt(4));
        }
        int hard = random.nextInt(8);
        int terms = hard < 3 ? 5 + random.nextInt(3) : random.nextInt(10);
        for (int n = 0; n < terms; n++) {
            text.append(blanks()).append('n').append(hard < 3 ? hardTerm(n % 6, hard) : anyTerm());
        }
        text.append(blanks());
        while (random.nextInt(4) == 0) {
            spoil(text);
        }
        text.setLength(Math.min(text.length(), 60));
        int t = random.nextInt(4);
        both("text", t, text.length());
        for (int i = 0; i < text.length(); i++) {
            if (text.charAt(i) != ' ') {
                both("put", t, i, text.charAt(i) + 256 * random.nextInt(2));
            }
        }
        both("fault", t);
        both("room", t);
    }

    private String anyTerm() {
        return "" + random.nextInt(6) + random.nextInt(2) * random.nextInt(6);
    }

    /** One that a step breaks before many glasses, so that there may be no way through. */
    private String hardTerm(int step, int hard) {
        boolean isNought = hard == 2 ? random.nextBoolean() : hard == 1;
        return step + (isNought ? "0" : "021345".substring(step, step + 1));
    }

    private String blanks() {
        return " ".repeat(random.nextInt(3) * random.nextInt(2));
    }

    private void spoil(StringBuilder text) {
        int i = random.nextInt(text.length());
        char sign = "hgltoifn 0345678".charAt(random.nextInt(16));
        switch (random.nextInt(4)) {
            case 0: text.setCharAt(i, sign); break;
            case 1: text.insert(i, sign); break;
            case 2: text.insert(i, "" + sign + random.nextInt(4)); break;
            default: text.setLength(i + 1);
        }
    }

    /** What one glass shows of a row, so that rows belong together. */
    private void lookThrough() throws Exception {
        int r = random.nextInt(6);
        int q = random.nextInt(6);
        int k = number("glass");
        layRow(r);
        both("show", k, r, q);
        both("laws", r, q);
        both("next", r, q);
        both("he", k, r, q);
        both("asked");
        both("ways", k, q);
        both("first", k, q, r);
        both("can", k, q, random.nextInt(7));
    }

    private void keepAndGoOn() throws Exception {
        int deeds = plain.count(2);
        both("lots", random.nextBoolean() && deeds < 40 && deeds >= 20 ? 40 - deeds : 1 + random.nextInt(3), 1);
        both("keep", 0);
        both("undo", random.nextInt(2));
        both("keep", 1 + random.nextInt(2));
        both("step", number("glass"), number("step"));
        both("digest");
        both("on", random.nextInt(3));
        both("digest");
        both("on", 0);
    }

    private void layRow(int r) throws Exception {
        int[] sizes = {0, 1, 2, 3, 4, 5, 6, 7, 11, 12, 13};
        int size = random.nextInt(4) == 0 ? sizes[random.nextInt(sizes.length)] : random.nextInt(5);
        int below = 1 + random.nextInt(6);
        both("row", r, size);
        for (int i = 0; i < size; i++) {
            int step = random.nextInt(below);
            if (step > 0) {
                both("lay", r, i, random.nextInt(60) == 0 ? WILD[random.nextInt(WILD.length)] : step);
            }
        }
    }

    private void anyCall() throws Exception {
        String[] words = CALLS[random.nextInt(CALLS.length)].split(" ");
        // what takes away comes less often than what is built
        boolean isDrastic = List.of("row", "tear", "text", "room", "undo").contains(words[0]);
        if (isDrastic && random.nextInt(4) > 0) {
            return;
        }
        int[] numbers = new int[words.length - 1];
        for (int i = 0; i < numbers.length; i++) {
            numbers[i] = random.nextInt(25) == 0 ? WILD[random.nextInt(WILD.length)] : number(words[i + 1]);
        }
        both(words[0], numbers);
    }

    private int number(String kind) {
        switch (kind) {
            case "row": return random.nextInt(6);
            case "text": return random.nextInt(random.nextInt(8) == 0 ? 5 : 4);
            case "glass": return random.nextInt(random.nextInt(8) == 0 ? 7 : Math.max(1, plain.count(0)));
            case "deed": return random.nextInt(random.nextInt(4) == 0 ? 42 : Math.max(2, plain.count(2) + 1));
            case "step": return random.nextInt(random.nextInt(8) == 0 ? 7 : 6);
            case "size": return random.nextInt(random.nextInt(3) == 0 ? 42 : 8);
            case "length": return random.nextInt(62);
            case "spot": return random.nextInt(random.nextInt(3) == 0 ? 61 : 20);
            case "place": return random.nextInt(random.nextInt(3) == 0 ? 15 : 4);
            case "few": return random.nextInt(7);
            case "kind": return random.nextInt(7);
            case "term": return random.nextInt(8);
            case "two": return random.nextInt(3);
            case "three": return random.nextInt(5);
            case "four": return random.nextInt(5);
            case "kept": return random.nextInt(4);
            case "nine": return random.nextInt(10);
            case "twelve": return random.nextInt(14);
            case "many": return random.nextInt(22);
            case "seed": return random.nextInt();
            default: return random.nextInt(3) == 0 ? random.nextInt() : random.nextInt(6);
        }
    }

    private void lookAround() throws Exception {
        both("asked");
        both("finding");
        both("digest");
        if (random.nextInt(4) == 0) {
            both("upper");
            both("lower");
            both("findings", 1 + random.nextInt(5));
        }
    }

    // ---- both are asked

    private void both(String name, int... numbers) throws Exception {
        Object[] given = Arrays.stream(numbers).boxed().toArray();
        String call = name + Arrays.toString(numbers).replace('[', '(').replace(']', ')');
        long got = ((Number) REAL.get(name).invoke(real, given)).longValue();
        long want = ((Number) PLAIN.get(name).invoke(plain, given)).longValue();
        made.add(call + " " + got);
        if (made.size() > CALLS_MOST) {
            c.wrong("too many calls of one object");
        }
        c.due(call, got, want);
        if (got != want) {
            isSame = false;
            System.out.println("the run: " + String.join("; ", made));
        }
        see(name, want);
    }

    private void see(String name, long answer) {
        if (answer == LimpMirror.FINDING) {
            SEEN.add(name + " " + FINDINGS[plain.finding()]);
        } else if (answer == LimpMirror.NONE || answer >= 0 && tellsNone(name)) {
            SEEN.add(name + " NONE");
        }
        SEEN.add(name + (answer == -1 ? " BAD" : answer == -2 ? " FULL" : answer == -4 ? " STATE" : " answered"));
    }

    private boolean tellsNone(String name) {
        return List.of("deed", "broken", "fit", "he").contains(name) && plain.asked() == LimpMirror.NONE;
    }

    private static void lookAtRefusals() throws Exception {
        if (!Files.exists(DOCUMENT)) {
            System.out.println("there is no " + DOCUMENT + ": its words are not looked at");
            return;
        }
        String document = Files.readString(DOCUMENT);
        for (String call : CALLS) {
            String name = call.split(" ")[0];
            int from = document.indexOf(": " + name + "\n");
            String promise = document.substring(from, document.indexOf("\n## ", from));
            for (String word : "BAD FULL STATE NOTHING BEYOND UNLIKE NOUGHT SIZE NONE".split(" ")) {
                if (promise.matches("(?s).*\\b" + word + "\\b.*") && !SEEN.contains(name + " " + word) && !name.equals("asked")) {
                    c.wrong(name + " never came to " + word);
                }
            }
            if (!SEEN.contains(name + " answered")) {
                c.wrong(name + " was always refused");
            }
        }
    }
}
