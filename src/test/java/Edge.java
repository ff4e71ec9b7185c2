import java.io.IOException;
import java.nio.file.Files;
import java.nio.file.Path;
import java.util.ArrayList;
import java.util.List;
import java.util.Set;
import java.util.TreeSet;
import java.util.regex.Matcher;
import java.util.regex.Pattern;

/**
 * What the tests of boundary cases share. Each says() of which promise it is, and of which sentence of the document; in
 * the end no sentence that names a boundary case may be left, nor a refusal that a promise names.
 */
abstract class Edge {
    interface Maker {
        ThirteenthBun make();
    }

    interface Call {
        long on(ThirteenthBun x);
    }

    interface CallWith {
        long on(ThirteenthBun x, int v);
    }

    private static final int PROMISES = 53;
    private static final Path DOCUMENT = Path.of("../shared/DOC.md");
    /** What a boundary case is named by. FULL is also the name of what promise 20 asks for. */
    private static final Pattern NAMED = Pattern.compile(
        "\\d+ to \\d+|0, 1\\)|at most|at least|at first|held|or more|less than|more than|fewer|fewest|(?<!int )\\bleast\\b"
        + "|beyond|\\bnone\\b|wrap|cut\\b|missing|above 40|is below NIGHT|narrowed|first 30|behind NIGHT 15"
        + "|BAD|FULL(?! v)|NONE|STATE|-9|-1[1-5]");

    private static final String WHOLE = read();
    private static final boolean[] COVERED = new boolean[WHOLE.length()];
    private static final Set<String> REFUSALS = new TreeSet<>();
    private static int promise;
    private static String sentence = "";

    private static String read() {
        try {
            return Files.readString(DOCUMENT).replaceAll("\\s+", " ");
        } catch (IOException e) {
            System.out.println("no " + DOCUMENT + ": what is said isn't looked up there");
            return "";
        }
    }

    /** What follows is of that sentence, told word by word; [..] stands for words that are left out. */
    static void says(int ofPromise, String ofSentence) {
        promise = ofPromise;
        sentence = ofSentence;
        if (WHOLE.isEmpty()) {
            return;
        }
        String[] pieces = ofSentence.split(" ?\\[\\.\\.\\] ?");
        boolean isSaid = cover(pieces, partFrom("## Promise " + promise + ":")) || cover(pieces, partFrom("## Terms"))
            || cover(pieces, partFrom("## What it is"));
        Check.due(told("is it said there? that"), isSaid ? 1 : 0, 1);
    }

    private static int[] partFrom(String head) {
        int from = WHOLE.indexOf(head);
        int till = WHOLE.indexOf(" ## ", from + 1);
        return new int[] {from, till < 0 ? WHOLE.length() : till};
    }

    private static boolean cover(String[] pieces, int[] part) {
        int[] places = new int[pieces.length];
        int at = part[0];
        for (int i = 0; i < pieces.length; i++) {
            places[i] = WHOLE.indexOf(pieces[i], at);
            at = places[i] + pieces[i].length();
            if (part[0] < 0 || places[i] < 0 || at > part[1]) {
                return false;
            }
        }
        for (int i = 0; i < pieces.length; i++) {
            for (int c = 0; c < pieces[i].length(); c++) {
                COVERED[places[i] + c] = true;
            }
        }
        return true;
    }

    private static String told(String call) {
        return "promise " + promise + ", \"" + sentence + "\": " + call;
    }

    static void is(String call, long got, long want) {
        Check.due(told(call), got, want);
    }

    /** A call that is refused so, and behind which all is as if it had not been made. */
    static void refused(int want, String call, Maker village, Call refused) {
        REFUSALS.add(promise + " " + want);
        ThirteenthBun x = village.make();
        is(call, refused.on(x), want);
        same(call + " is refused: then", x, village.make());
    }

    /** The same of each number. */
    static void refused(int want, String call, Maker village, CallWith refused, int... numbers) {
        for (int v : numbers) {
            refused(want, call + " with " + v, village, x -> refused.on(x, v));
        }
    }

    /** The least and the greatest number are taken; the next ones, and those far off, are BAD and change nothing. */
    static void takes(int least, int most, String call, Maker village, CallWith with) {
        takesAs(ThirteenthBun.BAD, least, most, call, village, with);
    }

    static void takesAs(int refusal, int least, int most, String call, Maker village, CallWith with) {
        is(call + " takes " + least, with.on(village.make(), least) == refusal ? 1 : 0, 0);
        is(call + " takes " + most, with.on(village.make(), most) == refusal ? 1 : 0, 0);
        refused(refusal, call, village, with, least - 1, most + 1, Integer.MIN_VALUE, Integer.MAX_VALUE);
    }

    /** A call that is answered so, and changes nothing. */
    static void asked(int want, String call, Maker village, Call asked) {
        ThirteenthBun x = village.make();
        is(call, asked.on(x), want);
        same(call + " only asks: then", x, village.make());
    }

    /** All that can be asked is the same of both. */
    static void same(String when, ThirteenthBun x, ThirteenthBun y) {
        List<String> ofX = Seen.of(x);
        List<String> ofY = Seen.of(y);
        int at = 0;
        while (at < ofX.size() && at < ofY.size() && ofX.get(at).equals(ofY.get(at))) {
            at++;
        }
        boolean isSame = at == ofX.size() && at == ofY.size();
        is(when + (isSame ? " all is" : " " + ofX.get(at) + ", not " + ofY.get(at) + ", is") + " the same? that", isSame ? 1 : 0, 1);
    }

    /** Whether each boundary case that the document names lies in a sentence that was said. */
    static void nothingIsLeft() {
        if (WHOLE.isEmpty()) {
            return;
        }
        int from = WHOLE.indexOf("## Terms");
        int till = WHOLE.indexOf("## Not promised");
        Matcher named = NAMED.matcher(WHOLE).region(from, till);
        while (named.find()) {
            String around = WHOLE.substring(Math.max(0, named.start() - 50), Math.min(WHOLE.length(), named.end() + 20));
            Check.due("is \"" + named.group() + "\" in \"" + around + "\" tested? that",
                COVERED[named.start()] ? 1 : 0, 1);
        }
        for (int p = 1; p <= PROMISES; p++) {
            refusalsAreMet(p);
        }
    }

    private static void refusalsAreMet(int p) {
        int[] part = partFrom("## Promise " + p + ":");
        String text = WHOLE.substring(part[0], part[1]);
        List<Integer> wanted = new ArrayList<>();
        String[] names = {"BAD", "FULL(?! v)", "NONE", "STATE", "-9", "-11", "-12", "-13", "-14"};
        int[] answers = {-1, -2, -3, -4, -9, -11, -12, -13, -14};
        for (int i = 0; i < names.length; i++) {
            if (Pattern.compile(names[i] + "(?!\\d)").matcher(text).find()) {
                wanted.add(answers[i]);
            }
        }
        for (int answer : wanted) {
            Check.due("is there a call that promise " + p + " refuses by " + answer + "? that",
                REFUSALS.contains(p + " " + answer) ? 1 : 0, 1);
        }
    }
}
