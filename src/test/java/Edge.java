import java.io.IOException;
import java.nio.file.Files;
import java.nio.file.Path;
import java.util.ArrayList;
import java.util.List;
import java.util.function.IntSupplier;
import java.util.regex.Matcher;
import java.util.regex.Pattern;

/**
 * A sentence of the document that names an edge, with a test of its own. At the end the sentences are looked up in
 * the document: each stands there, and no word that names an edge stands outside all of them.
 */
final class Edge {
    /** What the document says ahead of its terms: looked up, but most of it names no edge. */
    static final int AHEAD = -1;
    static final int TERMS = 0;
    static final int BAD = GuardFigures.BAD, FULL = GuardFigures.FULL, STATE = GuardFigures.STATE,
        NONE = GuardFigures.NONE;
    static final int NOTHING = 1, BEYOND = 2, UNLIKE = 3, NOUGHT = 4, SIZE = 5;
    static final int MIN = Integer.MIN_VALUE, MAX = Integer.MAX_VALUE;

    private static final Path DOCUMENT = Path.of("../shared/DOC.md");
    private static final Pattern EDGES = Pattern.compile("\\b(BAD|FULL|STATE|NOTHING|BEYOND|UNLIKE|NOUGHT|SIZE|NONE|"
        + "above|below|before|cut|none|no|least|fewest|most|first|last|latest|too|also|missing|anew|wanted|at first|"
        + "modulo|order|less|more|without|while|all)\\b|\\d \\.\\. \\d");
    private static final int FINDING_AT = 4;
    private static final List<Named> NAMED = new ArrayList<>();

    private record Named(int promise, String sentence) {
    }

    private Edge() {
    }

    static void of(int promise, String sentence, Runnable test) {
        NAMED.add(new Named(promise, sentence));
        Due.about(promise + " '" + sentence + "': ");
        int before = Due.compared();
        test.run();
        Due.is("answers were compared", Due.compared() > before ? 1 : 0, 1);
        Due.about("");
    }

    /** Refused without a FINDING: nothing changes at all. The same is due, where NONE is answered. */
    static void refused(GuardFigures x, int due, String call, IntSupplier made) {
        long[] before = all(x);
        Due.is(call, made.getAsInt(), due);
        same(call, all(x), before);
    }

    /** Refused with a FINDING: it is told, and counted; nothing else changes. */
    static void found(GuardFigures x, int finding, String call, IntSupplier made) {
        long[] due = all(x);
        due[FINDING_AT] = finding;
        due[FINDING_AT + finding]++;
        Due.is(call, made.getAsInt(), GuardFigures.FINDING);
        same(call, all(x), due);
    }

    /** Answered, and told by asked() alone. */
    static void aside(GuardFigures x, int due, int asked, String call, IntSupplier made) {
        long before = x.digest();
        Due.told(x, call, made.getAsInt(), due, asked);
        Due.is("digest() behind " + call, x.digest(), before);
    }

    /** All that can be told without asking for it: 10 calls. */
    private static long[] all(GuardFigures x) {
        return new long[] {x.digest(), x.asked(), x.upper(), x.lower(), x.finding(),
            x.findings(1), x.findings(2), x.findings(3), x.findings(4), x.findings(5)};
    }

    private static void same(String call, long[] got, long[] want) {
        String[] names = {"digest()", "asked()", "upper()", "lower()", "finding()",
            "findings(1)", "findings(2)", "findings(3)", "findings(4)", "findings(5)"};
        for (int i = 0; i < names.length; i++) {
            Due.is(names[i] + " behind " + call, got[i], want[i]);
        }
    }

    /** 40 DEEDS, by changing places again and again: an even number of times. */
    static GuardFigures full(String signs, String figures) {
        GuardFigures x = Due.house(signs, figures);
        for (int d = figures.length(); d < 40; d++) {
            Due.is("swap(0)", x.swap(0), figures.charAt(d % 2 == figures.length() % 2 ? 1 : 0) - '0');
        }
        return x;
    }

    static void number(GuardFigures x, String call, int figures, int number, int deeds) {
        Due.is("figures behind " + call, x.count(1), figures);
        Due.is("THE NUMBER behind " + call, x.count(3), number);
        Due.is("DEEDS behind " + call, x.count(2), deeds);
    }

    /** To be called last, with the promises whose sentences were tested. */
    static void end(int from, int to) throws IOException {
        if (Files.isReadable(DOCUMENT)) {
            String document = Files.readString(DOCUMENT);
            for (int promise = from; promise <= to; promise++) {
                lookUp(promise, words(document, promise));
            }
        } else {
            System.out.println(DOCUMENT + " is not there: no sentence was looked up");
        }
        Due.end();
    }

    private static String words(String document, int promise) {
        String head = promise == AHEAD ? "## What it is\n" : promise == TERMS ? "## Terms\n" : "## Promise " + promise + ":";
        int start = document.indexOf(head);
        if (start < 0) {
            return "";
        }
        start = document.indexOf('\n', start);
        int end = document.indexOf("\n## ", start);
        return document.substring(start, end).replaceAll("\\s+", " ");
    }

    private static void lookUp(int promise, String words) {
        boolean[] named = new boolean[words.length()];
        for (Named one : NAMED) {
            if (one.promise == promise) {
                int at = words.indexOf(one.sentence);
                Due.is("the document's promise " + promise + " says '" + one.sentence + "'", at < 0 ? 0 : 1, 1);
                for (int i = 0; at >= 0 && i < one.sentence.length(); i++) {
                    named[at + i] = true;
                }
            }
        }
        Matcher edge = EDGES.matcher(words);
        while (promise != AHEAD && edge.find()) {
            String near = words.substring(Math.max(0, edge.start() - 20), Math.min(words.length(), edge.end() + 20));
            Due.is("promise " + promise + " is tested at '" + near + "'", named[edge.start()] ? 1 : 0, 1);
        }
    }
}
