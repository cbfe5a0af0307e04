import java.io.File;
import java.io.IOException;
import java.nio.charset.StandardCharsets;
import java.nio.file.Files;
import java.util.ArrayList;
import java.util.List;

/** Tests by sentences: each bears the document's own words and asks for the boundary that they name. */
class TossGroundSentences extends TossGroundTools {
    interface Ask {
        void of(int n);
    }

    interface Act {
        void on(TossGround x);
    }

    private static final List<String> quoted = new ArrayList<>();
    private static int asked = 0;
    private static int wrong = 0;

    /** One sentence, or the part of one that names a boundary; the test of it goes on alone, whatever others do. */
    static void says(String words, Call test) {
        quoted.add(words);
        int before = wrong;
        try {
            test.make();
        } catch (RuntimeException e) {
            wrong++;
            System.out.println("  threw " + e);
        }
        if (wrong > before) System.out.println("does not hold: " + words);
    }

    static void due(String what, long got, long want) {
        asked++;
        if (got != want) {
            wrong++;
            System.out.println("  " + what + " answered " + got + ", due is " + want);
        }
    }

    static void due(String what, boolean got, boolean want) {
        due(what, got ? 1 : 0, want ? 1 : 0);
    }

    static void same(String what, String got, String want) {
        asked++;
        if (!got.equals(want)) {
            wrong++;
            System.out.println("  " + what + ": it is\n    " + got + "\n  and was\n    " + want);
        }
    }

    static void refuses(String what, Class<?> want, Call call) {
        asked++;
        Class<?> got = thrownBy(call);
        if (got != want) {
            wrong++;
            System.out.println("  " + what + " threw " + got + ", due is " + want);
        }
    }

    /** Both bounds are answered, and what is beyond them is refused. */
    static void within(String what, Class<?> refusal, int least, int most, Ask ask) {
        for (int n : new int[] {least, most}) refuses(what + " " + n, null, () -> ask.of(n));
        for (int n : new int[] {Integer.MIN_VALUE, least - 1, most + 1, Integer.MAX_VALUE}) refuses(what + " " + n, refusal, () -> ask.of(n));
    }

    /** Texts of a new ground that are right. */
    static void rightGrounds(String... texts) {
        for (String s : texts) due("'" + s + "'", groundFault(new TossGround(), s), -1);
    }

    static void rightLaws(String... texts) {
        for (String s : texts) due("'" + s + "'", lawFault(new TossGround(), s), -1);
    }

    /** Texts in which a ^ stands ahead of the first wrong byte. */
    static void wrongGrounds(String... marked) {
        for (String s : marked) wrongGround(new TossGround(), s);
    }

    static void wrongGround(TossGround x, String marked) {
        due("'" + marked + "'", groundFault(x, marked.replace("^", "")), marked.indexOf('^'));
    }

    static void wrongLaws(String... marked) {
        for (String s : marked) due("'" + s + "'", lawFault(new TossGround(), s.replace("^", "")), s.indexOf('^'));
    }

    /** How many acts can be undone, and all else; some 110 calls. */
    static String all(TossGround x) {
        return "acts " + x.count(10) + state(x);
    }

    /** What is told and how the match stands, as one text. */
    static String state(TossGround x) {
        StringBuilder s = new StringBuilder(" count");
        for (int i = 0; i < 10; i++) s.append(' ').append(x.count(i));
        s.append(" match");
        for (int i = 0; i < 11; i++) s.append(' ').append(x.match(i));
        s.append(" log");
        for (int i = 0; i < x.match(6); i++) s.append(' ').append(x.log(i, 1)).append(' ').append(x.log(i, 3)).append(' ').append(x.log(i, 4));
        s.append(" sides");
        for (int i = 0; i < 2; i++) s.append(' ').append(x.side(i, false)).append(' ').append(x.side(i, true));
        s.append(" slots");
        for (int i = 0; i < 16; i++) s.append(' ').append(x.slot(i / 4, i % 4, false)).append(x.slot(i / 4, i % 4, true));
        s.append(" levels");
        for (int i = 0; i < x.count(0); i++) s.append(' ').append(x.level(i, 0, 0));
        s.append(" book");
        for (int i = 0; i < 6; i++) s.append(' ').append(x.book(i));
        int seed = x.seed(0);
        x.seed(seed);
        return s.append(" seed ").append(seed).toString();
    }

    /** The document's words, one blank between them. */
    private static String plain(String s) {
        return s.replaceAll("\\s+", " ");
    }

    private static void quotesStandInTheDocument() {
        String path = System.getProperty("document", "../shared/DOC.md");
        if (!new File(path).isFile()) {
            System.out.println("the document is not there, so its words are not looked at");
            return;
        }
        try {
            String document = plain(new String(Files.readAllBytes(new File(path).toPath()), StandardCharsets.UTF_8));
            for (String words : quoted) due("\"" + words + "\" in the document", document.contains(plain(words)), true);
        } catch (IOException e) {
            due("the document can be read", false, true);
        }
    }

    /** Tells how it went and ends the program. */
    static void end() {
        quotesStandInTheDocument();
        System.out.println(wrong == 0 ? "all " + asked + " answers to " + quoted.size() + " sentences are as due" : wrong + " of " + asked + " answers are not as due");
        if (wrong != 0) System.exit(1);
    }
}
