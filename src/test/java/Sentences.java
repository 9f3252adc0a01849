import java.io.IOException;
import java.nio.file.Files;
import java.nio.file.Path;
import java.util.ArrayList;
import java.util.LinkedHashMap;
import java.util.LinkedHashSet;
import java.util.List;
import java.util.Map;
import java.util.Set;
import java.util.function.LongSupplier;

/**
 * What the tests of single sentences have in common. Each test belongs to
 * words of the document and is told by them. At the end each piece of the
 * sections (a sentence, or what stands between semicolons) must have a test of
 * its own, or be named as one that has no boundary.
 */
abstract class Sentences {
    private static final Path DOCUMENT = Path.of("../shared/DOC.md");
    /** The face is compared by LanguageTest; what is not promised needs no test. */
    private static final Set<String> WITHOUT_BOUNDARIES = Set.of("", "StudioAirtime", "The public face", "Not promised");

    private static final Map<String, List<String>> CLAIMED = new LinkedHashMap<>();
    private static String section = "";
    private static String words = "";
    private static int tests;
    private static int checks;
    private static int checksOfTest;
    private static int wrong;

    /** A section of the document, by its heading. */
    static void section(String heading) {
        section = heading;
        CLAIMED.putIfAbsent(heading, new ArrayList<>());
    }

    static void test(String newWords, Runnable body) {
        claim(newWords);
        tests++;
        checksOfTest = 0;
        try {
            body.run();
        } catch (RuntimeException e) {
            tell("a call that should answer throws " + e);
        }
        if (checksOfTest == 0) {
            tell("the test checks nothing");
        }
    }

    static void noBoundary(String... pieces) {
        for (String piece : pieces) {
            claim(piece);
        }
    }

    private static void claim(String newWords) {
        words = newWords;
        CLAIMED.get(section).add(newWords);
    }

    private static void tell(String what) {
        wrong++;
        System.out.println("WRONG [" + section + "] \"" + words + "\": " + what);
    }

    private static void check(boolean right, String what) {
        checks++;
        checksOfTest++;
        if (!right) {
            tell(what);
        }
    }

    static void due(long want, String what, LongSupplier call) {
        long got;
        try {
            got = call.getAsLong();
        } catch (RuntimeException e) {
            check(false, what + " throws " + e + ", due is " + want);
            return;
        }
        check(got == want, what + " answered " + got + ", due is " + want);
    }

    static void throwsIndex(String what, LongSupplier call) {
        throwsA(IndexOutOfBoundsException.class, what, call);
    }

    static void throwsArgument(String what, LongSupplier call) {
        throwsA(IllegalArgumentException.class, what, call);
    }

    static void throwsState(String what, LongSupplier call) {
        throwsA(IllegalStateException.class, what, call);
    }

    private static void throwsA(Class<?> want, String what, LongSupplier call) {
        long got;
        try {
            got = call.getAsLong();
        } catch (RuntimeException e) {
            check(e.getClass() == want, what + " throws " + e + ", due is " + want.getSimpleName());
            return;
        }
        check(false, what + " answered " + got + ", due is " + want.getSimpleName());
    }

    /** The call saves the state from before it, and undo brings that state back. */
    static void undoable(StudioAirtime x, String what, LongSupplier call) {
        int saved = x.count(6);
        long before = x.digest();
        call.getAsLong();
        due(saved + 1, "saved states after " + what, () -> x.count(6));
        check(x.digest() != before, what + " changes nothing");
        due(saved, "undo() of " + what, x::undo);
        due(before, "digest() after undo of " + what, x::digest);
    }

    /** The call neither changes nor saves anything. */
    static void changesNothing(StudioAirtime x, String what, LongSupplier call) {
        long before = x.digest();
        try {
            call.getAsLong();
        } catch (RuntimeException expected) {
            // Whether it throws is looked at by others.
        }
        due(before, "digest() after " + what, x::digest);
    }

    /** A refused show: an IllegalStateException, its reason, and nothing else is changed. */
    static void refused(StudioAirtime x, int reason, String what, LongSupplier call) {
        int shows = x.count(1);
        int saved = x.count(6);
        throwsState(what, call);
        due(reason, "reason() of " + what, x::reason);
        due(shows, "shows after " + what, () -> x.count(1));
        due(saved, "saved states after " + what, () -> x.count(6));
    }

    static void type(StudioAirtime x, String text) {
        for (char c : text.toCharArray()) {
            x.append(c);
        }
    }

    /** A studio whose day is open from 0 to 1440. */
    static StudioAirtime openAllDay() {
        StudioAirtime x = new StudioAirtime();
        x.set(0, 0);
        x.set(1, 1440);
        return x;
    }

    static StudioAirtime typed(String text) {
        StudioAirtime x = new StudioAirtime();
        type(x, text);
        return x;
    }

    /** So many shows of five minutes, of the group 5, on the day 6 from 480 on. */
    static void fill(StudioAirtime x, int shows) {
        for (int i = 0; i < shows; i++) {
            x.add(false, 5, 6, 480 + 5 * i, 5, 0);
        }
    }

    /** Of the document's headings, those of the pattern belong to this class of tests. */
    static void end(String headings) throws IOException {
        if (Files.exists(DOCUMENT)) {
            compareWithDocument(Files.readString(DOCUMENT), headings);
        } else {
            System.out.println("no document at " + DOCUMENT + ": whether each sentence has a test is not looked at");
        }
        System.out.println(tests + " sentences, " + checks + " checks, " + wrong + " wrong");
        System.exit(wrong == 0 ? 0 : 1);
    }

    private static void compareWithDocument(String document, String headings) {
        Set<String> open = new LinkedHashSet<>(CLAIMED.keySet());
        for (String part : document.split("(?m)^#+ ")) {
            section = part.lines().findFirst().orElse("");
            words = "the section";
            if (open.remove(section)) {
                compareWithSection(part.substring(section.length()), CLAIMED.get(section));
            } else if (section.matches(headings) && !WITHOUT_BOUNDARIES.contains(section)) {
                tell("has no test");
            }
        }
        for (String heading : open) {
            section = heading;
            tell("is not in the document");
        }
    }

    private static void compareWithSection(String text, List<String> claims) {
        for (String claim : claims) {
            words = claim;
            if (text.indexOf(claim) < 0 || text.indexOf(claim) != text.lastIndexOf(claim)) {
                tell("stands not once in its section");
            }
        }
        for (String piece : text.split("\n|(?<=[.;]\\)?) +")) {
            words = piece;
            if (!piece.isBlank() && claims.stream().noneMatch(c -> piece.contains(c) || c.contains(piece))) {
                tell("has no test");
            }
        }
    }
}
