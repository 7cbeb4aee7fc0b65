import java.util.HashSet;
import java.util.NoSuchElementException;
import java.util.Set;

/** What the tests of the document's sentences have in common: each one quotes the sentence that it tests. */
abstract class Edges extends Slides {
    static final int LEAST = Integer.MIN_VALUE;
    static final int MOST = Integer.MAX_VALUE;
    static final Class<IllegalArgumentException> ARGUMENT = IllegalArgumentException.class;
    static final Class<IllegalStateException> STATE = IllegalStateException.class;
    static final Class<IndexOutOfBoundsException> INDEX = IndexOutOfBoundsException.class;
    static final Class<UnsupportedOperationException> UNSUPPORTED = UnsupportedOperationException.class;
    static final Class<NoSuchElementException> ELEMENT = NoSuchElementException.class;
    static final Class<ArithmeticException> ARITHMETIC = ArithmeticException.class;

    /** What stands next to 'x' and 'y', what looks like them, and the ends of the signs. */
    static final char[] NO_AXES = {'w', 'z', 'X', 'Y', 'x' + 256, 'y' + 256, 0, 65535};

    private static final Check CHECK = new Check();
    private static final Sentences SENTENCES = new Sentences();
    private static final Set<String> QUOTED = new HashSet<>();

    private static String section = "";
    private static String quote = "";

    interface OfNumber {
        Object answer(int number);
    }

    interface OfAxis {
        Object answer(char axis);
    }

    static void section(String name) {
        section = name;
    }

    static void promise(int number) {
        section = "Promise " + number;
    }

    /** Runs the test of a sentence, which must stand in the section word by word. */
    static void sentence(String text, Runnable test) {
        quote = section + ", \"" + text + "\": ";
        QUOTED.add(section + text);
        CHECK.compare(quote + "stands in the document", true, SENTENCES.of(section).contains(text));
        int before = CHECK.checked();
        test.run();
        CHECK.compare(quote + "is tested", true, CHECK.checked() > before);
    }

    /** Tells of a sentence that no boundary is in, so that none can be tested. */
    static void namesNoEdge(String text) {
        QUOTED.add(section + text);
    }

    static void due(String what, Object want, Check.Call call) {
        CHECK.due(quote + what, want, call);
    }

    static void fails(String what, SlideLayout slide, Class<? extends RuntimeException> want, Check.Call call) {
        CHECK.fails(quote + what, slide, want, call);
    }

    /** The slide must have fewer than 4 shapes or be full: then the number of its shapes is no shape. */
    static void failsForNoShape(SlideLayout slide, OfNumber call) {
        for (int number : new int[] {-1, Sight.shapeCount(slide), 4, LEAST, MOST}) {
            fails("shape " + number, slide, INDEX, () -> call.answer(number));
        }
    }

    static void failsForNoAxis(SlideLayout slide, OfAxis call) {
        for (char axis : NO_AXES) {
            fails("axis " + (int) axis, slide, ARGUMENT, () -> call.answer(axis));
        }
    }

    static void failsForNoDistance(SlideLayout slide, OfNumber call) {
        for (int distance : new int[] {-1, 201, LEAST, MOST}) {
            fails("distance " + distance, slide, ARGUMENT, () -> call.answer(distance));
        }
    }

    /** Each sentence of the section that a boundary may be in must have been quoted. */
    static void allQuoted(String name) {
        for (String sentence : SENTENCES.of(name)) {
            if (mayNameAnEdge(name, sentence)) {
                CHECK.compare(name + ", \"" + sentence + "\" has a test of its own", true,
                        QUOTED.contains(name + sentence));
            }
        }
    }

    static void allQuoted(int firstPromise, int lastPromise) {
        for (int number = firstPromise; number <= lastPromise; number++) {
            CHECK.compare("Promise " + number + " is in the document", false,
                    SENTENCES.of("Promise " + number).isEmpty());
            allQuoted("Promise " + number);
        }
    }

    /** Each sentence of the whole document must stand in the source of the tests, as one text. */
    static void allQuotedIn(String tests) {
        for (String name : SENTENCES.sections()) {
            for (String sentence : SENTENCES.of(name)) {
                CHECK.compare(name + ", \"" + sentence + "\" is quoted", true, tests.contains('"' + sentence + '"'));
            }
        }
    }

    /** In a promise, what is thrown, and whatever names a number; among the terms, all but the headings. */
    private static boolean mayNameAnEdge(String name, String sentence) {
        if (name.startsWith("Promise")) {
            return sentence.startsWith("Throws") || sentence.matches(".*[0-9].*");
        }
        return sentence.contains(" ") && !sentence.matches("[A-Z][a-z]+ (and )?[a-z]+\\.");
    }

    static void close(String test) {
        CHECK.close(test);
    }
}
