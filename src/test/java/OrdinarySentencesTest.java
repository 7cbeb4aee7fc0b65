import java.io.IOException;
import java.nio.file.Files;
import java.nio.file.Path;
import java.util.Map;

/**
 * The sentences of the promises in which no boundary is: what a call is for, what its arguments mean, what it returns.
 * At its end it looks whether each sentence of the document, from the first to the last, is quoted by one test.
 */
public final class OrdinarySentencesTest extends Edges {
    private static final String SHAPE = "- `shape`: the number of the shape";
    private static final String AXIS = "- `axis`: the axis, 'x' or 'y'";
    private static final String WISH = "- `wish`: the number of the wish";
    private static final String[] TESTS_OF_SENTENCES = {
        "TermsEdgesTest", "ShapeEdgesTest", "LayoutEdgesTest", "MeasureEdgesTest", "OrdinarySentencesTest"
    };
    private static final Map<Character, Class<? extends RuntimeException>> MOVE_EXCEPTIONS =
            Map.of('l', STATE, 's', ARGUMENT, 'o', UNSUPPORTED);
    private static final Map<Character, Class<? extends RuntimeException>> GROW_EXCEPTIONS =
            Map.of('f', ELEMENT, 'l', STATE, 's', UNSUPPORTED, 'o', UNSUPPORTED);

    public static void main(String[] args) throws IOException {
        nothingToTest();
        addShape();
        setLocked();
        startOfAndSizeOf();
        moveTo();
        moveReason();
        setText();
        fits();
        grow();
        growReason();
        inTheWay();
        addWish();
        dropWish();
        isMet();
        strengthAndSnaps();
        bestStrength();
        tidy();
        even();
        guides();
        distance();
        groups();
        sums();
        everySentenceIsQuoted();
        close("OrdinarySentencesTest");
    }

    /** Shapes that differ in all numbers and can each go anywhere near without meeting another one. */
    private static SlideLayout four() {
        return slide(0, 1, 20, 10, 50, 22, 30, 12, 121, 43, 40, 15, 13, 84, 24, 8);
    }

    private static final int[] LEFTS = {0, 50, 121, 13};
    private static final int[] TOPS = {1, 22, 43, 84};
    private static final int[] WIDTHS = {20, 30, 40, 24};
    private static final int[] HEIGHTS = {10, 12, 15, 8};

    private static void each(Runnable test, String... texts) {
        for (String text : texts) {
            sentence(text, test);
        }
    }

    private static void nothingToTest() {
        section("What it is");
        namesNoEdge("A helper for the layout of slides: shapes that do not overlap, guides found from edges, groups by "
                + "nearness, texts that must fit, wishes with strengths that are met as far as can be, even gaps, and "
                + "always the fewest units that have to be moved.");
        section("Terms");
        for (String heading : new String[] {"Slide and shapes.", "Texts.", "Wishes.", "Layouts.", "Snaps.",
            "Even layouts.", "Groups.", "Exceptions."}) {
            namesNoEdge(heading);
        }
        section("Not promised");
        namesNoEdge("How the state is held inside the object is free, as are the speed of each call, the text of "
                + "toString and the behaviour of equals and hashCode.");
        namesNoEdge("Use of one object from several threads at once is not promised to be safe.");
        namesNoEdge("Nothing is promised beyond the answers and state changes described above, and nothing about an "
                + "object after its 512th call.");
    }

    private static void standsAsMade(SlideLayout x, int but) {
        for (int shape = 0; shape < 4; shape++) {
            int number = shape;
            if (shape != but) {
                due("left of " + shape, LEFTS[shape], () -> x.startOf(number, 'x'));
                due("top of " + shape, TOPS[shape], () -> x.startOf(number, 'y'));
                due("width of " + shape, WIDTHS[shape], () -> x.sizeOf(number, 'x'));
                due("height of " + shape, HEIGHTS[shape], () -> x.sizeOf(number, 'y'));
            }
        }
    }

    private static void addShape() {
        promise(2);
        each(() -> {
            SlideLayout x = new SlideLayout();
            for (int shape = 0; shape < 4; shape++) {
                int number = shape;
                due("adds shape " + shape, shape,
                        () -> x.addShape(LEFTS[number], TOPS[number], WIDTHS[number], HEIGHTS[number]));
            }
            standsAsMade(x, -1);
        }, "Adds a shape.", "- `left`: its left", "- `top`: its top");
    }

    private static void setLocked() {
        promise(3);
        each(() -> {
            SlideLayout x = four();
            for (int shape = 0; shape < 4; shape++) {
                x.setLocked(shape, true);
                for (int other = 0; other < 4; other++) {
                    int number = other;
                    due(shape + " is locked, and " + other, shape == other ? 'l' : 'n',
                            () -> x.moveReason(number, LEFTS[number], TOPS[number]));
                }
                x.setLocked(shape, false);
            }
            standsAsMade(x, -1);
        }, "Locks a shape, or unlocks it.", SHAPE);
    }

    private static void startOfAndSizeOf() {
        promise(4);
        each(() -> standsAsMade(four(), -1), "Returns the start of a shape.", SHAPE, AXIS, "Returns the start.");
        promise(5);
        each(() -> standsAsMade(four(), -1), "Returns the size of a shape.", SHAPE, AXIS, "Returns the size.");
    }

    private static void moveTo() {
        promise(6);
        each(() -> {
            for (int shape = 0; shape < 4; shape++) {
                SlideLayout x = four();
                int number = shape;
                due("moves " + shape, Math.abs(90 - LEFTS[shape]) + 100 - TOPS[shape],
                        () -> x.moveTo(number, 90, 100));
                due("its left then", 90, () -> x.startOf(number, 'x'));
                due("its top then", 100, () -> x.startOf(number, 'y'));
                due("its width still", WIDTHS[shape], () -> x.sizeOf(number, 'x'));
                due("its height still", HEIGHTS[shape], () -> x.sizeOf(number, 'y'));
                standsAsMade(x, shape);
            }
        }, "Moves a shape.", SHAPE, "- `left`: its left then", "- `top`: its top then");
    }

    private static void moveReason() {
        promise(7);
        each(() -> {
            int[][] places = {{90, 100}, {190, 50}, {90, 115}, {40, 20}, {110, 35}, {-1, 0}, {0, -1}, {5, 80}, {5, 5}};
            for (int shape = 0; shape < 4; shape++) {
                for (int[] place : places) {
                    SlideLayout x = four();
                    x.setLocked(3, true);
                    int number = shape;
                    char reason = x.moveReason(shape, place[0], place[1]);
                    standsAsMade(x, -1);
                    if (reason == 'n') {
                        due("nothing hinders it", Math.abs(place[0] - LEFTS[shape]) + Math.abs(place[1] - TOPS[shape]),
                                () -> x.moveTo(number, place[0], place[1]));
                    } else {
                        fails("the reason is " + reason, x, MOVE_EXCEPTIONS.get(reason),
                                () -> x.moveTo(number, place[0], place[1]));
                    }
                }
            }
            due("the left and the top are no other way round", 's', () -> four().moveReason(0, 100, 150));
            due("nor the other way round", 'n', () -> four().moveReason(0, 150, 100));
        }, "Returns why moveTo() would throw an exception.", SHAPE, "- `left`: its left then",
                "- `top`: its top then");
    }

    private static void setText() {
        promise(8);
        each(() -> {
            int[] needed = {50, 35, 25, 45};
            for (int shape = 0; shape < 4; shape++) {
                SlideLayout x = four();
                int number = shape;
                due("100 letters in " + shape, needed[shape], () -> x.setText(number, 100));
                due("another text in its place", 5, () -> x.setText(number, 1));
                x.setText(shape, 100);
                for (int other = 0; other < 4; other++) {
                    int any = other;
                    due("the text of " + other + " fits", other != shape, () -> x.fits(any));
                }
                standsAsMade(x, -1);
            }
        }, "Gives a shape a text.", SHAPE);
    }

    private static void fits() {
        promise(9);
        each(() -> {
            SlideLayout x = four();
            int[] mostLetters = {20, 30, 60, 12};
            for (int shape = 0; shape < 4; shape++) {
                int number = shape;
                x.setText(shape, mostLetters[shape]);
                due("as many letters as " + shape + " can take", true, () -> x.fits(number));
                x.setText(shape, mostLetters[shape] + 1);
                due("one letter more", false, () -> x.fits(number));
            }
            x.setText(2, 0);
            due("the text of the one", true, () -> x.fits(2));
            due("not that of the other", false, () -> x.fits(1));
        }, "Returns whether the text of a shape fits.", SHAPE);
    }

    private static void grow() {
        promise(10);
        each(() -> {
            int[] needed = {15, 20, 20, 15};
            int[] letters = {25, 50, 70, 30};
            for (int shape = 0; shape < 4; shape++) {
                SlideLayout x = four();
                int number = shape;
                for (int any = 0; any < 4; any++) {
                    x.setText(any, letters[any]);
                }
                due("grows " + shape, needed[shape], () -> x.grow(number));
                due("the height then", needed[shape], () -> x.sizeOf(number, 'y'));
                standsAsMade(x, shape);
            }
        }, SHAPE, "Returns the height.");
    }

    private static void growReason() {
        promise(11);
        each(() -> {
            for (int shape = 0; shape < 4; shape++) {
                for (int letters = 0; letters <= 400; letters += 25) {
                    SlideLayout x = slide(0, 1, 20, 10, 0, 62, 30, 12, 121, 43, 40, 15, 125, 84, 24, 8);
                    x.setLocked(3, true);
                    int number = shape;
                    int needed = x.setText(shape, letters);
                    char reason = x.growReason(shape);
                    if (reason == 'n') {
                        due("nothing hinders it", needed, () -> x.grow(number));
                    } else {
                        fails("the reason is " + reason, x, GROW_EXCEPTIONS.get(reason), () -> x.grow(number));
                    }
                }
            }
            SlideLayout x = slide(0, 1, 20, 10, 0, 62, 30, 12, 121, 43, 40, 15, 125, 84, 24, 8);
            x.setLocked(3, true);
            x.setText(0, 130);
            x.setText(1, 150);
            x.setText(3, 100);
            due("of the first one", 'o', () -> x.growReason(0));
            due("of the second one", 'n', () -> x.growReason(1));
            due("of the third one", 'f', () -> x.growReason(2));
            due("of the last one", 'l', () -> x.growReason(3));
            x.setText(1, 400);
            due("of the second one with more letters", 's', () -> x.growReason(1));
        }, "Returns why grow() would throw an exception.", SHAPE);
    }

    private static void inTheWay() {
        promise(12);
        each(() -> {
            SlideLayout x = slide(0, 1, 20, 10, 0, 40, 20, 10, 100, 40, 20, 10, 100, 1, 20, 10);
            for (int shape = 0; shape < 4; shape++) {
                x.setText(shape, 100);
            }
            due("of the first one", 1, () -> x.inTheWay(0));
            fails("of the second one", x, ELEMENT, () -> x.inTheWay(1));
            fails("of the third one", x, ELEMENT, () -> x.inTheWay(2));
            due("of the last one", 2, () -> x.inTheWay(3));
        }, SHAPE);
    }

    private static void addWish() {
        promise(13);
        each(() -> {
            SlideLayout x = slide(0, 1, 20, 10, 50, 22, 30, 12, 50, 43, 40, 15, 13, 84, 24, 8);
            int number = 0;
            for (int shape = 0; shape < 4 && number < 8; shape++) {
                for (int other = 0; other < 4 && number < 8; other++) {
                    if (shape != other) {
                        int wish = number;
                        int one = shape;
                        int another = other;
                        fails("not there before", x, ELEMENT, () -> x.isMet(wish));
                        due("adds a wish", wish, () -> x.addWish('l', one, another, 1));
                        due("the same left of " + shape + " and " + other, shape + other == 3 && shape * other == 2,
                                () -> x.isMet(wish));
                        number++;
                    }
                }
            }
        }, "Adds a wish.", "- `shape`: the number of a shape", "- `other`: the number of the other shape");
    }

    private static SlideLayout withWishes() {
        SlideLayout x = slide(0, 1, 20, 10, 50, 1, 30, 12, 121, 43, 40, 15, 121, 84, 24, 8);
        x.addWish('l', 2, 3, 1);
        x.addWish('l', 0, 1, 2);
        x.addWish('t', 1, 0, 4);
        x.addWish('b', 0, 1, 8);
        return x;
    }

    private static void dropWish() {
        promise(14);
        each(() -> {
            for (int wish = 0; wish < 4; wish++) {
                SlideLayout x = withWishes();
                int number = wish;
                due("3 are left", 3, () -> x.dropWish(number));
                for (int other = 0; other < 4; other++) {
                    int any = other;
                    if (other == wish) {
                        fails("the dropped one", x, ELEMENT, () -> x.isMet(any));
                    } else {
                        due("another one", any % 2 == 0, () -> x.isMet(any));
                    }
                }
                due("its strength along x counts no more", wish == 0 ? 0 : 1, () -> x.strength('x'));
                due("its strength along y counts no more", wish == 2 ? 0 : 4, () -> x.strength('y'));
            }
        }, "Drops a wish.", WISH);
    }

    private static void isMet() {
        promise(15);
        each(() -> {
            SlideLayout x = withWishes();
            boolean[] met = {true, false, true, false};
            for (int wish = 0; wish < 4; wish++) {
                int number = wish;
                due("wish " + wish, met[wish], () -> x.isMet(number));
            }
            x.moveTo(1, 0, 20);
            boolean[] metThen = {true, true, false, false};
            for (int wish = 0; wish < 4; wish++) {
                int number = wish;
                due("after a move, wish " + wish, metThen[wish], () -> x.isMet(number));
            }
        }, "Returns whether a wish is met.", WISH);
    }

    private static void strengthAndSnaps() {
        promise(16);
        each(() -> {
            SlideLayout x = withWishes();
            due("along x", 1, () -> x.strength('x'));
            due("along y", 4, () -> x.strength('y'));
            x.moveTo(1, 0, 20);
            due("along x after a move", 3, () -> x.strength('x'));
            due("along y after a move", 0, () -> x.strength('y'));
        }, "Returns the strength of the present layout.", AXIS);
        promise(17);
        each(() -> {
            SlideLayout x = slide(0, 0, 20, 10, 100, 0, 20, 14, 50, 50, 30, 20);
            due("0, 100; 50, 55, 60", 5, () -> x.snaps(0, 'x'));
            due("100, 0; 50, 55, 60", 5, () -> x.snaps(1, 'x'));
            due("50; 0, -5, -10; 100, 95, 90", 7, () -> x.snaps(2, 'x'));
            due("0, 2, 4; 50, 55, 60", 6, () -> x.snaps(0, 'y'));
            due("0, -2, -4; 50, 53, 56", 6, () -> x.snaps(1, 'y'));
            due("50; 0, -5, -10; -3, -6 besides", 6, () -> x.snaps(2, 'y'));
        }, "Returns the number of different snaps of a shape.", SHAPE, AXIS);
    }

    /** Along x one unit of strength more is worth the longer way; along y both wishes cannot be met together. */
    private static SlideLayout wishedAlongBoth() {
        SlideLayout x = slide(0, 0, 20, 10, 50, 20, 30, 12, 120, 40, 40, 15);
        x.addWish('l', 0, 1, 3);
        x.addWish('r', 0, 1, 4);
        x.addWish('t', 1, 2, 6);
        x.addWish('b', 1, 2, 5);
        return x;
    }

    private static void bestStrength() {
        promise(18);
        each(() -> {
            due("along x", 4, () -> wishedAlongBoth().bestStrength('x'));
            due("along y", 6, () -> wishedAlongBoth().bestStrength('y'));
        }, AXIS, "Returns the strength.");
        promise(19);
        each(() -> {
            due("along x", 4, () -> wishedAlongBoth().bestByAll('x'));
            due("along y", 6, () -> wishedAlongBoth().bestByAll('y'));
        }, AXIS, "Returns the strength.");
        promise(20);
        each(() -> {
            due("along x", 60, () -> wishedAlongBoth().tidyCost('x'));
            due("along y", 20, () -> wishedAlongBoth().tidyCost('y'));
        }, AXIS, "Returns the cost.");
    }

    private static void tidy() {
        promise(21);
        each(() -> {
            int[] tidyLefts = {60, 50, 120};
            int[] tidyTops = {0, 20, 20};
            SlideLayout x = wishedAlongBoth();
            for (int shape = 0; shape < 3; shape++) {
                int number = shape;
                due("left of " + shape, tidyLefts[shape], () -> x.tidyStart(number, 'x'));
                due("top of " + shape, tidyTops[shape], () -> x.tidyStart(number, 'y'));
            }
            due("nothing is moved", 0, () -> x.startOf(0, 'x'));
        }, SHAPE, AXIS, "Returns the start.");
        promise(22);
        each(() -> {
            SlideLayout x = wishedAlongBoth();
            due("along y", 20, () -> x.tidy('y'));
            due("one shape went up", 20, () -> x.startOf(2, 'y'));
            due("no shape went along x", 0, () -> x.startOf(0, 'x'));
            due("along x", 60, () -> x.tidy('x'));
            due("one shape went to the right", 60, () -> x.startOf(0, 'x'));
            due("both together", 80L, x::moved);
        }, AXIS);
    }

    private static SlideLayout uneven() {
        return slide(0, 0, 20, 10, 30, 20, 20, 10, 64, 49, 20, 10);
    }

    private static void even() {
        promise(23);
        each(() -> {
            due("gaps 10 and 14 along x", 2, () -> uneven().evenCost('x'));
            due("gaps 10 and 19 along y", 5, () -> uneven().evenCost('y'));
        }, AXIS, "Returns the cost.");
        promise(24);
        each(() -> {
            due("gaps 10 and 14 along x", 2, () -> uneven().evenByAll('x'));
            due("gaps 10 and 19 along y", 5, () -> uneven().evenByAll('y'));
        }, AXIS, "Returns the cost.");
        promise(25);
        each(() -> {
            SlideLayout x = uneven();
            due("along x", 12, () -> x.spread('x'));
            due("along x the middle one went on", 32, () -> x.startOf(1, 'x'));
            due("no shape went along y", 20, () -> x.startOf(1, 'y'));
            due("along y", 14, () -> x.spread('y'));
            due("along y the middle one went on", 24, () -> x.startOf(1, 'y'));
            due("both together", 7L, x::moved);
        }, AXIS);
    }

    private static SlideLayout guided() {
        return slide(0, 0, 20, 10, 20, 20, 30, 10, 10, 50, 25, 20);
    }

    private static void guides() {
        promise(26);
        each(() -> {
            due("20, 40 and 70 along x", 3, () -> guided().guides('x'));
            due("none along y", 0, () -> guided().guides('y'));
            SlideLayout x = guided();
            x.moveTo(1, 100, 0);
            due("20 along x", 1, () -> x.guides('x'));
            due("0, 10 and 20 along y", 3, () -> x.guides('y'));
        }, "Returns the number of guides.", AXIS);
        promise(27);
        each(() -> {
            SlideLayout x = guided();
            x.moveTo(1, 20, 0);
            x.moveTo(2, 10, 10);
            int[] across = {20, 40, 70};
            int[] down = {0, 10, 20};
            for (int index = 0; index < 3; index++) {
                int number = index;
                due("along x, index " + index, across[index], () -> x.guideAt('x', number));
                due("along y, index " + index, down[index], () -> x.guideAt('y', number));
            }
        }, "Returns a guide.", AXIS, "Returns the guide.");
    }

    private static void distance() {
        promise(28);
        each(() -> {
            SlideLayout x = four();
            int[][] distances = {{0, 30, 101, 73}, {30, 0, 41, 50}, {101, 41, 0, 84}, {73, 50, 84, 0}};
            for (int shape = 0; shape < 4; shape++) {
                for (int other = 0; other < 4; other++) {
                    int one = shape;
                    int another = other;
                    if (shape != other) {
                        due(shape + " and " + other, distances[shape][other], () -> x.distance(one, another));
                    }
                }
            }
        }, SHAPE, "- `other`: the number of the other shape", "Returns the distance.");
    }

    /** The distances are 30, 41, 50, 73, 84 and 101: the first joins 0 and 1, the next 2, the next 3. */
    private static void groups() {
        int[][] groups = {{0, 4}, {29, 4}, {30, 3}, {40, 3}, {41, 2}, {49, 2}, {50, 1}, {200, 1}};
        promise(29);
        each(() -> {
            for (int[] pair : groups) {
                due("for " + pair[0], pair[1], () -> four().groups(pair[0]));
            }
        }, "Returns the number of groups.");
        promise(30);
        each(() -> {
            for (int[] pair : groups) {
                due("for " + pair[0], pair[1], () -> four().groupsByLinks(pair[0]));
            }
        }, "Returns the number of groups.");
        promise(31);
        each(() -> {
            int[][] lowest = {{29, 0, 1, 2, 3}, {30, 0, 0, 2, 3}, {41, 0, 0, 0, 3}, {50, 0, 0, 0, 0}};
            for (int[] row : lowest) {
                for (int shape = 0; shape < 4; shape++) {
                    int number = shape;
                    due("of " + shape + " for " + row[0], row[shape + 1], () -> four().groupOf(number, row[0]));
                }
            }
        }, SHAPE, "Returns the number of that shape.");
    }

    private static void sums() {
        promise(32);
        each(() -> {
            SlideLayout x = four();
            x.moveTo(0, 3, 5);
            due("by moveTo", 7L, x::moved);
            x.addWish('l', 0, 3, 1);
            x.tidy('x');
            due("by tidy too", 17L, x::moved);
        }, "Returns the sum.");
        promise(33);
        each(() -> due("200, 360, 600 and 192 of 24000 units", 1352.0f / 24000.0f, () -> four().covered()),
                "Returns the share of the slide that is covered.");
        promise(34);
        each(() -> due("30, 101, 73, 41, 50 and 84 by 6", 379.0 / 6.0, () -> four().meanDistance()),
                "Returns the mean distance of all pairs of different shapes.");
    }

    private static void everySentenceIsQuoted() throws IOException {
        StringBuilder tests = new StringBuilder();
        for (String test : TESTS_OF_SENTENCES) {
            tests.append(Files.readString(Path.of("src/test/java", test + ".java")));
        }
        allQuotedIn(tests.toString().replaceAll("\"\\s*\\+ \"", ""));
    }
}
