import java.util.Random;

/** The boundary cases of the document's terms, sentence by sentence. */
public final class TermsEdgesTest extends Edges {
    public static void main(String[] args) {
        section("What it is");
        calls();
        section("Terms");
        slideAndShapes();
        places();
        overlaps();
        invariants();
        locks();
        texts();
        wishes();
        wishesMet();
        layouts();
        costsAndStrengths();
        snaps();
        tidiness();
        tidiest();
        evenness();
        evenest();
        distances();
        links();
        refusedCalls();
        exceptionsOfShapes();
        exceptionsOfTheOthers();
        allQuoted("Terms");
        close("TermsEdgesTest");
    }

    private static void calls() {
        sentence("An object is used for at most 512 calls after it has been made; what later calls answer is "
                + "free.", () -> {
            SlideLayout x = slide(0, 0, 20, 10, 50, 20, 20, 10);
            for (int call = 3; call <= 510; call++) {
                x.moveTo(0, call % 2, 0);
            }
            due("the 511th call", 0, () -> x.startOf(0, 'x'));
            due("the 512th call", 508L, x::moved);
            SlideLayout dear = slide(0, 0, 10, 5, 50, 20, 24, 5, 101, 40, 38, 5, 150, 60, 48, 5);
            for (int call = 5; call <= 511; call++) {
                dear.isSound();
            }
            due("the 512th call of the dearest ones", true, dear::isSound);
        });
    }

    private static void slideAndShapes() {
        namesNoEdge("Its calls are what a designer does and asks.");
        sentence("The slide is 200 units wide and 120 units high.", () -> {
            due("all of it", 0, () -> new SlideLayout().addShape(0, 0, 200, 120));
            due("its last units", 0, () -> new SlideLayout().addShape(198, 119, 2, 1));
            SlideLayout x = slide(0, 0, 20, 10);
            fails("one unit beyond its width", x, ARGUMENT, () -> x.addShape(199, 50, 2, 1));
            fails("one unit beyond its height", x, ARGUMENT, () -> x.addShape(50, 120, 2, 1));
            due("moved to its corner", 'n', () -> x.moveReason(0, 180, 110));
            due("moved beyond its width", 's', () -> x.moveReason(0, 181, 110));
            due("moved beyond its height", 's', () -> x.moveReason(0, 180, 111));
        });
        sentence("At most 4 shapes are numbered from 0.", () -> {
            SlideLayout x = new SlideLayout();
            fails("no shape yet", x, INDEX, () -> x.sizeOf(0, 'x'));
            for (int shape = 0; shape < 4; shape++) {
                int number = shape;
                due("shape " + number, number, () -> x.addShape(number * 20, 0, 20, 10));
                due("the width of shape " + number, 20, () -> x.sizeOf(number, 'x'));
                fails("the next one", x, INDEX, () -> x.sizeOf(number + 1, 'x'));
            }
            fails("a fifth shape", x, STATE, () -> x.addShape(100, 50, 20, 10));
            fails("a fifth shape again", x, STATE, () -> x.addShape(100, 50, 20, 10));
            due("the last one is as it was", 60, () -> x.startOf(3, 'x'));
        });
    }

    private static void places() {
        sentence("A shape has a left and a top, which are its lowest units along the axis 'x' and along the axis 'y', "
                + "and a width and a height, which are its sizes along them.", () -> {
            SlideLayout x = slide(0, 119, 200, 1, 198, 0, 2, 119);
            due("least left", 0, () -> x.startOf(0, 'x'));
            due("greatest top", 119, () -> x.startOf(0, 'y'));
            due("greatest width", 200, () -> x.sizeOf(0, 'x'));
            due("least height", 1, () -> x.sizeOf(0, 'y'));
            due("greatest left", 198, () -> x.startOf(1, 'x'));
            due("least top", 0, () -> x.startOf(1, 'y'));
            due("least width", 2, () -> x.sizeOf(1, 'x'));
            due("greatest height but one", 119, () -> x.sizeOf(1, 'y'));
        });
        sentence("Along an axis, the start of a shape is its left or its top, its end is its start plus its size, and "
                + "its middle is the sum of its start and its end (that is, twice the place of its centre).", () -> {
            SlideLayout x = slide(0, 0, 200, 3, 2, 10, 197, 3);
            due("no edge is the same along either axis", 0, () -> x.guides('x') + x.guides('y'));
            x.moveTo(1, 0, 10);
            due("the start alone is the same", 0, () -> x.guideAt('x', 0));
            due("one guide", 1, () -> x.guides('x'));
            x.moveTo(1, 3, 10);
            due("the end alone is the same", 400, () -> x.guideAt('x', 0));
            due("one guide again", 1, () -> x.guides('x'));
            SlideLayout odd = slide(0, 0, 199, 3, 98, 10, 3, 3);
            due("the middle alone is the same, and no whole place", 199, () -> odd.guideAt('x', 0));
        });
        sentence("A shape lies on the slide if its start is 0 or more and its end is not beyond the slide along both "
                + "axes.", () -> {
            SlideLayout x = slide(50, 50, 20, 10);
            for (int left : new int[] {LEAST, LEAST + 19, -200, -20, -1, 181, 200, MOST - 20, MOST - 19, MOST}) {
                due("left " + left, 's', () -> x.moveReason(0, left, 0));
                fails("a shape with left " + left, x, ARGUMENT, () -> x.addShape(left, 0, 20, 10));
            }
            for (int top : new int[] {LEAST, LEAST + 9, -120, -10, -1, 111, 120, MOST - 10, MOST - 9, MOST}) {
                due("top " + top, 's', () -> x.moveReason(0, 0, top));
                fails("a shape with top " + top, x, ARGUMENT, () -> x.addShape(0, top, 20, 10));
            }
            for (int[] corner : new int[][] {{0, 0}, {180, 0}, {0, 110}, {180, 110}}) {
                due("a corner", 'n', () -> x.moveReason(0, corner[0], corner[1]));
            }
            due("beyond both axes", 's', () -> x.moveReason(0, 181, 111));
            due("before both axes", 's', () -> x.moveReason(0, -1, -1));
        });
    }

    private static void overlaps() {
        sentence("Two shapes overlap if along each axis the start of each one is less than the end of the other "
                + "one.", () -> {
            SlideLayout x = slide(50, 50, 20, 10, 0, 0, 6, 4);
            int[][] touching = {{44, 52}, {70, 52}, {55, 46}, {55, 60}, {44, 46}, {70, 46}, {44, 60}, {70, 60}};
            for (int[] place : touching) {
                due("touching at " + place[0] + " " + place[1], 'n', () -> x.moveReason(1, place[0], place[1]));
            }
            int[][] sharing = {{45, 52}, {69, 52}, {55, 47}, {55, 59}, {45, 47}, {69, 47}, {45, 59}, {69, 59}};
            for (int[] place : sharing) {
                due("sharing at " + place[0] + " " + place[1], 'o', () -> x.moveReason(1, place[0], place[1]));
            }
            due("inside", 'o', () -> x.moveReason(1, 60, 55));
            due("with the same corner", 'o', () -> x.moveReason(1, 50, 50));
            fails("around", x, UNSUPPORTED, () -> x.addShape(45, 45, 30, 20));
            fails("just the same", x, UNSUPPORTED, () -> x.addShape(50, 50, 20, 10));
            fails("crossing it along x", x, UNSUPPORTED, () -> x.addShape(40, 55, 160, 1));
            fails("crossing it along y", x, UNSUPPORTED, () -> x.addShape(60, 10, 2, 110));
            due("crossing none", 2, () -> x.addShape(0, 60, 200, 60));
        });
    }

    private static void invariants() {
        sentence("All shapes lie on the slide, and no two of them overlap, behind each call.", () -> {
            for (int seed = 0; seed < 20; seed++) {
                Random random = new Random(seed);
                SlideLayout x = slide(0, 0, 40, 30, 40, 0, 50, 35, 90, 35, 110, 20, 0, 30, 40, 90);
                for (int wish = 0; wish < 8; wish++) {
                    x.addWish("lcrtmb".charAt(random.nextInt(6)), wish % 4, (wish + 1) % 4, 1 + wish);
                }
                for (int call = 0; call < 60; call++) {
                    String done = callAnything(x, random);
                    due("seed " + seed + ", behind call " + call + ", " + done, true, () -> allIsRight(x));
                }
            }
        });
    }

    private static String callAnything(SlideLayout x, Random random) {
        int shape = random.nextInt(4);
        char axis = random.nextBoolean() ? 'x' : 'y';
        try {
            switch (random.nextInt(6)) {
                case 0: return "tidy " + x.tidy(axis);
                case 1: return "spread " + x.spread(axis);
                case 2: return "setText " + x.setText(shape, random.nextInt(401)) + ", grow " + x.grow(shape);
                case 3: return "setLocked " + x.setLocked(shape, random.nextInt(4) == 0);
                case 4: return "addShape " + x.addShape(random.nextInt(200), random.nextInt(120), 30, 20);
                default: return "moveTo " + x.moveTo(shape, random.nextInt(190) - 5, random.nextInt(120) - 5);
            }
        } catch (RuntimeException e) {
            return "a refused one";
        }
    }

    private static boolean allIsRight(SlideLayout x) {
        boolean isRight = true;
        for (int a = 0; a < 4; a++) {
            isRight &= x.startOf(a, 'x') >= 0 && x.startOf(a, 'x') + x.sizeOf(a, 'x') <= 200;
            isRight &= x.startOf(a, 'y') >= 0 && x.startOf(a, 'y') + x.sizeOf(a, 'y') <= 120;
            for (int b = 0; b < a; b++) {
                isRight &= !sharesUnits(x, a, b, 'x') || !sharesUnits(x, a, b, 'y');
            }
        }
        return isRight;
    }

    private static boolean sharesUnits(SlideLayout x, int a, int b, char axis) {
        return x.startOf(a, axis) < x.startOf(b, axis) + x.sizeOf(b, axis)
                && x.startOf(b, axis) < x.startOf(a, axis) + x.sizeOf(a, axis);
    }

    private static void locks() {
        sentence("A shape can be locked; at first it is not.", () -> {
            SlideLayout x = stairs();
            for (int shape = 0; shape < 3; shape++) {
                int number = shape;
                due("at first", false, () -> x.setLocked(number, true));
                due("then", 'l', () -> x.moveReason(number, 0, 0));
            }
            due("a shape that is added when others are locked", 3, () -> x.addShape(0, 100, 20, 10));
            due("it is not locked at first", 2, () -> x.moveTo(3, 2, 100));
        });
        sentence("A locked shape is never moved and never grows.", () -> {
            SlideLayout x = stairs();
            x.addWish('l', 0, 1, 9);
            x.addWish('b', 1, 2, 9);
            x.setText(1, 300);
            x.setLocked(1, true);
            fails("moveTo", x, STATE, () -> x.moveTo(1, 60, 20));
            fails("moveTo where it is", x, STATE, () -> x.moveTo(1, 50, 20));
            fails("grow", x, STATE, () -> x.grow(1));
            due("tidyStart along x", 50, () -> x.tidyStart(1, 'x'));
            due("tidy along x moves the other one", 50, () -> x.tidy('x'));
            due("left after tidy", 50, () -> x.startOf(1, 'x'));
            due("tidy along y moves the other one", 23, () -> x.tidy('y'));
            due("top after tidy", 20, () -> x.startOf(1, 'y'));
            x.moveTo(0, 0, 0);
            due("spread along x moves the other one", 30, () -> x.spread('x'));
            due("left after spread", 50, () -> x.startOf(1, 'x'));
            x.moveTo(2, 150, 60);
            due("spread along y", 10, () -> x.spread('y'));
            due("top after spread", 20, () -> x.startOf(1, 'y'));
            due("height after all", 12, () -> x.sizeOf(1, 'y'));
        });
    }

    private static void texts() {
        sentence("A shape has a text of 0 to 400 letters, at first 0.", () -> {
            SlideLayout x = slide(0, 0, 2, 1);
            due("at first it fits where no line fits", true, () -> x.fits(0));
            fails("at first", x, ELEMENT, () -> x.grow(0));
            due("400", 2000, () -> x.setText(0, 400));
            fails("401", x, ARGUMENT, () -> x.setText(0, 401));
            due("0", 0, () -> x.setText(0, 0));
            fails("-1", x, ARGUMENT, () -> x.setText(0, -1));
            due("1", 5, () -> x.setText(0, 1));
            due("a shape that is added when others have a text", 1, () -> x.addShape(10, 0, 2, 1));
            due("its text at first", true, () -> x.fits(1));
        });
        sentence("A letter is 2 units wide and a line is 5 units high.", () -> {
            SlideLayout x = slide(0, 0, 2, 1, 10, 0, 4, 1);
            due("a letter in 2 units", 5, () -> x.setText(0, 1));
            due("two letters in 2 units", 10, () -> x.setText(0, 2));
            due("two letters in 4 units", 5, () -> x.setText(1, 2));
            due("three letters in 4 units", 10, () -> x.setText(1, 3));
        });
        sentence("A line of the text takes as many letters as the width divided by 2, rounded down; all lines but the "
                + "last one are full.", () -> {
            SlideLayout x = slide(0, 0, 2, 1, 0, 10, 3, 1, 0, 20, 199, 1, 0, 30, 200, 1);
            int[] ofLine = {1, 1, 99, 100};
            for (int shape = 0; shape < 4; shape++) {
                for (int lines = 1; lines <= 4; lines++) {
                    int number = shape;
                    int full = lines * ofLine[shape];
                    due(full + " letters fill " + lines + " lines", 5 * lines, () -> x.setText(number, full));
                    if (full < 400) {
                        due("one more begins a line", 5 * lines + 5, () -> x.setText(number, full + 1));
                    }
                    due("one less is full or ends a line", ofLine[shape] == 1 ? 5 * lines - 5 : 5 * lines,
                            () -> x.setText(number, full - 1));
                }
            }
        });
        sentence("The needed height is 5 times the number of lines.", () -> {
            SlideLayout x = slide(0, 0, 20, 10);
            due("no line", 0, () -> x.setText(0, 0));
            due("one line", 5, () -> x.setText(0, 10));
            due("40 lines, more than the slide is high", 200, () -> x.setText(0, 400));
        });
        sentence("The text fits if the needed height is not greater than the height.", () -> {
            SlideLayout x = slide(0, 0, 20, 9, 20, 0, 20, 10, 40, 0, 20, 11, 60, 0, 20, 15);
            for (int shape = 0; shape < 4; shape++) {
                x.setText(shape, 20);
            }
            due("10 is needed, the height is 9", false, () -> x.fits(0));
            due("10 is needed, the height is 10", true, () -> x.fits(1));
            due("10 is needed, the height is 11", true, () -> x.fits(2));
            x.setText(3, 30);
            due("15 is needed, the height is 15", true, () -> x.fits(3));
            x.setText(3, 31);
            due("20 is needed, the height is 15", false, () -> x.fits(3));
        });
    }

    private static void wishes() {
        sentence("At most 8 wishes are numbered from 0; a wish is there until it is dropped.", () -> {
            SlideLayout x = stairs();
            for (int wish = 0; wish < 8; wish++) {
                int number = wish;
                fails("not there yet", x, ELEMENT, () -> x.isMet(number));
                due("wish " + number, number, () -> x.addWish('l', 0, 1, 1));
                due("it is there", false, () -> x.isMet(number));
            }
            fails("a ninth wish", x, STATE, () -> x.addWish('l', 0, 1, 1));
            fails("its number", x, ELEMENT, () -> x.isMet(8));
            x.moveTo(1, 0, 20);
            due("all are there", 8, () -> x.strength('x'));
            due("the last one is dropped", 7, () -> x.dropWish(7));
            fails("it is there no more", x, ELEMENT, () -> x.isMet(7));
            due("the others are", 7, () -> x.strength('x'));
            due("the first one is dropped", 6, () -> x.dropWish(0));
            fails("it is there no more either", x, ELEMENT, () -> x.isMet(0));
            due("the second one keeps its number", true, () -> x.isMet(1));
            fails("no number is free", x, STATE, () -> x.addWish('l', 0, 1, 1));
        });
        sentence("A wish has a kind, two shapes and a strength, 1 to 9.", () -> {
            SlideLayout x = slide(0, 0, 20, 10, 0, 20, 30, 12);
            for (int strength : new int[] {0, -1, 10, LEAST, MOST}) {
                fails("strength " + strength, x, ARGUMENT, () -> x.addWish('l', 0, 1, strength));
            }
            due("strength 1 is taken", 0, () -> x.addWish('l', 0, 1, 1));
            due("strength 1 counts", 1, () -> x.strength('x'));
            due("strength 9 is taken", 1, () -> x.addWish('l', 1, 0, 9));
            due("strength 9 counts", 10, () -> x.strength('x'));
        });
        sentence("The kinds 'l', 'c' and 'r' belong to the axis 'x', the others to the axis 'y'.", () -> {
            SlideLayout across = slide(10, 0, 20, 10, 10, 20, 20, 10);
            SlideLayout down = slide(10, 20, 20, 10, 40, 20, 20, 10);
            int sum = 0;
            for (int wish = 0; wish < 3; wish++) {
                across.addWish("lcr".charAt(wish), 0, 1, wish + 2);
                down.addWish("tmb".charAt(wish), 0, 1, wish + 2);
                sum += wish + 2;
                int want = sum;
                due("x with wish " + wish, want, () -> across.strength('x'));
                due("y without wish " + wish, 0, () -> across.strength('y'));
                due("y with wish " + wish, want, () -> down.strength('y'));
                due("x without wish " + wish, 0, () -> down.strength('x'));
            }
            due("the tidiest one along y", 0, () -> across.bestStrength('y'));
            due("the tidiest one along x", 0, () -> down.bestByAll('x'));
        });
    }

    private static void wishesMet() {
        sentence("It is met if both shapes have the same: for the kind 'l' the left, for 'c' the middle along 'x', for "
                + "'r' the end along 'x', for 't' the top, for 'm' the middle along 'y', and for 'b' the end along "
                + "'y'.", () -> {
            for (int kind = 0; kind < 6; kind++) {
                char letter = "lcrtmb".charAt(kind);
                SlideLayout x = kind < 3 ? slide(100, 0, 20, 10, 0, 20, 10, 10) : slide(0, 60, 10, 20, 20, 0, 10, 10);
                x.addWish(letter, 0, 1, 1);
                x.addWish(letter, 1, 0, 1);
                int met = (kind < 3 ? 100 : 60) + 5 * (kind % 3);
                for (int start = met - 11; start <= met + 11; start++) {
                    x.moveTo(1, kind < 3 ? start : 20, kind < 3 ? 20 : start);
                    boolean want = start == met;
                    due(letter + " at " + start, want, () -> x.isMet(0));
                    due(letter + " the other way round at " + start, want, () -> x.isMet(1));
                }
            }
            SlideLayout half = slide(100, 0, 20, 10, 104, 20, 11, 10);
            half.addWish('c', 0, 1, 1);
            due("half a unit too low", false, () -> half.isMet(0));
            half.moveTo(1, 105, 20);
            due("half a unit too high", false, () -> half.isMet(0));
        });
    }

    private static void layouts() {
        sentence("A layout along an axis gives each shape a start along this axis, while everything else about the "
                + "shapes stays as it is; it gives a locked shape the start that it has.", () -> {
            SlideLayout x = stairs();
            x.setText(0, 21);
            x.addWish('l', 0, 1, 5);
            x.addWish('l', 1, 2, 6);
            x.addWish('t', 0, 1, 7);
            x.setLocked(1, true);
            due("tidy", 120, () -> x.tidy('x'));
            due("the starts along x", 50 + 1000 * 50, () -> x.startOf(0, 'x') + 1000 * x.startOf(2, 'x'));
            due("the locked shape's start", 50, () -> x.startOf(1, 'x'));
            due("the starts along y", 20 + 1000 * 40, () -> x.startOf(1, 'y') + 1000 * x.startOf(2, 'y'));
            due("the start of the first one along y", 0, () -> x.startOf(0, 'y'));
            due("the widths", 20 + 1000 * 30, () -> x.sizeOf(0, 'x') + 1000 * x.sizeOf(1, 'x'));
            due("the heights", 10 + 1000 * 12, () -> x.sizeOf(0, 'y') + 1000 * x.sizeOf(1, 'y'));
            due("the text", 15, () -> x.grow(0));
            due("the lock", true, () -> x.setLocked(1, false));
            due("no other lock", false, () -> x.setLocked(0, true));
            due("the wish of the other axis", false, () -> x.isMet(2));
        });
        sentence("It is allowed if all shapes lie on the slide and no two overlap with it.", () -> {
            bestIs("an end at the end of the slide", 3, leftOnly(160));
            bestIs("an end one unit beyond the slide", 0, leftOnly(161));
            bestIs("a start at 0", 3, rightOnly(30));
            bestIs("a start at -1", 0, rightOnly(29));
            bestIs("two touch along y", 3, sideBySide(10));
            bestIs("two share a unit along y", 0, sideBySide(9));
            SlideLayout above = slide(0, 0, 10, 10, 10, 50, 10, 40);
            above.addWish('t', 0, 1, 3);
            due("along y two touch along x", 3, () -> above.bestStrength('y'));
            due("along y two touch along x, by all", 3, () -> above.bestByAll('y'));
            above.moveTo(1, 9, 50);
            due("along y two share a unit along x", 0, () -> above.bestStrength('y'));
            due("along y two share a unit along x, by all", 0, () -> above.bestByAll('y'));
            bestIs("two touch along x, the first one before the second", 3, withBar(0, 20));
            bestIs("two share a unit along x, the first one before the second", 0, withBar(0, 19));
            bestIs("two touch along x, the first one behind the second", 3, withBar(60, 30));
            bestIs("two share a unit along x, the first one behind the second", 0, withBar(60, 31));
        });
    }

    private static void bestIs(String what, int want, SlideLayout x) {
        due(what, want, () -> x.bestStrength('x'));
        due(what + ", by all", want, () -> x.bestByAll('x'));
    }

    /** Wants the second shape, 40 units wide, to have the left of the first, locked one. */
    private static SlideLayout leftOnly(int left) {
        SlideLayout x = slide(left, 0, 10, 10, 50, 50, 40, 10);
        x.setLocked(0, true);
        x.addWish('l', 0, 1, 3);
        return x;
    }

    /** Wants the second shape, 40 units wide, to have the end of the first, locked one. */
    private static SlideLayout rightOnly(int left) {
        SlideLayout x = slide(left, 0, 10, 10, 50, 50, 40, 10);
        x.setLocked(0, true);
        x.addWish('r', 0, 1, 3);
        return x;
    }

    /** Wants two shapes to have the same left, the first one ending at 10 along y. */
    private static SlideLayout sideBySide(int top) {
        SlideLayout x = slide(0, 0, 10, 10, 50, top, 40, 10);
        x.addWish('l', 0, 1, 3);
        return x;
    }

    /** Wants the second shape, 30 units wide and beside a locked bar, to have the left of the third, locked one. */
    private static SlideLayout withBar(int barLeft, int left) {
        SlideLayout x = slide(barLeft, 0, 20, 10, 100, 5, 30, 10, left, 40, 30, 10);
        x.setLocked(0, true);
        x.setLocked(2, true);
        x.addWish('l', 2, 1, 3);
        return x;
    }

    private static void costsAndStrengths() {
        sentence("Its cost is the sum, over all shapes, of the difference without sign of the start that it gives and "
                + "the present one.", () -> {
            SlideLayout x = slide(50, 0, 20, 10, 70, 20, 30, 10, 100, 40, 40, 10);
            due("nothing moves", 0, () -> x.tidyCost('x'));
            x.setLocked(1, true);
            x.addWish('l', 0, 1, 1);
            x.addWish('l', 2, 1, 1);
            due("20 up and 30 down", 50, () -> x.tidyCost('x'));
            due("as many units as are moved", 50, () -> x.tidy('x'));
            due("no more then", 0, () -> x.tidyCost('x'));
        });
        sentence("Its strength is the sum of the strengths of the wishes of this axis that are met with it.", () -> {
            SlideLayout x = slide(0, 0, 20, 10, 50, 20, 20, 10);
            x.addWish('l', 0, 1, 9);
            x.addWish('r', 0, 1, 8);
            x.addWish('c', 1, 0, 7);
            x.addWish('t', 0, 1, 6);
            due("with the present one", 0, () -> x.strength('x'));
            due("with the tidiest one", 24, () -> x.bestStrength('x'));
            x.tidy('x');
            due("with the present one then", 24, () -> x.strength('x'));
            due("not of the other axis", 0, () -> x.strength('y'));
            x.dropWish(1);
            due("not of a dropped one", 16, () -> x.strength('x'));
            due("not of a dropped one with the tidiest one", 16, () -> x.bestByAll('x'));
            SlideLayout most = slide(0, 0, 20, 10, 50, 20, 20, 10);
            for (int wish = 0; wish < 8; wish++) {
                most.addWish("lcr".charAt(wish % 3), wish % 2, 1 - wish % 2, 9);
            }
            due("of eight wishes with strength 9", 72, () -> most.bestStrength('x'));
        });
    }

    private static void snaps() {
        sentence("The snaps of a shape along an axis are its present start, and for each other shape the starts with "
                + "which its start, its middle or its end would be the same as that of the other shape is now, as far "
                + "as they are whole numbers.", () -> {
            due("of a single shape", 1, () -> slide(0, 0, 10, 10).snaps(0, 'x'));
            SlideLayout x = slide(0, 0, 10, 10, 50, 50, 40, 10);
            due("50, and 0, -15 and -30", 4, () -> x.snaps(1, 'x'));
            due("0, and 50, 65 and 80", 4, () -> x.snaps(0, 'x'));
            x.moveTo(0, 50, 0);
            due("50, and 35 and 20", 3, () -> x.snaps(1, 'x'));
            SlideLayout odd = slide(0, 0, 10, 10, 50, 50, 45, 10);
            due("no -17.5", 3, () -> odd.snaps(1, 'x'));
            odd.moveTo(0, 100, 0);
            due("no 82.5", 3, () -> odd.snaps(1, 'x'));
            SlideLayout all = slide(0, 0, 10, 5, 50, 20, 24, 5, 101, 40, 38, 5, 150, 60, 48, 5);
            due("ten, all different", 10, () -> all.snaps(0, 'x'));
            SlideLayout y = slide(0, 0, 10, 10, 50, 50, 10, 40);
            due("along y", 4, () -> y.snaps(1, 'y'));
            due("along x with the same sizes", 2, () -> y.snaps(1, 'x'));
            SlideLayout now = stairs();
            now.addWish('c', 1, 2, 9);
            now.addWish('l', 0, 1, 5);
            now.setLocked(2, true);
            due("not where the other one would be then", 9, () -> now.bestStrength('x'));
        });
    }

    private static void tidiness() {
        sentence("A layout is tidy if it is allowed and gives each shape one of its snaps.", () -> {
            due("the present layout of no shape", 0, () -> new SlideLayout().tidyCost('x'));
            SlideLayout x = slide(0, 0, 20, 10, 50, 0, 20, 10, 100, 0, 20, 10, 150, 0, 20, 10);
            for (int shape = 0; shape < 4; shape++) {
                int number = shape;
                due("all side by side stay, shape " + number, 50 * number, () -> x.tidyStart(number, 'x'));
            }
            for (int pair = 0; pair < 6; pair++) {
                int shape = new int[] {0, 0, 0, 1, 1, 2}[pair];
                int other = new int[] {1, 2, 3, 2, 3, 3}[pair];
                x.addWish('l', shape, other, 9);
                due("a wish that no allowed layout meets, " + shape + " " + other, 0, () -> x.bestStrength('x'));
                due("the same by all, " + shape + " " + other, 0, () -> x.bestByAll('x'));
            }
            due("so nothing moves", 0, () -> x.tidy('x'));
            SlideLayout barred = slide(40, 0, 20, 10, 100, 20, 30, 10, 100, 5, 21, 6, 40, 25, 21, 6);
            barred.setLocked(2, true);
            barred.setLocked(3, true);
            barred.addWish('l', 0, 1, 9);
            due("the wish would be met with both at 0, but 0 is no snap", 0, () -> barred.bestStrength('x'));
            due("the same by all, for 0 is no snap", 0, () -> barred.bestByAll('x'));
            barred.setLocked(3, false);
            due("it is met when one of the bars may go", 9, () -> barred.bestStrength('x'));
            SlideLayout swap = slide(0, 0, 20, 10, 20, 0, 20, 10, 20, 20, 20, 10, 0, 20, 20, 10);
            swap.setLocked(2, true);
            swap.setLocked(3, true);
            swap.addWish('l', 0, 2, 4);
            swap.addWish('l', 1, 3, 4);
            due("two that change places, since both starts are snaps", 8, () -> swap.bestStrength('x'));
            due("their cost", 40, () -> swap.tidy('x'));
            due("the one has the other's start", 20, () -> swap.startOf(0, 'x'));
            SlideLayout blocked = slide(0, 0, 20, 10, 20, 0, 21, 10, 20, 20, 20, 10, 0, 20, 20, 10);
            blocked.setLocked(2, true);
            blocked.setLocked(3, true);
            blocked.addWish('l', 0, 2, 4);
            blocked.addWish('l', 1, 3, 4);
            due("one unit less room, so only one of the wishes", 4, () -> blocked.bestStrength('x'));
            due("the same by all then", 4, () -> blocked.bestByAll('x'));
            due("20 units for the one, and 21 for the other to get out of its way", 41, () -> blocked.tidyCost('x'));
            due("that touches it", 21, () -> blocked.tidyStart(0, 'x'));
        });
    }

    private static void tidiest() {
        sentence("No tidier layout moves less.", () -> {
            SlideLayout x = slide(0, 0, 20, 10, 50, 20, 21, 10, 120, 40, 40, 10);
            x.addWish('l', 0, 1, 4);
            x.addWish('r', 0, 1, 4);
            due("50 for the one wish, 51 for the other", 50, () -> x.tidyCost('x'));
            x.moveTo(1, 49, 20);
            x.addWish('r', 0, 1, 1);
            due("50 for the stronger ones, not 49", 50, () -> x.tidyCost('x'));
            x.tidy('x');
            due("nothing more to move", 0, () -> x.tidy('x'));
        });
        sentence("The tidiest layout is the tidy one with the greatest strength; of several, the one with the lowest "
                + "cost; of several, the one that gives the lower start to the lowest-numbered shape to which they "
                + "give different starts.", () -> {
            SlideLayout strong = slide(0, 0, 20, 10, 10, 20, 20, 10, 180, 40, 20, 10);
            strong.addWish('l', 0, 1, 4);
            strong.addWish('l', 0, 2, 5);
            strong.setLocked(1, true);
            strong.setLocked(2, true);
            due("the greater strength with the greater cost", 180, () -> strong.tidyStart(0, 'x'));
            SlideLayout cheap = slide(90, 0, 20, 10, 0, 20, 20, 10, 179, 40, 20, 10);
            cheap.addWish('l', 0, 1, 5);
            cheap.addWish('l', 0, 2, 5);
            cheap.setLocked(1, true);
            cheap.setLocked(2, true);
            due("the lower cost, 89, with the higher start", 179, () -> cheap.tidyStart(0, 'x'));
            SlideLayout equal = slide(90, 0, 20, 10, 0, 20, 20, 10, 180, 40, 20, 10);
            equal.addWish('l', 0, 1, 5);
            equal.addWish('l', 0, 2, 5);
            equal.setLocked(1, true);
            equal.setLocked(2, true);
            due("equal costs, 90, so the lower start", 0, () -> equal.tidyStart(0, 'x'));
            SlideLayout second = slide(0, 0, 20, 10, 60, 20, 20, 10, 40, 40, 20, 10);
            second.addWish('l', 2, 1, 1);
            due("the lowest one gets the same start by all", 0, () -> second.tidyStart(0, 'x'));
            due("so the next one gets the lower start", 40, () -> second.tidyStart(1, 'x'));
            due("and the last one stays", 40, () -> second.tidyStart(2, 'x'));
            second.moveTo(1, 40, 60);
            second.moveTo(2, 60, 40);
            due("also if it stays so", 40, () -> second.tidyStart(1, 'x'));
            due("and the last one moves", 40, () -> second.tidyStart(2, 'x'));
            SlideLayout between = slide(60, 0, 20, 10, 40, 20, 20, 10, 50, 40, 20, 10);
            between.addWish('l', 0, 1, 1);
            between.setLocked(2, true);
            due("at 40, 50 and 60 for 20 units each", 40, () -> between.tidyStart(0, 'x'));
        });
    }

    private static void evenness() {
        sentence("The shapes are in the order of their present starts along the axis, those with the same start in the "
                + "order of their numbers.", () -> {
            SlideLayout x = slide(100, 0, 20, 10, 0, 20, 20, 10, 40, 40, 20, 10);
            due("1, 2 and 0 along x", 30, () -> x.spread('x'));
            due("so 2 is in the middle", 50, () -> x.startOf(2, 'x'));
            x.moveTo(1, 0, 23);
            due("0, 1 and 2 along y", 10, () -> x.spread('y'));
            due("so 1 is in the middle", 20, () -> x.startOf(1, 'y'));
            SlideLayout same = slide(50, 0, 20, 10, 50, 20, 30, 10);
            due("with the same start", 20, () -> same.evenCost('x'));
            same.spread('x');
            due("the lower number comes first", 30, () -> same.startOf(0, 'x'));
            due("the higher number is next", 50, () -> same.startOf(1, 'x'));
            SlideLayout one = slide(51, 0, 20, 10, 50, 20, 30, 10);
            due("one unit apart", 29, () -> one.evenByAll('x'));
            one.spread('x');
            due("the lower start comes first", 50 - 29, () -> one.startOf(1, 'x'));
            SlideLayout four = slide(0, 0, 50, 10, 0, 20, 50, 10, 0, 40, 50, 10, 0, 60, 50, 10);
            due("four with the same start, and no room left", 300, () -> four.evenCost('x'));
            four.spread('x');
            due("the last number comes last", 150, () -> four.startOf(3, 'x'));
        });
        sentence("A layout is even if it is allowed and there is a gap, 0 or more, so that the start of each shape but "
                + "the first one is the end of the one before it plus the gap.", () -> {
            SlideLayout behind = slide(0, 0, 20, 10, 19, 20, 20, 10);
            due("no gap of -1", 1, () -> behind.evenCost('x'));
            due("so it is 0", 0, () -> behind.spread('x'));
            due("0 already", 0, () -> behind.evenByAll('x'));
            due("196, the greatest one", 196, () -> slide(0, 0, 2, 10, 198, 20, 2, 10).spread('x'));
            due("118, the greatest one along y", 118, () -> slide(0, 0, 10, 1, 20, 119, 10, 1).spread('y'));
            due("all units taken", 50, () -> slide(0, 0, 100, 10, 50, 10, 100, 10).evenCost('x'));
            SlideLayout wide = slide(0, 0, 101, 10, 0, 10, 100, 10);
            fails("one unit too many", wide, ELEMENT, () -> wide.evenCost('x'));
            fails("one unit too many by all", wide, ELEMENT, () -> wide.evenByAll('x'));
            SlideLayout high = slide(0, 0, 10, 61, 20, 0, 10, 60);
            fails("one unit too many along y", high, ELEMENT, () -> high.evenCost('y'));
            SlideLayout uneven = slide(0, 0, 20, 10, 30, 20, 20, 10, 61, 40, 20, 10);
            due("gaps 10 and 11", 1, () -> uneven.evenCost('x'));
            for (int shape = 0; shape < 3; shape++) {
                uneven.setLocked(shape, true);
            }
            fails("gaps 10 and 11, all locked", uneven, ELEMENT, () -> uneven.evenCost('x'));
            fails("gaps 10 and 11 by all", uneven, ELEMENT, () -> uneven.evenByAll('x'));
            SlideLayout end = slide(0, 0, 20, 10, 90, 20, 20, 10, 179, 40, 21, 10);
            end.setLocked(0, true);
            due("gap 70 would end at 201", 2, () -> end.evenCost('x'));
            due("gap 70 would end at 201, by all", 2, () -> end.evenByAll('x'));
            due("so it is 69", 69, () -> end.spread('x'));
            due("and ends at 199", 178, () -> end.startOf(2, 'x'));
            SlideLayout begin = slide(0, 0, 21, 10, 90, 20, 20, 10, 180, 40, 20, 10);
            begin.setLocked(2, true);
            due("gap 70 would start at -1", 2, () -> begin.evenCost('x'));
            due("gap 70 would start at -1, by all", 2, () -> begin.evenByAll('x'));
            due("so it is 69 too", 69, () -> begin.spread('x'));
            due("and starts at 1", 1, () -> begin.startOf(0, 'x'));
            SlideLayout locked = slide(0, 0, 20, 10, 19, 20, 20, 10);
            locked.setLocked(0, true);
            locked.setLocked(1, true);
            fails("a gap of -1, both locked", locked, ELEMENT, () -> locked.spread('x'));
            SlideLayout touching = slide(0, 0, 20, 10, 20, 20, 20, 10);
            touching.setLocked(0, true);
            touching.setLocked(1, true);
            due("a gap of 0, both locked", 0, () -> touching.spread('x'));
        });
    }

    private static void evenest() {
        sentence("The evenest layout is the even one with the lowest cost; of several, the one with the lowest gap; of "
                + "several, the one with the lowest start of the first shape.", () -> {
            SlideLayout cost = slide(0, 0, 20, 10, 30, 20, 20, 10, 100, 40, 20, 10);
            due("the lowest cost with a greater gap", 30, () -> cost.spread('x'));
            SlideLayout gap = slide(50, 0, 20, 10, 80, 20, 20, 10, 120, 40, 20, 10);
            gap.setLocked(1, true);
            due("10 for each gap from 10 to 20", 10, () -> gap.evenCost('x'));
            due("the lowest gap", 10, () -> gap.spread('x'));
            due("with the higher start of the first shape", 50, () -> gap.startOf(0, 'x'));
            SlideLayout start = slide(50, 0, 20, 10, 50, 20, 30, 10);
            due("20 for each start from 30 to 50", 20, () -> start.evenByAll('x'));
            due("gap 0", 0, () -> start.spread('x'));
            due("the lowest start", 30, () -> start.startOf(0, 'x'));
            SlideLayout edge = slide(10, 0, 20, 10, 10, 20, 30, 10);
            due("gap 0 at the edge", 0, () -> edge.spread('x'));
            due("the lowest start is no less than 0", 0, () -> edge.startOf(0, 'x'));
            SlideLayout end = slide(150, 0, 40, 10, 150, 20, 50, 10);
            due("40 for each start from 110", 40, () -> end.evenCost('x'));
            due("gap 0 at the end", 0, () -> end.spread('x'));
            due("the last one ends with the slide", 150, () -> end.startOf(1, 'x'));
        });
    }

    private static void distances() {
        sentence("The distance of two shapes is the greater one of their gaps along both axes; their gap along an axis "
                + "is the number of units between the end of the one and the start of the other, or 0 if there are "
                + "none.", () -> {
            SlideLayout x = slide(50, 50, 20, 10, 0, 0, 6, 4);
            int[][] lefts = {{44, 0}, {43, 1}, {70, 0}, {71, 1}, {45, 0}, {69, 0}, {0, 44}, {194, 124}};
            for (int[] left : lefts) {
                x.moveTo(1, left[0], 46);
                due("along x alone, left " + left[0], left[1], () -> x.distance(0, 1));
            }
            int[][] tops = {{46, 0}, {45, 1}, {60, 0}, {61, 1}, {0, 46}, {116, 56}};
            for (int[] top : tops) {
                x.moveTo(1, 55, top[0]);
                due("along y alone, top " + top[0], top[1], () -> x.distance(0, 1));
                due("the other way round, top " + top[0], top[1], () -> x.distance(1, 0));
            }
            x.moveTo(1, 72, 61);
            due("2 along x, 1 along y", 2, () -> x.distance(0, 1));
            x.moveTo(1, 71, 62);
            due("1 along x, 2 along y", 2, () -> x.distance(0, 1));
            due("the greatest one", 196, () -> slide(0, 0, 2, 1, 198, 119, 2, 1).distance(0, 1));
        });
    }

    private static void links() {
        sentence("For a distance, two shapes are linked if their distance is not greater; a group is a greatest set of "
                + "shapes in which one comes from each to each other one by going from a shape to one that is linked "
                + "to it.", () -> {
            SlideLayout x = slide(100, 0, 10, 10, 0, 0, 10, 10, 70, 0, 10, 10, 35, 0, 10, 10);
            due("distances 20 and 25, and 19", 4, () -> x.groups(19));
            due("20", 3, () -> x.groups(20));
            due("24", 3, () -> x.groupsByLinks(24));
            due("25 links two more ways", 1, () -> x.groups(25));
            due("25 by links", 1, () -> x.groupsByLinks(25));
            due("from 1 over 3 and 2 to 0", 0, () -> x.groupOf(1, 25));
            due("no group of no shape", 0, () -> new SlideLayout().groups(200));
            due("one group of one shape", 1, () -> slide(0, 0, 10, 10).groups(0));
            SlideLayout touching = slide(0, 0, 10, 10, 10, 10, 10, 10);
            due("two that touch are linked for 0", 1, () -> touching.groups(0));
            touching.moveTo(1, 11, 10);
            due("two with a unit between are not", 2, () -> touching.groups(0));
            SlideLayout pairs = slide(0, 0, 10, 10, 190, 110, 10, 10, 10, 0, 10, 10, 180, 110, 10, 10);
            due("two groups of two", 2, () -> pairs.groups(10));
            due("two groups of two by links", 2, () -> pairs.groupsByLinks(10));
        });
    }

    private static void refusedCalls() {
        sentence("A method that throws an exception changes nothing.", () -> {
            SlideLayout x = stairs();
            x.setText(0, 30);
            fails("setText", x, ARGUMENT, () -> x.setText(0, 401));
            due("so the text is the old one", 15, () -> x.grow(0));
            fails("addShape, off the slide", x, ARGUMENT, () -> x.addShape(199, 0, 10, 10));
            fails("addShape, overlap", x, UNSUPPORTED, () -> x.addShape(0, 0, 10, 10));
            fails("moveTo, off the slide along y alone", x, ARGUMENT, () -> x.moveTo(0, 10, 110));
            fails("moveTo, overlap", x, UNSUPPORTED, () -> x.moveTo(0, 50, 20));
            x.setText(1, 400);
            x.moveTo(1, 0, 108);
            fails("grow, not on the slide", x, UNSUPPORTED, () -> x.grow(1));
            x.setText(0, 230);
            fails("grow, overlap", x, UNSUPPORTED, () -> x.grow(0));
            due("so the height is the old one", 15, () -> x.sizeOf(0, 'y'));
            fails("addWish, strength", x, ARGUMENT, () -> x.addWish('l', 0, 1, 10));
            fails("addWish, shape", x, INDEX, () -> x.addWish('l', 0, 3, 9));
            due("so the first wish is 0", 0, () -> x.addWish('l', 0, 1, 9));
            fails("dropWish", x, ELEMENT, () -> x.dropWish(1));
            fails("tidy", x, ARGUMENT, () -> x.tidy('z'));
            fails("spread", x, ARGUMENT, () -> x.spread('z'));
            fails("setLocked", x, INDEX, () -> x.setLocked(3, true));
            due("so the next shape is not locked", 3, () -> x.addShape(60, 100, 20, 10));
            due("and can be moved", 1, () -> x.moveTo(3, 61, 100));
            fails("addShape, full", x, STATE, () -> x.addShape(100, 100, 20, 10));
            x.setLocked(0, true);
            fails("moveTo, locked", x, STATE, () -> x.moveTo(0, 10, 0));
            SlideLayout wide = slide(0, 0, 101, 10, 0, 10, 100, 10);
            fails("spread, no even layout", wide, ELEMENT, () -> wide.spread('x'));
            due("so nothing was moved", 0L, wide::moved);
        });
    }

    private static void exceptionsOfShapes() {
        sentence("If several exceptions apply, the one that is listed first is thrown.", () -> {
            SlideLayout full = slide(0, 0, 20, 10, 50, 20, 20, 10, 100, 40, 20, 10, 160, 90, 20, 10);
            fails("addShape: size, full and overlap", full, ARGUMENT, () -> full.addShape(0, 0, 1, 10));
            fails("addShape: place, full and overlap", full, ARGUMENT, () -> full.addShape(-1, 0, 20, 10));
            fails("addShape: full and overlap", full, STATE, () -> full.addShape(0, 0, 20, 10));
            fails("startOf: shape and axis", full, INDEX, () -> full.startOf(4, 'z'));
            fails("sizeOf: shape and axis", full, INDEX, () -> full.sizeOf(4, 'z'));
            fails("moveTo: shape and place", full, INDEX, () -> full.moveTo(4, -1, -1));
            fails("moveTo: place and overlap", full, ARGUMENT, () -> full.moveTo(0, 175, 111));
            full.setLocked(0, true);
            fails("moveTo: lock, place and overlap", full, STATE, () -> full.moveTo(0, -1, 0));
            fails("moveTo: lock and overlap", full, STATE, () -> full.moveTo(0, 50, 20));
            fails("setText: shape and letters", full, INDEX, () -> full.setText(4, 401));
            fails("grow: the text fits, and lock", full, ELEMENT, () -> full.grow(0));
            full.setText(0, 400);
            fails("grow: lock and place", full, STATE, () -> full.grow(0));
            full.setText(0, 50);
            fails("grow: lock alone", full, STATE, () -> full.grow(0));
            fails("snaps: shape and axis", full, INDEX, () -> full.snaps(4, 'z'));
            fails("tidyStart: shape and axis", full, INDEX, () -> full.tidyStart(4, 'z'));
            fails("distance: shape and the same", full, INDEX, () -> full.distance(4, 4));
            fails("groupOf: shape and distance", full, INDEX, () -> full.groupOf(4, 201));
        });
    }

    private static void exceptionsOfTheOthers() {
        sentence("If several exceptions apply, the one that is listed first is thrown.", () -> {
            SlideLayout x = slide(0, 0, 20, 10);
            fails("addWish: shape and kind", x, INDEX, () -> x.addWish('q', 1, 0, 1));
            fails("addWish: other and strength", x, INDEX, () -> x.addWish('l', 0, 1, 0));
            fails("addWish: shape and the same", x, INDEX, () -> x.addWish('l', 1, 1, 1));
            fails("evenCost: axis and too few", x, ARGUMENT, () -> x.evenCost('z'));
            fails("evenByAll: axis and too few", x, ARGUMENT, () -> x.evenByAll('z'));
            fails("spread: axis and too few", x, ARGUMENT, () -> x.spread('z'));
            fails("guideAt: axis and index", x, ARGUMENT, () -> x.guideAt('z', 0));
            x.addShape(50, 20, 20, 10);
            for (int wish = 0; wish < 8; wish++) {
                x.addWish('l', 0, 1, 1);
            }
            fails("addWish: shape and full", x, INDEX, () -> x.addWish('l', 0, 2, 1));
            fails("addWish: kind and full", x, ARGUMENT, () -> x.addWish('q', 0, 1, 1));
            fails("addWish: the same and full", x, ARGUMENT, () -> x.addWish('l', 0, 0, 1));
            fails("addWish: strength and full", x, ARGUMENT, () -> x.addWish('l', 0, 1, 0));
        });
    }
}
