import java.lang.reflect.Field;
import java.lang.reflect.Method;

/** The boundary cases of promises 26 to 35, sentence by sentence. */
public final class MeasureEdgesTest extends Edges {
    private static final String NO_SHAPE = "Throws `IndexOutOfBoundsException` if there is no such shape";
    private static final String NO_AXIS = "Throws `IllegalArgumentException` if it is no such axis";
    private static final String DISTANCE = "- `distance`: the distance, 0 to 200";
    private static final String NO_DISTANCE = "Throws `IllegalArgumentException` if the distance is out of range";

    public static void main(String[] args) {
        guides();
        guideAt();
        distance();
        groups();
        groupsByLinks();
        groupOf();
        moved();
        covered();
        meanDistance();
        isSound();
        allQuoted(26, 35);
        close("MeasureEdgesTest");
    }

    private static void guides() {
        promise(26);
        sentence("A guide along an axis is a number that is at least twice among twice the start, the middle and twice "
                + "the end of all shapes, for two different shapes.", () -> {
            due("no shape", 0, () -> new SlideLayout().guides('x'));
            due("one shape", 0, () -> slide(0, 0, 200, 120).guides('y'));
            due("none twice", 0, () -> stairs().guides('x'));
            due("start and end by one unit apart", 0, () -> slide(0, 0, 20, 10, 21, 20, 19, 10).guides('x'));
            due("start and end", 1, () -> slide(0, 0, 20, 10, 20, 20, 19, 10).guides('x'));
            due("end and start", 1, () -> slide(20, 0, 19, 10, 0, 20, 20, 10).guides('x'));
            due("start and middle", 1, () -> slide(10, 0, 21, 10, 0, 20, 20, 10).guides('x'));
            due("middle and start", 1, () -> slide(0, 0, 20, 10, 10, 20, 21, 10).guides('x'));
            due("middle and end", 1, () -> slide(20, 0, 20, 10, 0, 20, 30, 10).guides('x'));
            due("end and middle", 1, () -> slide(0, 0, 30, 10, 20, 20, 20, 10).guides('x'));
            due("two middles between units", 1, () -> slide(0, 0, 21, 10, 5, 20, 11, 10).guides('x'));
            due("a middle by half a unit apart", 0, () -> slide(0, 0, 21, 10, 10, 20, 15, 10).guides('x'));
            due("a number that three have counts once", 3,
                    () -> slide(0, 0, 20, 10, 0, 20, 20, 10, 0, 40, 20, 10).guides('x'));
            due("twice by the last ones alone", 3,
                    () -> slide(0, 0, 21, 10, 50, 20, 24, 10, 150, 40, 20, 10, 150, 60, 20, 10).guides('x'));
            due("as many as may be", 6,
                    () -> slide(0, 0, 20, 9, 0, 9, 20, 9, 50, 18, 20, 9, 50, 27, 20, 9).guides('x'));
        });
        sentence(NO_AXIS, () -> {
            SlideLayout x = stairs();
            failsForNoAxis(x, axis -> x.guides(axis));
            SlideLayout none = new SlideLayout();
            failsForNoAxis(none, axis -> none.guides(axis));
        });
    }

    private static void guideAt() {
        promise(27);
        sentence("- `index`: the index among the guides in ascending order, from 0", () -> {
            SlideLayout x = slide(100, 0, 100, 10, 0, 20, 20, 10, 180, 40, 20, 10, 0, 60, 10, 10);
            int[] guides = {0, 20, 400};
            due("their number", guides.length, () -> x.guides('x'));
            for (int i = 0; i < guides.length; i++) {
                int index = i;
                due("index " + index, guides[index], () -> x.guideAt('x', index));
            }
            due("the least one", 0, () -> slide(0, 0, 20, 10, 0, 20, 21, 10).guideAt('x', 0));
            due("the greatest one", 400, () -> slide(180, 0, 20, 10, 179, 20, 21, 10).guideAt('x', 0));
            due("the greatest one along y", 240, () -> slide(0, 110, 20, 10, 20, 109, 20, 11).guideAt('y', 0));
            due("an odd one", 21, () -> slide(0, 0, 21, 10, 5, 20, 11, 10).guideAt('x', 0));
        });
        sentence(NO_AXIS, () -> {
            SlideLayout x = slide(0, 0, 20, 10, 0, 20, 20, 10);
            failsForNoAxis(x, axis -> x.guideAt(axis, 0));
            failsForNoAxis(x, axis -> x.guideAt(axis, -1));
        });
        sentence("Throws `NoSuchElementException` if there is no such guide", () -> {
            SlideLayout x = slide(0, 0, 20, 10, 0, 20, 20, 10);
            for (int index : new int[] {LEAST, -1, 3, 4, 6, MOST}) {
                fails("index " + index, x, ELEMENT, () -> x.guideAt('x', index));
            }
            due("the last one", 40, () -> x.guideAt('x', 2));
            fails("none along y", x, ELEMENT, () -> x.guideAt('y', 0));
            SlideLayout none = new SlideLayout();
            fails("no shape", none, ELEMENT, () -> none.guideAt('x', 0));
            SlideLayout most = slide(0, 0, 20, 9, 0, 9, 20, 9, 50, 18, 20, 9, 50, 27, 20, 9);
            due("the last one of the most", 140, () -> most.guideAt('x', 5));
            fails("one behind the most", most, ELEMENT, () -> most.guideAt('x', 6));
        });
    }

    private static void distance() {
        promise(28);
        sentence("Returns the distance of two shapes.", () -> {
            due("touching", 0, () -> slide(0, 0, 20, 10, 20, 0, 20, 10).distance(0, 1));
            due("touching at a corner", 0, () -> slide(0, 0, 20, 10, 20, 10, 20, 10).distance(1, 0));
            due("one unit between", 1, () -> slide(0, 0, 20, 10, 21, 0, 20, 10).distance(0, 1));
            due("one unit between along y", 1, () -> slide(0, 11, 20, 10, 0, 0, 20, 10).distance(0, 1));
            due("most units between", 196, () -> slide(198, 0, 2, 1, 0, 0, 2, 1).distance(0, 1));
            due("most units between along y", 118, () -> slide(0, 0, 2, 1, 0, 119, 2, 1).distance(0, 1));
        });
        sentence("Throws `IndexOutOfBoundsException` if there is no such shape, for either", () -> {
            SlideLayout x = stairs();
            failsForNoShape(x, shape -> x.distance(shape, 0));
            failsForNoShape(x, shape -> x.distance(0, shape));
            failsForNoShape(x, shape -> x.distance(shape, shape));
            due("the last one", 100, () -> x.distance(2, 0));
        });
        sentence("Throws `IllegalArgumentException` if both are the same", () -> {
            SlideLayout x = stairs();
            for (int shape = 0; shape < 3; shape++) {
                int same = shape;
                fails("both are " + same, x, ARGUMENT, () -> x.distance(same, same));
            }
        });
    }

    /** Three in a row with 10 and 190 units between the first ones and the last ones, and one at 0 units. */
    private static SlideLayout row() {
        return slide(0, 0, 2, 10, 198, 0, 2, 10, 2, 10, 2, 10, 14, 0, 2, 10);
    }

    private static void groups() {
        promise(29);
        sentence("Returns the number of groups, found by going from shape to shape.", () -> {
            due("no shape", 0, () -> new SlideLayout().groups(0));
            due("one shape", 1, () -> slide(0, 0, 20, 10).groups(0));
            due("four far ones", 4,
                    () -> slide(0, 0, 2, 1, 198, 0, 2, 1, 0, 119, 2, 1, 198, 119, 2, 1).groups(117));
            due("four at distance 118 and 196", 2,
                    () -> slide(0, 0, 2, 1, 198, 0, 2, 1, 0, 119, 2, 1, 198, 119, 2, 1).groups(118));
            due("from the first over the last to the second", 1,
                    () -> slide(0, 0, 20, 10, 60, 0, 20, 10, 90, 0, 20, 10, 30, 0, 20, 10).groups(10));
        });
        sentence(DISTANCE, () -> {
            SlideLayout x = row();
            int[][] groups = {{0, 3}, {9, 3}, {10, 2}, {181, 2}, {182, 1}, {199, 1}, {200, 1}};
            for (int[] pair : groups) {
                due("distance " + pair[0], pair[1], () -> x.groups(pair[0]));
            }
        });
        sentence(NO_DISTANCE, () -> {
            SlideLayout x = row();
            failsForNoDistance(x, distance -> x.groups(distance));
            SlideLayout none = new SlideLayout();
            failsForNoDistance(none, distance -> none.groups(distance));
        });
    }

    private static void groupsByLinks() {
        promise(30);
        sentence("Returns the same number, found by joining groups link by link.", () -> {
            due("no shape", 0, () -> new SlideLayout().groupsByLinks(0));
            due("one shape", 1, () -> slide(0, 0, 20, 10).groupsByLinks(0));
            due("four far ones", 4,
                    () -> slide(0, 0, 2, 1, 198, 0, 2, 1, 0, 119, 2, 1, 198, 119, 2, 1).groupsByLinks(117));
            due("two groups joined by the last link", 1,
                    () -> slide(0, 0, 20, 10, 30, 0, 20, 10, 90, 0, 20, 10, 60, 0, 20, 10).groupsByLinks(10));
            due("links in a ring", 1,
                    () -> slide(0, 0, 20, 10, 20, 0, 20, 10, 20, 10, 20, 10, 0, 10, 20, 10).groupsByLinks(0));
        });
        sentence(DISTANCE, () -> {
            SlideLayout x = row();
            int[][] groups = {{0, 3}, {9, 3}, {10, 2}, {181, 2}, {182, 1}, {199, 1}, {200, 1}};
            for (int[] pair : groups) {
                due("distance " + pair[0], pair[1], () -> x.groupsByLinks(pair[0]));
            }
        });
        sentence(NO_DISTANCE, () -> {
            SlideLayout x = row();
            failsForNoDistance(x, distance -> x.groupsByLinks(distance));
            SlideLayout none = new SlideLayout();
            failsForNoDistance(none, distance -> none.groupsByLinks(distance));
        });
    }

    private static void groupOf() {
        promise(31);
        sentence("Returns the lowest-numbered shape of the group of a shape.", () -> {
            SlideLayout x = slide(180, 100, 20, 10, 60, 0, 20, 10, 90, 0, 20, 10, 30, 0, 20, 10);
            due("its own number, alone", 3, () -> x.groupOf(3, 9));
            due("its own number, the lowest", 1, () -> x.groupOf(1, 10));
            due("from the last over the lowest", 1, () -> x.groupOf(3, 10));
            due("from the one over the lowest", 1, () -> x.groupOf(2, 10));
            due("the first, alone", 0, () -> x.groupOf(0, 10));
            due("the first, with all", 0, () -> x.groupOf(3, 200));
            due("one shape", 0, () -> slide(0, 0, 20, 10).groupOf(0, 0));
            SlideLayout over = slide(0, 0, 20, 10, 90, 0, 20, 10, 60, 0, 20, 10, 30, 0, 20, 10);
            due("over two others to the lowest", 0, () -> over.groupOf(1, 10));
            SlideLayout down = slide(0, 0, 20, 10, 0, 50, 20, 10, 0, 20, 20, 10);
            due("by 10 units along y", 0, () -> down.groupOf(2, 10));
            due("by 20 units along y", 0, () -> down.groupOf(1, 20));
            due("not by 20 units along y", 1, () -> down.groupOf(1, 19));
        });
        sentence(DISTANCE, () -> {
            SlideLayout x = row();
            due("0 links what touches", 0, () -> x.groupOf(2, 0));
            due("0 links nothing else", 3, () -> x.groupOf(3, 0));
            due("181 leaves the second alone", 1, () -> x.groupOf(1, 181));
            due("182 links it", 0, () -> x.groupOf(1, 182));
            due("200 links all", 0, () -> x.groupOf(1, 200));
        });
        sentence(NO_SHAPE, () -> {
            SlideLayout x = stairs();
            failsForNoShape(x, shape -> x.groupOf(shape, 0));
            failsForNoShape(x, shape -> x.groupOf(shape, 201));
        });
        sentence(NO_DISTANCE, () -> {
            SlideLayout x = row();
            failsForNoDistance(x, distance -> x.groupOf(3, distance));
        });
    }

    private static void moved() {
        promise(32);
        sentence("Returns the sum of all units by which shapes were moved by moveTo(), tidy() and spread().", () -> {
            SlideLayout x = slide(0, 0, 20, 10, 50, 20, 20, 10);
            due("at first", 0L, x::moved);
            x.moveTo(0, 0, 0);
            due("to its own place", 0L, x::moved);
            x.moveTo(0, 1, 0);
            x.moveTo(0, 0, 0);
            due("there and back", 2L, x::moved);
            fails("refused", x, ARGUMENT, () -> x.moveTo(0, -1, 0));
            x.addWish('l', 0, 1, 1);
            x.bestByAll('x');
            x.evenByAll('x');
            due("asked alone", 2L, x::moved);
            x.tidy('x');
            due("tidy", 52L, x::moved);
            x.tidy('x');
            due("tidy that moves none", 52L, x::moved);
            x.spread('x');
            due("spread", 72L, x::moved);
            x.spread('x');
            due("spread that moves none", 72L, x::moved);
            x.setText(0, 30);
            x.grow(0);
            x.addShape(100, 100, 20, 10);
            due("grow and addShape", 72L, x::moved);
        });
    }

    private static void covered() {
        promise(33);
        sentence("Returns the sum of the width times the height of all shapes divided by 24000, both converted to "
                + "float.", () -> {
            due("none", 0.0f, () -> new SlideLayout().covered());
            due("all by one", 1.0f, () -> slide(0, 0, 200, 120).covered());
            due("all by four", 1.0f,
                    () -> slide(0, 0, 100, 60, 100, 0, 100, 60, 0, 60, 100, 60, 100, 60, 100, 60).covered());
            due("the least one", 2.0f / 24000.0f, () -> slide(0, 0, 2, 1).covered());
            due("all but 2 units", 23998.0f / 24000.0f,
                    () -> slide(0, 0, 200, 119, 0, 119, 198, 1).covered());
            due("3202 units", 0.13341667f, () -> slide(0, 0, 100, 32, 100, 0, 2, 1).covered());
        });
    }

    private static void meanDistance() {
        promise(34);
        sentence("Returns the sum of the distances divided by the number of pairs, both converted to double.", () -> {
            due("one pair", 30.0, () -> slide(0, 0, 20, 10, 50, 20, 20, 10).meanDistance());
            due("one pair along y", 30.0, () -> slide(0, 0, 20, 10, 20, 40, 20, 10).meanDistance());
            due("a pair that touches", 0.0, () -> slide(0, 0, 20, 10, 20, 10, 20, 10).meanDistance());
            due("three pairs, one third", 1.0 / 3.0,
                    () -> slide(0, 0, 20, 10, 21, 0, 20, 10, 10, 10, 20, 10).meanDistance());
            due("six pairs, eleven sixths", 11.0 / 6.0,
                    () -> slide(0, 0, 20, 10, 21, 0, 20, 10, 10, 10, 20, 10, 30, 10, 20, 10).meanDistance());
        });
        sentence("Throws `ArithmeticException` if there are fewer than 2 shapes", () -> {
            SlideLayout x = new SlideLayout();
            fails("no shape", x, ARITHMETIC, x::meanDistance);
            x.addShape(0, 0, 20, 10);
            fails("one shape", x, ARITHMETIC, x::meanDistance);
            x.addShape(50, 0, 20, 10);
            due("two shapes", 30.0, x::meanDistance);
        });
    }

    private static void isSound() {
        promise(35);
        sentence("Checks whether all shapes lie on the slide, no two overlap, and for both axes bestStrength() and "
                + "bestByAll() agree, as do evenCost() and evenByAll(), and for the distances 0, 10 and 50 groups() "
                + "and groupsByLinks().", () -> {
            due("no shape", true, () -> new SlideLayout().isSound());
            due("one shape", true, () -> slide(0, 0, 2, 1).isSound());
            due("four shapes that take all", true,
                    () -> slide(0, 0, 100, 60, 100, 0, 100, 60, 0, 60, 100, 60, 100, 60, 100, 60).isSound());
            due("no even layout", true, () -> slide(0, 0, 101, 50, 0, 50, 50, 50, 101, 0, 50, 21).isSound());
            for (int gap : new int[] {0, 1, 10, 11, 50, 51}) {
                due("a gap along x of " + gap, true, () -> slide(0, 0, 20, 10, 20 + gap, 0, 20, 10).isSound());
                due("a gap along y of " + gap, true, () -> slide(0, 0, 20, 10, 0, 10 + gap, 20, 10).isSound());
            }
            SlideLayout x = stairs();
            for (int wish = 0; wish < 8; wish++) {
                x.addWish("lcrtmb".charAt(wish % 6), wish % 3, (wish + 1) % 3, 9);
                due("with wish " + wish, true, x::isSound);
            }
            for (int shape = 0; shape < 3; shape++) {
                x.setLocked(shape, true);
                due("with lock " + shape, true, x::isSound);
            }
        });
        sentence("Returns whether all of this holds.", () -> {
            due("as it was made", true, () -> forced("across", 1, 50).isSound());
            due("at the end of the slide", true, () -> forced("across", 1, 180).isSound());
            due("beyond the slide along x", false, () -> forced("across", 1, 181).isSound());
            due("before the slide along x", false, () -> forced("across", 0, -1).isSound());
            due("beyond the slide along y", false, () -> forced("down", 1, 111).isSound());
            due("before the slide along y", false, () -> forced("down", 0, -1).isSound());
            due("touching", true, () -> forced("across", 1, 20).isSound());
            due("overlap", false, () -> forced("across", 1, 19).isSound());
        });
    }

    /** No run of calls leads to a slide that is not sound, so a shape's start is set from behind, within the object. */
    private static SlideLayout forced(String axisName, int shape, int start) {
        SlideLayout x = slide(0, 0, 20, 10, 50, 0, 20, 10);
        try {
            Field field = SlideLayout.class.getDeclaredField(axisName);
            field.setAccessible(true);
            Object axis = field.get(x);
            Method setStart = axis.getClass().getDeclaredMethod("setStart", int.class, int.class);
            setStart.setAccessible(true);
            setStart.invoke(axis, shape, start);
        } catch (ReflectiveOperationException e) {
            throw new IllegalStateException("the starts are not held in " + axisName + " any more: mend this test", e);
        }
        return x;
    }
}
