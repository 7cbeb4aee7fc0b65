/** The boundary cases of promises 1 to 12, sentence by sentence. */
public final class ShapeEdgesTest extends Edges {
    private static final String NO_SHAPE = "Throws `IndexOutOfBoundsException` if there is no such shape";
    private static final String NO_AXIS = "Throws `IllegalArgumentException` if it is no such axis";

    public static void main(String[] args) {
        newObject();
        addShape();
        addShapeRefused();
        setLocked();
        startOf();
        sizeOf();
        moveTo();
        moveToRefused();
        moveReason();
        setText();
        fits();
        grow();
        growRefused();
        growReason();
        inTheWay();
        inTheWayRefused();
        allQuoted(1, 12);
        close("ShapeEdgesTest");
    }

    private static void newObject() {
        promise(1);
        sentence("Creates a slide without shapes and wishes.", () -> {
            SlideLayout x = new SlideLayout();
            failsForNoShape(x, shape -> x.startOf(shape, 'x'));
            failsForNoShape(x, shape -> x.fits(shape));
            for (int wish : new int[] {-1, 0, 7, 8, LEAST, MOST}) {
                fails("wish " + wish, x, ELEMENT, () -> x.isMet(wish));
            }
            for (char axis : new char[] {'x', 'y'}) {
                due("strength along " + axis, 0, () -> x.strength(axis));
                due("bestStrength along " + axis, 0, () -> x.bestStrength(axis));
                due("bestByAll along " + axis, 0, () -> x.bestByAll(axis));
                due("tidyCost along " + axis, 0, () -> x.tidyCost(axis));
                due("tidy along " + axis, 0, () -> x.tidy(axis));
                due("guides along " + axis, 0, () -> x.guides(axis));
                fails("spread along " + axis, x, ELEMENT, () -> x.spread(axis));
            }
            due("groups", 0, () -> x.groups(0));
            due("groupsByLinks", 0, () -> x.groupsByLinks(200));
            due("moved", 0L, x::moved);
            due("covered", 0.0f, x::covered);
            fails("meanDistance", x, ARITHMETIC, x::meanDistance);
            due("isSound", true, x::isSound);
            due("the first shape then", 0, () -> x.addShape(0, 0, 20, 10));
        });
    }

    private static void addShape() {
        promise(2);
        sentence("- `width`: its width, 2 to 200", () -> {
            SlideLayout x = new SlideLayout();
            for (int width : new int[] {LEAST, -200, -1, 0, 1, 201, MOST}) {
                fails("width " + width, x, ARGUMENT, () -> x.addShape(0, 0, width, 10));
            }
            due("width 2", 0, () -> x.addShape(0, 0, 2, 10));
            due("width 200", 1, () -> x.addShape(0, 10, 200, 10));
            due("the width of the one", 2, () -> x.sizeOf(0, 'x'));
            due("the width of the other", 200, () -> x.sizeOf(1, 'x'));
        });
        sentence("- `height`: its height, 1 to 120", () -> {
            SlideLayout x = new SlideLayout();
            for (int height : new int[] {LEAST, -120, -1, 0, 121, 200, MOST}) {
                fails("height " + height, x, ARGUMENT, () -> x.addShape(0, 0, 10, height));
            }
            due("height 1", 0, () -> x.addShape(0, 0, 10, 1));
            due("height 120", 1, () -> x.addShape(10, 0, 10, 120));
            due("the height of the one", 1, () -> x.sizeOf(0, 'y'));
            due("the height of the other", 120, () -> x.sizeOf(1, 'y'));
        });
        sentence("Returns the number of the shape.", () -> {
            SlideLayout x = new SlideLayout();
            fails("a refused one before the first", x, ARGUMENT, () -> x.addShape(0, 0, 1, 1));
            due("the first one", 0, () -> x.addShape(0, 0, 20, 10));
            fails("a refused one before the second", x, UNSUPPORTED, () -> x.addShape(0, 0, 20, 10));
            due("the second one", 1, () -> x.addShape(20, 0, 20, 10));
            fails("a refused one before the third", x, ARGUMENT, () -> x.addShape(190, 0, 20, 10));
            due("the third one", 2, () -> x.addShape(40, 0, 20, 10));
            due("the fourth and last one", 3, () -> x.addShape(60, 0, 20, 10));
        });
    }

    private static void addShapeRefused() {
        promise(2);
        sentence("Throws `IllegalArgumentException` if a size is out of range, or it does not lie on the slide", () -> {
            SlideLayout x = new SlideLayout();
            fails("both sizes", x, ARGUMENT, () -> x.addShape(0, 0, 1, 0));
            fails("width 1", x, ARGUMENT, () -> x.addShape(0, 0, 1, 1));
            fails("height 0", x, ARGUMENT, () -> x.addShape(0, 0, 2, 0));
            fails("before the slide along x", x, ARGUMENT, () -> x.addShape(-1, 0, 2, 1));
            fails("before the slide along y", x, ARGUMENT, () -> x.addShape(0, -1, 2, 1));
            fails("beyond the slide along x", x, ARGUMENT, () -> x.addShape(199, 0, 2, 1));
            fails("beyond the slide along y", x, ARGUMENT, () -> x.addShape(0, 120, 2, 1));
            fails("200 wide, but from 1 on", x, ARGUMENT, () -> x.addShape(1, 0, 200, 1));
            fails("120 high, but from 1 on", x, ARGUMENT, () -> x.addShape(0, 1, 2, 120));
            fails("left and width wrap around to 0", x, ARGUMENT, () -> x.addShape(MOST, 0, MOST, 1));
            fails("left and width wrap below 0", x, ARGUMENT, () -> x.addShape(MOST - 1, 0, 2, 1));
            fails("top and height wrap below 0", x, ARGUMENT, () -> x.addShape(0, MOST, 2, 1));
            fails("least left, least top", x, ARGUMENT, () -> x.addShape(LEAST, LEAST, 2, 1));
            due("just on it", 0, () -> x.addShape(198, 119, 2, 1));
        });
        sentence("Throws `IllegalStateException` if there are 4 shapes", () -> {
            SlideLayout x = slide(0, 0, 20, 10, 20, 0, 20, 10, 40, 0, 20, 10);
            due("when there are 3", 3, () -> x.addShape(60, 0, 20, 10));
            fails("when there are 4", x, STATE, () -> x.addShape(80, 0, 20, 10));
            fails("when there are still 4", x, STATE, () -> x.addShape(100, 0, 20, 10));
        });
        sentence("Throws `UnsupportedOperationException` if it overlaps another shape", () -> {
            SlideLayout x = slide(50, 50, 20, 10);
            fails("by the lowest unit", x, UNSUPPORTED, () -> x.addShape(40, 45, 11, 6));
            fails("by the highest unit", x, UNSUPPORTED, () -> x.addShape(69, 59, 20, 10));
            due("touching its corner", 1, () -> x.addShape(40, 45, 10, 5));
            due("touching its side", 2, () -> x.addShape(70, 50, 10, 10));
            fails("the second one", x, UNSUPPORTED, () -> x.addShape(0, 0, 41, 46));
            fails("the last one", x, UNSUPPORTED, () -> x.addShape(79, 0, 100, 100));
        });
    }

    private static void setLocked() {
        promise(3);
        sentence("- `isLocked`: whether it is locked from now on", () -> {
            SlideLayout x = stairs();
            x.setLocked(2, true);
            due("the last one is locked", 'l', () -> x.moveReason(2, 120, 40));
            due("the one before it is not", 'n', () -> x.moveReason(1, 50, 20));
            x.setLocked(2, true);
            due("locked twice", 'l', () -> x.moveReason(2, 120, 40));
            x.setLocked(2, false);
            due("unlocked once", 'n', () -> x.moveReason(2, 120, 40));
            x.setLocked(2, false);
            due("unlocked twice", 'n', () -> x.moveReason(2, 120, 40));
        });
        sentence("Returns whether it was locked before the call.", () -> {
            SlideLayout x = stairs();
            due("not at first", false, () -> x.setLocked(0, false));
            due("nor after it was unlocked", false, () -> x.setLocked(0, true));
            due("then it was", true, () -> x.setLocked(0, true));
            due("and still was", true, () -> x.setLocked(0, false));
            due("at last it was not", false, () -> x.setLocked(0, false));
        });
        sentence(NO_SHAPE, () -> {
            SlideLayout x = stairs();
            failsForNoShape(x, shape -> x.setLocked(shape, true));
            due("the last one", false, () -> x.setLocked(2, true));
        });
    }

    private static void startOf() {
        promise(4);
        sentence(NO_SHAPE, () -> {
            SlideLayout x = slide(1, 2, 20, 10);
            failsForNoShape(x, shape -> x.startOf(shape, 'x'));
            failsForNoShape(x, shape -> x.startOf(shape, 'z'));
            SlideLayout full = slide(0, 0, 20, 10, 20, 0, 20, 10, 40, 0, 20, 10, 60, 0, 20, 10);
            failsForNoShape(full, shape -> full.startOf(shape, 'y'));
            due("the last one", 60, () -> full.startOf(3, 'x'));
        });
        sentence(NO_AXIS, () -> {
            SlideLayout x = slide(1, 2, 20, 10);
            failsForNoAxis(x, axis -> x.startOf(0, axis));
            due("x", 1, () -> x.startOf(0, 'x'));
            due("y", 2, () -> x.startOf(0, 'y'));
        });
    }

    private static void sizeOf() {
        promise(5);
        sentence(NO_SHAPE, () -> {
            SlideLayout x = slide(1, 2, 20, 10);
            failsForNoShape(x, shape -> x.sizeOf(shape, 'x'));
            failsForNoShape(x, shape -> x.sizeOf(shape, 'z'));
            SlideLayout full = slide(0, 0, 20, 10, 20, 0, 20, 10, 40, 0, 20, 10, 60, 0, 21, 10);
            failsForNoShape(full, shape -> full.sizeOf(shape, 'y'));
            due("the last one", 21, () -> full.sizeOf(3, 'x'));
        });
        sentence(NO_AXIS, () -> {
            SlideLayout x = slide(1, 2, 20, 10);
            failsForNoAxis(x, axis -> x.sizeOf(0, axis));
            due("x", 20, () -> x.sizeOf(0, 'x'));
            due("y", 10, () -> x.sizeOf(0, 'y'));
        });
    }

    private static void moveTo() {
        promise(6);
        sentence("Returns by how many units it is moved, along both axes together.", () -> {
            SlideLayout x = slide(0, 0, 2, 1);
            due("by none", 0, () -> x.moveTo(0, 0, 0));
            due("by the most", 317, () -> x.moveTo(0, 198, 119));
            due("back again", 317, () -> x.moveTo(0, 0, 0));
            due("along x alone", 198, () -> x.moveTo(0, 198, 0));
            due("along y alone", 119, () -> x.moveTo(0, 198, 119));
            due("back along x, by one", 1, () -> x.moveTo(0, 197, 119));
            due("the one back, the other on", 2, () -> {
                x.moveTo(0, 100, 50);
                return x.moveTo(0, 99, 51);
            });
            due("its left then", 99, () -> x.startOf(0, 'x'));
            due("its top then", 51, () -> x.startOf(0, 'y'));
        });
    }

    private static void moveToRefused() {
        promise(6);
        sentence(NO_SHAPE, () -> {
            SlideLayout x = stairs();
            failsForNoShape(x, shape -> x.moveTo(shape, 0, 0));
            failsForNoShape(x, shape -> x.moveTo(shape, -1, -1));
        });
        sentence("Throws `IllegalStateException` if it is locked", () -> {
            SlideLayout x = stairs();
            x.setLocked(0, true);
            fails("to another place", x, STATE, () -> x.moveTo(0, 0, 50));
            fails("to its own place", x, STATE, () -> x.moveTo(0, 0, 0));
            fails("off the slide", x, STATE, () -> x.moveTo(0, MOST, LEAST));
            fails("onto another one", x, STATE, () -> x.moveTo(0, 50, 20));
            due("another one", 1, () -> x.moveTo(1, 51, 20));
            x.setLocked(0, false);
            due("when it is unlocked", 50, () -> x.moveTo(0, 0, 50));
        });
        sentence("Throws `IllegalArgumentException` if it would not lie on the slide", () -> {
            SlideLayout x = slide(50, 50, 20, 10);
            for (int left : new int[] {LEAST, -1, 181, MOST - 20, MOST - 19, MOST}) {
                fails("left " + left, x, ARGUMENT, () -> x.moveTo(0, left, 50));
            }
            for (int top : new int[] {LEAST, -1, 111, MOST - 10, MOST - 9, MOST}) {
                fails("top " + top, x, ARGUMENT, () -> x.moveTo(0, 50, top));
            }
            due("to the one corner", 100, () -> x.moveTo(0, 0, 0));
            due("to the other corner", 290, () -> x.moveTo(0, 180, 110));
        });
        sentence("Throws `UnsupportedOperationException` if it would overlap another shape", () -> {
            SlideLayout x = slide(0, 0, 20, 10, 100, 50, 20, 10);
            fails("by one unit before", x, UNSUPPORTED, () -> x.moveTo(0, 81, 41));
            fails("by one unit behind", x, UNSUPPORTED, () -> x.moveTo(0, 119, 59));
            fails("wholly", x, UNSUPPORTED, () -> x.moveTo(0, 100, 50));
            fails("the first one by the second", x, UNSUPPORTED, () -> x.moveTo(1, 19, 9));
            due("touching before", 120, () -> x.moveTo(0, 80, 40));
            due("overlapping itself alone", 1, () -> x.moveTo(0, 79, 40));
        });
    }

    private static void moveReason() {
        promise(7);
        sentence("Returns the first letter that applies: 'l' it is locked, 's' it would not lie on the slide, 'o' it "
                + "would overlap another shape; 'n' if none does.", () -> {
            SlideLayout x = slide(0, 0, 20, 10, 175, 105, 20, 10);
            due("none", 'n', () -> x.moveReason(0, 155, 95));
            due("none, its own place", 'n', () -> x.moveReason(0, 0, 0));
            due("off the slide", 's', () -> x.moveReason(0, 181, 0));
            due("off the slide and overlap", 's', () -> x.moveReason(0, 181, 110));
            due("overlap", 'o', () -> x.moveReason(0, 180, 110));
            due("overlap by one unit", 'o', () -> x.moveReason(0, 156, 96));
            x.setLocked(0, true);
            due("locked", 'l', () -> x.moveReason(0, 0, 0));
            due("locked and off the slide", 'l', () -> x.moveReason(0, LEAST, MOST));
            due("locked and overlap", 'l', () -> x.moveReason(0, 180, 110));
            due("locked, off the slide and overlap", 'l', () -> x.moveReason(0, 181, 110));
            due("overlap with a locked one", 'o', () -> x.moveReason(1, 19, 9));
        });
        sentence(NO_SHAPE, () -> {
            SlideLayout x = stairs();
            failsForNoShape(x, shape -> x.moveReason(shape, 0, 0));
            failsForNoShape(x, shape -> x.moveReason(shape, -1, -1));
        });
    }

    private static void setText() {
        promise(8);
        sentence("- `letters`: the number of letters, 0 to 400", () -> {
            SlideLayout x = slide(0, 0, 2, 1);
            due("0", 0, () -> x.setText(0, 0));
            due("1", 5, () -> x.setText(0, 1));
            due("399", 1995, () -> x.setText(0, 399));
            due("400", 2000, () -> x.setText(0, 400));
        });
        sentence("Returns the needed height.", () -> {
            SlideLayout x = slide(0, 0, 20, 120);
            due("less than the height", 10, () -> x.setText(0, 20));
            due("more than the height", 125, () -> x.setText(0, 250));
            due("none", 0, () -> x.setText(0, 0));
            x.setLocked(0, true);
            due("of a locked shape", 15, () -> x.setText(0, 21));
            due("not the height itself", 120, () -> x.sizeOf(0, 'y'));
        });
        sentence(NO_SHAPE, () -> {
            SlideLayout x = stairs();
            failsForNoShape(x, shape -> x.setText(shape, 10));
            failsForNoShape(x, shape -> x.setText(shape, -1));
        });
        sentence("Throws `IllegalArgumentException` if the number is out of range", () -> {
            SlideLayout x = slide(0, 0, 20, 14);
            x.setText(0, 21);
            for (int letters : new int[] {LEAST, -400, -1, 401, MOST}) {
                fails("letters " + letters, x, ARGUMENT, () -> x.setText(0, letters));
            }
            due("the text before stays", 15, () -> x.grow(0));
        });
    }

    private static void fits() {
        promise(9);
        sentence("Returns whether it fits.", () -> {
            SlideLayout x = slide(0, 0, 20, 5, 30, 0, 20, 1);
            due("no text", true, () -> x.fits(0));
            due("no text on one unit", true, () -> x.fits(1));
            x.setText(0, 10);
            due("a full line", true, () -> x.fits(0));
            x.setText(0, 11);
            due("one letter more", false, () -> x.fits(0));
            x.grow(0);
            due("after it has grown", true, () -> x.fits(0));
            x.setText(1, 1);
            due("a letter on one unit", false, () -> x.fits(1));
            x.setText(1, 0);
            due("no text again", true, () -> x.fits(1));
        });
        sentence(NO_SHAPE, () -> {
            SlideLayout x = stairs();
            failsForNoShape(x, shape -> x.fits(shape));
        });
    }

    private static void grow() {
        promise(10);
        sentence("Makes the height of a shape the needed height of its text.", () -> {
            SlideLayout x = slide(0, 0, 20, 4, 0, 5, 20, 1, 30, 0, 20, 119);
            x.setText(0, 1);
            due("by one unit, to touch the next one", 5, () -> x.grow(0));
            due("the height then", 5, () -> x.sizeOf(0, 'y'));
            due("the next one stays", 5, () -> x.startOf(1, 'y'));
            x.setText(2, 240);
            due("by one unit, to the end of the slide", 120, () -> x.grow(2));
            due("it is the whole height", 120, () -> x.sizeOf(2, 'y'));
            due("the left stays", 30, () -> x.startOf(2, 'x'));
            due("the width stays", 20, () -> x.sizeOf(2, 'x'));
            due("it is no move", 0L, x::moved);
            x.setText(2, 0);
            fails("it never shrinks", x, ELEMENT, () -> x.grow(2));
        });
    }

    private static void growRefused() {
        promise(10);
        sentence(NO_SHAPE, () -> {
            SlideLayout x = stairs();
            x.setText(0, 400);
            failsForNoShape(x, shape -> x.grow(shape));
        });
        sentence("Throws `NoSuchElementException` if the text fits", () -> {
            SlideLayout x = slide(0, 0, 20, 10);
            fails("no text", x, ELEMENT, () -> x.grow(0));
            x.setText(0, 20);
            fails("it just fits", x, ELEMENT, () -> x.grow(0));
            x.setLocked(0, true);
            fails("it just fits, locked", x, ELEMENT, () -> x.grow(0));
            x.setLocked(0, false);
            x.setText(0, 21);
            due("it just does not", 15, () -> x.grow(0));
            fails("it fits then", x, ELEMENT, () -> x.grow(0));
        });
        sentence("Throws `IllegalStateException` if the shape is locked", () -> {
            SlideLayout x = slide(0, 0, 20, 10, 0, 20, 20, 10);
            x.setLocked(0, true);
            x.setText(0, 21);
            fails("with room", x, STATE, () -> x.grow(0));
            x.setText(0, 50);
            fails("with a shape in the way", x, STATE, () -> x.grow(0));
            x.setText(0, 400);
            fails("beyond the slide", x, STATE, () -> x.grow(0));
            x.setText(1, 21);
            due("another one", 15, () -> x.grow(1));
        });
        sentence("Throws `UnsupportedOperationException` if it would not lie on the slide, or would overlap another "
                + "shape", () -> {
            SlideLayout x = slide(0, 5, 20, 1, 0, 20, 20, 10, 100, 106, 20, 10, 140, 105, 20, 10);
            x.setText(0, 31);
            fails("overlap", x, UNSUPPORTED, () -> x.grow(0));
            x.setText(0, 30);
            due("touching", 15, () -> x.grow(0));
            x.setText(2, 21);
            fails("one unit beyond the slide", x, UNSUPPORTED, () -> x.grow(2));
            x.setText(3, 21);
            due("to the end of the slide", 15, () -> x.grow(3));
            x.setText(0, 400);
            fails("far beyond the slide", x, UNSUPPORTED, () -> x.grow(0));
            x.setLocked(1, true);
            x.setText(0, 40);
            fails("overlap with a locked one", x, UNSUPPORTED, () -> x.grow(0));
        });
    }

    private static void growReason() {
        promise(11);
        sentence("Returns the first letter that applies: 'f' the text fits, 'l' the shape is locked, 's' it would not "
                + "lie on the slide, 'o' it would overlap another shape; 'n' if none does.", () -> {
            SlideLayout x = slide(0, 5, 20, 1, 0, 20, 20, 10, 100, 106, 20, 10, 140, 105, 20, 10);
            due("no text fits", 'f', () -> x.growReason(0));
            x.setText(1, 20);
            due("it just fits", 'f', () -> x.growReason(1));
            x.setText(1, 21);
            due("it just does not", 'n', () -> x.growReason(1));
            x.setText(0, 30);
            due("touching", 'n', () -> x.growReason(0));
            x.setText(0, 31);
            due("overlap", 'o', () -> x.growReason(0));
            x.setText(0, 230);
            due("to the end of the slide, and overlap", 'o', () -> x.growReason(0));
            x.setText(0, 231);
            due("beyond the slide, and overlap", 's', () -> x.growReason(0));
            x.setText(2, 21);
            due("one unit beyond the slide", 's', () -> x.growReason(2));
            x.setText(3, 21);
            due("to the end of the slide", 'n', () -> x.growReason(3));
            x.setLocked(0, true);
            due("locked, beyond the slide, and overlap", 'l', () -> x.growReason(0));
            x.setText(0, 31);
            due("locked, and overlap", 'l', () -> x.growReason(0));
            x.setText(0, 30);
            due("locked", 'l', () -> x.growReason(0));
            x.setText(0, 0);
            due("locked, but no text fits", 'f', () -> x.growReason(0));
            due("nothing has grown", 1, () -> x.sizeOf(0, 'y'));
        });
        sentence(NO_SHAPE, () -> {
            SlideLayout x = stairs();
            failsForNoShape(x, shape -> x.growReason(shape));
        });
    }

    private static void inTheWay() {
        promise(12);
        sentence("Returns the lowest-numbered shape that a shape would overlap if it grew to the needed height of its "
                + "text, whether it is locked or not.", () -> {
            SlideLayout x = slide(0, 40, 10, 5, 0, 5, 20, 5, 10, 20, 10, 5, 5, 60, 10, 5);
            x.setText(1, 31);
            due("the nearest one, which ends the room", 2, () -> x.inTheWay(1));
            x.setText(1, 70);
            due("still the nearest one, the next one being touched", 2, () -> x.inTheWay(1));
            x.setText(1, 71);
            due("a lower-numbered one behind it", 0, () -> x.inTheWay(1));
            x.setText(1, 230);
            due("all three, to the end of the slide", 0, () -> x.inTheWay(1));
            x.setLocked(1, true);
            due("locked itself", 0, () -> x.inTheWay(1));
            x.setLocked(0, true);
            due("the other one locked", 0, () -> x.inTheWay(1));
            x.setText(0, 21);
            due("the last one is in the way of the first one", 3, () -> x.inTheWay(0));
            due("nothing has grown", 5, () -> x.sizeOf(1, 'y'));
        });
        sentence("Returns the number of the other shape.", () -> {
            for (int other = 0; other < 2; other++) {
                SlideLayout x = other == 0 ? slide(0, 20, 20, 5, 0, 0, 20, 5) : slide(0, 0, 20, 5, 0, 20, 20, 5);
                int number = other;
                x.setText(1 - number, 41);
                due("not its own number", number, () -> x.inTheWay(1 - number));
            }
        });
    }

    private static void inTheWayRefused() {
        promise(12);
        sentence(NO_SHAPE, () -> {
            SlideLayout x = stairs();
            failsForNoShape(x, shape -> x.inTheWay(shape));
        });
        sentence("Throws `NoSuchElementException` if the text fits, or the shape would not lie on the slide, or would "
                + "overlap none", () -> {
            SlideLayout x = slide(0, 5, 20, 10, 0, 20, 20, 10);
            fails("no text", x, ELEMENT, () -> x.inTheWay(0));
            x.setText(0, 20);
            fails("the text just fits", x, ELEMENT, () -> x.inTheWay(0));
            x.setText(0, 30);
            fails("it would touch the other one", x, ELEMENT, () -> x.inTheWay(0));
            x.setText(0, 31);
            due("it would overlap", 1, () -> x.inTheWay(0));
            x.setText(0, 230);
            due("it would overlap, and end with the slide", 1, () -> x.inTheWay(0));
            x.setText(0, 231);
            fails("it would overlap, and end beyond the slide", x, ELEMENT, () -> x.inTheWay(0));
            x.setText(1, 200);
            fails("it would end with the slide, and overlap none", x, ELEMENT, () -> x.inTheWay(1));
            SlideLayout alone = slide(0, 0, 20, 10);
            alone.setText(0, 240);
            fails("there is no other one", alone, ELEMENT, () -> alone.inTheWay(0));
        });
    }
}
