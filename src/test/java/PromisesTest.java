import java.util.NoSuchElementException;

/** Promise by promise: ordinary inputs, the edges that the document names, and wrong inputs. */
public final class PromisesTest extends Slides {
    private static final int LEAST = Integer.MIN_VALUE;
    private static final int MOST = Integer.MAX_VALUE;
    private static final Class<IllegalArgumentException> ARGUMENT = IllegalArgumentException.class;
    private static final Class<IllegalStateException> STATE = IllegalStateException.class;
    private static final Class<IndexOutOfBoundsException> INDEX = IndexOutOfBoundsException.class;
    private static final Class<UnsupportedOperationException> UNSUPPORTED = UnsupportedOperationException.class;
    private static final Class<NoSuchElementException> ELEMENT = NoSuchElementException.class;

    private static final Check CHECK = new Check();

    public static void main(String[] args) {
        promise1NewObject();
        promise2AddShape();
        promise2AddShapeWrong();
        promise3SetLocked();
        promise4StartOf();
        promise5SizeOf();
        promise6MoveTo();
        promise6MoveToWrong();
        promise7MoveReason();
        promise8SetText();
        promise9Fits();
        promise10Grow();
        promise10GrowWrong();
        promise11GrowReason();
        promise12InTheWay();
        promise13AddWish();
        promise13AddWishWrong();
        promise14DropWish();
        promise15IsMet();
        promise16Strength();
        promise17Snaps();
        promises18And19BestStrength();
        promise20TidyCost();
        promise21TidyStart();
        promise22Tidy();
        promises23And24EvenCost();
        promises23To25NoEvenLayout();
        promise25Spread();
        promise26Guides();
        promise27GuideAt();
        promise28Distance();
        promises29And30Groups();
        promise31GroupOf();
        promise32Moved();
        promise33Covered();
        promise34MeanDistance();
        promise35IsSound();
        CHECK.close("PromisesTest");
    }

    private static void promise1NewObject() {
        SlideLayout x = new SlideLayout();
        CHECK.fails("1: no shape 0", x, INDEX, () -> x.startOf(0, 'x'));
        CHECK.fails("1: no wish 0", x, ELEMENT, () -> x.isMet(0));
        CHECK.due("1: strength", 0, () -> x.strength('x'));
        CHECK.due("1: guides", 0, () -> x.guides('y'));
        CHECK.due("1: moved", 0L, x::moved);
        CHECK.due("1: covered", 0.0f, x::covered);
        CHECK.due("1: first shape", 0, () -> x.addShape(0, 0, 20, 20));
        CHECK.due("1: second shape", 1, () -> x.addShape(20, 0, 20, 20));
        CHECK.due("1: first wish", 0, () -> x.addWish('l', 0, 1, 1));
        SlideLayout other = new SlideLayout();
        CHECK.fails("1: another object has no shape", other, INDEX, () -> other.startOf(0, 'x'));
        CHECK.fails("1: another object has no wish", other, ELEMENT, () -> other.dropWish(0));
    }

    private static void promise2AddShape() {
        SlideLayout x = new SlideLayout();
        CHECK.due("2: least size, lowest corner", 0, () -> x.addShape(0, 0, 2, 1));
        CHECK.due("2: least size, highest corner", 1, () -> x.addShape(198, 119, 2, 1));
        CHECK.due("2: touching along x", 2, () -> x.addShape(2, 0, 198, 1));
        CHECK.due("2: touching along y", 3, () -> x.addShape(0, 1, 198, 119));
        CHECK.due("2: left of 1", 198, () -> x.startOf(1, 'x'));
        CHECK.due("2: top of 1", 119, () -> x.startOf(1, 'y'));
        CHECK.due("2: width of 3", 198, () -> x.sizeOf(3, 'x'));
        CHECK.due("2: height of 3", 119, () -> x.sizeOf(3, 'y'));
        CHECK.due("2: not locked at first", 'n', () -> x.moveReason(1, 198, 119));
        CHECK.due("2: no text at first", true, () -> x.fits(0));
        CHECK.due("2: the whole slide", 0, () -> new SlideLayout().addShape(0, 0, 200, 120));
    }

    private static void promise2AddShapeWrong() {
        SlideLayout x = slide(50, 50, 20, 20);
        CHECK.fails("2: width 1", x, ARGUMENT, () -> x.addShape(0, 0, 1, 10));
        CHECK.fails("2: width 201", x, ARGUMENT, () -> x.addShape(0, 0, 201, 10));
        CHECK.fails("2: height 0", x, ARGUMENT, () -> x.addShape(0, 0, 10, 0));
        CHECK.fails("2: height 121", x, ARGUMENT, () -> x.addShape(0, 0, 10, 121));
        CHECK.fails("2: least width", x, ARGUMENT, () -> x.addShape(0, 0, LEAST, 10));
        CHECK.fails("2: least height", x, ARGUMENT, () -> x.addShape(0, 0, 10, LEAST));
        CHECK.fails("2: left -1", x, ARGUMENT, () -> x.addShape(-1, 0, 10, 10));
        CHECK.fails("2: top -1", x, ARGUMENT, () -> x.addShape(0, -1, 10, 10));
        CHECK.fails("2: end 201 along x", x, ARGUMENT, () -> x.addShape(191, 0, 10, 10));
        CHECK.fails("2: end 121 along y", x, ARGUMENT, () -> x.addShape(0, 111, 10, 10));
        CHECK.fails("2: left so great that its end wraps", x, ARGUMENT, () -> x.addShape(MOST, 0, 10, 10));
        CHECK.fails("2: top so great that its end wraps", x, ARGUMENT, () -> x.addShape(0, MOST, 10, 10));
        CHECK.fails("2: least left", x, ARGUMENT, () -> x.addShape(LEAST, 0, 10, 10));
        CHECK.fails("2: overlap by one unit", x, UNSUPPORTED, () -> x.addShape(41, 41, 10, 10));
        CHECK.fails("2: overlap from above", x, UNSUPPORTED, () -> x.addShape(69, 69, 10, 10));
        CHECK.fails("2: overlap by lying inside", x, UNSUPPORTED, () -> x.addShape(55, 55, 5, 5));
        CHECK.fails("2: overlap by lying around", x, UNSUPPORTED, () -> x.addShape(0, 0, 200, 120));
        CHECK.due("2: only x shared", 1, () -> x.addShape(50, 30, 20, 20));
        CHECK.due("2: only y shared", 2, () -> x.addShape(70, 50, 20, 20));
        CHECK.due("2: after wrong calls the next number", 3, () -> x.addShape(0, 0, 10, 10));
        CHECK.fails("2: fifth shape", x, STATE, () -> x.addShape(100, 100, 10, 10));
        CHECK.fails("2: fifth shape that overlaps", x, STATE, () -> x.addShape(50, 50, 10, 10));
        CHECK.fails("2: fifth shape off the slide", x, ARGUMENT, () -> x.addShape(195, 0, 10, 10));
    }

    private static void promise3SetLocked() {
        SlideLayout x = slide(0, 0, 10, 10, 20, 20, 10, 10);
        CHECK.due("3: lock", false, () -> x.setLocked(0, true));
        CHECK.due("3: lock again", true, () -> x.setLocked(0, true));
        CHECK.due("3: it is locked", 'l', () -> x.moveReason(0, 0, 0));
        CHECK.due("3: the other one is not", 'n', () -> x.moveReason(1, 20, 20));
        CHECK.due("3: unlock", true, () -> x.setLocked(0, false));
        CHECK.due("3: it is unlocked", 'n', () -> x.moveReason(0, 0, 0));
        CHECK.due("3: unlock again", false, () -> x.setLocked(0, false));
        CHECK.fails("3: shape -1", x, INDEX, () -> x.setLocked(-1, true));
        CHECK.fails("3: shape 2", x, INDEX, () -> x.setLocked(2, true));
        CHECK.fails("3: least shape", x, INDEX, () -> x.setLocked(LEAST, true));
        CHECK.fails("3: most shape", x, INDEX, () -> x.setLocked(MOST, true));
    }

    private static void promise4StartOf() {
        SlideLayout x = slide(3, 4, 10, 20, 30, 40, 15, 25);
        CHECK.due("4: left of 0", 3, () -> x.startOf(0, 'x'));
        CHECK.due("4: top of 0", 4, () -> x.startOf(0, 'y'));
        CHECK.due("4: left of 1", 30, () -> x.startOf(1, 'x'));
        CHECK.due("4: top of 1", 40, () -> x.startOf(1, 'y'));
        CHECK.fails("4: shape 2", x, INDEX, () -> x.startOf(2, 'x'));
        CHECK.fails("4: shape -1 and axis z", x, INDEX, () -> x.startOf(-1, 'z'));
        CHECK.fails("4: axis X", x, ARGUMENT, () -> x.startOf(0, 'X'));
        CHECK.fails("4: axis 0", x, ARGUMENT, () -> x.startOf(0, (char) 0));
    }

    private static void promise5SizeOf() {
        SlideLayout x = slide(3, 4, 10, 20, 30, 40, 15, 25);
        CHECK.due("5: width of 0", 10, () -> x.sizeOf(0, 'x'));
        CHECK.due("5: height of 0", 20, () -> x.sizeOf(0, 'y'));
        CHECK.due("5: width of 1", 15, () -> x.sizeOf(1, 'x'));
        CHECK.due("5: height of 1", 25, () -> x.sizeOf(1, 'y'));
        CHECK.fails("5: shape 2", x, INDEX, () -> x.sizeOf(2, 'y'));
        CHECK.fails("5: shape -1 and axis z", x, INDEX, () -> x.sizeOf(-1, 'z'));
        CHECK.fails("5: axis Y", x, ARGUMENT, () -> x.sizeOf(0, 'Y'));
        CHECK.fails("5: greatest sign", x, ARGUMENT, () -> x.sizeOf(0, (char) 65535));
    }

    private static void promise6MoveTo() {
        SlideLayout x = slide(10, 10, 20, 10, 100, 50, 20, 10);
        CHECK.due("6: along both axes", 25, () -> x.moveTo(0, 30, 5));
        CHECK.due("6: left then", 30, () -> x.startOf(0, 'x'));
        CHECK.due("6: top then", 5, () -> x.startOf(0, 'y'));
        CHECK.due("6: size stays", 20, () -> x.sizeOf(0, 'x'));
        CHECK.due("6: to where it stands", 0, () -> x.moveTo(0, 30, 5));
        CHECK.due("6: over a part of itself", 1, () -> x.moveTo(0, 31, 5));
        CHECK.due("6: to the lowest corner", 36, () -> x.moveTo(0, 0, 0));
        CHECK.due("6: to the highest corner", 290, () -> x.moveTo(0, 180, 110));
        CHECK.due("6: touching the other one", 160, () -> x.moveTo(0, 80, 50));
        CHECK.due("6: the other one stays", 100, () -> x.startOf(1, 'x'));
    }

    private static void promise6MoveToWrong() {
        SlideLayout x = slide(10, 10, 20, 10, 100, 50, 20, 10);
        CHECK.fails("6: shape 2", x, INDEX, () -> x.moveTo(2, 0, 0));
        CHECK.fails("6: shape -1 off the slide", x, INDEX, () -> x.moveTo(-1, -1, 0));
        CHECK.fails("6: left -1", x, ARGUMENT, () -> x.moveTo(0, -1, 0));
        CHECK.fails("6: top -1", x, ARGUMENT, () -> x.moveTo(0, 0, -1));
        CHECK.fails("6: end 201 along x", x, ARGUMENT, () -> x.moveTo(0, 181, 0));
        CHECK.fails("6: end 121 along y", x, ARGUMENT, () -> x.moveTo(0, 0, 111));
        CHECK.fails("6: most left", x, ARGUMENT, () -> x.moveTo(0, MOST, 50));
        CHECK.fails("6: most top", x, ARGUMENT, () -> x.moveTo(0, 100, MOST));
        CHECK.fails("6: least left", x, ARGUMENT, () -> x.moveTo(0, LEAST, 50));
        CHECK.fails("6: overlap by one unit", x, UNSUPPORTED, () -> x.moveTo(0, 81, 41));
        x.setLocked(0, true);
        CHECK.fails("6: locked", x, STATE, () -> x.moveTo(0, 0, 0));
        CHECK.fails("6: locked, to where it stands", x, STATE, () -> x.moveTo(0, 10, 10));
        CHECK.fails("6: locked, off the slide", x, STATE, () -> x.moveTo(0, -1, 0));
        CHECK.fails("6: onto a locked one", x, UNSUPPORTED, () -> x.moveTo(1, 10, 10));
    }

    private static void promise7MoveReason() {
        SlideLayout x = slide(10, 10, 20, 10, 100, 50, 20, 10);
        CHECK.due("7: none", 'n', () -> x.moveReason(0, 80, 50));
        CHECK.due("7: none, to where it stands", 'n', () -> x.moveReason(0, 10, 10));
        CHECK.due("7: off the slide along x", 's', () -> x.moveReason(0, 181, 50));
        CHECK.due("7: off the slide along y", 's', () -> x.moveReason(0, 100, 111));
        CHECK.due("7: most left and top", 's', () -> x.moveReason(0, MOST, MOST));
        CHECK.due("7: least left and top", 's', () -> x.moveReason(0, LEAST, LEAST));
        CHECK.due("7: overlap", 'o', () -> x.moveReason(0, 119, 59));
        CHECK.due("7: nothing was moved", 10, () -> x.startOf(0, 'x'));
        x.setLocked(0, true);
        CHECK.due("7: locked before off the slide", 'l', () -> x.moveReason(0, -1, 0));
        CHECK.due("7: locked before overlap", 'l', () -> x.moveReason(0, 100, 50));
        CHECK.due("7: locked and nothing else", 'l', () -> x.moveReason(0, 10, 10));
        CHECK.fails("7: shape 2", x, INDEX, () -> x.moveReason(2, 0, 0));
        CHECK.fails("7: shape -1", x, INDEX, () -> x.moveReason(-1, 0, 0));
    }

    private static void promise8SetText() {
        SlideLayout x = slide(0, 0, 21, 10, 30, 0, 2, 10, 40, 0, 3, 10);
        CHECK.due("8: 10 letters on a line of 10", 5, () -> x.setText(0, 10));
        CHECK.due("8: 11 letters on lines of 10", 10, () -> x.setText(0, 11));
        CHECK.due("8: no letter, no line", 0, () -> x.setText(0, 0));
        CHECK.due("8: one letter", 5, () -> x.setText(0, 1));
        CHECK.due("8: 400 letters on lines of 10", 200, () -> x.setText(0, 400));
        CHECK.due("8: 400 letters on lines of 1", 2000, () -> x.setText(1, 400));
        CHECK.due("8: width 3 takes one letter a line", 15, () -> x.setText(2, 3));
        CHECK.fails("8: -1 letters", x, ARGUMENT, () -> x.setText(0, -1));
        CHECK.fails("8: 401 letters", x, ARGUMENT, () -> x.setText(0, 401));
        CHECK.fails("8: most letters", x, ARGUMENT, () -> x.setText(0, MOST));
        CHECK.fails("8: shape 3", x, INDEX, () -> x.setText(3, 0));
        CHECK.fails("8: shape -1 and 401 letters", x, INDEX, () -> x.setText(-1, 401));
        x.setLocked(0, true);
        CHECK.due("8: of a locked shape", 15, () -> x.setText(0, 30));
        CHECK.due("8: the height stays", 10, () -> x.sizeOf(0, 'y'));
    }

    private static void promise9Fits() {
        SlideLayout x = slide(0, 0, 20, 10, 30, 0, 20, 4);
        CHECK.due("9: no text", true, () -> x.fits(0));
        x.setText(0, 20);
        CHECK.due("9: needed height is the height", true, () -> x.fits(0));
        x.setText(0, 21);
        CHECK.due("9: needed height is greater", false, () -> x.fits(0));
        CHECK.due("9: of the other shape", true, () -> x.fits(1));
        x.setText(1, 1);
        CHECK.due("9: height 4 is too low for a line", false, () -> x.fits(1));
        x.setText(0, 5);
        CHECK.due("9: a shorter text", true, () -> x.fits(0));
        CHECK.fails("9: shape 2", x, INDEX, () -> x.fits(2));
        CHECK.fails("9: shape -1", x, INDEX, () -> x.fits(-1));
    }

    private static void promise10Grow() {
        SlideLayout x = slide(0, 0, 20, 3, 0, 30, 20, 10, 50, 100, 20, 5);
        x.setText(0, 55);
        CHECK.due("10: to touch the next one", 30, () -> x.grow(0));
        CHECK.due("10: height then", 30, () -> x.sizeOf(0, 'y'));
        CHECK.due("10: top stays", 0, () -> x.startOf(0, 'y'));
        CHECK.due("10: width stays", 20, () -> x.sizeOf(0, 'x'));
        CHECK.due("10: the text fits then", true, () -> x.fits(0));
        x.setText(2, 40);
        CHECK.due("10: to the end of the slide", 20, () -> x.grow(2));
        SlideLayout apart = slide(50, 0, 20, 10, 50, 50, 20, 10, 0, 80, 20, 10);
        apart.setText(0, 90);
        CHECK.due("10: it looks below its own left and top", 45, () -> apart.grow(0));
        apart.setText(2, 60);
        CHECK.due("10: nothing is below this one", 30, () -> apart.grow(2));
        CHECK.due("10: it is no move", 0L, x::moved);
    }

    private static void promise10GrowWrong() {
        SlideLayout x = slide(0, 0, 20, 10, 0, 20, 20, 10, 50, 100, 20, 5);
        CHECK.fails("10: no text", x, ELEMENT, () -> x.grow(0));
        CHECK.fails("10: shape 3", x, INDEX, () -> x.grow(3));
        CHECK.fails("10: shape -1", x, INDEX, () -> x.grow(-1));
        x.setText(0, 41);
        CHECK.fails("10: overlap", x, UNSUPPORTED, () -> x.grow(0));
        x.setText(2, 41);
        CHECK.fails("10: beyond the slide", x, UNSUPPORTED, () -> x.grow(2));
        x.setLocked(0, true);
        CHECK.fails("10: locked and overlap", x, STATE, () -> x.grow(0));
        x.setText(0, 40);
        CHECK.fails("10: locked", x, STATE, () -> x.grow(0));
        x.setText(0, 20);
        CHECK.fails("10: locked, but the text fits", x, ELEMENT, () -> x.grow(0));
    }

    private static void promise11GrowReason() {
        SlideLayout x = slide(0, 0, 20, 10, 0, 20, 20, 10, 50, 100, 20, 5, 100, 0, 20, 10);
        CHECK.due("11: fits", 'f', () -> x.growReason(0));
        x.setText(0, 40);
        CHECK.due("11: none", 'n', () -> x.growReason(0));
        CHECK.due("11: it did not grow", 10, () -> x.sizeOf(0, 'y'));
        x.setText(0, 41);
        CHECK.due("11: overlap", 'o', () -> x.growReason(0));
        x.setText(0, 250);
        CHECK.due("11: beyond the slide before overlap", 's', () -> x.growReason(0));
        x.setText(2, 40);
        CHECK.due("11: to the end of the slide", 'n', () -> x.growReason(2));
        x.setText(2, 41);
        CHECK.due("11: beyond the slide", 's', () -> x.growReason(2));
        x.setLocked(2, true);
        CHECK.due("11: locked before beyond the slide", 'l', () -> x.growReason(2));
        x.setText(2, 10);
        CHECK.due("11: fits before locked", 'f', () -> x.growReason(2));
        CHECK.fails("11: shape 4", x, INDEX, () -> x.growReason(4));
        CHECK.fails("11: shape -1", x, INDEX, () -> x.growReason(-1));
    }

    private static void promise12InTheWay() {
        SlideLayout x = slide(0, 50, 10, 5, 10, 30, 10, 5, 0, 0, 20, 5);
        CHECK.fails("12: the text fits", x, ELEMENT, () -> x.inTheWay(2));
        x.setText(2, 60);
        CHECK.fails("12: it would touch one", x, ELEMENT, () -> x.inTheWay(2));
        x.setText(2, 61);
        CHECK.due("12: it would overlap one", 1, () -> x.inTheWay(2));
        x.setText(2, 101);
        CHECK.due("12: the lowest number of two, not the nearest", 0, () -> x.inTheWay(2));
        x.setLocked(2, true);
        CHECK.due("12: locked or not", 0, () -> x.inTheWay(2));
        x.setLocked(0, true);
        CHECK.due("12: the other one locked or not", 0, () -> x.inTheWay(2));
        x.setText(2, 241);
        CHECK.fails("12: beyond the slide", x, ELEMENT, () -> x.inTheWay(2));
        x.setText(2, 240);
        CHECK.due("12: to the end of the slide", 0, () -> x.inTheWay(2));
        CHECK.fails("12: shape 3", x, INDEX, () -> x.inTheWay(3));
        CHECK.fails("12: shape -1", x, INDEX, () -> x.inTheWay(-1));
    }

    private static void promise13AddWish() {
        SlideLayout x = slide(0, 0, 10, 10, 20, 20, 10, 10, 40, 40, 10, 10);
        char[] kinds = {'l', 'c', 'r', 't', 'm', 'b', 'l', 'l'};
        for (int i = 0; i < kinds.length; i++) {
            int wish = i;
            CHECK.due("13: wish " + wish, wish, () -> x.addWish(kinds[wish], 2, 1, 1 + wish));
        }
        CHECK.fails("13: ninth wish", x, STATE, () -> x.addWish('l', 0, 1, 1));
        CHECK.fails("13: ninth wish of no kind", x, ARGUMENT, () -> x.addWish('q', 0, 1, 1));
        x.dropWish(3);
        CHECK.fails("13: a dropped wish was added too", x, STATE, () -> x.addWish('l', 0, 1, 1));
        SlideLayout same = slide(0, 0, 10, 10, 20, 20, 10, 10);
        same.addWish('t', 0, 1, 9);
        CHECK.due("13: the same wish again", 1, () -> same.addWish('t', 0, 1, 9));
    }

    private static void promise13AddWishWrong() {
        SlideLayout x = slide(0, 0, 10, 10, 20, 20, 10, 10);
        CHECK.fails("13: shape 2", x, INDEX, () -> x.addWish('l', 2, 0, 1));
        CHECK.fails("13: other 2", x, INDEX, () -> x.addWish('l', 0, 2, 1));
        CHECK.fails("13: shape -1 and no kind", x, INDEX, () -> x.addWish('q', -1, 0, 1));
        CHECK.fails("13: other -1 and strength 0", x, INDEX, () -> x.addWish('l', 0, -1, 0));
        CHECK.fails("13: both are no shape", x, INDEX, () -> x.addWish('l', 5, 5, 1));
        CHECK.fails("13: kind x", x, ARGUMENT, () -> x.addWish('x', 0, 1, 1));
        CHECK.fails("13: kind L", x, ARGUMENT, () -> x.addWish('L', 0, 1, 1));
        CHECK.fails("13: kind 0", x, ARGUMENT, () -> x.addWish((char) 0, 0, 1, 1));
        CHECK.fails("13: same shape", x, ARGUMENT, () -> x.addWish('l', 1, 1, 1));
        CHECK.fails("13: strength 0", x, ARGUMENT, () -> x.addWish('l', 0, 1, 0));
        CHECK.fails("13: strength 10", x, ARGUMENT, () -> x.addWish('l', 0, 1, 10));
        CHECK.due("13: strength 9 after wrong calls", 0, () -> x.addWish('b', 1, 0, 9));
    }

    private static void promise14DropWish() {
        SlideLayout x = slide(0, 0, 10, 10, 0, 20, 10, 10);
        x.addWish('l', 0, 1, 3);
        x.addWish('c', 0, 1, 2);
        x.addWish('r', 0, 1, 1);
        CHECK.due("14: two are left", 2, () -> x.dropWish(1));
        CHECK.due("14: it counts no more", 4, () -> x.strength('x'));
        CHECK.fails("14: it is dropped", x, ELEMENT, () -> x.dropWish(1));
        CHECK.fails("14: wish 3", x, ELEMENT, () -> x.dropWish(3));
        CHECK.fails("14: wish -1", x, ELEMENT, () -> x.dropWish(-1));
        CHECK.fails("14: most wish", x, ELEMENT, () -> x.dropWish(MOST));
        CHECK.due("14: one is left", 1, () -> x.dropWish(0));
        CHECK.due("14: the next number is not a dropped one", 3, () -> x.addWish('l', 0, 1, 3));
        CHECK.due("14: one is left again", 1, () -> x.dropWish(2));
        CHECK.due("14: none is left", 0, () -> x.dropWish(3));
    }

    private static void promise15IsMet() {
        SlideLayout x = slide(10, 0, 20, 10, 10, 20, 11, 10, 15, 40, 10, 10, 20, 60, 10, 10);
        x.addWish('l', 0, 1, 1);
        x.addWish('c', 2, 0, 1);
        x.addWish('r', 0, 3, 1);
        x.addWish('c', 0, 1, 1);
        CHECK.due("15: same left", true, () -> x.isMet(0));
        CHECK.due("15: same middle", true, () -> x.isMet(1));
        CHECK.due("15: same right", true, () -> x.isMet(2));
        CHECK.due("15: middles 40 and 31", false, () -> x.isMet(3));
        x.moveTo(0, 11, 0);
        CHECK.due("15: other left", false, () -> x.isMet(0));
        CHECK.due("15: other middle", false, () -> x.isMet(1));
        CHECK.due("15: other right", false, () -> x.isMet(2));
        SlideLayout y = slide(0, 10, 10, 20, 20, 10, 10, 11, 40, 15, 10, 10, 60, 20, 10, 10);
        y.addWish('t', 0, 1, 1);
        y.addWish('m', 0, 2, 1);
        y.addWish('b', 3, 0, 1);
        CHECK.due("15: same top", true, () -> y.isMet(0));
        CHECK.due("15: same middle along y", true, () -> y.isMet(1));
        CHECK.due("15: same bottom", true, () -> y.isMet(2));
        y.moveTo(0, 0, 11);
        CHECK.due("15: other top", false, () -> y.isMet(0));
        CHECK.due("15: other middle along y", false, () -> y.isMet(1));
        CHECK.due("15: other bottom", false, () -> y.isMet(2));
        y.dropWish(1);
        CHECK.fails("15: dropped", y, ELEMENT, () -> y.isMet(1));
        CHECK.fails("15: wish 3", y, ELEMENT, () -> y.isMet(3));
        CHECK.fails("15: wish -1", y, ELEMENT, () -> y.isMet(-1));
        CHECK.fails("15: wish 8", y, ELEMENT, () -> y.isMet(8));
    }

    private static void promise16Strength() {
        SlideLayout x = slide(10, 0, 20, 10, 10, 20, 20, 10, 50, 0, 20, 20);
        x.addWish('l', 0, 1, 3);
        x.addWish('r', 1, 0, 4);
        x.addWish('c', 0, 2, 9);
        x.addWish('t', 0, 2, 5);
        x.addWish('b', 0, 2, 7);
        CHECK.due("16: along x", 7, () -> x.strength('x'));
        CHECK.due("16: along y", 5, () -> x.strength('y'));
        x.moveTo(1, 11, 20);
        CHECK.due("16: none met along x", 0, () -> x.strength('x'));
        x.dropWish(3);
        CHECK.due("16: dropped along y", 0, () -> x.strength('y'));
        CHECK.fails("16: axis z", x, ARGUMENT, () -> x.strength('z'));
    }

    private static void promise17Snaps() {
        SlideLayout x = slide(10, 0, 20, 10, 100, 20, 31, 10);
        CHECK.due("17: its start, and the other one's start and end", 3, () -> x.snaps(0, 'x'));
        CHECK.due("17: the same for the other one", 3, () -> x.snaps(1, 'x'));
        CHECK.due("17: same sizes, so one of three", 2, () -> x.snaps(0, 'y'));
        x.moveTo(1, 10, 20);
        CHECK.due("17: same start", 2, () -> x.snaps(0, 'x'));
        x.setLocked(0, true);
        CHECK.due("17: locked or not", 2, () -> x.snaps(0, 'x'));
        SlideLayout off = slide(0, 0, 10, 10, 50, 50, 40, 10);
        CHECK.due("17: also -15 and -30", 4, () -> off.snaps(1, 'x'));
        SlideLayout odd = slide(0, 0, 10, 10, 50, 50, 45, 10);
        CHECK.due("17: no middle below 0 that is not whole", 3, () -> odd.snaps(1, 'x'));
        CHECK.due("17: one shape", 1, () -> slide(7, 7, 10, 10).snaps(0, 'x'));
        SlideLayout ten = slide(0, 0, 10, 5, 50, 20, 24, 5, 101, 40, 38, 5, 150, 60, 48, 5);
        CHECK.due("17: ten", 10, () -> ten.snaps(0, 'x'));
        CHECK.fails("17: shape 2", x, INDEX, () -> x.snaps(2, 'z'));
        CHECK.fails("17: axis z", x, ARGUMENT, () -> x.snaps(0, 'z'));
    }

    private static void promises18And19BestStrength() {
        SlideLayout none = new SlideLayout();
        best(none, 'x', 0, "no shape");
        SlideLayout x = slide(0, 0, 20, 10, 50, 20, 30, 10, 120, 40, 40, 10);
        best(x, 'x', 0, "no wish");
        x.addWish('l', 0, 1, 3);
        x.addWish('r', 0, 1, 4);
        best(x, 'x', 4, "the stronger of two that cannot both be met");
        x.addWish('l', 1, 2, 5);
        best(x, 'x', 9, "two that can both be met");
        best(x, 'y', 0, "of the other axis");
        x.setLocked(1, true);
        best(x, 'x', 9, "with the others moved");
        x.setLocked(2, true);
        best(x, 'x', 4, "with two locked");
        x.setLocked(0, true);
        best(x, 'x', 0, "with all locked");
        SlideLayout side = slide(0, 0, 20, 10, 50, 5, 30, 10);
        side.addWish('c', 0, 1, 9);
        best(side, 'x', 0, "they would overlap");
        side.moveTo(1, 50, 10);
        best(side, 'x', 9, "they would touch");
        side.dropWish(0);
        best(side, 'x', 0, "dropped");
        SlideLayout off = slide(0, 0, 10, 10, 50, 50, 40, 10);
        off.addWish('r', 0, 1, 2);
        best(off, 'x', 2, "one way leads off the slide, the other does not");
        off.setLocked(0, true);
        best(off, 'x', 0, "it would lie off the slide");
        SlideLayout turned = slide(0, 0, 10, 20, 5, 50, 10, 30);
        turned.addWish('m', 0, 1, 9);
        best(turned, 'y', 0, "they would overlap along y");
        turned.moveTo(1, 10, 50);
        best(turned, 'y', 9, "they would touch along y");
        SlideLayout touch = slide(0, 0, 20, 10, 50, 5, 30, 10, 20, 40, 30, 10);
        touch.addWish('l', 1, 2, 4);
        touch.setLocked(0, true);
        touch.setLocked(2, true);
        best(touch, 'x', 4, "it touches 0 behind its end");
        SlideLayout before = slide(60, 0, 20, 10, 0, 5, 30, 10, 30, 40, 30, 10);
        before.addWish('l', 1, 2, 4);
        before.setLocked(0, true);
        before.setLocked(2, true);
        best(before, 'x', 4, "it touches 0 before its start");
        before.setLocked(2, false);
        before.moveTo(2, 31, 40);
        before.setLocked(2, true);
        best(before, 'x', 0, "one unit would be shared");
        before.setLocked(0, false);
        best(before, 'x', 4, "0 goes out of the way");
        CHECK.fails("18: axis z", x, ARGUMENT, () -> x.bestStrength('z'));
        CHECK.fails("19: axis z", x, ARGUMENT, () -> x.bestByAll('z'));
    }

    private static void best(SlideLayout x, char axis, int want, String what) {
        CHECK.due("18: " + what, want, () -> x.bestStrength(axis));
        CHECK.due("19: " + what, want, () -> x.bestByAll(axis));
    }

    private static void promise20TidyCost() {
        SlideLayout x = slide(0, 0, 20, 10, 50, 20, 30, 10, 120, 40, 40, 10);
        CHECK.due("20: no wish", 0, () -> x.tidyCost('x'));
        x.addWish('l', 0, 1, 3);
        CHECK.due("20: one wish", 50, () -> x.tidyCost('x'));
        x.addWish('c', 0, 1, 4);
        CHECK.due("20: the stronger wish costs more", 55, () -> x.tidyCost('x'));
        x.addWish('l', 1, 2, 5);
        CHECK.due("20: two wishes", 125, () -> x.tidyCost('x'));
        x.setLocked(1, true);
        CHECK.due("20: with one locked", 125, () -> x.tidyCost('x'));
        CHECK.due("20: it only asks", 0, () -> x.startOf(0, 'x'));
        CHECK.due("20: of no shape", 0, () -> new SlideLayout().tidyCost('y'));
        CHECK.fails("20: axis z", x, ARGUMENT, () -> x.tidyCost('z'));
    }

    private static void promise21TidyStart() {
        SlideLayout x = slide(30, 0, 20, 10, 50, 20, 20, 10, 120, 40, 40, 10);
        x.addWish('l', 0, 1, 3);
        CHECK.due("21: of equal costs the lower start of 0", 30, () -> x.tidyStart(0, 'x'));
        CHECK.due("21: so 1 moves", 30, () -> x.tidyStart(1, 'x'));
        CHECK.due("21: 2 stays", 120, () -> x.tidyStart(2, 'x'));
        CHECK.due("21: no wish along y", 20, () -> x.tidyStart(1, 'y'));
        CHECK.due("21: it only asks", 50, () -> x.startOf(1, 'x'));
        x.setLocked(1, true);
        CHECK.due("21: 1 is locked, so 0 moves", 50, () -> x.tidyStart(0, 'x'));
        SlideLayout down = slide(60, 0, 20, 10, 40, 20, 20, 10);
        down.addWish('l', 0, 1, 1);
        CHECK.due("21: 0 moves to the lower start", 40, () -> down.tidyStart(0, 'x'));
        CHECK.due("21: and 1 stays", 40, () -> down.tidyStart(1, 'x'));
        CHECK.fails("21: shape 3", x, INDEX, () -> x.tidyStart(3, 'z'));
        CHECK.fails("21: shape -1", x, INDEX, () -> x.tidyStart(-1, 'x'));
        CHECK.fails("21: axis z", x, ARGUMENT, () -> x.tidyStart(0, 'z'));
    }

    private static void promise22Tidy() {
        SlideLayout x = slide(30, 0, 20, 10, 50, 20, 30, 10, 120, 47, 40, 10);
        x.addWish('l', 0, 1, 3);
        x.addWish('b', 2, 1, 2);
        CHECK.due("22: along x", 20, () -> x.tidy('x'));
        CHECK.due("22: left of 0", 30, () -> x.startOf(0, 'x'));
        CHECK.due("22: left of 1", 30, () -> x.startOf(1, 'x'));
        CHECK.due("22: left of 2", 120, () -> x.startOf(2, 'x'));
        CHECK.due("22: top of 1 stays", 20, () -> x.startOf(1, 'y'));
        CHECK.due("22: again", 0, () -> x.tidy('x'));
        CHECK.due("22: along y", 27, () -> x.tidy('y'));
        CHECK.due("22: top of 2", 20, () -> x.startOf(2, 'y'));
        CHECK.due("22: all is counted", 47L, x::moved);
        CHECK.due("22: strength then", 3, () -> x.strength('x'));
        SlideLayout first = slide(60, 0, 20, 10, 40, 20, 20, 10);
        first.addWish('l', 0, 1, 1);
        first.setLocked(1, true);
        CHECK.due("22: the first shape moves", 20, () -> first.tidy('x'));
        CHECK.due("22: left of 0 then", 40, () -> first.startOf(0, 'x'));
        CHECK.due("22: left of the locked one", 40, () -> first.startOf(1, 'x'));
        CHECK.due("22: of no shape", 0, () -> new SlideLayout().tidy('x'));
        CHECK.fails("22: axis z", x, ARGUMENT, () -> x.tidy('z'));
    }

    private static void promises23And24EvenCost() {
        SlideLayout x = slide(0, 0, 20, 10, 30, 20, 20, 10, 100, 40, 20, 10);
        even(x, 'x', 20, "the middle one moves");
        even(x, 'y', 0, "even already");
        x.setLocked(1, true);
        even(x, 'x', 40, "the middle one is locked");
        x.setLocked(0, true);
        even(x, 'x', 40, "the first one too");
        CHECK.due("23: it only asks", 100, () -> x.startOf(2, 'x'));
        SlideLayout two = slide(0, 0, 50, 10, 0, 10, 60, 10);
        even(two, 'x', 50, "two with the same start");
        SlideLayout full = slide(0, 0, 100, 10, 0, 10, 100, 10);
        even(full, 'x', 100, "they take the whole slide");
        SlideLayout four = slide(0, 0, 10, 10, 5, 10, 10, 10, 12, 20, 10, 10, 190, 30, 10, 10);
        even(four, 'x', 173, "four");
        SlideLayout ends = slide(0, 0, 20, 10, 30, 20, 20, 10, 180, 40, 20, 10);
        even(ends, 'x', 60, "from the one end of the slide to the other");
        SlideLayout high = slide(190, 0, 10, 10, 190, 20, 10, 10, 190, 40, 10, 10);
        even(high, 'x', 30, "the best start would lead off the slide");
        SlideLayout near = slide(50, 0, 20, 10, 60, 20, 20, 10, 80, 40, 20, 10);
        even(near, 'x', 10, "the first one makes room");
        near.setLocked(0, true);
        even(near, 'x', 20, "the first one is locked");
        near.setLocked(0, false);
        near.setLocked(2, true);
        even(near, 'x', 10, "the last one is locked");
        SlideLayout low = slide(0, 0, 10, 10, 0, 20, 10, 10, 0, 40, 10, 10);
        even(low, 'x', 30, "the best start would lie before the slide");
        SlideLayout inside = slide(50, 0, 20, 10, 80, 20, 20, 10, 120, 40, 20, 10);
        even(inside, 'x', 5, "far from both ends");
        inside.setLocked(1, true);
        even(inside, 'x', 10, "far from both ends, one locked");
        inside.setLocked(1, false);
        inside.setLocked(0, true);
        inside.setLocked(2, true);
        even(inside, 'x', 5, "the first and the last one locked");
        inside.setLocked(1, true);
        notEven(inside, 'x', "all locked");
        CHECK.due("24: each search begins anew", true, () -> inside.setLocked(1, false));
        CHECK.due("24: each search begins anew, cost", 5, () -> inside.evenByAll('x'));
        inside.moveTo(1, 85, 20);
        CHECK.due("24: each search begins anew, then", 0, () -> inside.evenByAll('x'));
        inside.moveTo(1, 82, 20);
        CHECK.due("24: each search begins anew, at last", 3, () -> inside.evenByAll('x'));
        CHECK.due("23: each search begins anew", 3, () -> inside.evenCost('x'));
    }

    private static void even(SlideLayout x, char axis, int want, String what) {
        CHECK.due("23: " + what, want, () -> x.evenCost(axis));
        CHECK.due("24: " + what, want, () -> x.evenByAll(axis));
    }

    private static void promises23To25NoEvenLayout() {
        notEven(new SlideLayout(), 'x', "no shape");
        notEven(slide(0, 0, 10, 10), 'y', "one shape");
        notEven(slide(0, 0, 101, 10, 0, 10, 100, 10), 'x', "too wide together");
        SlideLayout locked = slide(0, 0, 20, 10, 10, 20, 20, 10);
        locked.setLocked(0, true);
        locked.setLocked(1, true);
        notEven(locked, 'x', "two locked ones with no gap of 0 or more");
        SlideLayout last = slide(0, 0, 150, 10, 100, 20, 50, 10, 120, 40, 10, 10);
        notEven(last, 'x', "three that are too wide together");
        SlideLayout room = slide(0, 0, 20, 10, 10, 20, 20, 10);
        room.setLocked(1, true);
        notEven(room, 'x', "no room before the locked one");
        SlideLayout uneven = slide(0, 0, 20, 10, 40, 20, 20, 10, 61, 40, 20, 10);
        uneven.setLocked(0, true);
        uneven.setLocked(1, true);
        uneven.setLocked(2, true);
        notEven(uneven, 'x', "three locked ones with two gaps");
        for (char axis : new char[] {'z', 0, 'X'}) {
            CHECK.fails("23: no such axis", room, ARGUMENT, () -> room.evenCost(axis));
            CHECK.fails("24: no such axis", room, ARGUMENT, () -> room.evenByAll(axis));
            CHECK.fails("25: no such axis", room, ARGUMENT, () -> room.spread(axis));
        }
        SlideLayout none = new SlideLayout();
        CHECK.fails("23: the axis comes first", none, ARGUMENT, () -> none.evenCost('z'));
        CHECK.fails("24: the axis comes first", none, ARGUMENT, () -> none.evenByAll('z'));
        CHECK.fails("25: the axis comes first", none, ARGUMENT, () -> none.spread('z'));
    }

    private static void notEven(SlideLayout x, char axis, String what) {
        CHECK.fails("23: " + what, x, ELEMENT, () -> x.evenCost(axis));
        CHECK.fails("24: " + what, x, ELEMENT, () -> x.evenByAll(axis));
        CHECK.fails("25: " + what, x, ELEMENT, () -> x.spread(axis));
    }

    private static void promise25Spread() {
        SlideLayout x = slide(100, 0, 20, 10, 0, 20, 20, 10, 30, 40, 20, 10);
        CHECK.due("25: gap", 30, () -> x.spread('x'));
        CHECK.due("25: the first one stays", 0, () -> x.startOf(1, 'x'));
        CHECK.due("25: the middle one moves", 50, () -> x.startOf(2, 'x'));
        CHECK.due("25: the last one stays", 100, () -> x.startOf(0, 'x'));
        CHECK.due("25: it is counted", 20L, x::moved);
        CHECK.due("25: the tops stay", 20, () -> x.startOf(1, 'y'));
        CHECK.due("25: again", 30, () -> x.spread('x'));
        CHECK.due("25: nothing more was moved", 20L, x::moved);
        SlideLayout same = slide(10, 0, 20, 10, 10, 20, 30, 10);
        CHECK.due("25: same start, lowest gap", 0, () -> same.spread('x'));
        CHECK.due("25: the lower number comes first, at its lowest start", 0, () -> same.startOf(0, 'x'));
        CHECK.due("25: then the other one", 20, () -> same.startOf(1, 'x'));
        SlideLayout ties = slide(0, 0, 10, 10, 5, 10, 10, 10, 12, 20, 10, 10, 190, 30, 10, 10);
        CHECK.due("25: of equal costs for all gaps to 53 the lowest one", 0, () -> ties.spread('x'));
        CHECK.due("25: left of 3 then", 30, () -> ties.startOf(3, 'x'));
        SlideLayout inside = slide(50, 0, 20, 10, 80, 20, 20, 10, 120, 40, 20, 10);
        CHECK.due("25: far from both ends", 15, () -> inside.spread('x'));
        CHECK.due("25: the first one stays there", 50, () -> inside.startOf(0, 'x'));
        CHECK.due("25: the middle one is moved there", 85, () -> inside.startOf(1, 'x'));
        CHECK.due("25: the last one stays there", 120, () -> inside.startOf(2, 'x'));
        SlideLayout locked = slide(50, 0, 20, 10, 80, 20, 20, 10, 120, 40, 20, 10);
        locked.setLocked(1, true);
        CHECK.due("25: of gaps 10 to 20 with equal costs the lowest one", 10, () -> locked.spread('x'));
        CHECK.due("25: the locked one stays", 80, () -> locked.startOf(1, 'x'));
        CHECK.due("25: the first one stays too", 50, () -> locked.startOf(0, 'x'));
        CHECK.due("25: the last one comes nearer", 110, () -> locked.startOf(2, 'x'));
        SlideLayout down = slide(0, 10, 10, 10, 20, 40, 10, 10, 40, 100, 10, 10);
        CHECK.due("25: along y", 35, () -> down.spread('y'));
        CHECK.due("25: the top of 1", 55, () -> down.startOf(1, 'y'));
        CHECK.due("25: its left stays", 20, () -> down.startOf(1, 'x'));
    }

    private static void promise26Guides() {
        SlideLayout x = slide(10, 0, 20, 10, 10, 20, 20, 10, 30, 40, 10, 9);
        CHECK.due("26: left, middle and right of two, the right also of the third", 3, () -> x.guides('x'));
        CHECK.due("26: none along y", 0, () -> x.guides('y'));
        SlideLayout two = slide(0, 0, 10, 10, 5, 10, 10, 10);
        CHECK.due("26: start with middle, middle with end", 2, () -> two.guides('x'));
        CHECK.due("26: end with start", 1, () -> two.guides('y'));
        CHECK.due("26: one shape has none", 0, () -> slide(0, 0, 10, 10).guides('x'));
        SlideLayout four = slide(0, 0, 10, 10, 0, 10, 10, 10, 0, 20, 10, 10, 0, 30, 10, 10);
        CHECK.due("26: each number once", 3, () -> four.guides('x'));
        SlideLayout six = slide(0, 0, 10, 10, 0, 10, 10, 10, 20, 20, 10, 10, 20, 30, 10, 10);
        CHECK.due("26: six", 6, () -> six.guides('x'));
        CHECK.fails("26: axis z", x, ARGUMENT, () -> x.guides('z'));
    }

    private static void promise27GuideAt() {
        SlideLayout x = slide(120, 0, 10, 10, 120, 10, 10, 10, 20, 20, 10, 10, 20, 30, 10, 10);
        int[] guides = {40, 50, 60, 240, 250, 260};
        for (int i = 0; i < guides.length; i++) {
            int index = i;
            CHECK.due("27: guide " + index, guides[index], () -> x.guideAt('x', index));
        }
        CHECK.due("27: along y", 40, () -> x.guideAt('y', 1));
        CHECK.fails("27: guide 6", x, ELEMENT, () -> x.guideAt('x', 6));
        CHECK.fails("27: guide -1", x, ELEMENT, () -> x.guideAt('x', -1));
        CHECK.fails("27: most guide", x, ELEMENT, () -> x.guideAt('x', MOST));
        CHECK.fails("27: guide 3 along y", x, ELEMENT, () -> x.guideAt('y', 3));
        CHECK.fails("27: axis z and guide -1", x, ARGUMENT, () -> x.guideAt('z', -1));
    }

    private static void promise28Distance() {
        SlideLayout x = slide(0, 0, 20, 10, 50, 15, 20, 10, 25, 70, 20, 10, 20, 10, 5, 5);
        CHECK.due("28: the gap along x is greater", 30, () -> x.distance(0, 1));
        CHECK.due("28: the other way round", 30, () -> x.distance(1, 0));
        CHECK.due("28: the gap along y is greater", 60, () -> x.distance(0, 2));
        CHECK.due("28: the other way round along y", 60, () -> x.distance(2, 0));
        CHECK.due("28: they touch at a corner", 0, () -> x.distance(0, 3));
        CHECK.fails("28: shape 4", x, INDEX, () -> x.distance(4, 0));
        CHECK.fails("28: other 4", x, INDEX, () -> x.distance(0, 4));
        CHECK.fails("28: other -1", x, INDEX, () -> x.distance(0, -1));
        CHECK.fails("28: both 4", x, INDEX, () -> x.distance(4, 4));
        CHECK.fails("28: the same", x, ARGUMENT, () -> x.distance(2, 2));
    }

    private static void promises29And30Groups() {
        SlideLayout x = slide(0, 0, 10, 10, 70, 0, 10, 10, 30, 0, 10, 10, 170, 100, 10, 10);
        inGroups(x, 0, 4, "none is linked");
        inGroups(x, 19, 4, "just not linked");
        inGroups(x, 20, 3, "0 and 2 are linked");
        inGroups(x, 30, 2, "0 and 1 over 2");
        inGroups(x, 89, 2, "the last one is far");
        inGroups(x, 90, 1, "all");
        inGroups(x, 200, 1, "the greatest distance");
        SlideLayout y = slide(0, 0, 10, 10, 0, 70, 10, 10, 5, 30, 10, 10, 8, 110, 10, 10);
        inGroups(y, 19, 4, "just not linked along y");
        inGroups(y, 20, 3, "0 and 2 are linked along y");
        inGroups(y, 29, 3, "1 and 3 are not");
        inGroups(y, 30, 1, "all along y");
        inGroups(new SlideLayout(), 10, 0, "no shape");
        inGroups(slide(0, 0, 10, 10, 10, 10, 10, 10), 0, 1, "they touch");
        for (int distance : new int[] {-1, 201, LEAST, MOST}) {
            CHECK.fails("29: distance " + distance, x, ARGUMENT, () -> x.groups(distance));
            CHECK.fails("30: distance " + distance, x, ARGUMENT, () -> x.groupsByLinks(distance));
        }
    }

    private static void inGroups(SlideLayout x, int distance, int want, String what) {
        CHECK.due("29: " + what, want, () -> x.groups(distance));
        CHECK.due("30: " + what, want, () -> x.groupsByLinks(distance));
    }

    private static void promise31GroupOf() {
        SlideLayout x = slide(170, 100, 10, 10, 0, 0, 10, 10, 70, 0, 10, 10, 30, 0, 10, 10);
        CHECK.due("31: alone", 3, () -> x.groupOf(3, 19));
        CHECK.due("31: with 1", 1, () -> x.groupOf(3, 20));
        CHECK.due("31: 2 is alone", 2, () -> x.groupOf(2, 20));
        CHECK.due("31: with 1 over 3", 1, () -> x.groupOf(2, 30));
        CHECK.due("31: the lowest one itself", 1, () -> x.groupOf(1, 30));
        CHECK.due("31: 0 is far", 0, () -> x.groupOf(0, 30));
        CHECK.due("31: all", 0, () -> x.groupOf(2, 200));
        SlideLayout y = slide(0, 0, 10, 10, 0, 70, 10, 10, 5, 40, 10, 10, 8, 110, 10, 10);
        CHECK.due("31: along y with 1 alone", 1, () -> y.groupOf(2, 20));
        CHECK.due("31: along y 3 is alone", 3, () -> y.groupOf(3, 20));
        CHECK.due("31: along y all", 0, () -> y.groupOf(3, 30));
        CHECK.fails("31: shape 4", x, INDEX, () -> x.groupOf(4, -1));
        CHECK.fails("31: shape -1", x, INDEX, () -> x.groupOf(-1, 0));
        CHECK.fails("31: distance -1", x, ARGUMENT, () -> x.groupOf(0, -1));
        CHECK.fails("31: distance 201", x, ARGUMENT, () -> x.groupOf(0, 201));
    }

    private static void promise32Moved() {
        SlideLayout x = slide(0, 0, 20, 10, 50, 20, 20, 10);
        CHECK.due("32: nothing", 0L, x::moved);
        x.moveTo(0, 10, 5);
        CHECK.due("32: by moveTo", 15L, x::moved);
        x.addWish('l', 0, 1, 1);
        x.tidyCost('x');
        CHECK.due("32: not by asking", 15L, x::moved);
        x.tidy('x');
        CHECK.due("32: by tidy", 55L, x::moved);
        x.evenCost('x');
        CHECK.due("32: not by asking again", 55L, x::moved);
        x.spread('x');
        CHECK.due("32: by spread", 75L, x::moved);
        CHECK.due("32: left of 0 after spread", 0, () -> x.startOf(0, 'x'));
        CHECK.fails("32: not by a wrong call", x, UNSUPPORTED, () -> x.moveTo(0, 20, 20));
        x.setText(0, 50);
        x.grow(0);
        CHECK.due("32: not by grow", 75L, x::moved);
        x.moveTo(0, 0, 0);
        CHECK.due("32: by moveTo again", 80L, x::moved);
    }

    private static void promise33Covered() {
        CHECK.due("33: none", 0.0f, () -> new SlideLayout().covered());
        CHECK.due("33: all", 1.0f, () -> slide(0, 0, 200, 120).covered());
        CHECK.due("33: a third of it", 8000.0f / 24000.0f, () -> slide(0, 0, 80, 100).covered());
        SlideLayout x = slide(0, 0, 7, 11, 20, 0, 13, 17);
        CHECK.due("33: 298 of 24000", 298.0f / 24000.0f, x::covered);
        x.setText(0, 7);
        x.grow(0);
        CHECK.due("33: it has grown to 15", 326.0f / 24000.0f, x::covered);
    }

    private static void promise34MeanDistance() {
        SlideLayout none = new SlideLayout();
        CHECK.fails("34: no shape", none, ArithmeticException.class, none::meanDistance);
        SlideLayout one = slide(0, 0, 10, 10);
        CHECK.fails("34: one shape", one, ArithmeticException.class, one::meanDistance);
        CHECK.due("34: two", 30.0, () -> slide(0, 0, 20, 10, 50, 15, 20, 10).meanDistance());
        SlideLayout three = slide(0, 0, 10, 10, 11, 0, 10, 10, 30, 0, 10, 10);
        CHECK.due("34: 1, 20 and 9", 10.0, three::meanDistance);
        three.moveTo(2, 31, 0);
        CHECK.due("34: 1, 21 and 10", 32.0 / 3.0, three::meanDistance);
        three.addShape(0, 100, 10, 10);
        CHECK.due("34: six pairs", 302.0 / 6.0, three::meanDistance);
    }

    private static void promise35IsSound() {
        CHECK.due("35: no shape", true, () -> new SlideLayout().isSound());
        CHECK.due("35: one shape", true, () -> slide(0, 0, 200, 120).isSound());
        SlideLayout x = slide(0, 0, 20, 10, 50, 5, 30, 10, 120, 40, 41, 10, 10, 100, 33, 17);
        CHECK.due("35: four shapes", true, x::isSound);
        x.addWish('l', 0, 1, 3);
        x.addWish('r', 1, 2, 4);
        x.addWish('c', 3, 2, 4);
        x.addWish('m', 3, 2, 4);
        CHECK.due("35: with wishes", true, x::isSound);
        x.setLocked(2, true);
        CHECK.due("35: with a lock", true, x::isSound);
        CHECK.due("35: it only asks", 0L, x::moved);
        CHECK.due("35: no even layout", true, () -> slide(0, 0, 101, 10, 0, 10, 100, 10).isSound());
    }
}
