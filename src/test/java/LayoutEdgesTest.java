/** The boundary cases of promises 13 to 25, sentence by sentence. */
public final class LayoutEdgesTest extends Edges {
    private static final String NO_SHAPE = "Throws `IndexOutOfBoundsException` if there is no such shape";
    private static final String NO_AXIS = "Throws `IllegalArgumentException` if it is no such axis";
    private static final String NO_WISH = "Throws `NoSuchElementException` if there is no such wish, or it is dropped";
    private static final String NOT_EVEN =
            "Throws `NoSuchElementException` if there is no even layout, or there are fewer than 2 shapes";

    public static void main(String[] args) {
        addWish();
        addWishRefused();
        dropWish();
        isMet();
        strength();
        snaps();
        bestStrength();
        bestByAll();
        tidyCost();
        tidyStart();
        tidy();
        evenCost();
        evenByAll();
        spread();
        allQuoted(13, 25);
        close("LayoutEdgesTest");
    }

    private static void addWish() {
        promise(13);
        sentence("- `kind`: the kind", () -> {
            SlideLayout x = stairs();
            for (int kind = 0; kind < 6; kind++) {
                int number = kind;
                due("kind " + "lcrtmb".charAt(kind), kind, () -> x.addWish("lcrtmb".charAt(number), 0, 1, 1));
            }
        });
        sentence("- `strength`: the strength, 1 to 9", () -> {
            SlideLayout x = slide(0, 0, 20, 10, 0, 20, 30, 10);
            due("1", 0, () -> x.addWish('l', 0, 1, 1));
            due("it counts 1", 1, () -> x.strength('x'));
            due("9", 1, () -> x.addWish('l', 1, 0, 9));
            due("it counts 9", 10, () -> x.bestStrength('x'));
            for (int strength : new int[] {LEAST, -9, -1, 0, 10, MOST}) {
                fails("strength " + strength, x, ARGUMENT, () -> x.addWish('l', 0, 1, strength));
            }
        });
        sentence("Returns the number of the wish.", () -> {
            SlideLayout x = stairs();
            fails("a refused one before the first", x, ARGUMENT, () -> x.addWish('l', 0, 0, 1));
            due("the first one", 0, () -> x.addWish('l', 0, 1, 1));
            fails("a refused one before the second", x, INDEX, () -> x.addWish('l', 0, 3, 1));
            due("the second one", 1, () -> x.addWish('l', 0, 1, 1));
            x.dropWish(1);
            due("the third one, after the second was dropped", 2, () -> x.addWish('l', 0, 1, 1));
        });
    }

    private static void addWishRefused() {
        promise(13);
        sentence("Throws `IndexOutOfBoundsException` if there is no such shape, for either", () -> {
            SlideLayout x = stairs();
            failsForNoShape(x, shape -> x.addWish('l', shape, 1, 1));
            failsForNoShape(x, shape -> x.addWish('l', 1, shape, 1));
            failsForNoShape(x, shape -> x.addWish('l', shape, shape, 1));
            failsForNoShape(x, shape -> x.addWish('q', 0, shape, 0));
            due("the lowest and the highest one", 0, () -> x.addWish('l', 0, 2, 1));
            due("the highest and the lowest one", 1, () -> x.addWish('l', 2, 0, 1));
        });
        sentence("Throws `IllegalArgumentException` if there is no such kind, both shapes are the same, or the "
                + "strength is out of range", () -> {
            SlideLayout x = stairs();
            for (char kind : new char[] {'x', 'y', 'L', 'B', 'k', 'n', 's', 'u', 'a', 'd', 'q', 'l' + 256, 0, 65535}) {
                fails("kind " + (int) kind, x, ARGUMENT, () -> x.addWish(kind, 0, 1, 1));
            }
            for (int shape = 0; shape < 3; shape++) {
                int same = shape;
                fails("both are " + same, x, ARGUMENT, () -> x.addWish('m', same, same, 1));
            }
            fails("strength 0", x, ARGUMENT, () -> x.addWish('b', 0, 1, 0));
            fails("strength 10", x, ARGUMENT, () -> x.addWish('b', 0, 1, 10));
        });
        sentence("Throws `IllegalStateException` if 8 wishes were added", () -> {
            SlideLayout x = stairs();
            for (int wish = 0; wish < 7; wish++) {
                x.addWish('l', 0, 1, 1);
            }
            due("when 7 were added", 7, () -> x.addWish('b', 1, 2, 9));
            fails("when 8 were added", x, STATE, () -> x.addWish('b', 1, 2, 9));
            for (int wish = 7; wish >= 0; wish--) {
                x.dropWish(wish);
                fails("when 8 were added, though " + wish + " are there", x, STATE, () -> x.addWish('b', 1, 2, 9));
            }
            SlideLayout twice = stairs();
            for (int wish = 0; wish < 8; wish++) {
                int number = wish;
                due("each one dropped at once, " + number, number, () -> twice.addWish('l', 0, 1, 1));
                due("none is there", 0, () -> twice.dropWish(number));
            }
            fails("a ninth one", twice, STATE, () -> twice.addWish('l', 0, 1, 1));
        });
    }

    private static void dropWish() {
        promise(14);
        sentence("Returns the number of wishes that are there after the call.", () -> {
            SlideLayout x = stairs();
            for (int wish = 0; wish < 8; wish++) {
                x.addWish(wish % 2 == 0 ? 'l' : 't', 0, 1, 1);
            }
            int[] order = {7, 0, 3, 4, 1, 6, 2, 5};
            for (int drop = 0; drop < 8; drop++) {
                int wish = order[drop];
                due("after wish " + wish, 7 - drop, () -> x.dropWish(wish));
            }
            SlideLayout one = stairs();
            one.addWish('l', 0, 1, 1);
            due("after the only one", 0, () -> one.dropWish(0));
            one.addWish('l', 0, 1, 1);
            one.addWish('l', 0, 1, 1);
            due("after one of two that were added then", 1, () -> one.dropWish(1));
        });
        sentence(NO_WISH, () -> {
            SlideLayout x = stairs();
            fails("none was added", x, ELEMENT, () -> x.dropWish(0));
            x.addWish('l', 0, 1, 1);
            x.addWish('l', 0, 1, 1);
            for (int wish : new int[] {LEAST, -1, 2, 7, 8, MOST}) {
                fails("wish " + wish, x, ELEMENT, () -> x.dropWish(wish));
            }
            due("the last one", 1, () -> x.dropWish(1));
            fails("the last one again", x, ELEMENT, () -> x.dropWish(1));
            due("the first one", 0, () -> x.dropWish(0));
            fails("the first one again", x, ELEMENT, () -> x.dropWish(0));
        });
    }

    private static void isMet() {
        promise(15);
        sentence("Returns whether it is met.", () -> {
            SlideLayout x = slide(50, 0, 20, 10, 50, 20, 30, 10);
            x.addWish('l', 0, 1, 1);
            due("the same left", true, () -> x.isMet(0));
            x.moveTo(1, 51, 20);
            due("one unit to the right", false, () -> x.isMet(0));
            x.moveTo(1, 49, 20);
            due("one unit to the left", false, () -> x.isMet(0));
            x.tidy('x');
            due("after tidy", true, () -> x.isMet(0));
            SlideLayout tall = slide(0, 0, 20, 10, 50, 0, 20, 15);
            tall.addWish('b', 0, 1, 1);
            tall.setText(0, 21);
            due("before it grows", false, () -> tall.isMet(0));
            tall.grow(0);
            due("after it has grown", true, () -> tall.isMet(0));
        });
        sentence(NO_WISH, () -> {
            SlideLayout x = slide(50, 0, 20, 10, 50, 20, 30, 10);
            fails("none was added", x, ELEMENT, () -> x.isMet(0));
            x.addWish('l', 0, 1, 1);
            x.addWish('l', 0, 1, 1);
            for (int wish : new int[] {LEAST, -1, 2, 7, 8, MOST}) {
                fails("wish " + wish, x, ELEMENT, () -> x.isMet(wish));
            }
            due("the last one", true, () -> x.isMet(1));
            x.dropWish(1);
            fails("it is dropped", x, ELEMENT, () -> x.isMet(1));
            due("the one before it", true, () -> x.isMet(0));
        });
    }

    private static void strength() {
        promise(16);
        sentence("Returns the sum of the strengths of the wishes of this axis that are met.", () -> {
            SlideLayout x = slide(50, 0, 20, 10, 50, 20, 20, 10);
            due("no wish", 0, () -> x.strength('x'));
            x.addWish('t', 0, 1, 9);
            due("a wish that is not met", 0, () -> x.strength('y'));
            x.addWish('l', 0, 1, 1);
            due("a wish that is met", 1, () -> x.strength('x'));
            due("of the other axis", 0, () -> x.strength('y'));
            for (int wish = 2; wish < 8; wish++) {
                x.addWish('r', 1, 0, 9);
            }
            due("the last ones too", 55, () -> x.strength('x'));
            x.dropWish(7);
            due("not the last one, dropped", 46, () -> x.strength('x'));
            x.dropWish(1);
            due("not the first one, dropped", 45, () -> x.strength('x'));
            x.moveTo(1, 51, 20);
            due("none by one unit", 0, () -> x.strength('x'));
        });
        sentence(NO_AXIS, () -> {
            SlideLayout x = stairs();
            failsForNoAxis(x, axis -> x.strength(axis));
            SlideLayout none = new SlideLayout();
            failsForNoAxis(none, axis -> none.strength(axis));
        });
    }

    private static void snaps() {
        promise(17);
        sentence("Returns the number of snaps, also of such with which it would not lie on the slide.", () -> {
            SlideLayout x = slide(0, 0, 10, 10, 50, 50, 40, 10, 190, 30, 10, 10);
            due("50, 0, -15, -30, 190, 175 and 160", 7, () -> x.snaps(1, 'x'));
            x.setLocked(1, true);
            due("of a locked shape too", 7, () -> x.snaps(1, 'x'));
            due("of a single shape", 1, () -> slide(199 - 1, 119, 2, 1).snaps(0, 'y'));
            due("all the same", 1, () -> slide(0, 0, 20, 10, 20, 0, 20, 10).snaps(1, 'y'));
            due("no half ones", 3, () -> slide(0, 0, 10, 10, 50, 50, 13, 10).snaps(0, 'x'));
            due("no half ones below 0", 3, () -> slide(0, 0, 10, 10, 50, 50, 13, 10).snaps(1, 'x'));
            SlideLayout ten = slide(0, 0, 10, 5, 50, 20, 24, 5, 101, 40, 38, 5, 150, 60, 48, 5);
            due("as many as may be", 10, () -> ten.snaps(3, 'x'));
        });
        sentence(NO_SHAPE, () -> {
            SlideLayout x = stairs();
            failsForNoShape(x, shape -> x.snaps(shape, 'x'));
            failsForNoShape(x, shape -> x.snaps(shape, 'z'));
        });
        sentence(NO_AXIS, () -> {
            SlideLayout x = stairs();
            failsForNoAxis(x, axis -> x.snaps(0, axis));
        });
    }

    private static SlideLayout wished(int strength) {
        SlideLayout x = stairs();
        x.addWish('l', 0, 1, strength);
        x.addWish('r', 0, 1, 5);
        return x;
    }

    private static void bestStrength() {
        promise(18);
        sentence("Returns the strength of the tidiest layout, found by a search that leaves out what cannot be "
                + "better.", () -> {
            due("no shape", 0, () -> new SlideLayout().bestStrength('x'));
            due("one shape", 0, () -> slide(0, 0, 200, 120).bestStrength('y'));
            due("no wish", 0, () -> stairs().bestStrength('x'));
            due("the one stronger by 1", 6, () -> wished(6).bestStrength('x'));
            due("both equal", 5, () -> wished(5).bestStrength('x'));
            due("the other one stronger by 1", 5, () -> wished(4).bestStrength('x'));
            due("of no wish of this axis", 0, () -> wished(4).bestStrength('y'));
        });
        sentence(NO_AXIS, () -> {
            SlideLayout x = stairs();
            failsForNoAxis(x, axis -> x.bestStrength(axis));
            SlideLayout none = new SlideLayout();
            failsForNoAxis(none, axis -> none.bestStrength(axis));
        });
    }

    private static void bestByAll() {
        promise(19);
        sentence("Returns the same strength, found by trying all layouts with snaps.", () -> {
            due("no shape", 0, () -> new SlideLayout().bestByAll('x'));
            due("one shape", 0, () -> slide(0, 0, 200, 120).bestByAll('y'));
            due("no wish", 0, () -> stairs().bestByAll('x'));
            due("the one stronger by 1", 6, () -> wished(6).bestByAll('x'));
            due("both equal", 5, () -> wished(5).bestByAll('x'));
            due("the other one stronger by 1", 5, () -> wished(4).bestByAll('x'));
            due("of no wish of this axis", 0, () -> wished(4).bestByAll('y'));
            for (int shape = 0; shape < 4; shape++) {
                SlideLayout x = slide(0, 0, 10, 5, 50, 20, 24, 5, 100, 40, 38, 5, 150, 60, 48, 5);
                for (int other = 0; other < 4; other++) {
                    x.setLocked(other, other != shape);
                }
                x.addWish('l', shape, (shape + 1) % 4, 2);
                x.addWish('c', shape, (shape + 3) % 4, 3);
                int number = shape;
                due("the layouts that give shape " + number + " its last snap", x.bestStrength('x'),
                        () -> x.bestByAll('x'));
            }
        });
        sentence(NO_AXIS, () -> {
            SlideLayout x = stairs();
            failsForNoAxis(x, axis -> x.bestByAll(axis));
            SlideLayout none = new SlideLayout();
            failsForNoAxis(none, axis -> none.bestByAll(axis));
        });
    }

    private static void tidyCost() {
        promise(20);
        sentence("Returns the cost of the tidiest layout.", () -> {
            due("no shape", 0, () -> new SlideLayout().tidyCost('x'));
            due("one shape", 0, () -> slide(1, 1, 20, 10).tidyCost('x'));
            due("no wish", 0, () -> stairs().tidyCost('x'));
            due("the one stronger by 1", 50, () -> wished(6).tidyCost('x'));
            due("both equal, so the cheaper one", 50, () -> wished(5).tidyCost('x'));
            due("the other one stronger by 1", 60, () -> wished(4).tidyCost('x'));
            SlideLayout met = slide(50, 0, 20, 10, 50, 20, 30, 10);
            met.addWish('l', 0, 1, 9);
            due("met already", 0, () -> met.tidyCost('x'));
            SlideLayout far = slide(0, 0, 2, 1, 198, 50, 2, 1);
            far.addWish('l', 0, 1, 9);
            due("the greatest of two shapes", 198, () -> far.tidyCost('x'));
        });
        sentence(NO_AXIS, () -> {
            SlideLayout x = stairs();
            failsForNoAxis(x, axis -> x.tidyCost(axis));
        });
    }

    private static void tidyStart() {
        promise(21);
        sentence("Returns the start that the tidiest layout gives to a shape.", () -> {
            SlideLayout x = wished(6);
            due("the lowest-numbered one stays, for it is the lower start", 0, () -> x.tidyStart(0, 'x'));
            due("the next one moves", 0, () -> x.tidyStart(1, 'x'));
            due("the last one stays", 120, () -> x.tidyStart(2, 'x'));
            due("along the other axis", 40, () -> x.tidyStart(2, 'y'));
            x.setLocked(1, true);
            due("the next one is locked", 50, () -> x.tidyStart(0, 'x'));
            SlideLayout edge = slide(0, 0, 10, 10, 50, 50, 40, 10);
            edge.addWish('r', 0, 1, 1);
            due("not off the slide", 80, () -> edge.tidyStart(0, 'x'));
            due("so the other one stays", 50, () -> edge.tidyStart(1, 'x'));
        });
        sentence(NO_SHAPE, () -> {
            SlideLayout x = stairs();
            failsForNoShape(x, shape -> x.tidyStart(shape, 'x'));
            failsForNoShape(x, shape -> x.tidyStart(shape, 'z'));
        });
        sentence(NO_AXIS, () -> {
            SlideLayout x = stairs();
            failsForNoAxis(x, axis -> x.tidyStart(2, axis));
        });
    }

    private static void tidy() {
        promise(22);
        sentence("Moves all shapes to the starts of the tidiest layout.", () -> {
            SlideLayout x = slide(0, 0, 10, 5, 50, 20, 10, 5, 101, 40, 10, 5, 190, 60, 10, 5);
            x.addWish('l', 3, 2, 1);
            x.addWish('l', 2, 1, 1);
            x.addWish('l', 1, 0, 1);
            x.setLocked(3, true);
            due("its cost", 190 + 140 + 89, () -> x.tidy('x'));
            for (int shape = 0; shape < 4; shape++) {
                int number = shape;
                due("left of " + number, 190, () -> x.startOf(number, 'x'));
                due("top of " + number, 20 * number, () -> x.startOf(number, 'y'));
            }
            SlideLayout none = new SlideLayout();
            none.tidy('x');
            failsForNoShape(none, shape -> none.startOf(shape, 'x'));
        });
        sentence("Returns its cost.", () -> {
            SlideLayout x = wished(6);
            due("the first time", 50, () -> x.tidy('x'));
            due("it is counted", 50L, x::moved);
            due("the next time", 0, () -> x.tidy('x'));
            due("nothing is counted", 50L, x::moved);
            due("along the other axis", 0, () -> x.tidy('y'));
            due("of no shape", 0, () -> new SlideLayout().tidy('y'));
        });
        sentence(NO_AXIS, () -> {
            SlideLayout x = wished(6);
            failsForNoAxis(x, axis -> x.tidy(axis));
            SlideLayout none = new SlideLayout();
            failsForNoAxis(none, axis -> none.tidy(axis));
        });
    }

    private static void evenCost() {
        promise(23);
        sentence("Returns the cost of the evenest layout, found from the best start for each gap.", () -> {
            due("two that do not share units", 0, () -> slide(0, 0, 20, 10, 20, 20, 20, 10).evenCost('x'));
            due("two that share one", 1, () -> slide(0, 0, 20, 10, 19, 20, 20, 10).evenCost('x'));
            due("at the end of the slide", 1, () -> slide(180, 0, 20, 10, 161, 20, 20, 10).evenCost('x'));
            due("the best start would be below 0", 30,
                    () -> slide(0, 0, 10, 9, 0, 20, 10, 9, 0, 40, 10, 9).evenCost('x'));
            due("the best start would be too high", 30,
                    () -> slide(190, 0, 10, 9, 190, 20, 10, 9, 190, 40, 10, 9).evenCost('x'));
            due("no unit is free", 150, () -> slide(0, 0, 100, 10, 100, 10, 50, 10, 0, 20, 50, 10).evenCost('x'));
            due("the middle one too low", 5, () -> slide(50, 0, 20, 10, 80, 20, 20, 10, 120, 40, 20, 10).evenCost('x'));
            due("the middle one too high", 5,
                    () -> slide(50, 0, 20, 10, 90, 20, 20, 10, 120, 40, 20, 10).evenCost('x'));
        });
        sentence(NO_AXIS, () -> {
            SlideLayout x = stairs();
            failsForNoAxis(x, axis -> x.evenCost(axis));
            SlideLayout none = new SlideLayout();
            failsForNoAxis(none, axis -> none.evenCost(axis));
        });
        sentence(NOT_EVEN, () -> notEven((x, axis) -> x.evenCost(axis)));
    }

    private static void evenByAll() {
        promise(24);
        sentence("Returns the same cost, found by trying all starts and gaps.", () -> {
            due("two that do not share units", 0, () -> slide(0, 0, 20, 10, 20, 20, 20, 10).evenByAll('x'));
            due("two that share one", 1, () -> slide(0, 0, 20, 10, 19, 20, 20, 10).evenByAll('x'));
            due("the greatest start", 0, () -> slide(160, 0, 20, 10, 180, 20, 20, 10).evenByAll('x'));
            due("the greatest start along y", 0, () -> slide(0, 118, 20, 1, 30, 119, 20, 1).evenByAll('y'));
            due("the greatest gap", 0, () -> slide(0, 0, 2, 1, 198, 20, 2, 1).evenByAll('x'));
            due("the greatest gap along y", 0, () -> slide(0, 0, 2, 1, 20, 119, 2, 1).evenByAll('y'));
            due("no unit is free", 150, () -> slide(0, 0, 100, 10, 100, 10, 50, 10, 0, 20, 50, 10).evenByAll('x'));
            due("the middle one too low", 5,
                    () -> slide(50, 0, 20, 10, 80, 20, 20, 10, 120, 40, 20, 10).evenByAll('x'));
            due("the middle one too high", 5,
                    () -> slide(50, 0, 20, 10, 90, 20, 20, 10, 120, 40, 20, 10).evenByAll('x'));
        });
        sentence(NO_AXIS, () -> {
            SlideLayout x = stairs();
            failsForNoAxis(x, axis -> x.evenByAll(axis));
            SlideLayout none = new SlideLayout();
            failsForNoAxis(none, axis -> none.evenByAll(axis));
        });
        sentence(NOT_EVEN, () -> notEven((x, axis) -> x.evenByAll(axis)));
    }

    private static void spread() {
        promise(25);
        sentence("Moves all shapes to the starts of the evenest layout.", () -> {
            SlideLayout x = slide(0, 0, 20, 10, 39, 20, 20, 10, 80, 40, 20, 10, 120, 60, 20, 10);
            due("the second one is one unit off", 20, () -> x.spread('x'));
            for (int shape = 0; shape < 4; shape++) {
                int number = shape;
                due("left of " + number, 40 * number, () -> x.startOf(number, 'x'));
                due("top of " + number, 20 * number, () -> x.startOf(number, 'y'));
            }
            due("one unit was moved", 1L, x::moved);
        });
        sentence("Returns its gap.", () -> {
            due("0", 0, () -> slide(0, 0, 20, 10, 20, 20, 20, 10).spread('x'));
            due("1", 1, () -> slide(0, 0, 20, 10, 21, 20, 20, 10).spread('x'));
            due("196", 196, () -> slide(0, 0, 2, 10, 198, 20, 2, 10).spread('x'));
            due("118", 118, () -> slide(0, 0, 2, 1, 20, 119, 2, 1).spread('y'));
        });
        sentence(NO_AXIS, () -> {
            SlideLayout x = stairs();
            failsForNoAxis(x, axis -> x.spread(axis));
            SlideLayout none = new SlideLayout();
            failsForNoAxis(none, axis -> none.spread(axis));
        });
        sentence(NOT_EVEN, () -> notEven((x, axis) -> x.spread(axis)));
    }

    interface Even {
        Object answer(SlideLayout x, char axis);
    }

    private static void notEven(Even call) {
        notEven("no shape", new SlideLayout(), call);
        notEven("one shape", slide(0, 0, 20, 10), call);
        SlideLayout one = slide(0, 0, 20, 10);
        one.setLocked(0, true);
        notEven("one locked shape", one, call);
        SlideLayout wide = slide(0, 0, 101, 61, 101, 61, 99, 59);
        due("sizes of 200 and 120 together leave a gap of 0", 0, () -> wide.spread('x') + wide.spread('y'));
        notEven("sizes of 201 and 121 together", slide(0, 0, 101, 50, 0, 50, 50, 50, 101, 0, 50, 21), call);
        SlideLayout before = slide(20, 10, 20, 10, 30, 20, 20, 10);
        before.setLocked(1, true);
        due("the other one can go 10 units before the locked one", 10, () -> before.evenCost('x'));
        before.moveTo(0, 0, 90);
        before.setLocked(1, false);
        before.moveTo(1, 19, 20);
        before.setLocked(1, true);
        fails("the other one would have to start at -1", before, ELEMENT, () -> call.answer(before, 'x'));
        SlideLayout behind = slide(150, 10, 20, 10, 161, 20, 20, 10);
        behind.setLocked(0, true);
        due("the other one can go behind the locked one", 9, () -> behind.evenCost('x'));
        behind.setLocked(0, false);
        behind.moveTo(0, 161, 10);
        behind.setLocked(0, true);
        fails("the other one would have to end at 201", behind, ELEMENT, () -> call.answer(behind, 'x'));
        SlideLayout locked = slide(0, 0, 20, 10, 30, 20, 20, 10, 61, 40, 20, 10);
        for (int shape = 0; shape < 3; shape++) {
            due("not all locked", 1, () -> locked.evenCost('x'));
            locked.setLocked(shape, true);
        }
        fails("all locked with gaps 10 and 11", locked, ELEMENT, () -> call.answer(locked, 'x'));
    }

    private static void notEven(String what, SlideLayout x, Even call) {
        fails(what + ", along x", x, ELEMENT, () -> call.answer(x, 'x'));
        fails(what + ", along y", x, ELEMENT, () -> call.answer(x, 'y'));
    }
}
