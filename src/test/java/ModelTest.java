import java.util.Random;

/** Runs of mixed calls, the same ones each time; each answer is compared with the model's. */
public final class ModelTest {
    private static final int RUNS = 300;
    private static final int CALLS = 120;
    private static final int LONG_RUNS = 4;
    private static final int MOST_CALLS = 512;

    private static final Check CHECK = new Check();

    private final Random random;
    private final SlideLayout slide = new SlideLayout();
    private final Model model = new Model();
    private final boolean small;
    private final String name;

    private ModelTest(int seed) {
        random = new Random(seed);
        small = random.nextInt(3) > 0;
        name = "run " + seed + " ";
    }

    public static void main(String[] args) {
        for (int seed = 0; seed < RUNS; seed++) {
            new ModelTest(seed).run(CALLS);
        }
        for (int seed = RUNS; seed < RUNS + LONG_RUNS; seed++) {
            new ModelTest(seed).run(MOST_CALLS);
        }
        CHECK.close("ModelTest");
    }

    private void run(int calls) {
        int shapes = 1 + random.nextInt(4);
        for (int call = 0; call < calls; call++) {
            if (call < shapes * 3) {
                addShape();
            } else {
                call();
            }
        }
    }

    private void call() {
        switch (random.nextInt(12)) {
            case 0: addShape(); break;
            case 1: changeShape(); break;
            case 2: askText(); break;
            case 3: case 4: changeWishes(); break;
            case 5: case 6: askTidy(); break;
            case 7: askEven(); break;
            case 8: tidyOrSpread(); break;
            case 9: askGuides(); break;
            case 10: askGroups(); break;
            default: askSums(); break;
        }
    }

    private void same(String call, Check.Call program, Check.Call ofModel) {
        Object want;
        try {
            want = ofModel.answer();
        } catch (RuntimeException e) {
            want = "throws." + e.getClass().getSimpleName();
        }
        CHECK.due(name + call, want, program);
    }

    private int shape() {
        return random.nextInt(40) == 0 ? random.nextInt(8) - 2 : random.nextInt(4);
    }

    private char axis() {
        return random.nextInt(60) == 0 ? "zXY\0".charAt(random.nextInt(4)) : random.nextBoolean() ? 'x' : 'y';
    }

    /** Takes often a start that makes shapes line up or touch, seldom one that is far out. */
    private int start(char axis) {
        if (random.nextInt(60) == 0) {
            return random.nextBoolean() ? random.nextInt() : Integer.MAX_VALUE - random.nextInt(3);
        }
        int limit = axis == 'x' ? 201 : 121;
        return random.nextInt(3) == 0 ? random.nextInt(limit) : random.nextInt(limit / 10 + 1) * 10;
    }

    private int size(char axis) {
        if (random.nextInt(40) == 0) {
            return random.nextInt(260) - 10;
        }
        int most = small ? 30 : axis == 'x' ? 110 : 60;
        return random.nextInt(3) == 0 ? 1 + random.nextInt(most) : 10 * (1 + random.nextInt(most / 10));
    }

    private void addShape() {
        int left = start('x');
        int top = start('y');
        int width = size('x');
        int height = size('y');
        same("addShape " + left + " " + top + " " + width + " " + height,
                () -> slide.addShape(left, top, width, height), () -> model.addShape(left, top, width, height));
    }

    private void changeShape() {
        int shape = shape();
        int left = start('x');
        int top = start('y');
        boolean lock = random.nextInt(3) == 0;
        same("moveReason", () -> slide.moveReason(shape, left, top), () -> model.moveReason(shape, left, top));
        if (random.nextInt(3) == 0) {
            same("setLocked", () -> slide.setLocked(shape, lock), () -> model.setLocked(shape, lock));
        }
        same("moveTo", () -> slide.moveTo(shape, left, top), () -> model.moveTo(shape, left, top));
        seeShapes();
    }

    private void askText() {
        int shape = shape();
        int letters = random.nextInt(30) == 0 ? random.nextInt(600) - 100 : random.nextInt(small ? 60 : 401);
        same("setText", () -> slide.setText(shape, letters), () -> model.setText(shape, letters));
        same("fits", () -> slide.fits(shape), () -> model.fits(shape));
        same("growReason", () -> slide.growReason(shape), () -> model.growReason(shape));
        same("inTheWay", () -> slide.inTheWay(shape), () -> model.inTheWay(shape));
        if (random.nextInt(2) == 0) {
            same("grow", () -> slide.grow(shape), () -> model.grow(shape));
            seeShapes();
        }
    }

    private void changeWishes() {
        char kind = "lcrtmblcrtmbq".charAt(random.nextInt(13));
        int shape = shape();
        int other = shape();
        int strength = random.nextInt(30) == 0 ? random.nextInt(14) - 2 : 1 + random.nextInt(9);
        int wish = random.nextInt(10) - 1;
        same("addWish " + kind, () -> slide.addWish(kind, shape, other, strength),
                () -> model.addWish(kind, shape, other, strength));
        if (random.nextInt(6) == 0) {
            same("dropWish " + wish, () -> slide.dropWish(wish), () -> model.dropWish(wish));
        }
        for (int any = -1; any < 9; any++) {
            int number = any;
            same("isMet " + number, () -> slide.isMet(number), () -> model.isMet(number));
        }
        char axis = axis();
        same("strength " + axis, () -> slide.strength(axis), () -> model.strength(axis));
    }

    private void askTidy() {
        int shape = shape();
        char axis = axis();
        same("snaps", () -> slide.snaps(shape, axis), () -> model.snaps(shape, axis));
        switch (random.nextInt(4)) {
            case 0:
                same("bestStrength " + axis, () -> slide.bestStrength(axis), () -> model.bestStrength(axis));
                break;
            case 1:
                same("bestByAll " + axis, () -> slide.bestByAll(axis), () -> model.bestStrength(axis));
                break;
            case 2:
                same("tidyCost " + axis, () -> slide.tidyCost(axis), () -> model.tidyCost(axis));
                break;
            default:
                same("tidyStart " + axis, () -> slide.tidyStart(shape, axis), () -> model.tidyStart(shape, axis));
                break;
        }
    }

    private void askEven() {
        char axis = axis();
        same("evenCost " + axis, () -> slide.evenCost(axis), () -> model.evenCost(axis));
        same("evenByAll " + axis, () -> slide.evenByAll(axis), () -> model.evenCost(axis));
    }

    private void tidyOrSpread() {
        char axis = axis();
        if (random.nextInt(3) > 0) {
            same("tidy " + axis, () -> slide.tidy(axis), () -> model.tidy(axis));
        } else {
            same("spread " + axis, () -> slide.spread(axis), () -> model.spread(axis));
        }
        seeShapes();
    }

    private void askGuides() {
        char axis = axis();
        same("guides " + axis, () -> slide.guides(axis), () -> model.guides(axis));
        for (int any = -1; any < 8; any++) {
            int index = any;
            same("guideAt " + axis + index, () -> slide.guideAt(axis, index), () -> model.guideAt(axis, index));
        }
    }

    private void askGroups() {
        int shape = shape();
        int other = shape();
        int distance = random.nextInt(20) == 0 ? random.nextInt(260) - 30 : random.nextInt(small ? 40 : 201);
        same("distance", () -> slide.distance(shape, other), () -> model.distance(shape, other));
        same("groups " + distance, () -> slide.groups(distance), () -> model.groups(distance));
        same("groupsByLinks " + distance, () -> slide.groupsByLinks(distance), () -> model.groups(distance));
        same("groupOf " + distance, () -> slide.groupOf(shape, distance), () -> model.groupOf(shape, distance));
    }

    private void askSums() {
        same("moved", slide::moved, model::moved);
        same("covered", slide::covered, model::covered);
        same("meanDistance", slide::meanDistance, model::meanDistance);
        same("isSound", slide::isSound, () -> true);
    }

    private void seeShapes() {
        for (int any = 0; any < 4; any++) {
            int shape = any;
            for (char axis : new char[] {'x', 'y'}) {
                same("startOf", () -> slide.startOf(shape, axis), () -> model.startOf(shape, axis));
                same("sizeOf", () -> slide.sizeOf(shape, axis), () -> model.sizeOf(shape, axis));
            }
        }
        same("moved", slide::moved, model::moved);
    }
}
