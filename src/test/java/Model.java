import java.util.ArrayList;
import java.util.Arrays;
import java.util.Comparator;
import java.util.List;
import java.util.NoSuchElementException;
import java.util.TreeMap;
import java.util.TreeSet;

/** The document's terms once more, word by word and without a thought of speed; written apart from the program. */
final class Model {
    private static final class Box {
        int[] start = new int[2];
        int[] size = new int[2];
        boolean locked;
        int letters;

        int end(int axis) {
            return start[axis] + size[axis];
        }

        Box copy() {
            Box copy = new Box();
            copy.start = start.clone();
            copy.size = size.clone();
            copy.locked = locked;
            return copy;
        }
    }

    private record Wish(char kind, int shape, int other, int strength) {
    }

    private record Layout(int[] starts, int strength, int cost) {
    }

    private record Even(int first, int gap, int cost, int[] starts) {
    }

    private static final int[] LIMIT = {200, 120};

    private final List<Box> boxes = new ArrayList<>();
    private final List<Wish> wishes = new ArrayList<>();
    private long moved = 0;

    int addShape(int left, int top, int width, int height) {
        if (width < 2 || width > 200 || height < 1 || height > 120) {
            throw new IllegalArgumentException();
        }
        Box box = new Box();
        box.start = new int[] {left, top};
        box.size = new int[] {width, height};
        if (!onSlide(box)) {
            throw new IllegalArgumentException();
        }
        if (boxes.size() == 4) {
            throw new IllegalStateException();
        }
        if (!overlapped(box, -1).isEmpty()) {
            throw new UnsupportedOperationException();
        }
        boxes.add(box);
        return boxes.size() - 1;
    }

    boolean setLocked(int shape, boolean locked) {
        Box box = box(shape);
        boolean before = box.locked;
        box.locked = locked;
        return before;
    }

    int startOf(int shape, char axis) {
        return box(shape).start[axis(axis)];
    }

    int sizeOf(int shape, char axis) {
        return box(shape).size[axis(axis)];
    }

    int moveTo(int shape, int left, int top) {
        switch (moveReason(shape, left, top)) {
            case 'l': throw new IllegalStateException();
            case 's': throw new IllegalArgumentException();
            case 'o': throw new UnsupportedOperationException();
            default:
        }
        Box box = box(shape);
        int units = Math.abs(left - box.start[0]) + Math.abs(top - box.start[1]);
        box.start = new int[] {left, top};
        moved += units;
        return units;
    }

    char moveReason(int shape, int left, int top) {
        Box then = box(shape).copy();
        then.start = new int[] {left, top};
        return then.locked ? 'l' : !onSlide(then) ? 's' : !overlapped(then, shape).isEmpty() ? 'o' : 'n';
    }

    int setText(int shape, int letters) {
        Box box = box(shape);
        if (letters < 0 || letters > 400) {
            throw new IllegalArgumentException();
        }
        box.letters = letters;
        return needed(box);
    }

    boolean fits(int shape) {
        return needed(box(shape)) <= box(shape).size[1];
    }

    int grow(int shape) {
        switch (growReason(shape)) {
            case 'f': throw new NoSuchElementException();
            case 'l': throw new IllegalStateException();
            case 's': case 'o': throw new UnsupportedOperationException();
            default:
        }
        return box(shape).size[1] = needed(box(shape));
    }

    char growReason(int shape) {
        if (fits(shape)) {
            return 'f';
        }
        Box then = grown(shape);
        return then.locked ? 'l' : !onSlide(then) ? 's' : !overlapped(then, shape).isEmpty() ? 'o' : 'n';
    }

    int inTheWay(int shape) {
        Box then = grown(shape);
        if (fits(shape) || !onSlide(then)) {
            throw new NoSuchElementException();
        }
        return overlapped(then, shape).first();
    }

    int addWish(char kind, int shape, int other, int strength) {
        box(shape);
        box(other);
        if ("lcrtmb".indexOf(kind) < 0 || shape == other || strength < 1 || strength > 9) {
            throw new IllegalArgumentException();
        }
        if (wishes.size() == 8) {
            throw new IllegalStateException();
        }
        wishes.add(new Wish(kind, shape, other, strength));
        return wishes.size() - 1;
    }

    int dropWish(int wish) {
        wish(wish);
        wishes.set(wish, null);
        return (int) wishes.stream().filter(w -> w != null).count();
    }

    boolean isMet(int wish) {
        return met(wish(wish), boxes);
    }

    int strength(char axis) {
        return strengthOf(boxes, axis(axis));
    }

    int snaps(int shape, char axis) {
        box(shape);
        return snapsOf(shape, axis(axis)).size();
    }

    int bestStrength(char axis) {
        return tidiest(axis(axis)).strength();
    }

    int tidyCost(char axis) {
        return tidiest(axis(axis)).cost();
    }

    int tidyStart(int shape, char axis) {
        box(shape);
        return tidiest(axis(axis)).starts()[shape];
    }

    int tidy(char axis) {
        Layout tidiest = tidiest(axis(axis));
        give(tidiest.starts(), axis(axis));
        moved += tidiest.cost();
        return tidiest.cost();
    }

    int evenCost(char axis) {
        return evenest(axis(axis)).cost();
    }

    int spread(char axis) {
        Even evenest = evenest(axis(axis));
        give(evenest.starts(), axis(axis));
        moved += evenest.cost();
        return evenest.gap();
    }

    int guides(char axis) {
        return guidesOf(axis(axis)).size();
    }

    int guideAt(char axis, int index) {
        List<Integer> guides = guidesOf(axis(axis));
        if (index < 0 || index >= guides.size()) {
            throw new NoSuchElementException();
        }
        return guides.get(index);
    }

    int distance(int shape, int other) {
        Box a = box(shape);
        Box b = box(other);
        if (shape == other) {
            throw new IllegalArgumentException();
        }
        return Math.max(unitsBetween(a, b, 0), unitsBetween(a, b, 1));
    }

    int groups(int distance) {
        checkDistance(distance);
        TreeSet<Integer> lowest = new TreeSet<>();
        for (int shape = 0; shape < boxes.size(); shape++) {
            lowest.add(groupOf(shape, distance));
        }
        return lowest.size();
    }

    int groupOf(int shape, int distance) {
        box(shape);
        checkDistance(distance);
        TreeSet<Integer> group = new TreeSet<>(List.of(shape));
        for (int round = 0; round < 4; round++) {
            for (int from : List.copyOf(group)) {
                for (int to = 0; to < boxes.size(); to++) {
                    if (to != from && distance(from, to) <= distance) {
                        group.add(to);
                    }
                }
            }
        }
        return group.first();
    }

    long moved() {
        return moved;
    }

    float covered() {
        int units = 0;
        for (Box box : boxes) {
            units += box.size[0] * box.size[1];
        }
        return (float) units / 24000f;
    }

    double meanDistance() {
        if (boxes.size() < 2) {
            throw new ArithmeticException();
        }
        int sum = 0;
        for (int a = 0; a < boxes.size(); a++) {
            for (int b = 0; b < a; b++) {
                sum += distance(a, b);
            }
        }
        return (double) sum / (double) (boxes.size() * (boxes.size() - 1) / 2);
    }

    private Box box(int shape) {
        if (shape < 0 || shape >= boxes.size()) {
            throw new IndexOutOfBoundsException();
        }
        return boxes.get(shape);
    }

    private Wish wish(int wish) {
        if (wish < 0 || wish >= wishes.size() || wishes.get(wish) == null) {
            throw new NoSuchElementException();
        }
        return wishes.get(wish);
    }

    private static int axis(char axis) {
        int index = "xy".indexOf(axis);
        if (index < 0) {
            throw new IllegalArgumentException();
        }
        return index;
    }

    private static boolean onSlide(Box box) {
        return box.start[0] >= 0 && (long) box.start[0] + box.size[0] <= 200
                && box.start[1] >= 0 && (long) box.start[1] + box.size[1] <= 120;
    }

    private static boolean overlap(Box a, Box b) {
        return a.start[0] < b.end(0) && b.start[0] < a.end(0) && a.start[1] < b.end(1) && b.start[1] < a.end(1);
    }

    private TreeSet<Integer> overlapped(Box box, int shape) {
        TreeSet<Integer> found = new TreeSet<>();
        for (int other = 0; other < boxes.size(); other++) {
            if (other != shape && overlap(box, boxes.get(other))) {
                found.add(other);
            }
        }
        return found;
    }

    private static int needed(Box box) {
        int lines = 0;
        for (int left = box.letters; left > 0; left -= box.size[0] / 2) {
            lines++;
        }
        return 5 * lines;
    }

    private Box grown(int shape) {
        Box then = box(shape).copy();
        then.size[1] = needed(box(shape));
        return then;
    }

    private static int axisOf(char kind) {
        return "lcr".indexOf(kind) >= 0 ? 0 : 1;
    }

    private static boolean met(Wish wish, List<Box> boxes) {
        Box a = boxes.get(wish.shape());
        Box b = boxes.get(wish.other());
        switch (wish.kind()) {
            case 'l': return a.start[0] == b.start[0];
            case 'c': return a.start[0] + a.end(0) == b.start[0] + b.end(0);
            case 'r': return a.end(0) == b.end(0);
            case 't': return a.start[1] == b.start[1];
            case 'm': return a.start[1] + a.end(1) == b.start[1] + b.end(1);
            default: return a.end(1) == b.end(1);
        }
    }

    private int strengthOf(List<Box> then, int axis) {
        int sum = 0;
        for (Wish wish : wishes) {
            if (wish != null && axisOf(wish.kind()) == axis && met(wish, then)) {
                sum += wish.strength();
            }
        }
        return sum;
    }

    private TreeSet<Integer> snapsOf(int shape, int axis) {
        Box box = boxes.get(shape);
        TreeSet<Integer> snaps = new TreeSet<>(List.of(box.start[axis]));
        for (int other = 0; other < boxes.size(); other++) {
            Box to = boxes.get(other);
            for (int start = -200; start <= 200 && other != shape; start++) {
                int end = start + box.size[axis];
                if (start == to.start[axis] || end == to.end(axis) || start + end == to.start[axis] + to.end(axis)) {
                    snaps.add(start);
                }
            }
        }
        return snaps;
    }

    private List<Box> withStarts(int[] starts, int axis) {
        List<Box> then = new ArrayList<>();
        for (int shape = 0; shape < starts.length; shape++) {
            Box box = boxes.get(shape).copy();
            box.start[axis] = starts[shape];
            then.add(box);
        }
        return then;
    }

    private boolean allowed(int[] starts, int axis) {
        List<Box> then = withStarts(starts, axis);
        for (int a = 0; a < then.size(); a++) {
            if (!onSlide(then.get(a)) || boxes.get(a).locked && starts[a] != boxes.get(a).start[axis]) {
                return false;
            }
            for (int b = 0; b < a; b++) {
                if (overlap(then.get(a), then.get(b))) {
                    return false;
                }
            }
        }
        return true;
    }

    private int cost(int[] starts, int axis) {
        int cost = 0;
        for (int shape = 0; shape < starts.length; shape++) {
            cost += Math.abs(starts[shape] - boxes.get(shape).start[axis]);
        }
        return cost;
    }

    private Layout tidiest(int axis) {
        List<Layout> tidy = new ArrayList<>();
        listTidy(axis, new int[boxes.size()], 0, tidy);
        Comparator<Layout> order = Comparator.comparingInt((Layout l) -> -l.strength())
                .thenComparingInt(Layout::cost)
                .thenComparing(Layout::starts, Arrays::compare);
        return tidy.stream().min(order).get();
    }

    private void listTidy(int axis, int[] starts, int shape, List<Layout> tidy) {
        if (shape == starts.length) {
            if (allowed(starts, axis)) {
                tidy.add(new Layout(starts.clone(), strengthOf(withStarts(starts, axis), axis), cost(starts, axis)));
            }
            return;
        }
        for (int snap : snapsOf(shape, axis)) {
            starts[shape] = snap;
            listTidy(axis, starts, shape + 1, tidy);
        }
    }

    private Even evenest(int axis) {
        Integer[] order = new Integer[boxes.size()];
        Arrays.setAll(order, i -> i);
        Arrays.sort(order, Comparator.comparingInt((Integer i) -> boxes.get(i).start[axis]).thenComparing(i -> i));
        Even best = null;
        for (int gap = 0; gap <= 200 && order.length >= 2; gap++) {
            for (int first = 0; first <= 200; first++) {
                int[] starts = new int[order.length];
                int start = first;
                for (int shape : order) {
                    starts[shape] = start;
                    start += boxes.get(shape).size[axis] + gap;
                }
                if (start - gap <= LIMIT[axis] && allowed(starts, axis)
                        && (best == null || cost(starts, axis) < best.cost())) {
                    best = new Even(first, gap, cost(starts, axis), starts);
                }
            }
        }
        if (best == null) {
            throw new NoSuchElementException();
        }
        return best;
    }

    private void give(int[] starts, int axis) {
        for (int shape = 0; shape < starts.length; shape++) {
            boxes.get(shape).start[axis] = starts[shape];
        }
    }

    private List<Integer> guidesOf(int axis) {
        TreeMap<Integer, TreeSet<Integer>> shapesAt = new TreeMap<>();
        for (int shape = 0; shape < boxes.size(); shape++) {
            Box box = boxes.get(shape);
            for (int number : new int[] {2 * box.start[axis], box.start[axis] + box.end(axis), 2 * box.end(axis)}) {
                shapesAt.computeIfAbsent(number, n -> new TreeSet<>()).add(shape);
            }
        }
        shapesAt.values().removeIf(shapes -> shapes.size() < 2);
        return List.copyOf(shapesAt.keySet());
    }

    private static void checkDistance(int distance) {
        if (distance < 0 || distance > 200) {
            throw new IllegalArgumentException();
        }
    }

    private static int unitsBetween(Box a, Box b, int axis) {
        int units = 0;
        for (int unit = 0; unit < LIMIT[axis]; unit++) {
            if (a.end(axis) <= unit && unit < b.start[axis] || b.end(axis) <= unit && unit < a.start[axis]) {
                units++;
            }
        }
        return units;
    }
}
