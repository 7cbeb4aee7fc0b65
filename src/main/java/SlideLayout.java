import java.util.NoSuchElementException;

/** A helper for the layout of slides; ../shared/DOC.md says what each call does. */
public final class SlideLayout {
    private static final int SLIDE_WIDTH = 200;
    private static final int SLIDE_HEIGHT = 120;
    private static final int SLIDE_AREA = 24000;
    private static final int MIN_WIDTH = 2;
    private static final int MIN_HEIGHT = 1;
    private static final int MAX_SHAPES = 4;
    private static final int MAX_PAIRS = MAX_SHAPES * (MAX_SHAPES - 1) / 2;
    private static final int MAX_WISHES = 8;
    private static final int MAX_LETTERS = 400;
    private static final int LETTER_WIDTH = 2;
    private static final int LINE_HEIGHT = 5;
    private static final int MAX_STRENGTH = 9;
    private static final int MAX_DISTANCE = 200;

    /** The edges of a shape along an axis, by the number of sizes that are added to twice the start. */
    private static final int START_EDGE = 0;
    private static final int MIDDLE_EDGE = 1;
    private static final int END_EDGE = 2;

    /** The present start, and one for each edge of each other shape. */
    private static final int MAX_SNAPS = 1 + 3 * (MAX_SHAPES - 1);

    /** A guide takes at least two of the three numbers that each shape has. */
    private static final int MAX_GUIDES = 3 * MAX_SHAPES / 2;

    /** Stands for a number that is not there, where all that are there are 0 or more. */
    private static final int NONE = -1;

    private final Axis across = new Axis(SLIDE_WIDTH);
    private final Axis down = new Axis(SLIDE_HEIGHT);
    private final Row locks = new Row(MAX_SHAPES);
    private final Row letterCounts = new Row(MAX_SHAPES);
    private final Wishes wishes = new Wishes();
    private final TidySearch tidySearch = new TidySearch();
    private final EvenSearch evenSearch = new EvenSearch();
    private final Groups nearness = new Groups();
    private final Row snapList = new Row(MAX_SNAPS);
    private final Row guideList = new Row(MAX_GUIDES);
    private long movedUnits;

    public SlideLayout() {
        movedUnits = 0;
    }

    public int addShape(int left, int top, int width, int height)
            throws IllegalArgumentException, IllegalStateException, UnsupportedOperationException {
        if (width < MIN_WIDTH || width > SLIDE_WIDTH || height < MIN_HEIGHT || height > SLIDE_HEIGHT) {
            throw new IllegalArgumentException("a size is out of range");
        }
        if (!across.holds(left, width) || !down.holds(top, height)) {
            throw new IllegalArgumentException("the shape does not lie on the slide");
        }
        if (shapeCount() >= MAX_SHAPES) {
            throw new IllegalStateException("there are as many shapes as there may be");
        }
        if (firstOverlapped(NONE, left, top, width, height) != NONE) {
            throw new UnsupportedOperationException("the shape overlaps another one");
        }
        across.append(left, width);
        down.append(top, height);
        locks.append(0);
        letterCounts.append(0);
        return shapeCount() - 1;
    }

    public boolean setLocked(int shape, boolean isLocked) throws IndexOutOfBoundsException {
        requireShape(shape);
        boolean wasLocked = isLockedShape(shape);
        locks.set(shape, isLocked ? 1 : 0);
        return wasLocked;
    }

    public int startOf(int shape, char axis) throws IndexOutOfBoundsException, IllegalArgumentException {
        requireShape(shape);
        return axisNamed(axis).startAt(shape);
    }

    public int sizeOf(int shape, char axis) throws IndexOutOfBoundsException, IllegalArgumentException {
        requireShape(shape);
        return axisNamed(axis).sizeAt(shape);
    }

    public int moveTo(int shape, int left, int top)
            throws IndexOutOfBoundsException, IllegalStateException, IllegalArgumentException,
            UnsupportedOperationException {
        requireShape(shape);
        char hindrance = moveHindrance(shape, left, top);
        if (hindrance == 'l') {
            throw new IllegalStateException("the shape is locked");
        }
        if (hindrance == 's') {
            throw new IllegalArgumentException("the shape would not lie on the slide");
        }
        if (hindrance == 'o') {
            throw new UnsupportedOperationException("the shape would overlap another one");
        }
        int units = Math.abs(left - across.startAt(shape)) + Math.abs(top - down.startAt(shape));
        across.setStart(shape, left);
        down.setStart(shape, top);
        movedUnits += units;
        return units;
    }

    public char moveReason(int shape, int left, int top) throws IndexOutOfBoundsException {
        requireShape(shape);
        return moveHindrance(shape, left, top);
    }

    public int setText(int shape, int letters) throws IndexOutOfBoundsException, IllegalArgumentException {
        requireShape(shape);
        if (letters < 0 || letters > MAX_LETTERS) {
            throw new IllegalArgumentException("the number of letters is out of range");
        }
        letterCounts.set(shape, letters);
        return neededHeight(shape);
    }

    public boolean fits(int shape) throws IndexOutOfBoundsException {
        requireShape(shape);
        return textFits(shape);
    }

    public int grow(int shape)
            throws IndexOutOfBoundsException, NoSuchElementException, IllegalStateException,
            UnsupportedOperationException {
        requireShape(shape);
        char hindrance = growHindrance(shape);
        if (hindrance == 'f') {
            throw new NoSuchElementException("the text fits");
        }
        if (hindrance == 'l') {
            throw new IllegalStateException("the shape is locked");
        }
        if (hindrance != 'n') {
            throw new UnsupportedOperationException("the shape has no room to grow");
        }
        int height = neededHeight(shape);
        down.setSize(shape, height);
        return height;
    }

    public char growReason(int shape) throws IndexOutOfBoundsException {
        requireShape(shape);
        return growHindrance(shape);
    }

    public int inTheWay(int shape) throws IndexOutOfBoundsException, NoSuchElementException {
        requireShape(shape);
        if (textFits(shape) || !grownLiesOnSlide(shape)) {
            throw new NoSuchElementException("the shape does not grow on the slide");
        }
        int other = firstOverlappedIfGrown(shape);
        if (other == NONE) {
            throw new NoSuchElementException("no shape is in the way");
        }
        return other;
    }

    public int addWish(char kind, int shape, int other, int strength)
            throws IndexOutOfBoundsException, IllegalArgumentException, IllegalStateException {
        requireShape(shape);
        requireShape(other);
        if (!Wishes.isKind(kind) || shape == other || strength < 1 || strength > MAX_STRENGTH) {
            throw new IllegalArgumentException("there is no such wish");
        }
        if (wishes.addedCount() >= MAX_WISHES) {
            throw new IllegalStateException("as many wishes were added as may be");
        }
        wishes.append(kind, shape, other, strength);
        return wishes.addedCount() - 1;
    }

    public int dropWish(int wish) throws NoSuchElementException {
        requireWish(wish);
        wishes.remove(wish);
        return wishes.presentCount();
    }

    public boolean isMet(int wish) throws NoSuchElementException {
        requireWish(wish);
        return wishes.holdsIn(wishes.axisAt(wish) == 'x' ? across : down, wish);
    }

    public int strength(char axis) throws IllegalArgumentException {
        Axis along = axisNamed(axis);
        int sum = 0;
        for (int wish = 0; wish < wishes.addedCount(); wish++) {
            if (wishes.isThere(wish) && wishes.axisAt(wish) == axis && wishes.holdsIn(along, wish)) {
                sum += wishes.strengthAt(wish);
            }
        }
        return sum;
    }

    public int snaps(int shape, char axis) throws IndexOutOfBoundsException, IllegalArgumentException {
        requireShape(shape);
        axisNamed(axis).listSnaps(shape, snapList);
        return snapList.length();
    }

    public int bestStrength(char axis) throws IllegalArgumentException {
        searchTidiest(axis);
        return tidySearch.foundStrength();
    }

    public int bestByAll(char axis) throws IllegalArgumentException {
        loadTidySearch(axis);
        return tidySearch.greatestStrengthOfAll();
    }

    public int tidyCost(char axis) throws IllegalArgumentException {
        searchTidiest(axis);
        return tidySearch.foundCost();
    }

    public int tidyStart(int shape, char axis) throws IndexOutOfBoundsException, IllegalArgumentException {
        requireShape(shape);
        searchTidiest(axis);
        return tidySearch.foundStart(shape);
    }

    public int tidy(char axis) throws IllegalArgumentException {
        searchTidiest(axis);
        Axis along = axisNamed(axis);
        for (int shape = 0; shape < shapeCount(); shape++) {
            along.setStart(shape, tidySearch.foundStart(shape));
        }
        movedUnits += tidySearch.foundCost();
        return tidySearch.foundCost();
    }

    public int evenCost(char axis) throws IllegalArgumentException, NoSuchElementException {
        evenSearch.load(axisNamed(axis), locks);
        evenSearch.searchBestStarts();
        requireEvenLayout();
        return evenSearch.foundCost();
    }

    public int evenByAll(char axis) throws IllegalArgumentException, NoSuchElementException {
        evenSearch.load(axisNamed(axis), locks);
        evenSearch.searchAll();
        requireEvenLayout();
        return evenSearch.foundCost();
    }

    public int spread(char axis) throws IllegalArgumentException, NoSuchElementException {
        Axis along = axisNamed(axis);
        evenSearch.load(along, locks);
        evenSearch.searchBestStarts();
        requireEvenLayout();
        for (int place = 0; place < shapeCount(); place++) {
            along.setStart(evenSearch.shapeInPlace(place), evenSearch.foundStart(place));
        }
        movedUnits += evenSearch.foundCost();
        return evenSearch.foundGap();
    }

    public int guides(char axis) throws IllegalArgumentException {
        axisNamed(axis).listGuides(guideList);
        return guideList.length();
    }

    public int guideAt(char axis, int index) throws IllegalArgumentException, NoSuchElementException {
        axisNamed(axis).listGuides(guideList);
        if (index < 0 || index >= guideList.length()) {
            throw new NoSuchElementException("there is no such guide");
        }
        return guideList.get(index);
    }

    public int distance(int shape, int other) throws IndexOutOfBoundsException, IllegalArgumentException {
        requireShape(shape);
        requireShape(other);
        if (shape == other) {
            throw new IllegalArgumentException("both shapes are the same");
        }
        return Groups.unitsBetween(across, down, shape, other);
    }

    public int groups(int distance) throws IllegalArgumentException {
        requireDistance(distance);
        return nearness.countByGoing(across, down, distance);
    }

    public int groupsByLinks(int distance) throws IllegalArgumentException {
        requireDistance(distance);
        return nearness.countByJoining(across, down, distance);
    }

    public int groupOf(int shape, int distance) throws IndexOutOfBoundsException, IllegalArgumentException {
        requireShape(shape);
        requireDistance(distance);
        nearness.countByGoing(across, down, distance);
        return nearness.lowestOfGroup(shape);
    }

    public long moved() {
        return movedUnits;
    }

    public float covered() {
        int area = 0;
        for (int shape = 0; shape < shapeCount(); shape++) {
            area += across.sizeAt(shape) * down.sizeAt(shape);
        }
        return (float) area / (float) SLIDE_AREA;
    }

    public double meanDistance() throws ArithmeticException {
        int sum = 0;
        int pairs = 0;
        for (int shape = 0; shape < shapeCount(); shape++) {
            for (int other = shape + 1; other < shapeCount(); other++) {
                sum += Groups.unitsBetween(across, down, shape, other);
                pairs++;
            }
        }
        if (pairs == 0) {
            throw new ArithmeticException("there are fewer than 2 shapes");
        }
        return (double) sum / (double) pairs;
    }

    public boolean isSound() {
        return allShapesStandRight()
                && bothWaysAgreeAlong('x') && bothWaysAgreeAlong('y')
                && groupCountsAgree(0) && groupCountsAgree(10) && groupCountsAgree(50);
    }

    private int shapeCount() {
        return across.count();
    }

    private void requireShape(int shape) {
        if (shape < 0 || shape >= shapeCount()) {
            throw new IndexOutOfBoundsException("there is no such shape");
        }
    }

    private void requireWish(int wish) {
        if (!wishes.isThere(wish)) {
            throw new NoSuchElementException("there is no such wish");
        }
    }

    private void requireDistance(int distance) {
        if (distance < 0 || distance > MAX_DISTANCE) {
            throw new IllegalArgumentException("the distance is out of range");
        }
    }

    private void requireEvenLayout() {
        if (evenSearch.foundCost() == NONE) {
            throw new NoSuchElementException("there is no even layout");
        }
    }

    private Axis axisNamed(char axis) {
        if (axis == 'x') {
            return across;
        }
        if (axis == 'y') {
            return down;
        }
        throw new IllegalArgumentException("there is no such axis");
    }

    private boolean isLockedShape(int shape) {
        return locks.get(shape) != 0;
    }

    /** Returns the lowest-numbered shape but the given one that such a rectangle overlaps, or NONE. */
    private int firstOverlapped(int shape, int left, int top, int width, int height) {
        for (int other = 0; other < shapeCount(); other++) {
            if (other != shape && across.meets(other, left, width) && down.meets(other, top, height)) {
                return other;
            }
        }
        return NONE;
    }

    private int firstOverlappedIfGrown(int shape) {
        return firstOverlapped(shape, across.startAt(shape), down.startAt(shape),
                across.sizeAt(shape), neededHeight(shape));
    }

    private boolean grownLiesOnSlide(int shape) {
        return down.holds(down.startAt(shape), neededHeight(shape));
    }

    private char moveHindrance(int shape, int left, int top) {
        int width = across.sizeAt(shape);
        int height = down.sizeAt(shape);
        if (isLockedShape(shape)) {
            return 'l';
        }
        if (!across.holds(left, width) || !down.holds(top, height)) {
            return 's';
        }
        return firstOverlapped(shape, left, top, width, height) == NONE ? 'n' : 'o';
    }

    private char growHindrance(int shape) {
        if (textFits(shape)) {
            return 'f';
        }
        if (isLockedShape(shape)) {
            return 'l';
        }
        if (!grownLiesOnSlide(shape)) {
            return 's';
        }
        return firstOverlappedIfGrown(shape) == NONE ? 'n' : 'o';
    }

    private int neededHeight(int shape) {
        int lettersOfLine = across.sizeAt(shape) / LETTER_WIDTH;
        if (lettersOfLine < 1) {
            return 0;
        }
        int lines = (letterCounts.get(shape) + lettersOfLine - 1) / lettersOfLine;
        return lines * LINE_HEIGHT;
    }

    private boolean textFits(int shape) {
        return neededHeight(shape) <= down.sizeAt(shape);
    }

    private void loadTidySearch(char axis) {
        Axis along = axisNamed(axis);
        tidySearch.load(along, axis == 'x' ? down : across, locks);
        tidySearch.loadWishes(wishes, axis);
    }

    private void searchTidiest(char axis) {
        loadTidySearch(axis);
        tidySearch.searchTidiest();
    }

    private boolean allShapesStandRight() {
        for (int shape = 0; shape < shapeCount(); shape++) {
            int left = across.startAt(shape);
            int top = down.startAt(shape);
            int width = across.sizeAt(shape);
            int height = down.sizeAt(shape);
            if (!across.holds(left, width) || !down.holds(top, height)
                    || firstOverlapped(shape, left, top, width, height) != NONE) {
                return false;
            }
        }
        return true;
    }

    private boolean bothWaysAgreeAlong(char axis) {
        loadTidySearch(axis);
        tidySearch.searchTidiest();
        if (tidySearch.foundStrength() != tidySearch.greatestStrengthOfAll()) {
            return false;
        }
        evenSearch.load(axisNamed(axis), locks);
        evenSearch.searchBestStarts();
        int costOfBestStarts = evenSearch.foundCost();
        evenSearch.searchAll();
        return costOfBestStarts == evenSearch.foundCost();
    }

    private boolean groupCountsAgree(int distance) {
        return nearness.countByGoing(across, down, distance) == nearness.countByJoining(across, down, distance);
    }

    /**
     * A list of numbers with a room that stays as it is. A place outside of the room reads as 0 and takes nothing, so
     * that no index, wherever it comes from, makes the machine throw.
     */
    private static final class Row {
        private final int[] cells;
        private int length;

        Row(int room) {
            cells = new int[room < 0 ? 0 : room];
            length = 0;
        }

        int length() {
            return length;
        }

        int get(int index) {
            if (index < 0 || index >= cells.length) {
                return 0;
            }
            return cells[index];
        }

        void set(int index, int value) {
            if (index >= 0 && index < cells.length) {
                cells[index] = value;
            }
        }

        void clear() {
            length = 0;
        }

        void append(int value) {
            if (length >= 0 && length < cells.length) {
                cells[length] = value;
                length++;
            }
        }

        /** Puts a number into a list that is in ascending order and stays so. */
        void insert(int value) {
            if (length < 0 || length >= cells.length) {
                return;
            }
            int place = length;
            for (; place > 0 && cells[place - 1] > value; place--) {
                cells[place] = cells[place - 1];
            }
            cells[place] = value;
            length++;
        }

        boolean contains(int value) {
            for (int index = 0; index < length && index < cells.length; index++) {
                if (cells[index] == value) {
                    return true;
                }
            }
            return false;
        }
    }

    /** Where the shapes stand along one axis. */
    private static final class Axis {
        private final int limit;
        private final Row starts = new Row(MAX_SHAPES);
        private final Row sizes = new Row(MAX_SHAPES);

        Axis(int limit) {
            this.limit = limit;
        }

        int limit() {
            return limit;
        }

        int count() {
            return starts.length();
        }

        void append(int start, int size) {
            starts.append(start);
            sizes.append(size);
        }

        int startAt(int shape) {
            return starts.get(shape);
        }

        int sizeAt(int shape) {
            return sizes.get(shape);
        }

        void setStart(int shape, int start) {
            starts.set(shape, start);
        }

        void setSize(int shape, int size) {
            sizes.set(shape, size);
        }

        /** Compares without a sum of both, since a start may be any number. */
        boolean holds(int start, int size) {
            return start >= 0 && start <= limit - size;
        }

        boolean meets(int shape, int start, int size) {
            return start < starts.get(shape) + sizes.get(shape) && starts.get(shape) < start + size;
        }

        int gapBetween(int shape, int other) {
            int start = starts.get(shape);
            int otherStart = starts.get(other);
            int gapBehind = otherStart - (start + sizes.get(shape));
            int gapBefore = start - (otherStart + sizes.get(other));
            return Math.max(0, Math.max(gapBehind, gapBefore));
        }

        /** Returns twice the place of an edge, which is a whole number for the middle too. */
        int twiceEdge(int shape, int edge) {
            return 2 * starts.get(shape) + edge * sizes.get(shape);
        }

        void listSnaps(int shape, Row snaps) {
            snaps.clear();
            snaps.insert(starts.get(shape));
            for (int other = 0; other < starts.length(); other++) {
                for (int edge = START_EDGE; edge <= END_EDGE && other != shape; edge++) {
                    int twiceStart = 2 * starts.get(other) + edge * (sizes.get(other) - sizes.get(shape));
                    if (twiceStart % 2 == 0 && !snaps.contains(twiceStart / 2)) {
                        snaps.insert(twiceStart / 2);
                    }
                }
            }
        }

        void listGuides(Row guides) {
            guides.clear();
            for (int shape = 0; shape < starts.length(); shape++) {
                for (int edge = START_EDGE; edge <= END_EDGE; edge++) {
                    int number = twiceEdge(shape, edge);
                    if (isEdgeOfLower(shape, number) && !guides.contains(number)) {
                        guides.insert(number);
                    }
                }
            }
        }

        private boolean isEdgeOfLower(int shape, int number) {
            for (int other = 0; other < shape; other++) {
                for (int edge = START_EDGE; edge <= END_EDGE; edge++) {
                    if (twiceEdge(other, edge) == number) {
                        return true;
                    }
                }
            }
            return false;
        }
    }

    /** All wishes that were ever added, the dropped ones too, since their numbers stay taken. */
    private static final class Wishes {
        private final Row kinds = new Row(MAX_WISHES);
        private final Row shapes = new Row(MAX_WISHES);
        private final Row others = new Row(MAX_WISHES);
        private final Row strengths = new Row(MAX_WISHES);
        private final Row drops = new Row(MAX_WISHES);

        static boolean isKind(int kind) {
            return isKindAcross(kind) || kind == 't' || kind == 'm' || kind == 'b';
        }

        private static boolean isKindAcross(int kind) {
            return kind == 'l' || kind == 'c' || kind == 'r';
        }

        int addedCount() {
            return kinds.length();
        }

        void append(char kind, int shape, int other, int strength) {
            kinds.append(kind);
            shapes.append(shape);
            others.append(other);
            strengths.append(strength);
            drops.append(0);
        }

        void remove(int wish) {
            drops.set(wish, 1);
        }

        boolean isThere(int wish) {
            return wish >= 0 && wish < kinds.length() && drops.get(wish) == 0;
        }

        int presentCount() {
            int count = 0;
            for (int wish = 0; wish < addedCount(); wish++) {
                if (isThere(wish)) {
                    count++;
                }
            }
            return count;
        }

        char axisAt(int wish) {
            return isKindAcross(kinds.get(wish)) ? 'x' : 'y';
        }

        int edgeAt(int wish) {
            int kind = kinds.get(wish);
            if (kind == 'l' || kind == 't') {
                return START_EDGE;
            }
            return kind == 'c' || kind == 'm' ? MIDDLE_EDGE : END_EDGE;
        }

        int shapeAt(int wish) {
            return shapes.get(wish);
        }

        int otherAt(int wish) {
            return others.get(wish);
        }

        int strengthAt(int wish) {
            return strengths.get(wish);
        }

        boolean holdsIn(Axis along, int wish) {
            int edge = edgeAt(wish);
            return along.twiceEdge(shapeAt(wish), edge) == along.twiceEdge(otherAt(wish), edge);
        }
    }

    /** For each shape, in ascending order, the starts that a tidy layout may give to it. */
    private static final class Choices {
        private final Row starts = new Row(MAX_SHAPES * MAX_SNAPS);
        private final Row counts = new Row(MAX_SHAPES);
        private final Row snapList = new Row(MAX_SNAPS);

        void load(Axis along, Row locks) {
            counts.clear();
            for (int shape = 0; shape < along.count(); shape++) {
                along.listSnaps(shape, snapList);
                int kept = 0;
                for (int index = 0; index < snapList.length(); index++) {
                    int start = snapList.get(index);
                    boolean isFree = locks.get(shape) == 0 || start == along.startAt(shape);
                    if (isFree && along.holds(start, along.sizeAt(shape))) {
                        starts.set(shape * MAX_SNAPS + kept, start);
                        kept++;
                    }
                }
                counts.append(kept);
            }
        }

        int count(int shape) {
            return counts.get(shape);
        }

        int start(int shape, int index) {
            return starts.get(shape * MAX_SNAPS + index);
        }
    }

    /** What makes a layout along one axis allowed, if each of its starts lies on the slide, and strong. */
    private static final class Rules {
        private final Row sizes = new Row(MAX_SHAPES);
        private final Row barFirsts = new Row(MAX_PAIRS);
        private final Row barSeconds = new Row(MAX_PAIRS);
        private final Row wishFirsts = new Row(MAX_WISHES);
        private final Row wishSeconds = new Row(MAX_WISHES);
        private final Row wishEdges = new Row(MAX_WISHES);
        private final Row wishStrengths = new Row(MAX_WISHES);

        /** Bars the pairs that share units of the other axis: they alone can overlap by a layout of this one. */
        void load(Axis along, Axis other) {
            sizes.clear();
            barFirsts.clear();
            barSeconds.clear();
            for (int second = 0; second < along.count(); second++) {
                sizes.append(along.sizeAt(second));
                for (int first = 0; first < second; first++) {
                    if (other.meets(first, other.startAt(second), other.sizeAt(second))) {
                        barFirsts.append(first);
                        barSeconds.append(second);
                    }
                }
            }
        }

        void loadWishes(Wishes wishes, char axis) {
            wishFirsts.clear();
            wishSeconds.clear();
            wishEdges.clear();
            wishStrengths.clear();
            for (int wish = 0; wish < wishes.addedCount(); wish++) {
                if (wishes.isThere(wish) && wishes.axisAt(wish) == axis) {
                    wishFirsts.append(Math.min(wishes.shapeAt(wish), wishes.otherAt(wish)));
                    wishSeconds.append(Math.max(wishes.shapeAt(wish), wishes.otherAt(wish)));
                    wishEdges.append(wishes.edgeAt(wish));
                    wishStrengths.append(wishes.strengthAt(wish));
                }
            }
        }

        /** Returns whether none of the shapes from one number to another overlaps a lower-numbered one. */
        boolean keepsApart(Row layout, int from, int to) {
            for (int bar = 0; bar < barFirsts.length(); bar++) {
                int first = barFirsts.get(bar);
                int second = barSeconds.get(bar);
                if (second >= from && second <= to
                        && layout.get(first) < layout.get(second) + sizes.get(second)
                        && layout.get(second) < layout.get(first) + sizes.get(first)) {
                    return false;
                }
            }
            return true;
        }

        /** Returns the strength of the wishes of the shapes from one number to another with lower-numbered ones. */
        int strengthOf(Row layout, int from, int to) {
            int sum = 0;
            for (int wish = 0; wish < wishFirsts.length(); wish++) {
                int first = wishFirsts.get(wish);
                int second = wishSeconds.get(wish);
                int edge = wishEdges.get(wish);
                if (second >= from && second <= to
                        && 2 * layout.get(first) + edge * sizes.get(first)
                        == 2 * layout.get(second) + edge * sizes.get(second)) {
                    sum += wishStrengths.get(wish);
                }
            }
            return sum;
        }

        /** Returns the strength of the wishes of the shapes from a number on, as if all of them were met. */
        int strengthAtMost(int from) {
            int sum = 0;
            for (int wish = 0; wish < wishFirsts.length(); wish++) {
                if (wishSeconds.get(wish) >= from) {
                    sum += wishStrengths.get(wish);
                }
            }
            return sum;
        }
    }

    /** Looks for the tidiest layout along one axis. */
    private static final class TidySearch {
        private final Choices choices = new Choices();
        private final Rules rules = new Rules();
        private final Row present = new Row(MAX_SHAPES);
        private final Row layout = new Row(MAX_SHAPES);
        private final Row picks = new Row(MAX_SHAPES);
        private final Row tidiest = new Row(MAX_SHAPES);
        private int tidiestStrength;
        private int tidiestCost;

        void load(Axis along, Axis other, Row locks) {
            choices.load(along, locks);
            rules.load(along, other);
            present.clear();
            for (int shape = 0; shape < along.count(); shape++) {
                present.append(along.startAt(shape));
            }
        }

        void loadWishes(Wishes wishes, char axis) {
            rules.loadWishes(wishes, axis);
        }

        int foundStrength() {
            return tidiestStrength;
        }

        int foundCost() {
            return tidiestCost;
        }

        int foundStart(int shape) {
            return tidiest.get(shape);
        }

        /** Begins with the present layout, which is tidy: no other one is as cheap, so it takes the place of none. */
        void searchTidiest() {
            keep(present, rules.strengthOf(present, 0, MAX_SHAPES), 0);
            placeFrom(0, 0, 0);
        }

        /** Goes through the layouts so that of two equal ones the one with the lower starts comes first. */
        private void placeFrom(int shape, int strength, int cost) {
            if (!isTidier(strength + rules.strengthAtMost(shape), cost)) {
                return;
            }
            if (shape >= present.length() || shape >= MAX_SHAPES) {
                keep(layout, strength, cost);
                return;
            }
            for (int index = 0; index < choices.count(shape); index++) {
                placeAt(shape, choices.start(shape, index), strength, cost);
            }
        }

        private void placeAt(int shape, int start, int strength, int cost) {
            layout.set(shape, start);
            if (rules.keepsApart(layout, shape, shape)) {
                placeFrom(shape + 1, strength + rules.strengthOf(layout, shape, shape),
                        cost + Math.abs(start - present.get(shape)));
            }
        }

        private boolean isTidier(int strength, int cost) {
            return strength > tidiestStrength || strength == tidiestStrength && cost < tidiestCost;
        }

        private void keep(Row starts, int strength, int cost) {
            for (int shape = 0; shape < present.length(); shape++) {
                tidiest.set(shape, starts.get(shape));
            }
            tidiestStrength = strength;
            tidiestCost = cost;
        }

        int greatestStrengthOfAll() {
            int layouts = 1;
            for (int shape = 0; shape < present.length(); shape++) {
                layouts *= choices.count(shape);
                pick(shape, 0);
            }
            int greatest = 0;
            for (int number = 0; number < layouts; number++) {
                if (rules.keepsApart(layout, 0, MAX_SHAPES)) {
                    greatest = Math.max(greatest, rules.strengthOf(layout, 0, MAX_SHAPES));
                }
                pickNextLayout();
            }
            return greatest;
        }

        /** Counts on by one, the picks being the digits. */
        private void pickNextLayout() {
            boolean carries = true;
            for (int shape = 0; shape < present.length() && carries; shape++) {
                int next = picks.get(shape) + 1;
                carries = next >= choices.count(shape);
                pick(shape, carries ? 0 : next);
            }
        }

        private void pick(int shape, int index) {
            picks.set(shape, index);
            layout.set(shape, choices.start(shape, index));
        }
    }

    /** Looks for the evenest layout along one axis; a place is the index of a shape in their order. */
    private static final class EvenSearch {
        private final Row order = new Row(MAX_SHAPES);
        private final Row starts = new Row(MAX_SHAPES);
        private final Row sizesBefore = new Row(MAX_SHAPES);
        private final Row lockMarks = new Row(MAX_SHAPES);
        private final Row stays = new Row(MAX_SHAPES);
        private int freeUnits;
        private int evenestCost;
        private int evenestGap;
        private int evenestStart;

        void load(Axis along, Row locks) {
            listOrder(along);
            starts.clear();
            sizesBefore.clear();
            lockMarks.clear();
            int sizes = 0;
            for (int place = 0; place < order.length(); place++) {
                int shape = order.get(place);
                starts.append(along.startAt(shape));
                sizesBefore.append(sizes);
                lockMarks.append(locks.get(shape));
                sizes += along.sizeAt(shape);
            }
            freeUnits = along.limit() - sizes;
        }

        /** Sorts start and number together as one number, so that shapes with the same start are in order too. */
        private void listOrder(Axis along) {
            order.clear();
            for (int shape = 0; shape < along.count(); shape++) {
                order.insert(along.startAt(shape) * MAX_SHAPES + shape);
            }
            for (int place = 0; place < order.length(); place++) {
                order.set(place, order.get(place) % MAX_SHAPES);
            }
        }

        /** Returns NONE if there is no even layout. */
        int foundCost() {
            return evenestCost;
        }

        int foundGap() {
            return evenestGap;
        }

        int foundStart(int place) {
            return startInPlace(place, evenestStart, evenestGap);
        }

        int shapeInPlace(int place) {
            return order.get(place);
        }

        void searchBestStarts() {
            evenestCost = NONE;
            for (int gap = 0; gap <= freeUnits && order.length() >= 2; gap++) {
                int start = bestStart(gap);
                if (start != NONE) {
                    compare(start, gap);
                }
            }
        }

        void searchAll() {
            evenestCost = NONE;
            for (int gap = 0; gap <= freeUnits && order.length() >= 2; gap++) {
                for (int start = 0; start <= lastStart(gap); start++) {
                    if (keepsLocks(start, gap)) {
                        compare(start, gap);
                    }
                }
            }
        }

        /** Comes with lower gaps first, then with lower starts: so an equal cost is no better. */
        private void compare(int start, int gap) {
            int cost = costOf(start, gap);
            if (evenestCost == NONE || cost < evenestCost) {
                evenestCost = cost;
                evenestGap = gap;
                evenestStart = start;
            }
        }

        private int lastStart(int gap) {
            return freeUnits - gap * (order.length() - 1);
        }

        private int startInPlace(int place, int start, int gap) {
            return start + sizesBefore.get(place) + gap * place;
        }

        private int costOf(int start, int gap) {
            int cost = 0;
            for (int place = 0; place < order.length(); place++) {
                cost += Math.abs(startInPlace(place, start, gap) - starts.get(place));
            }
            return cost;
        }

        private boolean keepsLocks(int start, int gap) {
            for (int place = 0; place < order.length(); place++) {
                if (lockMarks.get(place) != 0 && startInPlace(place, start, gap) != starts.get(place)) {
                    return false;
                }
            }
            return true;
        }

        /**
         * Returns the lowest one of the first shape's starts that cost the least for a gap, or NONE. The cost is a sum
         * of distances from the starts that would let one shape each stay: it is least at their median, and grows on
         * both sides, so that the nearest allowed start is the best one.
         */
        private int bestStart(int gap) {
            if (lastStart(gap) < 0) {
                return NONE;
            }
            stays.clear();
            for (int place = 0; place < order.length(); place++) {
                stays.insert(stayOf(place, gap));
            }
            int best = stays.get((stays.length() - 1) / 2);
            for (int place = 0; place < order.length(); place++) {
                if (lockMarks.get(place) != 0) {
                    best = stayOf(place, gap);
                }
            }
            int start = Math.max(0, Math.min(best, lastStart(gap)));
            return keepsLocks(start, gap) ? start : NONE;
        }

        /** Returns the first shape's start with which the shape in a place stays where it is. */
        private int stayOf(int place, int gap) {
            return starts.get(place) - startInPlace(place, 0, gap);
        }
    }

    /** Groups the shapes by nearness. */
    private static final class Groups {
        private final Row lowest = new Row(MAX_SHAPES);
        private final Row reached = new Row(MAX_SHAPES);

        static int unitsBetween(Axis across, Axis down, int shape, int other) {
            return Math.max(across.gapBetween(shape, other), down.gapBetween(shape, other));
        }

        int lowestOfGroup(int shape) {
            return lowest.get(shape);
        }

        /** Begins each group at its lowest shape, since it comes to the shapes in ascending order. */
        int countByGoing(Axis across, Axis down, int distance) {
            lowest.clear();
            for (int shape = 0; shape < across.count(); shape++) {
                lowest.append(NONE);
            }
            int groups = 0;
            for (int shape = 0; shape < across.count(); shape++) {
                if (lowest.get(shape) == NONE) {
                    goFrom(shape, across, down, distance);
                    groups++;
                }
            }
            return groups;
        }

        private void goFrom(int lowestShape, Axis across, Axis down, int distance) {
            reached.clear();
            reached.append(lowestShape);
            lowest.set(lowestShape, lowestShape);
            for (int step = 0; step < reached.length() && step < MAX_SHAPES; step++) {
                int shape = reached.get(step);
                for (int other = 0; other < across.count(); other++) {
                    if (lowest.get(other) == NONE && unitsBetween(across, down, shape, other) <= distance) {
                        lowest.set(other, lowestShape);
                        reached.append(other);
                    }
                }
            }
        }

        int countByJoining(Axis across, Axis down, int distance) {
            lowest.clear();
            for (int shape = 0; shape < across.count(); shape++) {
                lowest.append(shape);
            }
            int groups = across.count();
            for (int shape = 0; shape < across.count(); shape++) {
                for (int other = 0; other < shape; other++) {
                    if (lowest.get(other) != lowest.get(shape)
                            && unitsBetween(across, down, shape, other) <= distance) {
                        join(lowest.get(shape), lowest.get(other));
                        groups--;
                    }
                }
            }
            return groups;
        }

        private void join(int one, int another) {
            int lower = Math.min(one, another);
            for (int shape = 0; shape < lowest.length(); shape++) {
                if (lowest.get(shape) == one || lowest.get(shape) == another) {
                    lowest.set(shape, lower);
                }
            }
        }
    }
}
