import java.util.NoSuchElementException;

/** All that can be seen of an object by calls that change nothing, as one text. */
final class Sight {
    private Sight() {
    }

    static String of(SlideLayout slide) {
        StringBuilder text = new StringBuilder();
        int shapes = shapeCount(slide);
        for (int shape = 0; shape < shapes; shape++) {
            text.append(slide.startOf(shape, 'x')).append(' ').append(slide.startOf(shape, 'y')).append(' ');
            text.append(slide.sizeOf(shape, 'x')).append(' ').append(slide.sizeOf(shape, 'y')).append(' ');
            text.append(slide.moveReason(shape, -1, -1)).append(slide.growReason(shape));
            text.append(slide.fits(shape)).append(" / ");
        }
        for (int wish = 0; wish <= 8; wish++) {
            text.append(metOrNot(slide, wish)).append(' ');
        }
        for (char axis : new char[] {'x', 'y'}) {
            text.append(slide.strength(axis)).append(' ').append(slide.bestStrength(axis)).append(' ');
        }
        return text.append(slide.moved()).toString();
    }

    static int shapeCount(SlideLayout slide) {
        for (int shape = 0; shape < 4; shape++) {
            try {
                slide.startOf(shape, 'x');
            } catch (IndexOutOfBoundsException e) {
                return shape;
            }
        }
        return 4;
    }

    private static String metOrNot(SlideLayout slide, int wish) {
        try {
            return slide.isMet(wish) ? "met" : "unmet";
        } catch (NoSuchElementException e) {
            return "none";
        }
    }
}
