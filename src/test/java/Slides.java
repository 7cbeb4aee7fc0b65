/** Makes slides for tests. */
abstract class Slides {
    /** Makes a slide with shapes, each one given as left, top, width and height. */
    static SlideLayout slide(int... numbers) {
        SlideLayout slide = new SlideLayout();
        for (int i = 0; i + 3 < numbers.length; i += 4) {
            slide.addShape(numbers[i], numbers[i + 1], numbers[i + 2], numbers[i + 3]);
        }
        return slide;
    }

    /** Makes a slide with three shapes that meet no other one by whatever way they are moved along one axis. */
    static SlideLayout stairs() {
        return slide(0, 0, 20, 10, 50, 20, 30, 12, 120, 40, 40, 15);
    }
}
