/** Promises 19 to 21: keep, back, count. */
public final class ImageTest {
    private static final int BAD = RingSteer.BAD, STATE = RingSteer.STATE;
    private static final int FAR = Integer.MAX_VALUE, LOW = Integer.MIN_VALUE;

    public static void main(String[] args) {
        badImages();
        keepingAndGoingBack();
        twoImages();
        whatImagesDoNotKeep();
        imagesAreCopies();
        twelveRings();
        counting();
        Check.end("ImageTest");
    }

    private static void badImages() {
        RingSteer x = new RingSteer();
        for (int image : new int[] {-1, 2, FAR, LOW}) {
            Check.due("keep(" + image + ")", BAD, x.keep(image));
            Check.due("back(" + image + ")", BAD, x.back(image));
        }
        Check.due("back(0)", STATE, x.back(0));
        Check.due("keep(0)", 0, x.keep(0));
        Check.due("back(1)", STATE, x.back(1));
        Check.due("back(0)", 0, x.back(0));
    }

    private static void keepingAndGoingBack() {
        RingSteer x = Check.told("t3;b2;j1;m19;w1 1;k1;");
        x.builds(4);
        Check.due("keep(1)", 2, x.keep(1));
        Check.due("keeping can't be undone, nor is a deed lost", 1, x.count(9));
        int cost = x.count(6);
        int place = x.ring(2, 3);
        x.undo();
        x.builds(7);
        x.wishes(1, 2, 2);
        x.wishes(17, 2, 2);
        x.rules(0, 0);
        x.rules(1, 0);
        x.rules(2, 0);
        x.builds(7);
        Check.due("back(1)", 2, x.back(1));
        Check.dueCounts(x, "back", 2, 3, 2, 1, 19, x.count(5), cost, 0, 0, 0);
        Check.due("count(5)", 0xff & ~0x11, x.count(5));
        Check.due("ring(1, 0)", 1, x.ring(1, 0));
        Check.due("ring(2, 0)", 4, x.ring(2, 0));
        Check.due("ring(2, 3)", place, x.ring(2, 3));
        Check.due("ring(3, 0)", RingSteer.NO, x.ring(3, 0));
        Check.due("wish(1, 0)", 1, x.wish(1, 0));
        Check.due("wish(17, 0)", 0, x.wish(17, 0));
        Check.due("undo()", STATE, x.undo());
    }

    private static void twoImages() {
        RingSteer x = new RingSteer();
        x.builds(0);
        Check.due("keep(0)", 1, x.keep(0));
        x.builds(1);
        Check.due("keep(1)", 2, x.keep(1));
        x.builds(2);
        Check.due("back(0)", 1, x.back(0));
        Check.due("back(1)", 2, x.back(1));
        Check.due("ring(2, 0)", 1, x.ring(2, 0));
        Check.due("back(0) again", 1, x.back(0));
        x.builds(5);
        x.builds(6);
        Check.due("keep(0) over it", 3, x.keep(0));
        Check.due("back(1)", 2, x.back(1));
        Check.due("back(0)", 3, x.back(0));
        Check.due("ring(3, 0)", 6, x.ring(3, 0));
    }

    private static void whatImagesDoNotKeep() {
        RingSteer x = Check.told("k0;");
        x.keep(0);
        x.sees(1, 1);
        x.type('k');
        x.back(0);
        Check.due("what is seen stays", 1, x.count(7));
        Check.due("unseen(1)", 1 << 1, x.unseen(1));
        Check.due("the text stays", 1, x.count(8));
    }

    private static void imagesAreCopies() {
        RingSteer x = Check.told("w1 1;k1;");
        x.keep(0);
        x.back(0);
        x.undo();
        x.wishes(1, 5, 5);
        x.rules(0, 0);
        x.builds(1);
        x.back(0);
        Check.due("count(0)", 1, x.count(0));
        Check.due("wish(1, 0)", 1, x.wish(1, 0));
        Check.due("count(2)", 1, x.count(2));
        Check.due("builds(2)", Check.told("w1 1;k1;").builds(2), x.builds(2));
        Check.due("undo()", 0, x.undo());
    }

    private static void twelveRings() {
        RingSteer x = Check.told("b0;");
        Check.build(x, 0, 4, 0, 4, 0, 4, 0, 4, 0, 4, 0, 2);
        Check.due("keep(0)", 12, x.keep(0));
        Check.due("cost of all", 2 * (2 + 4 + 6 + 8 + 10) + 12 + 16, x.count(6));
        x.undo();
        x.builds(6);
        Check.due("back(0)", 12, x.back(0));
        Check.due("ring(12, 0)", 2, x.ring(12, 0));
        Check.due("ring(12, 4)", 2, x.ring(12, 4));
        Check.due("worst(0)", 12, x.worst(0));
        Check.due("worst(11)", 2, x.worst(11));
        Check.due("worst(12)", RingSteer.NONE, x.worst(12));
    }

    private static void counting() {
        RingSteer x = Check.told("t2;b3;j2;m12;w3 3;w3 3;k0;");
        for (int what : new int[] {-1, 10, FAR, LOW}) {
            Check.due("count(" + what + ")", BAD, x.count(what));
        }
        x.builds(2);
        x.sees(1, 2);
        x.type(32);
        x.type(32);
        // Places (4, 0), (8, 4); behind ring 2 the keys 1, 2, 3 are barred.
        // The aim of ring 3 is (-3, -3), the slope is (4, 4): keys 0 (8, 4), 7 (6, 2), .. have room up to 12.
        Check.dueCounts(x, "counted", 2, 2, 3, 2, 12, 0xff & ~0x0e, 10 + 26, 1, 2, 1);
        x.rules(2, 8);
        Check.due("count(5)", 0xff & ~0x0f & ~0x80, x.count(5));
    }
}
