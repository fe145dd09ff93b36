/** Boundary cases of "Terms", part 1: keys, taper, rings, wishes. The text itself is in BoundsTextTest. */
public final class BoundsLineTest {
    private static final int BAD = RingSteer.BAD, FULL = RingSteer.FULL, NONE = RingSteer.NONE, NO = RingSteer.NO;

    public static void main(String[] args) {
        keys();
        leans();
        taper();
        taperAtFirst();
        ringsThatAreBuilt();
        twelveRingsAtMost();
        behindRingZero();
        slopesAndPlacesFromRingOne();
        placesOfWishes();
        numbersOfWishes();
        wishesAtFirst();
        placeZero();
        firstAndLastAim();
        Check.end("BoundsLineTest");
    }

    private static void keys() {
        Check.of("KEYS 0 to 7");
        for (int key : new int[] {-1, 8}) {
            Still.due(Still::rich, "builds(" + key + ")", BAD, x -> x.builds(key));
            Still.due(Still::rich, "trying(" + key + ")", BAD, x -> x.trying(key));
        }
        for (int key : new int[] {0, 7}) {
            RingSteer x = new RingSteer();
            Check.due("trying(" + key + ")", 2, x.trying(key));
            Check.due("builds(" + key + ")", 2, x.builds(key));
            Check.due("ring(1, 0)", key, x.ring(1, 0));
        }
        Check.due("no bit but those of 0 to 7", 0xff, new RingSteer().count(5));
    }

    private static void leans() {
        Check.of("each with a LEAN: 0 (2, 0), 1 (1, 1), 2 (0, 2), 3 (-1, 1), 4 (-2, 0), 5 (-1, -1), 6 (0, -2), 7 (1, -1)");
        int[] leanX = {2, 1, 0, -1, -2, -1, 0, 1};
        int[] leanY = {0, 1, 2, 1, 0, -1, -2, -1};
        for (int key = 0; key <= 7; key++) {
            RingSteer x = new RingSteer();
            Check.build(x, key);
            Check.due("x of key " + key, leanX[key], x.ring(1, 1));
            Check.due("y of key " + key, leanY[key], x.ring(1, 2));
        }
    }

    private static void taper() {
        Check.of("TAPER times (1 .. 3");
        for (int taper = 1; taper <= 3; taper++) {
            RingSteer x = Check.told("t" + taper + ";k0;k3;");
            Check.due("count(1)", taper, x.count(1));
            Check.due("x of ring 1", 2 * taper, x.ring(1, 1));
            Check.due("x of ring 2", taper, x.ring(2, 1));
            Check.due("y of ring 2", taper, x.ring(2, 2));
        }
        for (int taper : new int[] {0, 4}) {
            Still.due(() -> Still.withText("t" + taper + ";"), "tunnel() of t " + taper, -11, RingSteer::tunnel);
        }
    }

    private static void taperAtFirst() {
        Check.of("TAPER .. 1 at first");
        Check.due("count(1)", 1, new RingSteer().count(1));
        Check.due("count(1) when the text tells none", 1, Check.told("b1;").count(1));
        RingSteer x = Check.told("t3;");
        Check.due("tunnel() of nothing", 0, x.tunnel());
        Check.due("count(1) read anew", 1, x.count(1));
    }

    private static void ringsThatAreBuilt() {
        Check.of("RINGS 1, 2, .. (.. those that are built)");
        RingSteer x = new RingSteer();
        for (int n = 0; n <= 12; n++) {
            Check.due("count(0)", n, x.count(0));
            Check.due("the last one's key", n == 0 ? NONE : n % 8, x.ring(n, 0));
            Check.due("the one behind it", NO, x.ring(n + 1, 0));
            if (n < 12) {
                Check.build(x, (n + 1) % 8);
            }
        }
    }

    private static void twelveRingsAtMost() {
        Check.of("RINGS 1, 2, .. (12 at most");
        RingSteer x = new RingSteer();
        for (int n = 1; n <= 12; n++) {
            Check.holds("ring " + n + " is built", x.builds(n % 8) >= 0);
        }
        Check.due("ring 13", FULL, x.builds(5));
        Check.due("count(0)", 12, x.count(0));
        Still.due(Still::fullOfRings, "builds(5) behind ring 12", FULL, y -> y.builds(5));
        Still.due(Still::fullOfRings, "follows(1) behind ring 12", FULL, y -> y.follows(1));
        RingSteer eleven = Still.fullOfRings();
        eleven.undo();
        Check.holds("follows(1) behind ring 11", eleven.follows(1) >= 0);
        Check.due("follows(1) behind it", FULL, eleven.follows(1));
    }

    private static void behindRingZero() {
        Check.of("behind RING 0 both are (0, 0)");
        for (RingSteer x : new RingSteer[] {new RingSteer(), Still.rich(), Still.fullOfRings()}) {
            for (int what = 1; what <= 4; what++) {
                Check.due("ring(0, " + what + ")", 0, x.ring(0, what));
                Check.due("ring(-1, " + what + ")", NO, x.ring(-1, what));
            }
        }
    }

    private static void slopesAndPlacesFromRingOne() {
        Check.of("SLOPE (the sum of LEANS of RINGS 1 to i) .. PLACE (the sum of SLOPES behind RINGS 1 to i)");
        RingSteer x = Check.told("t3;b0;");
        for (int i = 1; i <= 12; i++) {
            Check.build(x, 6);
            Check.due("ring(" + i + ", 1)", 0, x.ring(i, 1));
            Check.due("ring(" + i + ", 2)", -6 * i, x.ring(i, 2));
            Check.due("ring(" + i + ", 3)", 0, x.ring(i, 3));
            Check.due("ring(" + i + ", 4)", -3 * i * (i + 1), x.ring(i, 4));
        }
        Check.due("ring 1 is as it was", -6, x.ring(1, 4));
    }

    private static void placesOfWishes() {
        Check.of("WISHES: places 1 to 17");
        for (int place : new int[] {-1, 0, 18}) {
            Still.due(Still::rich, "wishes(" + place + ", 5, 5)", BAD, x -> x.wishes(place, 5, 5));
        }
        for (int place : new int[] {-1, 18}) {
            Still.due(Still::rich, "wish(" + place + ", 0)", NO, x -> x.wish(place, 0));
            Still.due(Still::rich, "wish(" + place + ", 1)", NO, x -> x.wish(place, 1));
        }
        RingSteer x = new RingSteer();
        for (int place = 1; place <= 17; place++) {
            Check.due("wishes(" + place + ", ..)", 1, x.wishes(place, place, -place));
        }
        for (int place = 0; place <= 17; place++) {
            Check.due("wish(" + place + ", 0)", place, x.wish(place, 0));
            Check.due("wish(" + place + ", 1)", -place, x.wish(place, 1));
        }
    }

    private static void numbersOfWishes() {
        Check.of("(-99 .. 99, -99 .. 99)");
        for (int n : new int[] {-100, 100}) {
            Still.due(Still::rich, "wishes(1, " + n + ", 0)", BAD, x -> x.wishes(1, n, 0));
            Still.due(Still::rich, "wishes(1, 0, " + n + ")", BAD, x -> x.wishes(1, 0, n));
            Still.due(Still::rich, "wishes(17, " + n + ", " + n + ")", BAD, x -> x.wishes(17, n, n));
        }
        for (int n : new int[] {-99, 99}) {
            RingSteer x = new RingSteer();
            Check.due("wishes(1, " + n + ", 0)", 1, x.wishes(1, n, 0));
            Check.due("wish(1, 0)", n, x.wish(1, 0));
            Check.due("wishes(1, 0, " + n + ")", 1, x.wishes(1, 0, n));
            Check.due("wish(1, 1)", n, x.wish(1, 1));
            RingSteer y = Check.told("w" + n + " " + -n + ";");
            Check.due("wish(1, 0) by the text", n, y.wish(1, 0));
            Check.due("wish(1, 1) by the text", -n, y.wish(1, 1));
        }
    }

    private static void wishesAtFirst() {
        Check.of("WISHES .. (0, 0) at first");
        RingSteer told = Check.told("w1 2;".repeat(17));
        Check.due("wish(17, 1) as told", 2, told.wish(17, 1));
        Check.due("tunnel() of nothing", 0, told.tunnel());
        for (RingSteer x : new RingSteer[] {new RingSteer(), told}) {
            for (int place = 1; place <= 17; place++) {
                Check.due("wish(" + place + ", 0)", 0, x.wish(place, 0));
                Check.due("wish(" + place + ", 1)", 0, x.wish(place, 1));
                Check.due("it is that", RingSteer.STATE, x.wishes(place, 0, 0));
            }
        }
    }

    private static void placeZero() {
        Check.of("place 0 is (0, 0)");
        for (RingSteer x : new RingSteer[] {new RingSteer(), Still.rich(), Check.told("w9 9;")}) {
            Check.due("wish(0, 0)", 0, x.wish(0, 0));
            Check.due("wish(0, 1)", 0, x.wish(0, 1));
        }
        Still.due(Still::rich, "wishes(0, 0, 0)", BAD, x -> x.wishes(0, 0, 0));
        Still.due(Still::rich, "wishes(0, 1, 1)", BAD, x -> x.wishes(0, 1, 1));
    }

    /** Ring 1 takes place 0; the seventeenth ring, which a plan alone can reach, takes place 17. */
    private static void firstAndLastAim() {
        Check.of("AIM of RING i: place i less place i less 1");
        Check.due("key 7 is 4 apart from ring 1's aim", 8, Check.told("m4;w5-5;").builds(7));
        Check.due("and has no room in 3", RingSteer.STATE, Check.told("m3;w5-5;").builds(7));
        // The aim of ring 2 is (3, 0) and the slope (1, 1): keys 0 and 7 bring it near enough.
        Check.due("ring 2 takes places 1 and 2", 0x81, Check.told("m1;w1 1;w4 1;k1;").count(5));
        RingSteer x = Check.told("b0;");
        Check.build(x, 0, 4, 0, 4, 0, 4, 0, 4, 0, 4, 0, 4);
        x.rules(2, 2);
        // Behind ring 16 the slope is at most 2, so behind ring 17 at most 4.
        x.wishes(17, 6, 0);
        Check.holds("ring 17 has room at an aim of 6", x.plan(5, -2) > 0);
        x.wishes(17, 7, 0);
        Check.due("and none at 7", NONE, x.plan(5, -2));
        Check.holds("four rings ahead have room", x.plan(4, -2) > 0);
        x.wishes(16, 1, 0);
        Check.holds("for the aim is 6 again when place 16 is nearer", x.plan(5, -2) > 0);
    }
}
