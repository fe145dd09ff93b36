/** Promises 1 to 4: a new object, type, clear, tunnel. */
public final class TextTest {
    private static final int BAD = RingSteer.BAD, STATE = RingSteer.STATE, FULL = RingSteer.FULL;

    public static void main(String[] args) {
        newObject();
        typing();
        clearing();
        goodTexts();
        faultsOfTokens();
        faultsOfNumbers();
        faultsOfOrder();
        faultsOfKeys();
        textsThatEndEarly();
        readInOrder();
        readAnew();
        readTwice();
        faultChangesNothing();
        Check.end("TextTest");
    }

    private static void newObject() {
        RingSteer x = new RingSteer();
        Check.dueCounts(x, "new", 0, 1, 1, 0, 0, 255, 0, 0, 0, 0, BAD);
        for (int place = 0; place <= 17; place++) {
            Check.due("new: wish(" + place + ", 0)", 0, x.wish(place, 0));
            Check.due("new: wish(" + place + ", 1)", 0, x.wish(place, 1));
        }
        Check.due("new: back(0)", STATE, x.back(0));
        Check.due("new: back(1)", STATE, x.back(1));
        Check.due("new: undo()", STATE, x.undo());
        Check.due("new: ring(1, 0)", RingSteer.NO, x.ring(1, 0));
    }

    private static void typing() {
        RingSteer x = new RingSteer();
        Check.due("type(-1)", BAD, x.type(-1));
        Check.due("type(256)", BAD, x.type(256));
        Check.due("type(least)", BAD, x.type(Integer.MIN_VALUE));
        Check.due("type(most)", BAD, x.type(Integer.MAX_VALUE));
        Check.due("type(0)", 1, x.type(0));
        Check.due("type(255)", 2, x.type(255));
        for (int n = 3; n <= 120; n++) {
            Check.due("letter " + n, n, x.type(' '));
        }
        Check.due("letter 121", FULL, x.type(' '));
        Check.due("BAD is ahead of FULL", BAD, x.type(256));
        Check.due("count(8)", 120, x.count(8));
    }

    private static void clearing() {
        RingSteer x = new RingSteer();
        Check.due("clear() of nothing", 0, x.clear());
        Check.tell(x, "k9");
        Check.due("clear()", 2, x.clear());
        Check.due("count(8)", 0, x.count(8));
        Check.due("clear() again", 0, x.clear());
        Check.due("type", 1, x.type('k'));
    }

    private static void reads(String text, int want) {
        RingSteer x = new RingSteer();
        Check.tell(x, text);
        Check.due("tunnel() of '" + text + "'", want, x.tunnel());
        Check.due("letters behind '" + text + "'", want < 0 ? text.length() : 0, x.count(8));
    }

    private static void fault(String text, int place) {
        reads(text, -10 - place);
    }

    private static void goodTexts() {
        reads("", 0);
        reads("   ", 0);
        reads("t3;", 1);
        reads(" t 1 ; b 0 ; j 2 ; m 20 ; w - 18 20 ; k 0 ; ", 6);
        reads("m0;j0;b3;t2;", 4);
        reads("w1 2;t2;w3 4;b0;k1;w5 6;k1;", 7);
        reads("w10-1;w-1-1;w-0 0;w0-0;", 4);
        reads("k0;k1;k2;k3;k4;k5;k6;k7;k0;k1;k2;k3;", 12);
        reads("w0 1;".repeat(17), 17);
    }

    private static void faultsOfTokens() {
        fault(";", 0);
        fault(" ;", 1);
        fault("1", 0);
        fault("-", 0);
        fault("x", 0);
        fault("T1;", 0);
        fault("\tt1;", 0);
        fault("t1;;", 3);
        fault("t;", 1);
        fault("b;", 1);
        fault("j ;", 2);
        fault("m;", 1);
        fault("tt1;", 1);
        fault("t-1;", 1);
        fault("t1 1;", 3);
        fault("t1b1;", 2);
        fault("t 1 , b1;", 4);
        fault("w;", 1);
        fault("w1;", 2);
        fault("w 1 - ;", 6);
        fault("w--1 0;", 2);
        fault("w 1 2 3;", 6);
        fault("w1 2-;", 4);
        fault("k-1;", 1);
        fault("k;", 1);
        fault("k0k1;", 2);
        fault("k0;" + (char) 255, 3);
        fault("k0;" + (char) 0, 3);
    }

    private static void faultsOfNumbers() {
        fault("t0;", 1);
        fault("t4;", 1);
        fault("b4;", 1);
        fault("j3;", 1);
        fault("m 21;", 2);
        fault("k8;", 1);
        fault("k 10;", 2);
        fault("w100 0;", 1);
        fault("w0 -100;", 4);
        fault("w00 0;", 1);
        fault("w0 01;", 3);
        fault("w 007 0;", 2);
        fault("t01;", 1);
        fault("b00;", 1);
        fault("w 4294967297 0;", 2);
        fault("w 00000000000000000000000000000000000001 0;", 2);
        fault("100", 0);
        reads("w99 -99;", 1);
        reads("w10 9;", 1);
    }

    private static void faultsOfOrder() {
        fault("t1;t1;", 3);
        fault("b1;b2;", 3);
        fault("j1;w1 1; j1;", 9);
        fault("m1;m1;", 3);
        fault("k0;t1;", 3);
        fault("k0;b1;", 3);
        fault("k0;j1;", 3);
        fault("k0;m1;", 3);
        fault("w1 1;".repeat(17) + "w1 1;", 85);
        fault("k0;k1;k2;k3;k4;k5;k6;k7;k0;k1;k2;k3;k4;", 36);
        // The first token that can't stand is told, whatever comes behind it.
        fault("t9;x", 1);
        fault("k0;k0;t0", 4);
    }

    private static void faultsOfKeys() {
        fault("k0;k0;", 4);
        reads("b0;k0;k0;", 3);
        fault("b2;k0;k4;", 7);
        reads("b2;k0;k1;", 3);
        fault("b3;k7;k0;", 7);
        fault("b3;k0;k7;", 7);
        fault("b3;k3;k3;", 7);
        reads("b3;k7;k1;", 3);
        fault("m1;k0;", 4);
        reads("m1;k1;", 2);
        reads("m2;k0;", 2);
        fault("t2;m3;k 0;", 8);
        reads("m1;w1 0;k0;", 3);
        fault("m1;w0-2;k2;", 9);
    }

    private static void textsThatEndEarly() {
        fault("t", 1);
        fault("t1", 2);
        fault("t1  ", 4);
        fault("w", 1);
        fault("w1", 2);
        fault("w1-", 3);
        fault("w1-1 ", 5);
        fault("k", 1);
        fault("k7", 2);
        fault("t1;k", 4);
        fault("w1 1;".repeat(16) + " ".repeat(39) + "w", 120);
    }

    /** A key is judged by what is told ahead of it; a wish behind it is still the ring's wish. */
    private static void readInOrder() {
        reads("m2;k0;w9 9;", 3);
        fault("m2;w9 9;k0;", 9);
        RingSteer x = Check.told("m2;k0;w9 9;");
        Check.due("the ring stays", 1, x.count(0));
        Check.due("its cost", 16, x.ring(1, 5));
        RingSteer y = Check.told("t3;b2;j1;m19;w5-7;w 0 0;w 98 -99;k1;");
        Check.dueCounts(y, "as told", 1, 3, 2, 1, 19, 255 & ~(1 << 1) & ~(1 << 5), 10, 0, 0, 0);
        Check.due("wish(1, 0)", 5, y.wish(1, 0));
        Check.due("wish(1, 1)", -7, y.wish(1, 1));
        Check.due("wish(2, 0)", 0, y.wish(2, 0));
        Check.due("wish(3, 0)", 98, y.wish(3, 0));
        Check.due("wish(3, 1)", -99, y.wish(3, 1));
        Check.due("wish(4, 1)", 0, y.wish(4, 1));
    }

    private static void readAnew() {
        RingSteer x = Check.told("t2;b0;j1;m20;w1 2;w3 4;k0;k0;");
        x.wishes(17, 1, 1);
        x.keep(0);
        x.keep(1);
        x.sees(1, 1);
        x.plan(2, -1);
        Check.tell(x, "w5 6;");
        Check.due("tunnel()", 1, x.tunnel());
        Check.dueCounts(x, "anew", 0, 1, 1, 0, 0, 255, 0, 0, 0, 0);
        Check.due("wish(1, 0)", 5, x.wish(1, 0));
        Check.due("wish(2, 0)", 0, x.wish(2, 0));
        Check.due("wish(17, 0)", 0, x.wish(17, 0));
        Check.due("back(0)", STATE, x.back(0));
        Check.due("back(1)", STATE, x.back(1));
        Check.due("undo()", STATE, x.undo());
        Check.due("plan(2, -1)", Check.told("w5 6;").plan(2, -1), x.plan(2, -1));
        Check.due("tunnel() of nothing", 0, x.tunnel());
        Check.due("wish(1, 0) is as at first", 0, x.wish(1, 0));
    }

    /** Nothing of an earlier text, right or faulty, is left when the next one is read. */
    private static void readTwice() {
        RingSteer x = Check.told("w1-2;".repeat(17) + "t3;b2;j2;m9;k1;");
        Check.due("wish(17, 1)", -2, x.wish(17, 1));
        Check.tell(x, "t1;b1;j1;m1;w1 1;w2 2;k8;");
        Check.due("tunnel() of a fault", -33, x.tunnel());
        x.clear();
        Check.tell(x, "t2;b0;j1;m8;k0;");
        Check.due("tunnel() again", 5, x.tunnel());
        Check.dueCounts(x, "read last", 1, 2, 0, 1, 8, x.count(5), 4, 0, 0, 0);
        for (int place = 1; place <= 17; place++) {
            Check.due("wish(" + place + ", 0)", 0, x.wish(place, 0));
            Check.due("wish(" + place + ", 1)", 0, x.wish(place, 1));
        }
    }

    private static void faultChangesNothing() {
        RingSteer x = Check.told("t2;b0;j1;m20;w1 2;k0;k0;");
        x.wishes(9, 1, 1);
        x.keep(1);
        x.sees(1, 1);
        Check.tell(x, "t3;w9 9;k1;k1;");
        Check.due("tunnel()", -22, x.tunnel());
        Check.dueCounts(x, "after a fault", 2, 2, 0, 1, 20, 255, 3 + 12, 1, 14, 1);
        Check.due("wish(1, 0)", 1, x.wish(1, 0));
        Check.due("wish(9, 0)", 1, x.wish(9, 0));
        Check.due("tunnel() again", -22, x.tunnel());
        Check.due("back(0)", STATE, x.back(0));
        Check.due("undo()", 0, x.undo());
        Check.due("back(1)", 2, x.back(1));
        Check.due("clear()", 14, x.clear());
    }
}
