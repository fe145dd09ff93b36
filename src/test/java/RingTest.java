/** Promises 10 to 12: ring, wish, worst. */
public final class RingTest {
    private static final int BAD = RingSteer.BAD, NONE = RingSteer.NONE, NO = RingSteer.NO;
    private static final int FAR = Integer.MAX_VALUE, LOW = Integer.MIN_VALUE;

    public static void main(String[] args) {
        everyKey();
        slopesAndPlaces();
        costs();
        badRings();
        wishes();
        worstRings();
        Check.end("RingTest");
    }

    private static void everyKey() {
        int[][] leans = {{2, 0}, {1, 1}, {0, 2}, {-1, 1}, {-2, 0}, {-1, -1}, {0, -2}, {1, -1}};
        for (int taper = 1; taper <= 3; taper++) {
            for (int key = 0; key < 8; key++) {
                RingSteer x = Check.told("t" + taper + ";k" + key + ";");
                String where = "taper " + taper + ", key " + key;
                Check.due(where, key, x.ring(1, 0));
                for (int part = 0; part < 2; part++) {
                    Check.due(where + ": slope", taper * leans[key][part], x.ring(1, 1 + part));
                    Check.due(where + ": place", taper * leans[key][part], x.ring(1, 3 + part));
                }
            }
        }
    }

    private static void dueRing(RingSteer x, int i, int... want) {
        for (int what = 0; what < 6; what++) {
            Check.due("ring(" + i + ", " + what + ")", want[what], x.ring(i, what));
        }
    }

    private static void slopesAndPlaces() {
        RingSteer x = Check.told("t2;w1 1;w1 1;k0;k2;k5;");
        dueRing(x, 0, NONE, 0, 0, 0, 0, 0);
        dueRing(x, 1, 0, 4, 0, 4, 0, 4);
        dueRing(x, 2, 2, 4, 4, 8, 4, 10);
        dueRing(x, 3, 5, 2, 2, 10, 6, 16);
        x.undo();
        dueRing(x, 3, 5, 2, 2, 10, 6, 16);
    }

    private static void costs() {
        RingSteer x = Check.told("w-1 3;k0;");
        Check.due("together", 6, x.ring(1, 5));
        x.rules(1, 1);
        Check.due("the greater", 3, x.ring(1, 5));
        x.rules(1, 2);
        Check.due("squares", 18, x.ring(1, 5));
        x.wishes(1, 9, -1);
        Check.due("squares again", 49 + 1, x.ring(1, 5));
        x.rules(1, 1);
        Check.due("the greater again", 7, x.ring(1, 5));
        RingSteer far = Check.told("t3;b0;j2;");
        Check.build(far, 0, 0, 0, 0, 0, 0, 0, 0, 0, 0, 0, 0);
        far.wishes(12, -99, 99);
        Check.due("the dearest ring", (468 + 99) * (468 + 99) + 99 * 99, far.ring(12, 5));
    }

    private static void badRings() {
        RingSteer x = Check.told("k0;");
        int[][] bad = {{-1, 0}, {2, 0}, {2, 5}, {0, -1}, {0, 6}, {1, -1}, {1, 6}, {FAR, 0}, {LOW, 0}, {0, FAR}, {1, LOW}};
        for (int[] b : bad) {
            Check.due("ring(" + b[0] + ", " + b[1] + ")", NO, x.ring(b[0], b[1]));
        }
    }

    private static void wishes() {
        RingSteer x = Check.told("w1-2;w3 4;");
        Check.due("wish(0, 0)", 0, x.wish(0, 0));
        Check.due("wish(0, 1)", 0, x.wish(0, 1));
        Check.due("wish(1, 0)", 1, x.wish(1, 0));
        Check.due("wish(1, 1)", -2, x.wish(1, 1));
        Check.due("wish(2, 0)", 3, x.wish(2, 0));
        Check.due("wish(2, 1)", 4, x.wish(2, 1));
        Check.due("wish(17, 1)", 0, x.wish(17, 1));
        int[][] bad = {{-1, 0}, {18, 0}, {1, -1}, {1, 2}, {FAR, 0}, {LOW, 1}, {0, FAR}, {0, LOW}};
        for (int[] b : bad) {
            Check.due("wish(" + b[0] + ", " + b[1] + ")", NO, x.wish(b[0], b[1]));
        }
    }

    private static void worstRings() {
        RingSteer x = new RingSteer();
        Check.due("worst(0) of none", NONE, x.worst(0));
        Check.due("worst(-1)", BAD, x.worst(-1));
        Check.due("worst(least)", BAD, x.worst(LOW));
        // Costs: 2, 2, 4, 4 (places (2,0), (2,0), (4,0), (4,0)).
        Check.build(x, 0, 4, 0, 4);
        int[] want = {3, 4, 1, 2, NONE, NONE};
        for (int k = 0; k < want.length; k++) {
            Check.due("worst(" + k + ")", want[k], x.worst(k));
        }
        Check.due("worst(most)", NONE, x.worst(FAR));
        x.wishes(2, -9, 0);
        x.wishes(3, 4, 0);
        int[] then = {2, 4, 1, 3};
        for (int k = 0; k < then.length; k++) {
            Check.due("worst(" + k + ") then", then[k], x.worst(k));
        }
    }
}
