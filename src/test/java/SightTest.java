/** Promises 15 to 18: sees, forget, unseen, odds. */
public final class SightTest {
    private static final int BAD = RingSteer.BAD, FULL = RingSteer.FULL;
    private static final int FAR = Integer.MAX_VALUE, LOW = Integer.MIN_VALUE;

    public static void main(String[] args) {
        seeing();
        forgetting();
        unseenKeys();
        unseenThoughBarred();
        unseenAsThingsAreNow();
        badOdds();
        oddsOfOneRing();
        oddsOfManyRings();
        oddsByTheLastEight();
        Check.end("SightTest");
    }

    private static void seeing() {
        RingSteer x = new RingSteer();
        int[][] bad = {{10000, 0}, {-10000, 0}, {0, 10000}, {0, -10000}, {FAR, 0}, {0, LOW}};
        for (int[] b : bad) {
            Check.due("sees(" + b[0] + ", " + b[1] + ")", BAD, x.sees(b[0], b[1]));
        }
        Check.due("sees without rings", 1, x.sees(9999, -9999));
        Check.due("sees", 2, x.sees(-9999, 9999));
        Check.due("the same again", 3, x.sees(-9999, 9999));
        Check.due("sees", 4, x.sees(0, 0));
        Check.due("sees", FULL, x.sees(0, 0));
        Check.due("BAD is ahead of FULL", BAD, x.sees(10000, 0));
        Check.due("count(7)", 4, x.count(7));
        Check.due("count(9): seeing can't be undone", 0, x.count(9));
    }

    private static void forgetting() {
        RingSteer x = Check.told("k0;");
        Check.due("forget()", 0, x.forget());
        x.sees(5, 5);
        x.sees(6, 6);
        Check.due("unseen(1)", 0, x.unseen(1));
        Check.due("forget()", 2, x.forget());
        Check.due("count(7)", 0, x.count(7));
        Check.due("unseen(1)", 0xfe, x.unseen(1));
        Check.due("sees", 1, x.sees(1, 1));
        Check.due("unseen(1)", 1 << 1, x.unseen(1));
    }

    private static void unseenKeys() {
        RingSteer x = Check.told("t2;b0;k0;k1;k1;");
        for (int i : new int[] {-1, 0, 4, FAR, LOW}) {
            Check.due("unseen(" + i + ")", BAD, x.unseen(i));
        }
        Check.due("all but its own", 0xfe, x.unseen(1));
        Check.due("all but its own", 0xfd, x.unseen(2));
        // The last place is (4,0) + (6,2) + (8,4) = (18, 6). Ring 3 with key 3: 2 * (-2, 0) less.
        x.sees(14, 6);
        Check.due("unseen(1)", 0, x.unseen(1));
        Check.due("unseen(2)", 0, x.unseen(2));
        Check.due("unseen(3)", 1 << 3, x.unseen(3));
        x.sees(14, 6);
        Check.due("seen twice", 1 << 3, x.unseen(3));
        x.sees(14, 7);
        Check.due("not all that was seen", 0, x.unseen(3));
        x.forget();
        // Ring 1 with key 1: 2 * (-1, 1) behind each of three rings.
        x.sees(12, 12);
        Check.due("unseen(1)", 1 << 1, x.unseen(1));
        x.forget();
        x.sees(18, 6);
        for (int i = 1; i <= 3; i++) {
            Check.due("as it is: no other key", 0, x.unseen(i));
        }
        x.forget();
        // Ring 2 with key 7: 2 * (0, -2) behind each of two rings; ring 3 can't be so far off.
        x.sees(18, -2);
        Check.due("unseen(2)", 1 << 7, x.unseen(2));
        Check.due("unseen(3)", 0, x.unseen(3));
    }

    /** A key counts here though it could not be built there, by the bar or by the tail. */
    private static void unseenThoughBarred() {
        RingSteer x = Check.told("k0;k1;");
        x.sees(6, 0);
        Check.due("the key of ring 1", 1 << 0, x.unseen(2));
        x.rules(2, 1);
        x.wishes(2, 99, 99);
        Check.due("no room either", 1 << 0, x.unseen(2));
    }

    private static void unseenAsThingsAreNow() {
        RingSteer x = Check.told("b0;k0;");
        x.sees(1, 1);
        Check.due("unseen(1)", 1 << 1, x.unseen(1));
        Check.build(x, 0);
        Check.due("unseen(1) behind ring 2", 0, x.unseen(1));
        x.undo();
        Check.due("unseen(1) again", 1 << 1, x.unseen(1));
    }

    private static void badOdds() {
        RingSteer x = Check.told("k0;");
        int[][] bad = {{-1, 0, 0}, {11, 0, 0}, {0, -1, 0}, {0, 10000, 0}, {0, 0, -1}, {0, 0, 2}, {FAR, 0, 0},
            {0, LOW, 0}, {0, FAR, 0}, {0, 0, FAR}};
        for (int[] b : bad) {
            Check.due("odds(" + b[0] + ", " + b[1] + ", " + b[2] + ")", BAD, x.odds(b[0], b[1], b[2]));
        }
        RingSteer none = new RingSteer();
        Check.due("BAD without rings", BAD, none.odds(11, 0, 0));
    }

    private static void dueOdds(RingSteer x, int slip, int c, int upper, int lower) {
        Check.due("odds(" + slip + ", " + c + ", 0)", upper, x.odds(slip, c, 0));
        Check.due("odds(" + slip + ", " + c + ", 1)", lower, x.odds(slip, c, 1));
    }

    private static void oddsOfOneRing() {
        dueOdds(new RingSteer(), 5, 0, 1, 1);
        dueOdds(new RingSteer(), 10, 9999, 1, 1);
        // Key 7 slips to key 0: (1, -1) or (2, 0); the wish is (2, 0).
        RingSteer x = Check.told("w2 0;k7;");
        dueOdds(x, 0, 0, 0, 1);
        dueOdds(x, 3, 0, 3, 10);
        dueOdds(x, 4, 0, 2, 5);
        dueOdds(x, 5, 1, 1, 2);
        dueOdds(x, 5, 2, 1, 1);
        dueOdds(x, 10, 0, 1, 1);
        x.rules(1, 1);
        dueOdds(x, 3, 1, 1, 1);
        x.rules(1, 2);
        dueOdds(x, 3, 1, 3, 10);
        dueOdds(x, 3, 2, 1, 1);
        Check.due("nothing is changed", 7, x.ring(1, 0));
    }

    private static void oddsOfManyRings() {
        // Keys 0, 2: the last place is 2 * lean(0 or 1) + lean(2 or 3).
        // (4, 2), (3, 3), (2, 4), (1, 3): neither slips, the second, the first, both. Wish (4, 2).
        RingSteer x = Check.told("w0 0;w4 2;k0;k2;");
        dueOdds(x, 2, 0, 16, 25);
        dueOdds(x, 2, 2, 4, 5);
        dueOdds(x, 2, 4, 1, 1);
        dueOdds(x, 9, 0, 1, 100);
        dueOdds(x, 9, 3, 1, 10);
        x.rules(1, 2);
        dueOdds(x, 2, 8, 24, 25);
        dueOdds(x, 9, 9, 19, 100);
        dueOdds(x, 9, 10, 1, 1);
        RingSteer wide = Check.told("t3;w0 0;w12 6;k0;k2;");
        dueOdds(wide, 2, 5, 16, 25);
        dueOdds(wide, 2, 6, 4, 5);
    }

    /** Eight rings slip, an earlier one never does. */
    private static void oddsByTheLastEight() {
        RingSteer x = Check.told("b0;");
        Check.build(x, 2, 0, 0, 0, 0, 0, 0, 0);
        x.wishes(8, x.ring(8, 3), x.ring(8, 4));
        dueOdds(x, 5, 0, 1, 256);
        dueOdds(x, 1, 0, 43046721, 100000000);
        dueOdds(x, 9, 0, 1, 100000000);
        RingSteer y = Check.told("b0;");
        Check.build(y, 2, 0, 0, 0, 0, 0, 0, 0, 0);
        y.wishes(9, y.ring(9, 3), y.ring(9, 4));
        dueOdds(y, 1, 0, 43046721, 100000000);
        dueOdds(y, 10, 0, 0, 1);
        dueOdds(y, 0, 0, 1, 1);
        // The last ring alone slips the least: by (-1, 1).
        dueOdds(y, 1, 2, (43046721 + 4782969) / 10, 10000000);
    }
}
