/** Promises 13 and 14: plan, trying. */
public final class NextTest {
    private static final int BAD = RingSteer.BAD, STATE = RingSteer.STATE, NONE = RingSteer.NONE;
    private static final int FAR = Integer.MAX_VALUE, LOW = Integer.MIN_VALUE;

    public static void main(String[] args) {
        badPlans();
        oneAhead();
        severalAhead();
        noRow();
        pastTheLastRing();
        changesAreSeen();
        tries();
        Check.end("NextTest");
    }

    private static void badPlans() {
        RingSteer x = new RingSteer();
        int[][] bad = {{0, 0}, {6, 0}, {-1, -1}, {FAR, 0}, {LOW, 0}, {1, -3}, {5, LOW}, {0, FAR}};
        for (int[] b : bad) {
            Check.due("plan(" + b[0] + ", " + b[1] + ")", BAD, x.plan(b[0], b[1]));
        }
        Check.due("plan(5, 5)", NONE, x.plan(5, 5));
        Check.due("plan(5, most)", NONE, x.plan(5, FAR));
        Check.due("nothing is changed", 0, x.count(0) + x.count(9));
    }

    private static void duePlan(RingSteer x, String where, int h, int cost, int rows, int... keys) {
        Check.due(where + ": plan(" + h + ", -1)", cost, x.plan(h, -1));
        Check.due(where + ": plan(" + h + ", -2)", rows, x.plan(h, -2));
        for (int k = 0; k < keys.length; k++) {
            Check.due(where + ": plan(" + h + ", " + k + ")", keys[k], x.plan(h, k));
        }
        Check.due(where + ": plan(" + h + ", " + h + ")", NONE, x.plan(h, h));
    }

    private static void oneAhead() {
        duePlan(new RingSteer(), "new", 1, 2, 8, 0);
        duePlan(Check.told("j1;"), "the greater", 1, 1, 4, 1);
        duePlan(Check.told("j2;"), "squares", 1, 2, 4, 1);
        duePlan(Check.told("w-1-1;"), "one fits", 1, 0, 1, 5);
        duePlan(Check.told("w-1-1;w-3-3;k5;"), "the best is barred", 1, 2, 4, 3);
    }

    private static void severalAhead() {
        // The only way to be at (2, 0), (5, 1), (7, 3), (9, 3) is by the leans (2,0), (1,1), (-1,1), (0,-2).
        RingSteer x = Check.told("w2 0;w5 1;w7 3;w9 3;");
        duePlan(x, "exact", 4, 0, 1, 0, 1, 3, 6);
        duePlan(x, "shorter", 2, 0, 1, 0, 1);
        RingSteer back = Check.told("b0;w0 0;w0 0;");
        // Any key and then the one four on: 2 and 2; no row does better.
        duePlan(back, "there and back", 2, 4, 16, 0, 4);
    }

    private static void noRow() {
        RingSteer x = Check.told("m1;w50 0;");
        for (int h = 1; h <= 5; h++) {
            for (int k = -2; k <= 5; k++) {
                Check.due("plan(" + h + ", " + k + ")", NONE, x.plan(h, k));
            }
        }
        RingSteer y = Check.told("m2;w0 0;w0 0;w 20 0;");
        Check.holds("two rings can be planned", y.plan(2, -2) > 0);
        Check.due("three can't", NONE, y.plan(3, -2));
        Check.due("nor can four", NONE, y.plan(4, 0));
    }

    private static void pastTheLastRing() {
        RingSteer x = new RingSteer();
        Check.build(x, 0, 4, 0, 4, 0, 4, 0, 4, 0, 4, 0, 4);
        int[][] line = {{13, 14, 0}, {14, 17, 1}, {15, 19, 3}, {16, 21, 3}, {17, 25, 3}};
        for (int[] l : line) {
            Check.due("wishes", 1, x.wishes(l[0], l[1], l[2]));
        }
        duePlan(x, "rings 13 to 17", 5, 0, 1, 0, 1, 3, 6, 0);
        Check.due("trying(0)", 0, x.trying(0));
        Check.due("trying(4)", STATE, x.trying(4));
        Check.due("count(5)", 0xef, x.count(5));
    }

    /** What was planned before must not be answered once things are others. */
    private static void changesAreSeen() {
        RingSteer x = new RingSteer();
        duePlan(x, "first", 1, 2, 8, 0);
        x.wishes(1, 0, 2);
        duePlan(x, "wished", 1, 0, 1, 2);
        x.keep(0);
        x.undo();
        duePlan(x, "undone", 1, 2, 8, 0);
        x.rules(1, 1);
        duePlan(x, "ruled", 1, 1, 4, 1);
        x.back(0);
        duePlan(x, "back", 1, 0, 1, 2);
        x.builds(2);
        duePlan(x, "built", 1, 2, 1, 6);
        Check.due("follows(1)", 6, x.follows(1));
        duePlan(x, "followed", 1, 2, 2, 5);
        Check.tell(x, "w1-1;");
        x.tunnel();
        duePlan(x, "told anew", 1, 0, 1, 7);
    }

    private static void tries() {
        RingSteer x = Check.told("b3;w0 0;w4-1;k0;");
        for (int key : new int[] {-1, 8, FAR, LOW}) {
            Check.due("trying(" + key + ")", BAD, x.trying(key));
        }
        int[] want = {STATE, STATE, 0 + 3, 1 + 2, 2 + 1, 1 + 0, 0 + 1, STATE};
        for (int key = 0; key < 8; key++) {
            Check.due("trying(" + key + ")", want[key], x.trying(key));
        }
        Check.due("nothing is changed", 1, x.count(0));
        x.rules(2, 2);
        // The aim of ring 2 is (4, -1), so the slope (2, 2) of key 2 is 3 apart in y.
        Check.due("no room", STATE, x.trying(2));
        Check.due("room", 1, x.trying(6));
        Check.due("count(5)", 1 << 6, x.count(5));
    }
}
