/** Promises 5 to 9: builds, follows, wishes, rules, undo. */
public final class DeedTest {
    private static final int BAD = RingSteer.BAD, STATE = RingSteer.STATE, FULL = RingSteer.FULL;
    private static final int FAR = Integer.MAX_VALUE, LOW = Integer.MIN_VALUE;

    public static void main(String[] args) {
        building();
        bars();
        tails();
        fullOfRings();
        following();
        noPlanToFollow();
        wishing();
        ruling();
        undoing();
        undoingEachKind();
        olderDeedsAreLost();
        Check.end("DeedTest");
    }

    private static void building() {
        RingSteer x = new RingSteer();
        for (int key : new int[] {-1, 8, FAR, LOW}) {
            Check.due("builds(" + key + ")", BAD, x.builds(key));
        }
        Check.due("builds(0)", 2, x.builds(0));
        Check.due("builds(0) again", STATE, x.builds(0));
        Check.due("nothing changed", 1, x.count(0));
        Check.due("builds(2)", 4 + 2, x.builds(2));
        RingSteer y = Check.told("t3;j2;w1-1;");
        Check.due("builds(5) by squares", 16 + 4, y.builds(5));
        RingSteer z = Check.told("j1;w0 9;");
        Check.due("builds(3) by the greater", 8, z.builds(3));
    }

    private static void bars() {
        int[] apartBarred = {0, 0x01, 0x11, 0x83};
        for (int bar = 0; bar <= 3; bar++) {
            for (int first = 0; first < 8; first++) {
                for (int second = 0; second < 8; second++) {
                    RingSteer x = Check.told("b" + bar + ";k" + first + ";");
                    boolean barred = (apartBarred[bar] >> (second - first + 8) % 8 & 1) == 1;
                    String where = "bar " + bar + ", " + second + " behind " + first;
                    Check.due(where, barred ? 1 : 0, x.builds(second) == STATE ? 1 : 0);
                }
            }
        }
    }

    private static void tails() {
        RingSteer x = Check.told("m2;w 1 -1;w 4 -1;");
        Check.due("builds(2): y is 3 apart", STATE, x.builds(2));
        Check.due("builds(4): x is 3 apart", STATE, x.builds(4));
        Check.due("builds(1): y is 2 apart", 2, x.builds(1));
        // The aim of ring 2 is (3, 0); the slope would be (1, -1).
        Check.due("builds(6)", 2 + 1, x.builds(6));
        // The aim of ring 2 is (0, 3) here; key 2 brings the slope (1, 3), key 6 (1, -1).
        RingSteer up = Check.told("m1;w1 1;w1 4;k1;");
        Check.due("builds(6): y is 4 apart", STATE, up.builds(6));
        Check.due("builds(2)", 1 + 0, up.builds(2));
        RingSteer y = Check.told("t3;m6;");
        Check.due("6 of room", 6, y.builds(0));
        RingSteer z = Check.told("t3;m5;");
        Check.due("5 of room", STATE, z.builds(0));
        RingSteer none = Check.told("b0;m0;w99 99;w-99-99;");
        Check.due("no tail", 196, none.builds(1));
        Check.due("no tail again", 204, none.builds(1));
    }

    private static void fullOfRings() {
        RingSteer x = new RingSteer();
        Check.build(x, 0, 4, 0, 4, 0, 4, 0, 4, 0, 4, 0, 4);
        Check.due("builds(1)", FULL, x.builds(1));
        Check.due("FULL is ahead of STATE", FULL, x.builds(4));
        Check.due("BAD is ahead of FULL", BAD, x.builds(8));
        Check.due("follows(1)", FULL, x.follows(1));
        Check.due("follows(0)", BAD, x.follows(0));
        Check.due("count(0)", 12, x.count(0));
        x.rules(2, 1);
        x.wishes(13, 50, 50);
        Check.due("follows(5): FULL is ahead of STATE", FULL, x.follows(5));
        x.undo();
        x.undo();
        Check.due("undo()", 9, x.undo());
        // Ring 11 leaves the slope (2, 0) at (12, 0).
        Check.due("builds(5)", 13 + 1, x.builds(5));
    }

    private static void following() {
        RingSteer x = Check.told("w2 0;w 5 1;");
        for (int h : new int[] {0, 6, -1, FAR, LOW}) {
            Check.due("follows(" + h + ")", BAD, x.follows(h));
        }
        Check.due("follows(2)", 0, x.follows(2));
        Check.due("ring(1, 0)", 0, x.ring(1, 0));
        Check.due("follows(1)", 1, x.follows(1));
        Check.due("count(6)", 0, x.count(6));
        Check.due("count(9)", 2, x.count(9));
        // One ring ahead the far wish does not count; two ahead it does.
        RingSteer near = Check.told("w1 1;w-9-9;");
        Check.due("follows(1) looks one ahead", 1, near.follows(1));
        RingSteer far = Check.told("w1 1;w-9-9;");
        Check.due("follows(2) looks two ahead", 4, far.follows(2));
    }

    private static void noPlanToFollow() {
        RingSteer x = Check.told("m1;w 9 9;");
        Check.due("follows(1)", STATE, x.follows(1));
        RingSteer y = Check.told("m2;w0 0;w0 0;w 20 0;");
        Check.due("follows(3)", STATE, y.follows(3));
        Check.due("nothing changed", 0, y.count(0));
        Check.due("nothing to undo", 0, y.count(9));
        Check.holds("follows(2) is built", y.follows(2) >= 0);
    }

    private static void wishing() {
        RingSteer x = new RingSteer();
        int[][] bad = {{0, 0, 0}, {18, 0, 0}, {-1, 1, 1}, {FAR, 1, 1}, {LOW, 1, 1}, {1, 100, 0}, {1, -100, 0},
            {1, 0, 100}, {1, 0, -100}, {1, FAR, 0}, {1, 0, LOW}};
        for (int[] b : bad) {
            Check.due("wishes(" + b[0] + ", " + b[1] + ", " + b[2] + ")", BAD, x.wishes(b[0], b[1], b[2]));
        }
        Check.due("it is that", STATE, x.wishes(1, 0, 0));
        Check.due("count(9)", 0, x.count(9));
        Check.due("wishes(1, 99, -99)", 1, x.wishes(1, 99, -99));
        Check.due("it is that now", STATE, x.wishes(1, 99, -99));
        Check.due("only y is another", 1, x.wishes(1, 99, 99));
        Check.due("only x is another", 1, x.wishes(1, -99, 99));
        Check.due("wishes(17, 3, 4)", 1, x.wishes(17, 3, 4));
        Check.due("wish(17, 0)", 3, x.wish(17, 0));
        Check.due("wish(17, 1)", 4, x.wish(17, 1));
        Check.due("builds(0)", 101 + 99, x.builds(0));
        x.wishes(1, 2, 0);
        Check.due("what a ring costs goes by the wish now", 0, x.ring(1, 5));
    }

    private static void ruling() {
        RingSteer x = new RingSteer();
        int[][] bad = {{-1, 0}, {3, 0}, {FAR, 0}, {LOW, 0}, {0, -1}, {0, 4}, {1, -1}, {1, 3}, {2, -1}, {2, 21},
            {0, FAR}, {2, LOW}};
        for (int[] b : bad) {
            Check.due("rules(" + b[0] + ", " + b[1] + ")", BAD, x.rules(b[0], b[1]));
        }
        Check.due("BAR is that", STATE, x.rules(0, 1));
        Check.due("WAY is that", STATE, x.rules(1, 0));
        Check.due("TAIL is that", STATE, x.rules(2, 0));
        Check.due("count(9)", 0, x.count(9));
        Check.due("rules(0, 3)", 1, x.rules(0, 3));
        Check.due("rules(0, 0)", 3, x.rules(0, 0));
        Check.due("rules(1, 2)", 0, x.rules(1, 2));
        Check.due("rules(1, 1)", 2, x.rules(1, 1));
        Check.due("rules(2, 20)", 0, x.rules(2, 20));
        Check.due("rules(2, 1)", 20, x.rules(2, 1));
        Check.dueCounts(x, "ruled", 0, 1, 0, 1, 1, 0xaa, 0, 0, 0, 6);
        RingSteer y = Check.told("b0;k0;k0;");
        y.rules(0, 1);
        y.rules(2, 1);
        y.rules(1, 2);
        Check.due("rings that are built stay", 2, y.count(0));
        Check.due("and cost by the way of judging now", 4 + 36, y.count(6));
    }

    private static void undoing() {
        RingSteer x = new RingSteer();
        Check.due("undo()", STATE, x.undo());
        x.builds(0);
        x.builds(0);
        x.builds(1);
        Check.due("undo()", 1, x.undo());
        Check.due("count(0)", 1, x.count(0));
        Check.due("ring(1, 0)", 0, x.ring(1, 0));
        Check.due("ring(2, 0)", RingSteer.NO, x.ring(2, 0));
        Check.due("builds(2)", 4 + 2, x.builds(2));
        Check.due("undo()", 1, x.undo());
        Check.due("undo()", 0, x.undo());
        Check.due("undo()", STATE, x.undo());
        Check.due("count(0)", 0, x.count(0));
    }

    private static void undoingEachKind() {
        RingSteer x = Check.told("w1 2;k7;");
        x.wishes(1, 3, 4);
        x.rules(0, 2);
        x.rules(1, 1);
        x.rules(2, 9);
        int key = x.follows(2);
        Check.due("the plan's key", key, x.ring(2, 0));
        x.sees(1, 1);
        x.keep(0);
        Check.due("undo() of follows", 4, x.undo());
        Check.due("count(0)", 1, x.count(0));
        Check.due("undo() of rules(2)", 3, x.undo());
        Check.due("count(4)", 0, x.count(4));
        Check.due("undo() of rules(1)", 2, x.undo());
        Check.due("count(3)", 0, x.count(3));
        Check.due("undo() of rules(0)", 1, x.undo());
        Check.due("count(2)", 1, x.count(2));
        Check.due("undo() of wishes", 0, x.undo());
        Check.due("wish(1, 0)", 1, x.wish(1, 0));
        Check.due("wish(1, 1)", 2, x.wish(1, 1));
        Check.due("what the text told can't be undone", STATE, x.undo());
        Check.due("count(0)", 1, x.count(0));
        Check.due("what is seen stays", 1, x.count(7));
        Check.due("images stay", 2, x.back(0));
    }

    private static void olderDeedsAreLost() {
        RingSteer x = new RingSteer();
        for (int n = 1; n <= 15; n++) {
            Check.due("wishes", 1, x.wishes(1, n, -n));
            Check.due("count(9)", Math.min(n, 12), x.count(9));
        }
        for (int n = 14; n >= 3; n--) {
            Check.due("undo()", n - 3, x.undo());
            Check.due("wish(1, 0)", n, x.wish(1, 0));
            Check.due("wish(1, 1)", -n, x.wish(1, 1));
        }
        Check.due("undo()", STATE, x.undo());
        Check.due("wish(1, 0)", 3, x.wish(1, 0));
    }
}
