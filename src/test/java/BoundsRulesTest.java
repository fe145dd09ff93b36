import java.util.List;

/** Boundary cases of "Terms", part 2: bar, tail, ways of judging, what is done and undone. */
public final class BoundsRulesTest {
    private static final int BAD = RingSteer.BAD, STATE = RingSteer.STATE, FULL = RingSteer.FULL;
    private static final String[] RULES = {"BAR", "the WAY of judging", "TAIL"};
    private static final int[] MOST = {3, 2, 20};
    private static final int[] AT_FIRST = {1, 0, 0};
    /** One number: builds; two: rules; three: wishes; none: follows. */
    private static final int[][] DEEDS = {{1, 5, -6}, {3}, {0, 2}, {1, 7, 8}, {}, {1, 1}, {0, 0}, {6}, {2, 20}, {17, -9, 9},
        {1, 2}, {2, 19}, {2, 0}, {1}, {17, 1, 1}, {}};

    public static void main(String[] args) {
        rulesAtFirst();
        numbersOfRules();
        barred();
        ringOneIsNotBarred();
        noTail();
        roomInTheTail();
        mostTail();
        bothMustBeSo();
        waysOfJudging();
        built();
        wished();
        ruled();
        undoneLatest();
        refusedCallsAreNotUndone();
        otherCallsAreNotUndone();
        twelveAreKnown();
        olderOnesAreLost();
        olderOnesOfEveryKind();
        noneCanBeUndone();
        Check.end("BoundsRulesTest");
    }

    private static void rulesAtFirst() {
        Check.of("BAR (.. 1 at first); TAIL (.. 0: none, at first); a WAY of judging (0 at first)");
        RingSteer anew = Check.told("b3;j2;m20;");
        Check.due("tunnel() of nothing", 0, anew.tunnel());
        for (RingSteer x : new RingSteer[] {new RingSteer(), anew}) {
            for (int what = 0; what <= 2; what++) {
                Check.due(RULES[what], AT_FIRST[what], x.count(2 + what));
                Check.due(RULES[what] + " is that", STATE, x.rules(what, AT_FIRST[what]));
            }
        }
    }

    private static void numbersOfRules() {
        Check.of("BAR (0 .. 3); TAIL (0 .. 20); WAY of judging 0, 1, 2");
        for (int what = 0; what <= 2; what++) {
            int rule = what;
            RingSteer x = new RingSteer();
            int was = AT_FIRST[what];
            for (int v : new int[] {MOST[what], 0, MOST[what] - 1}) {
                Check.due(RULES[what] + " " + v, was, x.rules(what, v));
                Check.due("count(" + (2 + what) + ")", v, x.count(2 + what));
                was = v;
            }
            for (int v : new int[] {-1, MOST[what] + 1}) {
                Still.due(Still::rich, RULES[what] + " " + v, BAD, y -> y.rules(rule, v));
            }
        }
        for (int what : new int[] {-1, 3}) {
            Still.due(Still::rich, "rules(" + what + ", 0)", BAD, x -> x.rules(what, 0));
            Still.due(Still::rich, "rules(" + what + ", 1)", BAD, x -> x.rules(what, 1));
        }
    }

    private static void dueBarred(int bar, int key, int... barred) {
        int bits = 0xff;
        for (int b : barred) {
            bits &= ~(1 << b);
        }
        RingSteer x = Check.told("b" + bar + ";k" + key + ";");
        Check.due("BAR " + bar + " behind " + key, bits, x.count(5));
        for (int next = 0; next <= 7; next++) {
            RingSteer y = Check.told("b" + bar + ";k" + key + ";");
            Check.holds("BAR " + bar + ", builds(" + next + ") behind " + key,
                (bits >> next & 1) == 1 ? y.builds(next) >= 0 : y.builds(next) == STATE);
        }
    }

    private static void barred() {
        Check.of("0 none is barred; 1 the same one; 2 the same one, the one four on; 3 the same one, one on, one back (by 8)");
        for (int key = 0; key <= 7; key++) {
            dueBarred(0, key);
            dueBarred(1, key, key);
        }
        for (int key = 0; key <= 3; key++) {
            dueBarred(2, key, key, key + 4);
            dueBarred(2, key + 4, key + 4, key);
        }
        dueBarred(3, 0, 0, 1, 7);
        dueBarred(3, 7, 7, 0, 6);
        for (int key = 1; key <= 6; key++) {
            dueBarred(3, key, key, key + 1, key - 1);
        }
    }

    private static void ringOneIsNotBarred() {
        Check.of("(RING 1: none is barred)");
        for (int bar = 0; bar <= 3; bar++) {
            RingSteer x = Check.told("b" + bar + ";");
            Check.due("BAR " + bar + ": count(5)", 0xff, x.count(5));
            for (int key = 0; key <= 7; key++) {
                Check.holds("BAR " + bar + ": builds(" + key + ")", x.builds(key) >= 0);
                x.undo();
                Check.due("BAR " + bar + ", ring 1 undone: count(5)", 0xff, x.count(5));
            }
        }
    }

    private static void noTail() {
        Check.of("TAIL (.. 0: none");
        RingSteer x = Check.told("b0;w99-99;w-99 99;");
        Check.due("count(5)", 0xff, x.count(5));
        Check.due("builds(4), far from its aim", 101 + 99, x.builds(4));
        Check.due("count(5) behind it", 0xff, x.count(5));
        Check.due("rules(2, 1)", 0, x.rules(2, 1));
        Check.due("count(5) with a TAIL of 1", 0, x.count(5));
        Check.due("rules(2, 0)", 1, x.rules(2, 0));
        Check.due("count(5) without", 0xff, x.count(5));
        // Room for nothing but the aim itself would be another thing than no tail.
        RingSteer still = Check.told("m0;");
        Check.due("builds(0) by m 0", 2, still.builds(0));
    }

    private static RingSteer aimed(int tail, int x, int y) {
        RingSteer made = new RingSteer();
        made.wishes(1, x, y);
        made.rules(2, tail);
        return made;
    }

    private static void roomInTheTail() {
        Check.of("behind the next RING neither part of SLOPE may be more than TAIL apart from that of its AIM");
        // Key 1 brings the slope (1, 1).
        int[][] ways = {{1, 0}, {-1, 0}, {0, 1}, {0, -1}, {1, 1}, {-1, -1}, {1, -1}};
        for (int tail : new int[] {1, 2, 19, 20}) {
            for (int[] w : ways) {
                int[] at = {1 + tail * w[0], 1 + tail * w[1]};
                RingSteer x = aimed(tail, at[0], at[1]);
                Check.holds(tail + " apart by TAIL " + tail, x.trying(1) >= 0 && x.builds(1) >= 0);
                int[] beyond = {at[0] + w[0], at[1] + w[1]};
                Check.due("one more apart", STATE, aimed(tail, beyond[0], beyond[1]).builds(1));
                Still.due(() -> aimed(tail, beyond[0], beyond[1]), "trying(1)", STATE, y -> y.trying(1));
            }
        }
        Check.due("one part is not enough", STATE, aimed(3, 1, 5).builds(1));
        Check.due("nor the other", STATE, aimed(3, 5, 1).builds(1));
    }

    private static void mostTail() {
        Check.of("TAIL (0 .. 20");
        Check.due("20 apart", 20, aimed(20, 22, 0).builds(0));
        Check.due("21 apart", STATE, aimed(20, 23, 0).builds(0));
        Check.due("rules(2, 21)", BAD, new RingSteer().rules(2, 21));
    }

    private static void bothMustBeSo() {
        Check.of("A KEY MAY BE NEXT: it is not barred behind the last RING's .., and there is room in THE TAIL");
        // Behind key 0 the slope is (2, 0): key 0 has room at an aim of (4, 0), but is barred.
        RingSteer x = Check.told("m1;w2 0;w6 0;k0;");
        Check.due("barred, with room", STATE, x.builds(0));
        Check.due("not barred, without room", STATE, x.builds(4));
        Check.due("both: key 1", 2, x.trying(1));
        Check.due("count(5)", 1 << 1 | 1 << 7, x.count(5));
        x.rules(0, 0);
        Check.due("count(5) when none is barred", 1 << 0 | 1 << 1 | 1 << 7, x.count(5));
    }

    private static void waysOfJudging() {
        Check.of("0: dx and dy together; 1: the greater; 2: dx times dx and dy times dy");
        // The place is (2, 0); what each wish is apart from it, and its costs by the three ways.
        int[][] wishes = {{2, 0, 0, 0, 0}, {3, 0, 1, 1, 1}, {2, -1, 1, 1, 1}, {-1, 3, 6, 3, 18}, {5, 4, 7, 4, 25},
            {5, -4, 7, 4, 25}, {-2, 1, 5, 4, 17}, {99, 99, 196, 99, 97 * 97 + 99 * 99},
            {-99, -99, 200, 101, 101 * 101 + 99 * 99}};
        for (int[] w : wishes) {
            for (int way = 0; way <= 2; way++) {
                RingSteer x = new RingSteer();
                x.wishes(1, w[0], w[1]);
                x.rules(1, way);
                String where = "wish (" + w[0] + ", " + w[1] + "), way " + way;
                Check.due(where + ": trying(0)", w[2 + way], x.trying(0));
                Check.due(where + ": builds(0)", w[2 + way], x.builds(0));
                Check.due(where + ": ring(1, 5)", w[2 + way], x.ring(1, 5));
                Check.due(where + ": count(6)", w[2 + way], x.count(6));
            }
        }
    }

    private static void built() {
        Check.of("BUILT: a RING with a KEY that MAY BE NEXT");
        Check.due("builds(3)", 2, new RingSteer().builds(3));
        Still.due(() -> Check.told("k3;"), "builds(3) behind 3", STATE, x -> x.builds(3));
        Still.due(Still::withoutRoom, "builds(1) without room", STATE, x -> x.builds(1));
        Still.due(Still::withoutRoom, "follows(1) without room", STATE, x -> x.follows(1));
    }

    private static void wished() {
        Check.of("WISHED: a place is another one");
        RingSteer x = new RingSteer();
        Check.due("x alone is another", 1, x.wishes(17, 1, 0));
        Check.due("y alone is another", 1, x.wishes(17, 1, 1));
        Check.due("as at first again", 1, x.wishes(17, 0, 0));
        Still.due(Still::rich, "wishes(17, -1, 4): it is that", STATE, y -> y.wishes(17, -1, 4));
        Still.due(Still::rich, "wishes(16, 0, 0): it is that", STATE, y -> y.wishes(16, 0, 0));
    }

    private static void ruled() {
        Check.of("RULED: BAR, the WAY of judging, TAIL are others (RINGS that are built stay)");
        RingSteer x = Check.told("b0;k0;k0;k4;");
        Check.due("BAR 2, which they are not by", 0, x.rules(0, 2));
        Check.due("TAIL 1, which they are not by", 0, x.rules(2, 1));
        Check.due("WAY 1", 0, x.rules(1, 1));
        Check.due("count(0)", 3, x.count(0));
        Check.due("ring(2, 0)", 0, x.ring(2, 0));
        Check.due("ring(3, 3)", 8, x.ring(3, 3));
        int[] now = {3, 1, 20};
        for (int what = 0; what <= 2; what++) {
            int rule = what;
            Still.due(Still::rich, RULES[what] + ": it is that", STATE, y -> y.rules(rule, now[rule]));
        }
    }

    private static void undoneLatest() {
        Check.of("UNDONE: the latest builds(), follows(), wishes(), rules()");
        RingSteer x = new RingSteer();
        x.builds(1);
        x.wishes(17, 7, -7);
        x.rules(0, 0);
        x.rules(1, 2);
        x.rules(2, 9);
        x.follows(1);
        Check.due("undo() of follows", 5, x.undo());
        Check.due("count(0)", 1, x.count(0));
        Check.due("undo() of rules(2)", 4, x.undo());
        Check.due("count(4)", 0, x.count(4));
        Check.due("undo() of rules(1)", 3, x.undo());
        Check.due("count(3)", 0, x.count(3));
        Check.due("undo() of rules(0)", 2, x.undo());
        Check.due("count(2)", 1, x.count(2));
        Check.due("undo() of wishes", 1, x.undo());
        Check.due("wish(17, 0)", 0, x.wish(17, 0));
        Check.due("wish(17, 1)", 0, x.wish(17, 1));
        Check.due("ring 1 stands", 1, x.ring(1, 0));
        Check.due("undo() of builds", 0, x.undo());
        Check.due("count(0)", 0, x.count(0));
        Check.due("undo()", STATE, x.undo());
    }

    private static void refusedCallsAreNotUndone() {
        Check.of("that was not refused");
        RingSteer x = new RingSteer();
        x.wishes(1, 1, 1);
        int[] answers = {x.builds(8), x.follows(0), x.wishes(18, 1, 1), x.wishes(1, 1, 1), x.rules(3, 0), x.rules(0, 1)};
        int[] want = {BAD, BAD, BAD, STATE, BAD, STATE};
        for (int i = 0; i < want.length; i++) {
            Check.due("refused " + i, want[i], answers[i]);
        }
        Check.due("count(9)", 1, x.count(9));
        Check.due("undo()", 0, x.undo());
        Check.due("wish(1, 0)", 0, x.wish(1, 0));
        RingSteer full = new RingSteer();
        Check.build(full, 0, 1, 0, 1, 0, 1, 0, 1, 0, 1, 0, 1);
        Check.due("builds(3)", FULL, full.builds(3));
        Check.due("follows(1)", FULL, full.follows(1));
        Check.due("undo()", 11, full.undo());
        Check.due("count(0)", 11, full.count(0));
        RingSteer narrow = Still.withoutRoom();
        Check.due("follows(1) without room", STATE, narrow.follows(1));
        Check.due("undo() of rules", 0, narrow.undo());
        Check.due("count(2)", 1, narrow.count(2));
    }

    private static void otherCallsAreNotUndone() {
        Check.of("builds(), follows(), wishes(), rules()");
        RingSteer x = Still.withoutText();
        int known = x.count(9);
        x.type('k');
        x.clear();
        x.sees(1, 1);
        x.forget();
        x.keep(0);
        x.plan(2, 0);
        x.trying(2);
        Check.due("count(9)", known, x.count(9));
        Check.due("undo()", known - 1, x.undo());
        Check.due("the latest of those is undone: wish(17, 0)", 0, x.wish(17, 0));
        Check.due("an undo is not undone by the next one", known - 2, x.undo());
        Check.due("wish(17, 0)", 0, x.wish(17, 0));
    }

    private static void twelveAreKnown() {
        Check.of("(12 are known");
        RingSteer x = new RingSteer();
        for (int n = 1; n <= 14; n++) {
            Check.due("wishes(1, " + n + ", " + -n + ")", 1, x.wishes(1, n, -n));
            Check.due("count(9)", n <= 12 ? n : 12, x.count(9));
        }
        for (int more = 11; more >= 0; more--) {
            Check.due("undo()", more, x.undo());
            Check.due("wish(1, 0)", more + 2, x.wish(1, 0));
            Check.due("wish(1, 1)", -more - 2, x.wish(1, 1));
        }
        Check.due("undo()", STATE, x.undo());
    }

    private static void olderOnesAreLost() {
        Check.of("older ones are lost");
        RingSteer x = new RingSteer();
        Check.build(x, 0, 1, 0, 1, 0, 1, 0, 1, 0, 1, 0, 1);
        Check.due("twelve builds: count(9)", 12, x.count(9));
        Check.due("the thirteenth deed", 1, x.rules(0, 0));
        for (int n = 11; n >= 0; n--) {
            Check.due("undo()", n, x.undo());
        }
        Check.due("ring 1 stays", 1, x.count(0));
        Check.due("undo()", STATE, x.undo());
        Check.due("a new one is known", 4 + 2, x.builds(2));
        Check.due("undo()", 0, x.undo());
        Check.due("ring 1 stays again", 1, x.count(0));
    }

    /** An object that has done the first of the sixteen deeds, so many of them. */
    private static RingSteer withDeeds(int many) {
        RingSteer x = Check.told("b0;w1 2;k0;");
        for (int n = 0; n < many; n++) {
            int[] deed = DEEDS[n];
            switch (deed.length) {
                case 1: Check.holds("deed " + n + ", builds", x.builds(deed[0]) >= 0); break;
                case 2: Check.holds("deed " + n + ", rules", x.rules(deed[0], deed[1]) >= 0); break;
                case 3: Check.holds("deed " + n + ", wishes", x.wishes(deed[0], deed[1], deed[2]) == 1); break;
                default: Check.holds("deed " + n + ", follows", x.follows(1) >= 0); break;
            }
        }
        return x;
    }

    private static void olderOnesOfEveryKind() {
        Check.of("(12 are known, older ones are lost)");
        for (int undone = 0; undone <= 12; undone++) {
            RingSteer x = withDeeds(16);
            for (int n = 1; n <= undone; n++) {
                Check.due("undo() number " + n, 12 - n, x.undo());
            }
            Check.due("count(9)", 12 - undone, x.count(9));
            Check.holds(undone + " undone is as never done", withoutKnown(x).equals(withoutKnown(withDeeds(16 - undone))));
        }
        RingSteer x = withDeeds(16);
        for (int n = 1; n <= 12; n++) {
            x.undo();
        }
        Check.due("the thirteenth", STATE, x.undo());
        Check.holds("is not undone", withoutKnown(x).equals(withoutKnown(withDeeds(4))));
    }

    /** All but how many deeds are known, which is what tells them apart. */
    private static List<Integer> withoutKnown(RingSteer x) {
        List<Integer> told = Still.everything(x);
        told.remove(9);
        return told;
    }

    private static void noneCanBeUndone() {
        Check.of("undo() .. STATE: none");
        Still.due(RingSteer::new, "undo()", STATE, RingSteer::undo);
        Still.due(() -> Check.told("t2;w1 1;k1;k2;"), "undo() of what was told", STATE, RingSteer::undo);
    }
}
