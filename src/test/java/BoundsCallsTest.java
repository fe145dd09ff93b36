import java.util.function.IntFunction;
import java.util.function.ToIntFunction;

/** Boundary cases of the promises 1 to 21, one method each: what a call takes, what it refuses, and how. */
public final class BoundsCallsTest {
    private static final int BAD = RingSteer.BAD, STATE = RingSteer.STATE, FULL = RingSteer.FULL;
    private static final int NONE = RingSteer.NONE, NO = RingSteer.NO;
    private static final int FAR = Integer.MAX_VALUE, LOW = Integer.MIN_VALUE;

    public static void main(String[] args) {
        promise1();
        promise2();
        promise3();
        promise4();
        promise5();
        promise6();
        promise7();
        promise8();
        promise9();
        promise10();
        promise11();
        promise12();
        promise13();
        promise14();
        promise15();
        promise16();
        promise17();
        promise18();
        promise19();
        promise20();
        promise21();
        Check.end("BoundsCallsTest");
    }

    /** Each of these numbers is refused by the rich object, and nothing changes. */
    private static void refuses(int want, String call, IntFunction<ToIntFunction<RingSteer>> with, int... numbers) {
        for (int n : numbers) {
            Still.due(Still::rich, call + " with " + n, want, with.apply(n));
        }
    }

    private static void promise1() {
        Check.of("RingSteer(): As told; no RINGS.");
        Check.dueCounts(new RingSteer(), "new", 0, 1, 1, 0, 0, 0xff, 0, 0, 0, 0, BAD);
        RingSteer x = new RingSteer();
        Check.due("ring(0, 0)", NONE, x.ring(0, 0));
        Check.due("ring(1, 0)", NO, x.ring(1, 0));
        Check.due("undo()", STATE, x.undo());
        Check.due("back(0)", STATE, x.back(0));
        Check.due("back(1)", STATE, x.back(1));
        Check.due("forget()", 0, x.forget());
        Check.due("clear()", 0, x.clear());
        RingSteer other = Still.rich();
        Check.due("an object shares nothing with another", 4, other.count(0));
        Check.due("count(0)", 0, x.count(0));
    }

    private static void promise2() {
        Check.of("type: A letter (0 .. 255) comes to THE TEXT: how many it has. BAD; FULL.");
        RingSteer x = new RingSteer();
        Check.due("type(0)", 1, x.type(0));
        Check.due("type(255)", 2, x.type(255));
        refuses(BAD, "type", n -> y -> y.type(n), -1, 256, FAR, LOW);
        for (int n = 3; n <= 119; n++) {
            x.type(' ');
        }
        Check.due("letter 120", 120, x.type(' '));
        Check.due("letter 121", FULL, x.type(' '));
        Check.due("BAD is ahead of FULL", BAD, x.type(-1));
        Check.due("count(8)", 120, x.count(8));
        Check.due("tunnel(): letter 0 is a fault, and the first", -10, x.tunnel());
    }

    private static void promise3() {
        Check.of("clear: THE TEXT is empty: how many letters it had.");
        RingSteer x = new RingSteer();
        Still.due(RingSteer::new, "clear() of none", 0, RingSteer::clear);
        for (int n : new int[] {1, 119, 120}) {
            Check.tell(x, "k".repeat(n));
            Check.due("clear() of " + n, n, x.clear());
            Check.due("count(8)", 0, x.count(8));
            Check.due("tunnel() of none", 0, x.tunnel());
        }
        RingSteer y = Still.rich();
        Check.due("clear()", 11, y.clear());
        Check.holds("nothing else changes", Still.everything(y).equals(Still.everything(Still.withoutText())));
    }

    private static void promise4() {
        Check.of("tunnel: THE TEXT tells all anew, and is empty then: how many ITEMS. -10 less FAULT: nothing changes.");
        Check.due("no item", 0, new RingSteer().tunnel());
        RingSteer x = Still.rich();
        Check.due("three items", 3, x.tunnel());
        Check.due("count(8)", 0, x.count(8));
        Check.due("tunnel() again, of nothing", 0, x.tunnel());
        Check.due("count(0)", 0, x.count(0));
        RingSteer most = new RingSteer();
        Check.tell(most, "t1;b0;j0;m0;" + "w0 0;".repeat(12) + "k0;".repeat(12));
        Check.due("28 items", 28, most.tunnel());
        Still.due(() -> Still.withText(";"), "a fault at 0", -10, RingSteer::tunnel);
        Still.due(() -> Still.withText("t9"), "a fault at 1", -11, RingSteer::tunnel);
        Still.due(() -> Still.withText("t3;b0;j2;m0;w8 8;k0;k0;" + " ".repeat(96) + "x"), "a fault at 119", -129,
            RingSteer::tunnel);
        Still.due(() -> Still.withText(" ".repeat(119) + "t"), "a fault at the length of 120", -130, RingSteer::tunnel);
        RingSteer again = Still.withText("t9;");
        Check.due("a fault", -11, again.tunnel());
        Check.due("the same text again", -11, again.tunnel());
    }

    private static void promise5() {
        Check.of("builds: BUILT: COST of it. BAD; FULL: 12 RINGS; STATE: it MAY not BE NEXT. (In this order.)");
        RingSteer x = Check.told("w2 0;");
        Check.due("builds(0) where it is wished", 0, x.builds(0));
        Check.due("builds(7)", 5 + 1, x.builds(7));
        refuses(BAD, "builds", n -> y -> y.builds(n), -1, 8, FAR, LOW);
        Still.due(() -> Check.told("k7;"), "builds(7) behind 7", STATE, y -> y.builds(7));
        Still.due(Still::fullOfRings, "builds(3)", FULL, y -> y.builds(3));
        Still.due(Still::fullOfRings, "builds(4): FULL is ahead of STATE", FULL, y -> y.builds(4));
        Still.due(Still::fullOfRings, "builds(8): BAD is ahead of FULL", BAD, y -> y.builds(8));
        Still.due(Still::withoutRoom, "builds(-1): BAD is ahead of STATE", BAD, y -> y.builds(-1));
        RingSteer eleven = Still.fullOfRings();
        eleven.undo();
        Check.due("behind ring 11 it is STATE", STATE, eleven.builds(1));
        Check.holds("or built", eleven.builds(4) >= 0);
    }

    private static void promise6() {
        Check.of("follows: FOLLOWED: the KEY. BAD; FULL: 12 RINGS; STATE: there is no PLAN. (In this order.)");
        Check.due("follows(1)", 0, new RingSteer().follows(1));
        Check.due("follows(5)", 0, new RingSteer().follows(5));
        Check.due("the last key", 7, Check.told("w1-1;").follows(1));
        refuses(BAD, "follows", n -> y -> y.follows(n), 0, 6, -1, FAR, LOW);
        Still.due(Still::fullOfRings, "follows(1)", FULL, y -> y.follows(1));
        Still.due(Still::fullOfRings, "follows(0): BAD is ahead of FULL", BAD, y -> y.follows(0));
        Still.due(Still::fullOfRings, "follows(6): BAD is ahead of FULL", BAD, y -> y.follows(6));
        Still.due(BoundsCallsTest::fullWithoutRoom, "follows(1): FULL is ahead of STATE", FULL, y -> y.follows(1));
        Still.due(BoundsCallsTest::fullWithoutRoom, "builds(3): FULL is ahead of STATE", FULL, y -> y.builds(3));
        Still.due(Still::withoutRoom, "follows(1)", STATE, y -> y.follows(1));
        Still.due(Still::withoutRoom, "follows(5)", STATE, y -> y.follows(5));
        Still.due(Still::withoutRoom, "follows(6): BAD is ahead of STATE", BAD, y -> y.follows(6));
    }

    private static RingSteer fullWithoutRoom() {
        RingSteer x = Still.fullOfRings();
        x.rules(2, 1);
        x.wishes(13, 99, 99);
        return x;
    }

    private static void promise7() {
        Check.of("wishes: WISHED: 1. BAD; STATE: it is that.");
        RingSteer x = new RingSteer();
        Check.due("wishes(1, -99, 99)", 1, x.wishes(1, -99, 99));
        Check.due("wishes(17, 99, -99)", 1, x.wishes(17, 99, -99));
        refuses(BAD, "the place of wishes", n -> y -> y.wishes(n, 1, 1), 0, 18, -1, FAR, LOW);
        refuses(BAD, "x of wishes", n -> y -> y.wishes(1, n, 1), -100, 100, FAR, LOW);
        refuses(BAD, "y of wishes", n -> y -> y.wishes(1, 1, n), -100, 100, FAR, LOW);
        Still.due(Still::rich, "wishes(2, 5, -4): it is that", STATE, y -> y.wishes(2, 5, -4));
        Still.due(Still::rich, "wishes(0, 0, 0): BAD is ahead of STATE", BAD, y -> y.wishes(0, 0, 0));
        RingSteer y = Still.rich();
        Check.due("x is another", 1, y.wishes(2, 4, -4));
        Check.due("y is another", 1, y.wishes(2, 4, -5));
    }

    private static void promise8() {
        Check.of("rules: RULED: 0 BAR, 1 the WAY of judging, 2 TAIL: what it was. BAD; STATE: it is that.");
        RingSteer x = new RingSteer();
        Check.due("rules(0, 3)", 1, x.rules(0, 3));
        Check.due("rules(0, 0)", 3, x.rules(0, 0));
        Check.due("rules(1, 2)", 0, x.rules(1, 2));
        Check.due("rules(1, 0)", 2, x.rules(1, 0));
        Check.due("rules(2, 20)", 0, x.rules(2, 20));
        Check.due("rules(2, 0)", 20, x.rules(2, 0));
        Check.dueCounts(x, "each is its own", 0, 1, 0, 0, 0);
        refuses(BAD, "what of rules", n -> y -> y.rules(n, 2), -1, 3, FAR, LOW);
        refuses(BAD, "BAR", n -> y -> y.rules(0, n), -1, 4, FAR, LOW);
        refuses(BAD, "WAY", n -> y -> y.rules(1, n), -1, 3, FAR, LOW);
        refuses(BAD, "TAIL", n -> y -> y.rules(2, n), -1, 21, FAR, LOW);
        Still.due(Still::rich, "rules(0, 3): it is that", STATE, y -> y.rules(0, 3));
        Still.due(Still::rich, "rules(1, 1): it is that", STATE, y -> y.rules(1, 1));
        Still.due(Still::rich, "rules(2, 20): it is that", STATE, y -> y.rules(2, 20));
    }

    private static void promise9() {
        Check.of("undo: UNDONE: how many more may be. STATE: none.");
        Still.due(RingSteer::new, "undo()", STATE, RingSteer::undo);
        RingSteer x = new RingSteer();
        x.builds(0);
        Check.due("undo() of the only one", 0, x.undo());
        Check.due("undo() of none", STATE, x.undo());
        for (int n = 1; n <= 20; n++) {
            x.wishes(1, n, n);
        }
        Check.due("undo() of the most", 11, x.undo());
        RingSteer back = Still.rich();
        back.back(0);
        Check.due("undo() behind back()", STATE, back.undo());
        RingSteer anew = Still.rich();
        anew.tunnel();
        Check.due("undo() behind tunnel()", STATE, anew.undo());
        RingSteer fault = Still.withText("x");
        fault.tunnel();
        Check.due("undo() behind a fault", 6, fault.undo());
    }

    private static void promise10() {
        Check.of("ring: Of a RING (0, too): 0 its KEY (NONE: 0), 1, 2 SLOPE, 3, 4 PLACE, 5 COST (0: 0). NO: BAD.");
        RingSteer x = Check.told("t3;b0;w9 9;k5;k5;");
        int[][] want = {{NONE, 0, 0, 0, 0, 0}, {5, -3, -3, -3, -3, 24}, {5, -6, -6, -9, -9, 18}};
        for (int i = 0; i <= 2; i++) {
            for (int what = 0; what <= 5; what++) {
                Check.due("ring(" + i + ", " + what + ")", want[i][what], x.ring(i, what));
                Check.due("ring(3, " + what + ")", NO, x.ring(3, what));
            }
        }
        refuses(NO, "ring(.., 0)", n -> y -> y.ring(n, 0), -1, 5, 12, 13, FAR, LOW);
        refuses(NO, "ring(0, ..)", n -> y -> y.ring(0, n), -1, 6, FAR, LOW);
        refuses(NO, "ring(4, ..)", n -> y -> y.ring(4, n), -1, 6, FAR, LOW);
        Check.due("ring(12, 0)", 4, Still.fullOfRings().ring(12, 0));
        Check.due("ring(13, 0)", NO, Still.fullOfRings().ring(13, 0));
        // Ring 0 costs nothing by any way, and wherever place 1 is.
        for (int way = 0; way <= 2; way++) {
            Check.due("ring(0, 5)", 0, Check.told("j" + way + ";w9 9;").ring(0, 5));
        }
        RingSteer undone = Still.rich();
        undone.builds(4);
        undone.undo();
        Check.due("a ring that was undone", NO, undone.ring(5, 0));
    }

    private static void promise11() {
        Check.of("wish: A WISH: x (what = 0), y (1). NO: BAD.");
        RingSteer x = Check.told("w-99 98;");
        Check.due("wish(1, 0)", -99, x.wish(1, 0));
        Check.due("wish(1, 1)", 98, x.wish(1, 1));
        Check.due("wish(17, 0)", 0, x.wish(17, 0));
        Check.due("wish(0, 1)", 0, x.wish(0, 1));
        refuses(NO, "the place of wish", n -> y -> y.wish(n, 0), -1, 18, FAR, LOW);
        refuses(NO, "wish(1, ..)", n -> y -> y.wish(1, n), -1, 2, FAR, LOW);
        refuses(NO, "wish(0, ..)", n -> y -> y.wish(0, n), -1, 2, FAR, LOW);
        refuses(NO, "wish(17, ..)", n -> y -> y.wish(17, n), -1, 2, FAR, LOW);
        Check.due("-1 is a wish, not BAD", -1, Still.rich().wish(17, 0));
    }

    private static void promise12() {
        Check.of("worst: The k-th of WORST (0 on); NONE. BAD.");
        refuses(BAD, "worst", n -> y -> y.worst(n), -1, -2, LOW);
        refuses(NONE, "worst of four", n -> y -> y.worst(n), 4, 5, 12, FAR);
        Still.due(RingSteer::new, "worst(0) without rings", NONE, y -> y.worst(0));
        Still.due(RingSteer::new, "worst(-1) without rings", BAD, y -> y.worst(-1));
        RingSteer x = Check.told("w5 0;w2 0;");
        Check.build(x, 0, 4, 0);
        int[] want = {3, 1, 2, NONE};
        for (int k = 0; k <= 3; k++) {
            Check.due("worst(" + k + ")", want[k], x.worst(k));
        }
        Check.holds("worst(11) of twelve", Still.fullOfRings().worst(11) >= 1);
        Check.due("worst(12) of twelve", NONE, Still.fullOfRings().worst(12));
    }

    private static void promise13() {
        Check.of("plan: PLAN: COST together (k = -1), how many rows (-2), the k-th KEY (NONE: not so many); "
            + "NONE: no row. BAD: h, k below -2.");
        refuses(BAD, "h of plan", n -> y -> y.plan(n, 0), 0, 6, -1, FAR, LOW);
        refuses(BAD, "h of plan, k = 7", n -> y -> y.plan(n, 7), 0, 6);
        refuses(BAD, "plan(1, ..)", n -> y -> y.plan(1, n), -3, -4, LOW);
        refuses(BAD, "plan(5, ..)", n -> y -> y.plan(5, n), -3, LOW);
        for (int h = 1; h <= 5; h++) {
            int far = h;
            refuses(NONE, "plan(" + h + ", ..)", n -> y -> y.plan(far, n), h, h + 1, FAR);
            Check.holds("plan(" + h + ", " + (h - 1) + ")", Still.rich().plan(h, h - 1) >= 0);
            Check.holds("plan(" + h + ", 0)", Still.rich().plan(h, 0) >= 0);
            Check.holds("plan(" + h + ", -1)", Still.rich().plan(h, -1) >= 0);
            Check.holds("plan(" + h + ", -2)", Still.rich().plan(h, -2) >= 1);
            for (int k = -2; k <= h; k++) {
                int which = k;
                Still.due(Still::withoutRoom, "plan(" + h + ", " + k + ")", NONE, y -> y.plan(far, which));
            }
        }
        Still.due(Still::withoutRoom, "plan(1, -3): BAD is ahead of NONE", BAD, y -> y.plan(1, -3));
        Still.due(Still::withoutRoom, "plan(6, 0): BAD is ahead of NONE", BAD, y -> y.plan(6, 0));
    }

    private static void promise14() {
        Check.of("trying: What COST of the next RING would be with a KEY; STATE: it MAY not BE NEXT. BAD.");
        RingSteer x = Check.told("w1-1;");
        Check.due("trying(0)", 2, x.trying(0));
        Check.due("trying(7)", 0, x.trying(7));
        refuses(BAD, "trying", n -> y -> y.trying(n), -1, 8, FAR, LOW);
        Still.due(() -> Check.told("k7;"), "trying(7) behind 7", STATE, y -> y.trying(7));
        Still.due(Still::withoutRoom, "trying(1)", STATE, y -> y.trying(1));
        Still.due(Still::withoutRoom, "trying(8): BAD is ahead of STATE", BAD, y -> y.trying(8));
        // Behind ring 12 there is a next one to ask about, though it can't be built.
        RingSteer full = Still.fullOfRings();
        Check.due("trying(4) behind 4", STATE, full.trying(4));
        full.wishes(13, full.ring(12, 3) + full.ring(12, 1) + 1, full.ring(12, 4) + full.ring(12, 2) + 1);
        Check.due("trying(1)", 0, full.trying(1));
    }

    private static void promise15() {
        Check.of("sees: SEEN: how much there is. BAD (beyond -9999 .. 9999); FULL.");
        RingSteer x = new RingSteer();
        Check.due("sees(-9999, 9999)", 1, x.sees(-9999, 9999));
        Check.due("sees(9999, -9999)", 2, x.sees(9999, -9999));
        Check.due("the same again", 3, x.sees(9999, -9999));
        Check.due("the fourth", 4, x.sees(0, 0));
        Check.due("the fifth", FULL, x.sees(0, 0));
        Check.due("BAD is ahead of FULL", BAD, x.sees(0, 10000));
        Check.due("count(7)", 4, x.count(7));
        refuses(BAD, "x of sees", n -> y -> y.sees(n, 0), -10000, 10000, FAR, LOW);
        refuses(BAD, "y of sees", n -> y -> y.sees(0, n), -10000, 10000, FAR, LOW);
    }

    private static void promise16() {
        Check.of("forget: Nothing is SEEN: how much was.");
        Still.due(RingSteer::new, "forget() of nothing", 0, RingSteer::forget);
        RingSteer x = Check.told("k0;");
        for (int n = 1; n <= 4; n++) {
            for (int i = 1; i <= n; i++) {
                Check.due("sees", i, x.sees(50, 50));
            }
            Check.due("unseen(1)", 0, x.unseen(1));
            Check.due("forget()", n, x.forget());
            Check.due("count(7)", 0, x.count(7));
            Check.due("unseen(1)", 0xfe, x.unseen(1));
            Check.due("forget() again", 0, x.forget());
        }
    }

    private static void promise17() {
        Check.of("unseen: UNSEEN (bits). BAD.");
        refuses(BAD, "unseen", n -> y -> y.unseen(n), -1, 0, 5, 12, FAR, LOW);
        Still.due(RingSteer::new, "unseen(0) without rings", BAD, y -> y.unseen(0));
        Still.due(RingSteer::new, "unseen(1) without rings", BAD, y -> y.unseen(1));
        Check.due("unseen(1) of one", 0x7f, Check.told("k7;").unseen(1));
        Check.due("unseen(2) of one", BAD, Check.told("k7;").unseen(2));
        Check.holds("unseen(12) of twelve", Still.fullOfRings().unseen(12) >= 0);
        Check.due("unseen(13) of twelve", BAD, Still.fullOfRings().unseen(13));
    }

    private static void promise18() {
        Check.of("odds: ODDS: upper (what = 0), lower number (1), in least terms. BAD.");
        refuses(BAD, "x of odds", n -> y -> y.odds(n, 5, 0), -1, 11, FAR, LOW);
        refuses(BAD, "c of odds", n -> y -> y.odds(5, n, 0), -1, 10000, FAR, LOW);
        refuses(BAD, "what of odds", n -> y -> y.odds(5, 5, n), -1, 2, FAR, LOW);
        Still.due(RingSteer::new, "odds(5, 5, 2) without rings", BAD, y -> y.odds(5, 5, 2));
        RingSteer x = Check.told("w2 0;k0;");
        int[][] least = {{0, 1, 1}, {1, 9, 10}, {2, 4, 5}, {3, 7, 10}, {4, 3, 5}, {5, 1, 2}, {6, 2, 5}, {7, 3, 10},
            {8, 1, 5}, {9, 1, 10}, {10, 0, 1}};
        for (int[] l : least) {
            Check.due("odds(" + l[0] + ", 0, 0)", l[1], x.odds(l[0], 0, 0));
            Check.due("odds(" + l[0] + ", 0, 1)", l[2], x.odds(l[0], 0, 1));
        }
        Check.due("odds(0, 9999, 0)", 1, x.odds(0, 9999, 0));
        Check.due("odds(10, 9999, 1)", 1, x.odds(10, 9999, 1));
    }

    private static void promise19() {
        Check.of("keep: An IMAGE is kept: RINGS. BAD.");
        refuses(BAD, "keep", n -> y -> y.keep(n), -1, 2, FAR, LOW);
        RingSteer x = new RingSteer();
        Check.due("keep(0) of none", 0, x.keep(0));
        x.builds(0);
        Check.due("keep(1) of one", 1, x.keep(1));
        Check.due("keep(1) of twelve", 12, Still.fullOfRings().keep(1));
        Check.due("keep(0) over the first one", 1, x.keep(0));
        x.undo();
        Check.due("back(0)", 1, x.back(0));
    }

    private static void promise20() {
        Check.of("back: All of that becomes as an IMAGE has it: RINGS. BAD; STATE: none was kept.");
        refuses(BAD, "back", n -> y -> y.back(n), -1, 2, FAR, LOW);
        Still.due(Still::withoutRoom, "back(1): none was kept", STATE, y -> y.back(1));
        Still.due(Still::fullOfRings, "back(0): none was kept", STATE, y -> y.back(0));
        Still.due(RingSteer::new, "back(2): BAD is ahead of STATE", BAD, y -> y.back(2));
        RingSteer x = new RingSteer();
        x.keep(0);
        x.builds(0);
        Check.due("back(0) to none", 0, x.back(0));
        Check.due("count(0)", 0, x.count(0));
        Check.due("back(0) again", 0, x.back(0));
        RingSteer told = Still.rich();
        told.tunnel();
        Check.due("back(0) behind tunnel()", STATE, told.back(0));
        Check.due("back(1) behind tunnel()", STATE, told.back(1));
        told.keep(1);
        Check.due("back(0) when 1 alone is kept", STATE, told.back(0));
        Check.due("back(1)", 1, told.back(1));
    }

    private static void promise21() {
        Check.of("count: 0 RINGS, 1 TAPER, 2 BAR, 3 the WAY of judging, 4 TAIL, 5 KEYS that MAY BE NEXT (bits), "
            + "6 COST of all RINGS, 7 SEEN, 8 letters of THE TEXT, 9 how many may be UNDONE. BAD.");
        refuses(BAD, "count", n -> y -> y.count(n), -1, 10, FAR, LOW);
        Check.dueCounts(new RingSteer(), "the least", 0, 1, 1, 0, 0, 0xff, 0, 0, 0, 0);
        RingSteer x = Check.told("t3;b3;j2;m20;");
        Check.build(x, 0, 4, 0, 4, 0, 4, 0, 4, 0, 4, 0, 4);
        for (int n = 1; n <= 4; n++) {
            x.sees(n, n);
        }
        Check.tell(x, "w".repeat(120));
        // Places 6, 6, 12, 12, .. 36, 36: twice 36 times the squares of 1 to 6.
        Check.dueCounts(x, "the most", 12, 3, 3, 2, 20, 0xff & ~0x38, 2 * 36 * 91, 4, 120, 12);
        Check.due("no key may be next", 0, Still.withoutRoom().count(5));
    }
}
