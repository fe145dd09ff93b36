/** Boundary cases of "Terms", part 3: plans, the worst rings, what is seen, odds, images, reading anew. */
public final class BoundsAheadTest {
    private static final int BAD = RingSteer.BAD, STATE = RingSteer.STATE, FULL = RingSteer.FULL, NONE = RingSteer.NONE;

    public static void main(String[] args) {
        nothingIsChanged();
        asThingsAreNow();
        howFarAhead();
        eachMayBeNext();
        rowsPastTheTwelfthRing();
        howManyRows();
        firstKeyByKey();
        noRow();
        followed();
        worst();
        likeOnes();
        fourAreSeen();
        whereLineCanBeSeen();
        withoutItsOwn();
        noMatterWhatMayBe();
        allThatWasSeen();
        oddsByTenths();
        oddsByCost();
        lastEightRings();
        behindKeySeven();
        oddsWithoutRings();
        imagesZeroAndOne();
        nothingElseIsKept();
        nothingUndoneBehindBack();
        readAnew();
        Check.end("BoundsAheadTest");
    }

    private static void nothingIsChanged() {
        Check.of("(.. nothing is changed.)");
        Still.due(Still::rich, "plan(5, -2)", Still.rich().plan(5, -2), x -> x.plan(5, -2));
        Still.due(Still::rich, "plan(2, 1)", Still.rich().plan(2, 1), x -> x.plan(2, 1));
        Still.due(Still::rich, "worst(0)", Still.rich().worst(0), x -> x.worst(0));
        Still.due(Still::rich, "unseen(4)", Still.rich().unseen(4), x -> x.unseen(4));
        Still.due(Still::rich, "odds(4, 9, 0)", Still.rich().odds(4, 9, 0), x -> x.odds(4, 9, 0));
        Still.due(Still::rich, "trying(0)", Still.rich().trying(0), x -> x.trying(0));
        Still.due(Still::fullOfRings, "plan(5, 4)", Still.fullOfRings().plan(5, 4), x -> x.plan(5, 4));
    }

    /** What was found before a change must not be answered behind it. */
    private static void asThingsAreNow() {
        Check.of("(As things are NOW");
        RingSteer x = Check.told("w2 0;");
        Check.due("plan(1, 0)", 0, x.plan(1, 0));
        x.wishes(1, -2, 0);
        Check.due("plan(1, 0) by another wish", 4, x.plan(1, 0));
        x.undo();
        Check.due("plan(1, 0), undone", 0, x.plan(1, 0));
        x.keep(0);
        x.rules(1, 1);
        x.wishes(1, 0, 0);
        Check.due("plan(1, -1) by another way", 1, x.plan(1, -1));
        x.back(0);
        Check.due("plan(1, -1), gone back", 0, x.plan(1, -1));
        x.builds(0);
        Check.due("plan(1, 0) behind ring 1", 4, x.plan(1, 0));
        Check.due("follows(1)", 4, x.follows(1));
        Check.due("plan(1, -1) behind ring 2", 2, x.plan(1, -1));
        Check.due("tunnel() of nothing", 0, x.tunnel());
        Check.due("plan(1, -2), read anew", 8, x.plan(1, -2));
    }

    private static void howFarAhead() {
        Check.of("PLAN for h (1 .. 5)");
        for (int h : new int[] {0, 6}) {
            for (int k : new int[] {-2, -1, 0, 5}) {
                Still.due(Still::rich, "plan(" + h + ", " + k + ")", BAD, x -> x.plan(h, k));
            }
            Still.due(Still::rich, "follows(" + h + ")", BAD, x -> x.follows(h));
        }
        RingSteer x = Check.told("w2 0;w5 1;w7 3;w9 3;w13 3;");
        int[] row = {0, 1, 3, 6, 0};
        for (int h = 1; h <= 5; h++) {
            Check.due("plan(" + h + ", -1)", 0, x.plan(h, -1));
            Check.due("plan(" + h + ", -2)", 1, x.plan(h, -2));
            for (int k = 0; k < h; k++) {
                Check.due("plan(" + h + ", " + k + ")", row[k], x.plan(h, k));
            }
            Check.due("plan(" + h + ", " + h + ")", NONE, x.plan(h, h));
            Check.due("follows(" + h + ")", 0, x.follows(h));
            x.undo();
        }
    }

    private static void eachMayBeNext() {
        Check.of("rows of h KEYS, each MAY BE NEXT behind the one ahead");
        // Straight on by key 0: places (2, 0), (6, 0), where nothing costs less.
        RingSteer x = Check.told("w2 0;w6 0;");
        Check.due("plan(2, -1), the same key being barred", 2, x.plan(2, -1));
        x.rules(0, 0);
        Check.due("plan(2, -1) when it is not", 0, x.plan(2, -1));
        Check.due("plan(2, 1)", 0, x.plan(2, 1));
        // The first key must not be barred behind the last ring either.
        RingSteer y = Check.told("w2 0;w6 0;k0;");
        Check.due("plan(1, -1)", 2, y.plan(1, -1));
        Check.due("plan(1, 0)", 1, y.plan(1, 0));
        // The tail must have room at every ring of the row: ring 3 alone would have it.
        RingSteer z = Check.told("m2;w0 0;w9 9;w9 9;");
        Check.holds("plan(1, -2)", z.plan(1, -2) > 0);
        Check.due("plan(2, -2)", NONE, z.plan(2, -2));
        Check.due("plan(3, -2)", NONE, z.plan(3, -2));
    }

    private static void rowsPastTheTwelfthRing() {
        Check.of("WISHES: places 1 to 17 .. RINGS (12 at most) .. PLAN for h (1 .. 5)");
        RingSteer x = new RingSteer();
        Check.build(x, 0, 4, 0, 4, 0, 4, 0, 4, 0, 4, 0, 4);
        int[][] wishes = {{14, 0}, {17, 1}, {19, 3}, {21, 3}, {25, 3}};
        for (int i = 0; i < 5; i++) {
            Check.due("wishes(" + (13 + i) + ", ..)", 1, x.wishes(13 + i, wishes[i][0], wishes[i][1]));
        }
        int[] row = {0, 1, 3, 6, 0};
        for (int k = 0; k < 5; k++) {
            Check.due("plan(5, " + k + ")", row[k], x.plan(5, k));
        }
        Check.due("plan(5, -1)", 0, x.plan(5, -1));
        Check.due("but it is not built", FULL, x.follows(5));
    }

    private static void howManyRows() {
        Check.of("of least COST together: how many rows");
        Check.due("one", 1, Check.told("w1 1;").plan(1, -2));
        Check.due("every key", 8, new RingSteer().plan(1, -2));
        Check.due("every key and one behind it", 16, Check.told("b0;").plan(2, -2));
        Check.due("keys 1, 3, 5, 7 by the greater", 4, Check.told("j1;").plan(1, -2));
    }

    private static void firstKeyByKey() {
        Check.of("the first (KEY by KEY)");
        // Of 16 rows at 4, (3, 0) has the least last key, but (0, 4) the least first one.
        RingSteer x = new RingSteer();
        Check.due("plan(2, -1)", 4, x.plan(2, -1));
        Check.due("plan(2, 0)", 0, x.plan(2, 0));
        Check.due("plan(2, 1)", 4, x.plan(2, 1));
        // Behind key 1 three keys cost 2: of those 4 is the least.
        RingSteer y = Check.told("w1 1;");
        Check.due("plan(2, -2)", 3, y.plan(2, -2));
        Check.due("plan(2, 0)", 1, y.plan(2, 0));
        Check.due("plan(2, 1)", 4, y.plan(2, 1));
    }

    private static void noRow() {
        Check.of("PLAN .. NONE");
        for (int h = 1; h <= 5; h++) {
            for (int k = -2; k <= h; k++) {
                Check.due("plan(" + h + ", " + k + ")", NONE, Still.withoutRoom().plan(h, k));
            }
            int far = h;
            Still.due(Still::withoutRoom, "follows(" + h + ")", STATE, x -> x.follows(far));
        }
        // Two rings have room, the third has none.
        RingSteer x = Check.told("m2;w0 0;w0 0;w7 0;");
        Check.holds("plan(2, -2)", x.plan(2, -2) > 0);
        Check.due("plan(3, -2)", NONE, x.plan(3, -2));
        Check.due("plan(3, 0)", NONE, x.plan(3, 0));
        Check.due("follows(3)", STATE, x.follows(3));
        Check.due("count(0)", 0, x.count(0));
        Check.holds("follows(2)", x.follows(2) >= 0);
    }

    private static void followed() {
        Check.of("FOLLOWED for h: the first KEY of it is BUILT");
        // One ahead key 1 fits; two ahead it is better to start towards (-9, -9).
        Check.due("follows(1)", 1, Check.told("w1 1;w-9-9;").follows(1));
        RingSteer x = Check.told("w1 1;w-9-9;");
        Check.due("follows(2)", 4, x.follows(2));
        Check.due("one ring alone is built", 1, x.count(0));
        Check.due("ring(1, 0)", 4, x.ring(1, 0));
        Check.due("count(9)", 1, x.count(9));
        RingSteer eleven = Still.fullOfRings();
        eleven.undo();
        int key = eleven.plan(5, 0);
        Check.due("follows(5) behind ring 11", key, eleven.follows(5));
        Check.due("ring(12, 0)", key, eleven.ring(12, 0));
        Still.due(Still::fullOfRings, "follows(5) behind ring 12", FULL, y -> y.follows(5));
    }

    private static void worst() {
        Check.of("WORST: RINGS by COST, the greatest first");
        RingSteer x = Check.told("b0;w2 0;");
        Check.due("worst(0) of none", NONE, x.worst(0));
        Check.build(x, 0);
        Check.due("worst(0) of one, which costs nothing", 1, x.worst(0));
        Check.due("worst(1) of one", NONE, x.worst(1));
        Check.build(x, 0, 0, 0, 0, 0, 0, 0, 0, 0, 0, 0);
        for (int k = 0; k < 12; k++) {
            Check.due("worst(" + k + ") of twelve", 12 - k, x.worst(k));
        }
        Check.due("worst(12) of twelve", NONE, x.worst(12));
        Check.due("worst(most)", NONE, x.worst(Integer.MAX_VALUE));
        Still.due(Still::rich, "worst(-1)", BAD, y -> y.worst(-1));
    }

    private static void likeOnes() {
        Check.of("of like ones the lower first");
        RingSteer x = new RingSteer();
        Check.build(x, 0, 4, 0, 4, 0, 4);
        int[] want = {5, 6, 3, 4, 1, 2, NONE};
        for (int k = 0; k < want.length; k++) {
            Check.due("worst(" + k + ")", want[k], x.worst(k));
        }
        // Places (2, 0), (2, 0), (4, 0), (4, 0): each is 2 apart from its wish.
        RingSteer like = Check.told("w0 0;w0 0;w2 0;w2 0;");
        Check.build(like, 0, 4, 0, 4);
        for (int k = 0; k < 4; k++) {
            Check.due("worst(" + k + ") of like ones", k + 1, like.worst(k));
        }
    }

    private static void fourAreSeen() {
        Check.of("SEEN (4 at most)");
        RingSteer x = new RingSteer();
        for (int n = 1; n <= 4; n++) {
            Check.due("sees", n, x.sees(n, n));
            Check.due("count(7)", n, x.count(7));
        }
        Check.due("a fifth", FULL, x.sees(5, 5));
        Check.due("count(7)", 4, x.count(7));
        Still.due(BoundsAheadTest::fullOfSights, "sees(1, 1)", FULL, y -> y.sees(1, 1));
        Still.due(BoundsAheadTest::fullOfSights, "sees(10000, 1)", BAD, y -> y.sees(10000, 1));
        RingSteer again = fullOfSights();
        Check.due("forget()", 4, again.forget());
        Check.due("sees", 1, again.sees(1, 1));
    }

    /** Four sights, all of them so if ring 1 has key 1. */
    private static RingSteer fullOfSights() {
        RingSteer x = Check.told("k0;");
        for (int n = 1; n <= 4; n++) {
            x.sees(1, 1);
        }
        return x;
    }

    private static void whereLineCanBeSeen() {
        Check.of("BAD (beyond -9999 .. 9999)");
        for (int n : new int[] {-10000, 10000}) {
            Still.due(Still::rich, "sees(" + n + ", 0)", BAD, x -> x.sees(n, 0));
            Still.due(Still::rich, "sees(0, " + n + ")", BAD, x -> x.sees(0, n));
        }
        for (int n : new int[] {-9999, 9999}) {
            Check.due("sees(" + n + ", 0)", 1, new RingSteer().sees(n, 0));
            Check.due("sees(0, " + n + ")", 1, new RingSteer().sees(0, n));
        }
    }

    private static void withoutItsOwn() {
        Check.of("UNSEEN of a RING: KEYS (bits, without its own)");
        for (int key = 0; key <= 7; key++) {
            RingSteer x = new RingSteer();
            Check.build(x, key);
            Check.due("nothing seen, key " + key, 0xff & ~(1 << key), x.unseen(1));
            x.sees(x.ring(1, 3), x.ring(1, 4));
            Check.due("seen where it is, key " + key, 0, x.unseen(1));
        }
        RingSteer full = Still.fullOfRings();
        full.forget();
        for (int i = 1; i <= 12; i++) {
            Check.due("nothing seen: unseen(" + i + ")", 0xff & ~(1 << full.ring(i, 0)), full.unseen(i));
        }
        for (int i : new int[] {-1, 0, 13}) {
            Still.due(Still::fullOfRings, "unseen(" + i + ")", BAD, x -> x.unseen(i));
        }
        Check.due("unseen(1) without rings", BAD, new RingSteer().unseen(1));
    }

    private static void noMatterWhatMayBe() {
        Check.of("one unknown RING having another KEY than it has (no matter what MAY BE)");
        RingSteer x = Check.told("b3;k0;k2;k0;");
        // Ring 2 with key 1, which is barred behind ring 1's: (1, -1) behind each of two rings more.
        x.sees(x.ring(3, 3) + 2, x.ring(3, 4) - 2);
        Check.due("unseen(2)", 1 << 1, x.unseen(2));
        x.rules(2, 1);
        x.wishes(2, 99, -99);
        Check.due("unseen(2) without room", 1 << 1, x.unseen(2));
        Check.due("unseen(3)", 0, x.unseen(3));
    }

    private static void allThatWasSeen() {
        Check.of("by which all that was SEEN is so");
        // From (2, 0): key 1 brings ring 1 to (1, 1), key 7 to (1, -1).
        RingSteer x = Check.told("k0;");
        for (int n = 1; n <= 3; n++) {
            x.sees(1, 1);
            Check.due("seen " + n + " times", 1 << 1, x.unseen(1));
        }
        x.sees(1, -1);
        Check.due("the fourth is another", 0, x.unseen(1));
        x.forget();
        x.sees(1, -1);
        Check.due("that one alone", 1 << 7, x.unseen(1));
        // The first and the last of two rings: twice and once what the keys differ by.
        RingSteer two = Check.told("t3;b0;k0;k0;");
        two.sees(18 - 2 * 12, 0);
        Check.due("unseen(1)", 1 << 4, two.unseen(1));
        Check.due("unseen(2)", 0, two.unseen(2));
        two.forget();
        two.sees(18 - 12, 0);
        Check.due("unseen(2)", 1 << 4, two.unseen(2));
        Check.due("unseen(1)", 0, two.unseen(1));
    }

    private static void dueOdds(RingSteer x, int slip, int c, int upper, int lower) {
        Check.due("odds(" + slip + ", " + c + ", 0)", upper, x.odds(slip, c, 0));
        Check.due("odds(" + slip + ", " + c + ", 1)", lower, x.odds(slip, c, 1));
    }

    private static void oddsByTenths() {
        Check.of("ODDS by x (0 .. 10)");
        for (int x : new int[] {-1, 11}) {
            Still.due(Still::rich, "odds(" + x + ", 0, 0)", BAD, y -> y.odds(x, 0, 0));
            Still.due(Still::rich, "odds(" + x + ", 0, 1)", BAD, y -> y.odds(x, 0, 1));
        }
        RingSteer near = Check.told("w2 0;k0;");
        dueOdds(near, 0, 0, 1, 1);
        dueOdds(near, 1, 0, 9, 10);
        dueOdds(near, 5, 0, 1, 2);
        dueOdds(near, 9, 0, 1, 10);
        dueOdds(near, 10, 0, 0, 1);
        RingSteer slipped = Check.told("w1 1;k0;");
        dueOdds(slipped, 0, 0, 0, 1);
        dueOdds(slipped, 10, 0, 1, 1);
    }

    private static void oddsByCost() {
        Check.of("c (0 .. 9999) .. that COST of the last RING is c or less");
        for (int c : new int[] {-1, 10000}) {
            Still.due(Still::rich, "odds(3, " + c + ", 0)", BAD, y -> y.odds(3, c, 0));
        }
        // Without a slip ring 1 is at (2, 0): 9997 is 99 and 14 squared, 10000 is 100 squared.
        RingSteer x = Check.told("j2;k0;");
        x.wishes(1, -97, 14);
        dueOdds(x, 0, 9996, 0, 1);
        dueOdds(x, 0, 9997, 1, 1);
        dueOdds(x, 0, 9999, 1, 1);
        x.wishes(1, -98, 0);
        dueOdds(x, 0, 9999, 0, 1);
        RingSteer y = Check.told("w2 0;k0;k1;");
        y.wishes(2, y.ring(2, 3), y.ring(2, 4));
        // Key 1 slips by (-1, 1), key 0 by (-2, 2): 0, 2, 4, 6 apart.
        int[][] want = {{0, 81}, {1, 81}, {2, 90}, {3, 90}, {4, 99}, {5, 99}};
        for (int[] w : want) {
            Check.due("of 100 at " + w[0], w[1], 100 / y.odds(1, w[0], 1) * y.odds(1, w[0], 0));
        }
        dueOdds(y, 1, 6, 1, 1);
    }

    private static RingSteer allKeyZero(int rings) {
        RingSteer x = Check.told("b0;");
        for (int i = 1; i <= rings; i++) {
            Check.build(x, 0);
        }
        return x;
    }

    /** When each of them slips for certain, the place tells how many there are. */
    private static void lastEightRings() {
        Check.of("each of the last RINGS (8 at most)");
        RingSteer seven = allKeyZero(7);
        seven.wishes(7, 28, 28);
        dueOdds(seven, 10, 0, 1, 1);
        dueOdds(seven, 9, 0, 4782969, 10000000);
        RingSteer eight = allKeyZero(8);
        eight.wishes(8, 36, 36);
        dueOdds(eight, 10, 0, 1, 1);
        dueOdds(eight, 9, 0, 43046721, 100000000);
        // Ring 1 of nine does not slip: 9 times (2, 0), then as with eight.
        RingSteer nine = allKeyZero(9);
        nine.wishes(9, 54, 36);
        dueOdds(nine, 10, 0, 1, 1);
        dueOdds(nine, 9, 0, 43046721, 100000000);
        // Of twelve rings the first four do not: (84, 0) and (36, 36).
        RingSteer twelve = allKeyZero(12);
        twelve.wishes(12, 99, 36);
        dueOdds(twelve, 10, 20, 0, 1);
        dueOdds(twelve, 10, 21, 1, 1);
    }

    private static void behindKeySeven() {
        Check.of("has the next KEY (7: 0)");
        int[] leanX = {2, 1, 0, -1, -2, -1, 0, 1};
        int[] leanY = {0, 1, 2, 1, 0, -1, -2, -1};
        for (int key = 0; key <= 7; key++) {
            int next = key == 7 ? 0 : key + 1;
            RingSteer x = new RingSteer();
            Check.build(x, key);
            x.wishes(1, leanX[next], leanY[next]);
            dueOdds(x, 10, 0, 1, 1);
            dueOdds(x, 3, 0, 3, 10);
        }
    }

    private static void oddsWithoutRings() {
        Check.of("a fraction (1 by 1 without RINGS)");
        for (int x = 0; x <= 10; x += 5) {
            dueOdds(new RingSteer(), x, 0, 1, 1);
            dueOdds(Check.told("w99 99;"), x, 9999, 1, 1);
        }
        Check.due("BAD without rings", BAD, new RingSteer().odds(11, 0, 0));
        RingSteer undone = new RingSteer();
        Check.build(undone, 0);
        dueOdds(undone, 0, 0, 0, 1);
        undone.undo();
        dueOdds(undone, 0, 0, 1, 1);
    }

    private static void imagesZeroAndOne() {
        Check.of("IMAGES 0, 1 keep RINGS, WISHES, RULES");
        for (int image : new int[] {-1, 2}) {
            Still.due(Still::rich, "keep(" + image + ")", BAD, x -> x.keep(image));
            Still.due(Still::rich, "back(" + image + ")", BAD, x -> x.back(image));
        }
        for (int image = 0; image <= 1; image++) {
            RingSteer x = Check.told("t2;b2;j1;m19;w1 2;k0;");
            x.wishes(17, 3, 4);
            Check.due("keep(" + image + ")", 1, x.keep(image));
            x.undo();
            x.builds(3);
            x.wishes(1, 0, 0);
            x.rules(0, 0);
            x.rules(1, 0);
            x.rules(2, 0);
            Check.due("the other one was not kept", STATE, x.back(1 - image));
            Check.due("back(" + image + ")", 1, x.back(image));
            Check.dueCounts(x, "back", 1, 2, 2, 1, 19, 0xee, 3, 0, 0, 0);
            Check.due("ring(1, 0)", 0, x.ring(1, 0));
            Check.due("ring(2, 0)", RingSteer.NO, x.ring(2, 0));
            Check.due("wish(1, 1)", 2, x.wish(1, 1));
            Check.due("wish(17, 0)", 3, x.wish(17, 0));
            Check.due("wish(17, 1)", 4, x.wish(17, 1));
        }
        RingSteer full = Still.fullOfRings();
        Check.due("keep(0) of twelve rings", 12, full.keep(0));
        full.undo();
        Check.due("back(0) to twelve rings", 12, full.back(0));
        Check.due("ring(12, 0)", 4, full.ring(12, 0));
    }

    private static void nothingElseIsKept() {
        Check.of("IMAGES .. nothing else");
        RingSteer x = Still.rich();
        int known = x.count(9);
        x.keep(0);
        Check.due("keep() leaves what can be undone", known, x.count(9));
        x.sees(0, 0);
        x.type(' ');
        Check.due("back(0)", 4, x.back(0));
        Check.due("what is seen stays", 3, x.count(7));
        Check.due("the text stays", 12, x.count(8));
        x.forget();
        x.clear();
        Check.due("back(0)", 4, x.back(0));
        Check.due("what is forgotten stays so", 0, x.count(7));
        Check.due("the text stays empty", 0, x.count(8));
        Check.due("the other image stays", 3, x.back(1));
        Check.due("and so does this one", 4, x.back(0));
    }

    private static void nothingUndoneBehindBack() {
        Check.of("(nothing can be UNDONE behind back())");
        RingSteer x = Still.rich();
        x.keep(0);
        Check.holds("count(9)", x.count(9) > 0);
        x.back(0);
        Check.due("count(9)", 0, x.count(9));
        Check.due("undo()", STATE, x.undo());
        Check.due("count(0)", 4, x.count(0));
        x.wishes(1, 0, 0);
        Check.due("count(9) behind a new deed", 1, x.count(9));
        Check.due("undo()", 0, x.undo());
        Check.due("wish(1, 0)", 3, x.wish(1, 0));
        Check.due("undo()", STATE, x.undo());
    }

    private static void readAnew() {
        Check.of("(Read anew: as told, else as at first; nothing can be UNDONE, nothing SEEN, IMAGES are gone.)");
        RingSteer x = Still.withoutText();
        Check.due("tunnel() of nothing", 0, x.tunnel());
        Check.holds("all is as at first", Still.everything(x).equals(Still.everything(new RingSteer())));
        Check.due("undo()", STATE, x.undo());
        Check.due("forget()", 0, x.forget());
        Check.due("back(0)", STATE, x.back(0));
        Check.due("back(1)", STATE, x.back(1));
        RingSteer told = Still.rich();
        Check.due("tunnel()", 3, told.tunnel());
        Check.holds("all is as told", Still.everything(told).equals(Still.everything(Check.told("t1;w7 7;k5;"))));
        Check.due("undo()", STATE, told.undo());
        Check.due("forget()", 0, told.forget());
        Check.due("back(0)", STATE, told.back(0));
        Check.due("back(1)", STATE, told.back(1));
    }
}
