import java.util.function.Supplier;
import java.util.function.ToIntFunction;

/** Boundary cases of the sentences that hold for every call: what refuses first, NO, and 512 calls. */
public final class BoundsEveryCallTest {
    private static final int BAD = RingSteer.BAD, STATE = RingSteer.STATE, FULL = RingSteer.FULL;
    private static final int NONE = RingSteer.NONE, NO = RingSteer.NO;
    private static final int[] FAR = {Integer.MIN_VALUE, Integer.MIN_VALUE + 1, -1000001, 1000000, Integer.MAX_VALUE - 1,
        Integer.MAX_VALUE};

    public static void main(String[] args) {
        whatIsLookedAt();
        badIsFirst();
        stateAndFullAsTold();
        fullAheadOfState();
        numbersFarAway();
        noWhereNumbersMayBeBelowZero();
        fiveHundredAndTwelveDeeds();
        fiveHundredAndTwelveLetters();
        fiveHundredAndTwelveQuestions();
        laterCallsEnd();
        Check.end("BoundsEveryCallTest");
    }

    /** The objects of Still are what they are said to be: otherwise "nothing changed" would say little. */
    private static void whatIsLookedAt() {
        Check.of("Refused, and nothing changes");
        Check.dueCounts(Still.rich(), "rich", 4, 2, 3, 1, 20, Still.rich().count(5), Still.rich().count(6), 2, 11, 7);
        Check.due("rich: image 0", 2, Still.rich().back(0));
        Check.due("rich: image 1", 3, Still.rich().back(1));
        Check.due("rich: the text", 3, Still.rich().tunnel());
        Check.holds("rich: some keys may be next, some not", Still.rich().count(5) > 0 && Still.rich().count(5) < 0xff);
        Check.due("full of rings", 12, Still.fullOfRings().count(0));
        Check.due("without room", 0, Still.withoutRoom().count(5));
        Check.due("without room, but not of rings", 1, Still.withoutRoom().count(0));
    }

    private static void due(String call, int want, Supplier<RingSteer> made, ToIntFunction<RingSteer> it) {
        Still.due(made, call, want, it);
    }

    private static RingSteer fullText() {
        return Still.withText("k".repeat(120));
    }

    private static RingSteer fullOfSights() {
        RingSteer x = Still.rich();
        x.sees(1, 2);
        x.sees(3, 4);
        return x;
    }

    private static void badIsFirst() {
        Check.of("the first of these: BAD (a number is not as told, or there is no such thing)");
        due("type(256) to a full text", BAD, BoundsEveryCallTest::fullText, x -> x.type(256));
        due("builds(8) behind ring 12", BAD, Still::fullOfRings, x -> x.builds(8));
        due("builds(8) without room", BAD, Still::withoutRoom, x -> x.builds(8));
        due("follows(6) behind ring 12", BAD, Still::fullOfRings, x -> x.follows(6));
        due("follows(6) without room", BAD, Still::withoutRoom, x -> x.follows(6));
        due("wishes(18, 0, 0)", BAD, RingSteer::new, x -> x.wishes(18, 0, 0));
        due("wishes(0, 0, 0), where it is that", BAD, RingSteer::new, x -> x.wishes(0, 0, 0));
        due("trying(-1) without room", BAD, Still::withoutRoom, x -> x.trying(-1));
        due("plan(0, 0) without a row", BAD, Still::withoutRoom, x -> x.plan(0, 0));
        due("sees(-10000, 0), four being seen", BAD, BoundsEveryCallTest::fullOfSights, x -> x.sees(-10000, 0));
        due("back(-1) without an image", BAD, RingSteer::new, x -> x.back(-1));
    }

    private static void stateAndFullAsTold() {
        Check.of("STATE (as told), FULL");
        due("type(59) to a full text", FULL, BoundsEveryCallTest::fullText, x -> x.type(';'));
        due("sees(1, 2), four being seen", FULL, BoundsEveryCallTest::fullOfSights, x -> x.sees(1, 2));
        due("builds(1) without room", STATE, Still::withoutRoom, x -> x.builds(1));
        due("follows(1) without room", STATE, Still::withoutRoom, x -> x.follows(1));
        due("trying(1) without room", STATE, Still::withoutRoom, x -> x.trying(1));
        due("wishes(1, 3, 1), where it is that", STATE, Still::rich, x -> x.wishes(1, 3, 1));
        due("rules(2, 20), where it is that", STATE, Still::rich, x -> x.rules(2, 20));
        due("undo() of nothing", STATE, () -> Check.told("k1;k2;"), RingSteer::undo);
        due("back(0) without an image", STATE, Still::fullOfRings, x -> x.back(0));
    }

    private static void fullAheadOfState() {
        Check.of("(In this order.)");
        due("builds(4) behind ring 12's 4", FULL, Still::fullOfRings, x -> x.builds(4));
        due("builds(0) behind ring 12's 4, by BAR 2", FULL, Still::fullOfRings, x -> x.builds(0));
        due("builds(3) behind ring 12", FULL, Still::fullOfRings, x -> x.builds(3));
        due("follows(1) behind ring 12, without a plan", FULL, BoundsEveryCallTest::fullWithoutPlan, x -> x.follows(1));
        due("follows(0) behind ring 12, without a plan", BAD, BoundsEveryCallTest::fullWithoutPlan, x -> x.follows(0));
        RingSteer x = fullWithoutPlan();
        x.undo();
        x.undo();
        x.undo();
        Check.due("behind ring 11 STATE is told: builds(1)", STATE, x.builds(1));
    }

    private static RingSteer fullWithoutPlan() {
        RingSteer x = Still.fullOfRings();
        x.rules(2, 1);
        x.wishes(13, 99, -99);
        Check.due("there is no plan", NONE, x.plan(1, -2));
        return x;
    }

    private static void numbersFarAway() {
        Check.of("BAD (a number is not as told)");
        for (int n : FAR) {
            String with = " with " + n;
            due("type" + with, BAD, Still::rich, x -> x.type(n));
            due("builds" + with, BAD, Still::rich, x -> x.builds(n));
            due("follows" + with, BAD, Still::rich, x -> x.follows(n));
            due("wishes" + with, BAD, Still::rich, x -> x.wishes(n, n, n));
            due("wishes, place 1," + with, BAD, Still::rich, x -> x.wishes(1, n, n));
            due("rules" + with, BAD, Still::rich, x -> x.rules(n, n));
            due("rules, what 2," + with, BAD, Still::rich, x -> x.rules(2, n));
            due("plan" + with, BAD, Still::rich, x -> x.plan(n, 0));
            due("trying" + with, BAD, Still::rich, x -> x.trying(n));
            due("sees" + with, BAD, Still::rich, x -> x.sees(n, n));
            due("unseen" + with, BAD, Still::rich, x -> x.unseen(n));
            due("odds" + with, BAD, Still::rich, x -> x.odds(n, n, n));
            due("odds, x 1," + with, BAD, Still::rich, x -> x.odds(1, n, 0));
            due("odds, x 1, c 1," + with, BAD, Still::rich, x -> x.odds(1, 1, n));
            due("keep" + with, BAD, Still::rich, x -> x.keep(n));
            due("back" + with, BAD, Still::rich, x -> x.back(n));
            due("count" + with, BAD, Still::rich, x -> x.count(n));
            due("worst" + with, n < 0 ? BAD : NONE, Still::rich, x -> x.worst(n));
            due("plan, h 1," + with, n < 0 ? BAD : NONE, Still::rich, x -> x.plan(1, n));
        }
    }

    private static void noWhereNumbersMayBeBelowZero() {
        Check.of("NO = -1000000: What is BAD, where a number may be below 0.");
        Check.due("NO", -1000000, NO);
        for (int n : FAR) {
            due("ring with " + n, NO, Still::rich, x -> x.ring(n, 0));
            due("ring(0, " + n + ")", NO, Still::rich, x -> x.ring(0, n));
            due("wish with " + n, NO, Still::rich, x -> x.wish(n, 0));
            due("wish(0, " + n + ")", NO, Still::rich, x -> x.wish(0, n));
        }
        due("ring(5, 0), there being four", NO, Still::rich, x -> x.ring(5, 0));
        due("ring(4, 6)", NO, Still::rich, x -> x.ring(4, 6));
        due("ring(-1, -1)", NO, Still::rich, x -> x.ring(-1, -1));
        due("wish(18, 0)", NO, Still::rich, x -> x.wish(18, 0));
        due("wish(17, 2)", NO, Still::rich, x -> x.wish(17, 2));
        // -1 and -2 are BAD and STATE elsewhere; here they are what is asked for.
        RingSteer x = Check.told("w-1-2;k5;k6;");
        Check.due("ring(1, 1)", -1, x.ring(1, 1));
        Check.due("ring(2, 1)", -1, x.ring(2, 1));
        Check.due("ring(2, 2)", -3, x.ring(2, 2));
        Check.due("ring(2, 3)", -2, x.ring(2, 3));
        Check.due("wish(1, 0)", -1, x.wish(1, 0));
        Check.due("wish(1, 1)", -2, x.wish(1, 1));
    }

    private static void fiveHundredAndTwelveDeeds() {
        Check.of("An object is used for at most 512 calls after it has been made");
        RingSteer x = new RingSteer();
        for (int calls = 0; calls < 512; calls += 4) {
            int n = calls % 99 + 1;
            Check.due("call " + calls + ": wishes", 1, x.wishes(17, n, -n));
            Check.due("call " + calls + ": builds", 2, x.builds(calls / 4 % 8));
            Check.due("call " + calls + ": undo", 1, x.undo());
            Check.due("call " + calls + ": undo", 0, x.undo());
        }
        // All known deeds are lost again and again.
        RingSteer y = new RingSteer();
        for (int call = 1; call < 512; call++) {
            Check.due("call " + call, 1, y.wishes(1, call % 99, call % 98));
        }
        Check.due("call 512", 11, y.undo());
    }

    private static void fiveHundredAndTwelveLetters() {
        Check.of("An object is used for at most 512 calls after it has been made");
        RingSteer x = new RingSteer();
        for (int round = 1; round <= 4; round++) {
            for (int n = 1; n <= 120; n++) {
                Check.due("letter " + n, n, x.type("t1;".charAt((n - 1) % 3)));
            }
            Check.due("the second t", -13, x.tunnel());
            Check.due("clear()", 120, x.clear());
        }
        Check.tell(x, "t3;b0;j2;m20;w1 1;k0;");
        Check.due("tunnel(), call 510", 6, x.tunnel());
        Check.due("count(1), call 511", 3, x.count(1));
        Check.due("ring(1, 5), call 512", 25 + 1, x.ring(1, 5));
    }

    private static void fiveHundredAndTwelveQuestions() {
        Check.of("An object is used for at most 512 calls after it has been made");
        RingSteer x = new RingSteer();
        for (int call = 0; call < 510; call += 6) {
            Check.due("sees", 1, x.sees(1, 1));
            Check.due("forget", 1, x.forget());
            Check.due("keep", 0, x.keep(call % 2));
            Check.due("back", 0, x.back(call % 2));
            Check.due("plan(5, -2)", 24, x.plan(5, -2));
            Check.due("odds", 1, x.odds(3, 3, 0));
        }
        Check.due("count(5), call 511", 0xff, x.count(5));
        Check.due("builds(2), call 512", 2, x.builds(2));
    }

    /** What they answer is free, but not that they end. */
    private static void laterCallsEnd() {
        Check.of("what later calls answer is free");
        RingSteer x = Still.rich();
        for (int n = -3; n <= 300; n++) {
            x.type(n);
            x.tunnel();
            x.builds(n % 9);
            x.follows(n % 7);
            x.wishes(n % 19, n, -n);
            x.rules(n % 4, n % 23);
            x.undo();
            x.ring(n, n % 7);
            x.wish(n, n % 3);
            x.worst(n);
            x.plan(n % 4, n);
            x.trying(n);
            x.sees(n, n);
            x.unseen(n);
            x.odds(n, n, n % 3);
            x.keep(n % 3);
            x.back(n % 3);
            x.count(n);
        }
        Check.holds("all calls end", x.forget() >= 0 && x.clear() >= 0);
    }
}
