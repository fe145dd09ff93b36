import java.util.ArrayList;
import java.util.List;
import java.util.function.Function;
import java.util.function.Supplier;
import java.util.function.ToIntFunction;

/**
 * Shows that a call changes nothing: two objects are made alike, one of them is called, and both must
 * answer alike from then on, whichever way they are looked at. What no call tells at once (deeds that
 * can be undone, images, the letters of the text) is brought out by calls that change the object; so
 * each way of looking has two objects of its own, and none of them is used for more than 512 calls.
 */
final class Still {
    private static final List<Function<RingSteer, List<Integer>>> LOOKS = List.of(
        Still::everything,
        Still::allUndone,
        x -> goneBack(x, 0),
        x -> goneBack(x, 1),
        Still::textRead);

    private Still() {
    }

    /** The call answers as due, and nothing has changed behind it. */
    static void due(Supplier<RingSteer> made, String call, int want, ToIntFunction<RingSteer> it) {
        for (int look = 0; look < LOOKS.size(); look++) {
            RingSteer left = made.get();
            RingSteer called = made.get();
            Check.due(call, want, it.applyAsInt(called));
            List<Integer> before = LOOKS.get(look).apply(left);
            List<Integer> behind = LOOKS.get(look).apply(called);
            Check.holds("nothing changed behind " + call + " (look " + look + "): " + before + " then " + behind,
                before.equals(behind));
        }
    }

    /** An object with something of all that there can be: what is done, seen, kept and told. */
    static RingSteer rich() {
        RingSteer x = withoutText();
        Check.tell(x, "t1;w7 7;k5;");
        return x;
    }

    static RingSteer withoutText() {
        RingSteer x = Check.told("t2;b2;w3 1;w5-4;k0;k1;");
        x.keep(0);
        x.rules(1, 1);
        x.wishes(3, 9, -2);
        x.builds(6);
        x.keep(1);
        x.rules(2, 20);
        x.follows(2);
        x.rules(0, 3);
        x.wishes(17, -1, 4);
        x.sees(11, -5);
        x.sees(x.ring(4, 3), x.ring(4, 4) - 4);
        return x;
    }

    static RingSteer withText(String text) {
        RingSteer x = withoutText();
        Check.tell(x, text);
        return x;
    }

    static RingSteer fullOfRings() {
        RingSteer x = Check.told("b2;j1;");
        Check.build(x, 0, 1, 4, 2, 7, 5, 3, 6, 0, 2, 1, 4);
        x.sees(3, 3);
        x.keep(1);
        return x;
    }

    /** No key may be next, for there is no room in the tail. */
    static RingSteer withoutRoom() {
        RingSteer x = Check.told("t3;m4;w3 3;w 30 30;k1;");
        x.rules(0, 0);
        x.keep(0);
        return x;
    }

    static List<Integer> everything(RingSteer x) {
        List<Integer> told = new ArrayList<>();
        for (int what = 0; what <= 9; what++) {
            told.add(x.count(what));
        }
        for (int i = 0; i <= 13; i++) {
            for (int what = 0; what <= 5; what++) {
                told.add(x.ring(i, what));
            }
        }
        for (int place = 0; place <= 17; place++) {
            told.add(x.wish(place, 0));
            told.add(x.wish(place, 1));
        }
        for (int i = 0; i <= 12; i++) {
            told.add(x.worst(i));
            told.add(x.unseen(i));
        }
        ahead(x, told);
        return told;
    }

    private static void ahead(RingSteer x, List<Integer> told) {
        for (int key = 0; key <= 7; key++) {
            told.add(x.trying(key));
        }
        for (int h = 1; h <= 3; h++) {
            for (int k = -2; k < h; k++) {
                told.add(x.plan(h, k));
            }
        }
        for (int c = 0; c <= 40; c += 10) {
            told.add(x.odds(3, c, 0));
            told.add(x.odds(3, c, 1));
        }
    }

    private static List<Integer> allUndone(RingSteer x) {
        List<Integer> told = new ArrayList<>();
        for (int more = 0; more >= 0 && told.size() < 320; ) {
            more = x.undo();
            told.add(more);
            int rings = x.count(0);
            told.add(rings);
            told.add(x.ring(rings, 0));
            for (int what = 2; what <= 4; what++) {
                told.add(x.count(what));
            }
            for (int place = 1; place <= 17; place++) {
                told.add(x.wish(place, place % 2));
            }
        }
        return told;
    }

    private static List<Integer> goneBack(RingSteer x, int image) {
        int rings = x.back(image);
        List<Integer> told = everything(x);
        told.add(rings);
        return told;
    }

    private static List<Integer> textRead(RingSteer x) {
        int items = x.tunnel();
        int letters = x.clear();
        List<Integer> told = everything(x);
        told.add(items);
        told.add(letters);
        return told;
    }
}
