import java.util.Random;

/** All promises at once: runs of calls by chance (always the same ones), held against PlainModel. */
public final class RandomTest {
    private static final int RUNS = 600;
    private static final int CALLS = 512;

    private final Random chance;
    private final RingSteer steer = new RingSteer();
    private final PlainModel model = new PlainModel();
    private final int run;
    /** How far the wishes of this run lie from one another. */
    private final int spread;

    private RandomTest(int run) {
        this.run = run;
        chance = new Random(run);
        spread = new int[] {1, 3, 9, 30, 99}[chance.nextInt(5)];
    }

    public static void main(String[] args) {
        for (int run = 0; run < RUNS && !Check.anyWrong(); run++) {
            new RandomTest(run).play();
        }
        Check.end("RandomTest");
    }

    private void play() {
        int[] left = {CALLS};
        while (left[0] > 0 && !Check.anyWrong()) {
            if (chance.nextInt(40) == 0) {
                left[0] -= tellText();
            } else {
                left[0]--;
                callByChance();
            }
        }
    }

    private int upTo(int most) {
        return chance.nextInt(most + 1);
    }

    /** Mostly least to most, at times a little beyond, seldom far beyond. */
    private int about(int least, int most) {
        int die = chance.nextInt(60);
        if (die == 0) {
            return chance.nextInt();
        }
        if (die < 4) {
            return chance.nextBoolean() ? least - 1 : most + 1;
        }
        return least + upTo(most - least);
    }

    private void due(String call, int want, int got) {
        Check.due("run " + run + ": " + call, want, got);
    }

    private void callByChance() {
        int what = chance.nextInt(25);
        if (what < 10) {
            callThatDoes(what);
        } else if (what < 18) {
            callThatAsks(what);
        } else {
            callThatSees(what);
        }
    }

    private void callThatDoes(int what) {
        switch (what) {
            case 0: case 1: case 2: {
                int key = about(0, 7);
                due("builds(" + key + ")", model.builds(key), steer.builds(key));
                break;
            }
            case 3: {
                int h = about(1, upTo(7) == 0 ? 4 : 2);
                due("follows(" + h + ")", model.follows(h), steer.follows(h));
                break;
            }
            case 4: case 5: {
                int place = about(1, 17);
                int x = about(-spread, spread);
                int y = about(-spread, spread);
                due("wishes(" + place + ", " + x + ", " + y + ")", model.wishes(place, x, y), steer.wishes(place, x, y));
                break;
            }
            case 6: case 7: {
                int rule = about(0, 2);
                int v = about(0, rule == 0 ? 3 : rule == 1 ? 2 : 20);
                due("rules(" + rule + ", " + v + ")", model.rules(rule, v), steer.rules(rule, v));
                break;
            }
            default:
                due("undo()", model.undo(), steer.undo());
                break;
        }
    }

    private void callThatAsks(int what) {
        switch (what) {
            case 10: {
                int i = about(0, model.count(0));
                int part = about(0, 5);
                due("ring(" + i + ", " + part + ")", model.ring(i, part), steer.ring(i, part));
                break;
            }
            case 11: {
                int place = about(0, 17);
                int part = about(0, 1);
                due("wish(" + place + ", " + part + ")", model.wish(place, part), steer.wish(place, part));
                break;
            }
            case 12: {
                int k = about(0, 12);
                due("worst(" + k + ")", model.worst(k), steer.worst(k));
                break;
            }
            case 13: case 14: {
                int h = about(1, upTo(30) == 0 ? 5 : upTo(3) == 0 ? 3 : 2);
                int k = about(-2, 5);
                due("plan(" + h + ", " + k + ")", model.plan(h, k), steer.plan(h, k));
                break;
            }
            case 15: {
                int key = about(0, 7);
                due("trying(" + key + ")", model.trying(key), steer.trying(key));
                break;
            }
            default: {
                int part = about(0, 9);
                due("count(" + part + ")", model.count(part), steer.count(part));
                break;
            }
        }
    }

    private void callThatSees(int what) {
        switch (what) {
            case 18:
                seeByChance();
                break;
            case 19:
                due("forget()", model.forget(), steer.forget());
                break;
            case 20: case 21: {
                int i = about(1, Math.max(1, model.count(0)));
                due("unseen(" + i + ")", model.unseen(i), steer.unseen(i));
                break;
            }
            case 22: {
                int x = about(0, 10);
                int c = about(0, new int[] {2, 9, 99, 999, 9999}[upTo(4)]);
                int part = about(0, 1);
                due("odds(" + x + ", " + c + ", " + part + ")", model.odds(x, c, part), steer.odds(x, c, part));
                break;
            }
            case 23: {
                int image = about(0, 1);
                due("keep(" + image + ")", model.keep(image), steer.keep(image));
                break;
            }
            default: {
                int image = about(0, 1);
                due("back(" + image + ")", model.back(image), steer.back(image));
                break;
            }
        }
    }

    /** Most sights are places where the line could have come out, so that some key explains them. */
    private void seeByChance() {
        int rings = model.count(0);
        int x = about(-9999, 9999);
        int y = about(-9999, 9999);
        if (rings > 0 && upTo(9) > 0) {
            int times = model.count(1) * (1 + chance.nextInt(rings));
            x = model.ring(rings, 3) + times * (upTo(4) - 2);
            y = model.ring(rings, 4) + times * (upTo(4) - 2);
        }
        due("sees(" + x + ", " + y + ")", model.sees(x, y), steer.sees(x, y));
    }

    private int tellText() {
        String text = textByChance();
        for (int i = 0; i < text.length(); i++) {
            due("type", model.type(text.charAt(i)), steer.type(text.charAt(i)));
        }
        due("tunnel() of '" + text + "'", model.tunnel(), steer.tunnel());
        if (upTo(5) > 0) {
            due("clear()", model.clear(), steer.clear());
        }
        for (int what = 0; what <= 9; what++) {
            due("count(" + what + ")", model.count(what), steer.count(what));
        }
        return text.length() + 12;
    }

    private String textByChance() {
        StringBuilder text = new StringBuilder();
        String letters = upTo(3) == 0 ? "tbjm" : "";
        for (int i = 0; i < letters.length(); i++) {
            if (upTo(2) > 0) {
                int most = new int[] {3, 3, 2, 20}[i];
                item(text, letters.charAt(i), about(1, most) + "");
            }
        }
        for (int items = upTo(14); items > 0; items--) {
            if (chance.nextBoolean()) {
                item(text, 'w', about(-spread, spread) + (chance.nextBoolean() ? " " : "  ") + about(-spread, spread));
            } else {
                item(text, 'k', about(0, 7) + "");
            }
        }
        if (upTo(3) == 0 && text.length() > 0) {
            spoil(text);
        }
        return text.length() > 125 ? text.substring(0, 125) : text.toString();
    }

    private void item(StringBuilder text, char letter, String rest) {
        text.append(letter).append(chance.nextBoolean() ? " " : "").append(rest).append(';');
        if (upTo(4) == 0) {
            text.append(' ');
        }
    }

    private void spoil(StringBuilder text) {
        String signs = "tbjmwk-; 0123456789x\t";
        int place = chance.nextInt(text.length());
        char sign = signs.charAt(chance.nextInt(signs.length()));
        switch (chance.nextInt(3)) {
            case 0: text.insert(place, sign); break;
            case 1: text.setCharAt(place, sign); break;
            default: text.deleteCharAt(place); break;
        }
    }
}
