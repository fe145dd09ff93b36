/** Boundary cases of "Terms", part 1: the text, its tokens and items, and where a fault is. */
public final class BoundsTextTest {
    private static final int BAD = RingSteer.BAD, FULL = RingSteer.FULL;
    private static final String[] ONCE = {"t2;", "b2;", "j2;", "m2;"};
    private static final String TWELVE_KEYS = "k0;k1;k2;k3;k4;k5;k6;k7;k0;k1;k2;k3;";

    public static void main(String[] args) {
        letters();
        lettersThatAreRead();
        blanks();
        noOtherLetterIsABlank();
        endedBySemicolons();
        numbersThatAreNotThere();
        onceAtMost();
        aheadOfAllKeys();
        nextPlaces();
        signs();
        nextRings();
        tokensAtAnItemsBeginning();
        tokensInsideAnItem();
        eighteenthWish();
        thirteenthKey();
        keysThatMayNotBeNext();
        numbersBeyond();
        numbersAboveNinetyNine();
        zerosAhead();
        endsTooEarly();
        firstOfSeveralFaults();
        wishesBehindKeys();
        Check.end("BoundsTextTest");
    }

    private static void reads(String text, int items) {
        RingSteer x = new RingSteer();
        Check.tell(x, text);
        Check.due("tunnel() of '" + text + "'", items, x.tunnel());
        Check.due("letters behind '" + text + "'", 0, x.count(8));
    }

    /** The fault is told, and nothing changes: not the text either. */
    private static void fault(String text, int place) {
        Still.due(() -> Still.withText(text), "tunnel() of '" + text + "'", -10 - place, RingSteer::tunnel);
        RingSteer x = new RingSteer();
        Check.tell(x, text);
        x.tunnel();
        Check.due("letters behind '" + text + "'", text.length(), x.count(8));
    }

    private static void letters() {
        Check.of("a text (120 letters at most)");
        RingSteer x = new RingSteer();
        for (int n = 1; n <= 120; n++) {
            Check.due("letter " + n, n, x.type('w'));
        }
        Check.due("letter 121", FULL, x.type('w'));
        Check.due("count(8)", 120, x.count(8));
        String full = "w1 1;".repeat(17) + "b0;" + "k1;k2;".repeat(5) + "  ";
        Check.due("the text's length", 120, full.length());
        Still.due(() -> Still.withText(full), "type(59) to 120 letters", FULL, y -> y.type(';'));
        Still.due(() -> Still.withText(full), "type(256) to 120 letters", BAD, y -> y.type(256));
        RingSteer cleared = Still.withText(full);
        Check.due("clear()", 120, cleared.clear());
        Check.due("type(59) to none", 1, cleared.type(';'));
    }

    private static void lettersThatAreRead() {
        Check.of("a text (120 letters at most), told letter by letter");
        reads("", 0);
        reads(" ".repeat(120), 0);
        reads("t3;" + " ".repeat(114) + "k0;", 2);
        fault("t3;" + " ".repeat(114) + "k00", 118);
        fault(" ".repeat(119) + ";", 119);
        fault(" ".repeat(119) + "k", 120);
    }

    private static void blanks() {
        Check.of("blanks (32) between TOKENS");
        reads("t1;b1;j0;m9;w-1-1;k0;", 6);
        reads("  t  1  ;  b  1  ;  w  -  1  -  1  ;  k  0  ;  ", 4);
        reads(" ", 0);
        reads("w1 2;", 1);
        fault("w12;", 3);
        fault("w1 2 3;", 5);
        fault("m1 0;", 3);
    }

    private static void noOtherLetterIsABlank() {
        Check.of("blanks (32)");
        for (int letter : new int[] {0, 9, 10, 13, 31, 33, 127, 160, 255}) {
            fault("t1;" + (char) letter + "k0;", 3);
            fault("w1" + (char) letter + "2;", 2);
        }
    }

    private static void endedBySemicolons() {
        Check.of("ITEMS, each ended by ;");
        reads("t1;", 1);
        reads("t1;k0;", 2);
        fault("t1", 2);
        fault("t1;k0", 5);
        fault("t1 k0;", 3);
        fault("t1;;", 3);
        fault(";", 0);
        fault("t1;k0;;", 6);
    }

    private static void numbersThatAreNotThere() {
        Check.of("ITEMS .. t N, b N, j N, m N; w X Y; k K");
        for (String letter : new String[] {"t", "b", "j", "m", "w", "k"}) {
            fault(letter + ";", 1);
            fault(letter + "  ;", 3);
            fault(letter + letter + "1;", 1);
            fault(letter + "1 1 1;", letter.equals("w") ? 5 : 3);
        }
        fault("w1;", 2);
        fault("w-1 ;", 4);
    }

    private static void onceAtMost() {
        Check.of("t N (TAPER), b N (BAR), j N (WAY of judging), m N (TAIL; each of these once at most");
        for (String item : ONCE) {
            reads(item, 1);
            fault(item + item, 3);
            fault(item + "w1 1;" + item, 8);
            fault(item + item.charAt(0), 3);
            fault(item + " " + item.charAt(0) + "1;", 4);
        }
        reads(String.join("", ONCE), 4);
        fault(String.join("", ONCE) + "b2;", 12);
        // A text that was read, or was refused, does not count for the next one.
        RingSteer x = Check.told("t2;b2;");
        Check.tell(x, "t3;t");
        Check.due("tunnel() of t again", -13, x.tunnel());
        x.clear();
        Check.tell(x, "t3;");
        Check.due("tunnel() of t anew", 1, x.tunnel());
        Check.due("count(1)", 3, x.count(1));
    }

    private static void aheadOfAllKeys() {
        Check.of("ahead of all k");
        for (String item : ONCE) {
            reads(item + "k1;", 2);
            reads("w1 1;" + item + "k1;", 3);
            fault("k1;" + item, 3);
            fault("k1;w1 1;" + item, 8);
            fault("k1;k2;" + item, 6);
        }
    }

    private static void nextPlaces() {
        Check.of("w X Y (the WISH for the next place");
        StringBuilder text = new StringBuilder();
        for (int place = 1; place <= 17; place++) {
            text.append("w ").append(place).append(" 1;");
        }
        RingSteer x = Check.told(text.toString());
        for (int place = 1; place <= 17; place++) {
            Check.due("wish(" + place + ", 0)", place, x.wish(place, 0));
            Check.due("wish(" + place + ", 1)", 1, x.wish(place, 1));
        }
        RingSteer y = Check.told("w1 2;k0;w3 4;");
        Check.due("k takes no place: wish(2, 0)", 3, y.wish(2, 0));
        Check.due("without a w: wish(3, 0)", 0, y.wish(3, 0));
    }

    private static void signs() {
        Check.of("X, Y: a NUMBER, perhaps with - ahead");
        int[][] wishes = {{1, 2}, {-1, 2}, {1, -2}, {-1, -2}, {-99, 99}, {0, -99}};
        for (int[] w : wishes) {
            RingSteer x = Check.told("w" + w[0] + " " + w[1] + ";");
            Check.due("x of " + w[0] + " " + w[1], w[0], x.wish(1, 0));
            Check.due("y of " + w[0] + " " + w[1], w[1], x.wish(1, 1));
        }
        RingSteer apart = Check.told("w - 5 - 6;");
        Check.due("x, - apart", -5, apart.wish(1, 0));
        Check.due("y, - apart", -6, apart.wish(1, 1));
        RingSteer zero = Check.told("w-0-0;");
        Check.due("x of -0", 0, zero.wish(1, 0));
        Check.due("y of -0", 0, zero.wish(1, 1));
        fault("w--1 1;", 2);
        fault("w1--1;", 3);
        fault("w1 1-;", 4);
        fault("w-;", 2);
        fault("w1-;", 3);
        for (String letter : new String[] {"t", "b", "j", "m", "k"}) {
            fault(letter + "-1;", 1);
        }
    }

    private static void nextRings() {
        Check.of("k K (the next RING is built, if K may be next)");
        RingSteer x = Check.told(TWELVE_KEYS);
        Check.due("count(0)", 12, x.count(0));
        for (int i = 1; i <= 12; i++) {
            Check.due("ring(" + i + ", 0)", (i - 1) % 8, x.ring(i, 0));
        }
        Check.due("without a k", 0, Check.told("t1;").count(0));
    }

    private static void tokensAtAnItemsBeginning() {
        Check.of("TOKENS are the letters t, b, j, m, w, k, - , ; , NUMBERS");
        for (int letter = 0; letter <= 255; letter++) {
            RingSteer x = new RingSteer();
            x.type(letter);
            boolean begins = "tbjmwk".indexOf(letter) >= 0;
            int want = letter == ' ' ? 0 : begins ? -11 : -10;
            Check.due("tunnel() of the letter " + letter, want, x.tunnel());
        }
    }

    private static void tokensInsideAnItem() {
        Check.of("the first letter of the first TOKEN that can't stand there");
        for (int letter = 0; letter <= 255; letter++) {
            boolean digit = letter >= '0' && letter <= '9';
            RingSteer x = new RingSteer();
            Check.tell(x, "t" + (char) letter + "1;");
            Check.due("the letter " + letter + " behind t", letter == ' ' ? 1 : -11, x.tunnel());
            RingSteer y = new RingSteer();
            Check.tell(y, "t1" + (char) letter + ";");
            int want = letter == ' ' ? 1 : letter == ';' ? -13 : digit ? -11 : -12;
            Check.due("the letter " + letter + " behind t1", want, y.tunnel());
            RingSteer z = new RingSteer();
            Check.tell(z, "w1" + (char) letter + "2;");
            boolean apart = letter == ' ' || letter == '-';
            // Three digits are a number above 99; another letter is a fault of its own.
            Check.due("the letter " + letter + " in w1 2", apart ? 1 : digit ? -11 : -12, z.tunnel());
        }
    }

    private static void eighteenthWish() {
        Check.of("an eighteenth w");
        String seventeen = "w1 1;".repeat(17);
        reads(seventeen, 17);
        reads(seventeen + "t2;k1;", 19);
        fault(seventeen + "w1 1;", 85);
        fault(seventeen + "w", 85);
        fault(seventeen + "k1;  w x", 90);
    }

    private static void thirteenthKey() {
        Check.of("a thirteenth k");
        reads(TWELVE_KEYS, 12);
        reads(TWELVE_KEYS + "w1 1;", 13);
        fault(TWELVE_KEYS + "k4;", 36);
        fault(TWELVE_KEYS + " k", 37);
        fault(TWELVE_KEYS + "k9;", 36);
    }

    private static void keysThatMayNotBeNext() {
        Check.of("K that may not be next");
        fault("k0;k0;", 4);
        fault("k0;k 0", 5);
        reads("b0;k0;k0;", 3);
        fault("b2;k6;k2;", 7);
        reads("b2;k6;k1;", 3);
        fault("b3;k7;k0;", 7);
        fault("b3;k0;k7;", 7);
        reads("b3;k7;k1;", 3);
        fault("m1;k0;", 4);
        reads("m2;k0;", 2);
        fault("m20;w23 0;k0;", 11);
        reads("m20;w22 0;k0;", 3);
    }

    private static void numbersBeyond() {
        Check.of("a NUMBER beyond what it may be");
        String[][] taken = {{"t", "1", "3"}, {"b", "0", "3"}, {"j", "0", "2"}, {"m", "0", "20"}, {"k", "0", "7"}};
        for (String[] t : taken) {
            reads(t[0] + t[1] + ";", 1);
            reads(t[0] + t[2] + ";", 1);
            int most = Integer.parseInt(t[2]);
            fault(t[0] + (most + 1) + ";", 1);
            fault(t[0] + "  " + (most + 1), 3);
            fault(t[0] + "99;", 1);
        }
        fault("t0;", 1);
        reads("w0 0;w99 99;w-99-99;", 3);
    }

    private static void numbersAboveNinetyNine() {
        Check.of("of .. a NUMBER above 99 .., that TOKEN's");
        reads("w99 99;", 1);
        fault("w100 1;", 1);
        fault("w -100 1;", 3);
        fault("w1 100;", 3);
        fault("w1-100;", 3);
        fault("w1 999;", 3);
        fault("t100;", 1);
        fault("100", 0);
        fault("t1 100;", 3);
        // 2 to the 32, and 1 more: no number of the machine may wrap around to one that fits.
        fault("w4294967296 1;", 1);
        fault("w 1 4294967297;", 4);
        fault("w" + "1".repeat(110), 1);
    }

    private static void zerosAhead() {
        Check.of("of .. a NUMBER .. with a 0 ahead of others, that TOKEN's");
        reads("w0 0;", 1);
        reads("w10 20;", 1);
        fault("w00 1;", 1);
        fault("w01 1;", 1);
        fault("w1 09;", 3);
        fault("w1-00;", 3);
        fault("w1 010;", 3);
        fault("k00;", 1);
        fault("k 07;", 2);
        fault("t01;", 1);
        fault("w" + "0".repeat(110) + "1", 1);
    }

    private static void endsTooEarly() {
        Check.of("the text's length, if it ends too early");
        for (String item : new String[] {"t1;", "b3;", "j2;", "m20;", "w1 2;", "w-1-2;", "w - 10 - 20;", "k7;"}) {
            reads("w1 1;" + item, 2);
            for (int n = 1; n < item.length(); n++) {
                String early = item.substring(0, n);
                fault(early, n);
                fault("w1 1;" + early + "  ", n + 7);
            }
        }
        fault("w1 1;".repeat(16) + " ".repeat(38) + "k0", 120);
    }

    private static void firstOfSeveralFaults() {
        Check.of("FAULT: the place of the first letter of the first TOKEN that can't stand there");
        fault("t4;x", 1);
        fault("x t4;", 0);
        fault("k0;k0;k0", 4);
        fault("w1 x 100", 3);
        fault("w100 x", 1);
        fault("t1;t100;", 3);
        fault(" ;;", 1);
    }

    private static void wishesBehindKeys() {
        Check.of("(w behind k does not matter to RINGS that are built.)");
        reads("m2;k0;w9 9;", 3);
        fault("m2;w9 9;k0;", 9);
        RingSteer x = Check.told("m2;k0;w9 9;");
        Check.due("count(0)", 1, x.count(0));
        Check.due("ring(1, 0)", 0, x.ring(1, 0));
        // But it matters to the next one: from (9, 9) to (0, 0) is too far.
        Check.due("count(5)", 0, x.count(5));
        fault("m2;k0;w9 9;k1;", 12);
    }
}
