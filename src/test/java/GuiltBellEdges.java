import java.util.function.Supplier;

/**
 * One test for each boundary case that a sentence of the document names: each begins with edge(), which tells the
 * sentence. Answers are worked out by hand; no object is used for more than the 512 calls of which something is promised.
 */
public final class GuiltBellEdges {
    private static final int BAD = -1, STATE = -2, FULL = -3, NONE = -4;
    private static final int LOWEST = Integer.MIN_VALUE, GREATEST = Integer.MAX_VALUE;

    private interface Call {
        long on(GuiltBell x);
    }

    private interface CallWith {
        long on(GuiltBell x, int v);
    }

    private static String sentence = "";
    private static int sentences = 0;
    private static int wrong = 0;

    private static void edge(String where, String words) {
        sentence = where + ": " + words;
        sentences++;
    }

    private static void due(String call, long got, long want) {
        if (got == want) return;
        wrong++;
        System.out.println("[" + sentence + "] " + call + " answered " + got + ", due is " + want);
    }

    // ---- objects to begin with

    private static void feedAll(GuiltBell x, String text) {
        for (int i = 0; i < text.length(); i++) x.feed(text.charAt(i));
    }

    private static GuiltBell told(String text) {
        GuiltBell x = new GuiltBell();
        feedAll(x, text);
        if (text.length() > 160 || x.text() < 0) due("text() of '" + text + "'", x.fault(), 0);
        return x;
    }

    /** Four GIVERS, and something of all that an object may hold. */
    private static GuiltBell busy() {
        GuiltBell x = told("plain tin 4 0;mayor copper 9 1;maid silver 3 1;deaf iron 2 2;sorry 1;hold 0 1;add copper 6;ask 7 2;");
        x.ring(7);
        x.keep(0);
        x.alter(2, 1, 5);
        x.add(0, 3);
        x.see(0, 3);
        x.see(4, 4);
        x.sheet(0, 1, 4);
        int[] cells = {2, 7, 1, 8};
        for (int i = 0; i < 4; i++) x.lay(0, i, cells[i]);
        x.sheet(2, 0, 2);
        x.lay(2, 0, 3);
        x.lay(2, 1, 6);
        x.read(0, 1, 2, 2);
        feedAll(x, "ask 5 1");
        return x;
    }

    /** THE TAPE, what is SEEN, IMAGES and STRUCK are as full as may be. */
    private static GuiltBell full() {
        GuiltBell x = told("plain iron 4 0;");
        for (int i = 0; i < 10; i++) x.ring(99);
        x.ring(9);
        for (int i = 0; i < 6; i++) x.see(i, 4);
        x.keep(0);
        x.keep(1);
        for (int i = 0; i < 160; i++) x.feed(' ');
        return x;
    }

    private static GuiltBell fresh() {
        return new GuiltBell();
    }

    // ---- all that can be asked of an object

    private static void tellVisible(GuiltBell x, StringBuilder all) {
        for (int what = 0; what < 6; what++) all.append(x.rule(what)).append(' ');
        for (int g = 0; g < 4; g++) for (int what = 0; what < 8; what++) all.append(x.giver(g, what)).append(' ');
        for (int m = 0; m < 4; m++) for (int what = 0; what < 3; what++) all.append(x.metal(m, what)).append(' ');
        for (int what = 0; what < 5; what++) all.append(x.bell(what)).append(' ');
        for (int i = 0; i < 9; i++) all.append(x.tap(i)).append(' ');
        for (int what = 0; what < 6; what++) all.append(x.count(what)).append(' ');
        all.append(x.fault()).append(' ').append(x.torn()).append(' ');
    }

    /** Some 150 calls; the object is used up then, as what is hidden can only be told by changing it. */
    private static String probe(GuiltBell x) {
        StringBuilder all = new StringBuilder();
        tellVisible(x, all);
        for (int what = 0; what < 2; what++) all.append(x.fits(what)).append(' ').append(x.next(what)).append(' ');
        for (int k = 0; k < 4; k++) {
            for (int lane = 0; lane < 3; lane++) {
                all.append(x.read(k, lane, 0, 20)).append(' ').append(x.torn()).append(' ').append(x.count(5)).append(' ');
            }
        }
        for (int k = 0; k < 2; k++) {
            all.append(x.back(k)).append(' ').append(x.count(4)).append(' ').append(x.count(5)).append(' ').append(x.bell(0));
        }
        all.append(x.feed(';')).append(' ').append(x.text()).append(' ').append(x.fault()).append(' ').append(x.rule(1));
        return all.toString();
    }

    /** "what is refused changes nothing": beside an object on which the call was not made. */
    private static void refused(String call, Supplier<GuiltBell> made, Call refusal, long want) {
        GuiltBell x = made.get();
        due(call, refusal.on(x), want);
        String with = probe(x), without = probe(made.get());
        if (with.equals(without)) return;
        wrong++;
        System.out.println("[" + sentence + "] " + call + " changed something:\n  " + with + "\n  " + without);
    }

    /** From low to high it is not BAD; one less, one more, and the ends of all ints are, and change nothing. */
    private static void bounds(String call, Supplier<GuiltBell> made, CallWith tried, int low, int high) {
        for (int v = low; v <= high; v++) {
            if (tried.on(made.get(), v) == BAD) due(call + " with " + v, BAD, 0);
        }
        refusedOutside(call, made, tried, low, high);
    }

    private static void refusedOutside(String call, Supplier<GuiltBell> made, CallWith tried, int low, int high) {
        for (int v : new int[] {low - 1, high + 1, LOWEST, GREATEST}) {
            refused(call + " with " + v, made, x -> tried.on(x, v), BAD);
        }
    }

    // ---- the document's head, answers

    private static void head() {
        edge("head", "an object is used for at most 512 calls");
        GuiltBell x = new GuiltBell();
        for (int i = 0; i < 511; i++) x.ring(1);
        due("the 512th call", x.rule(3), 511);
    }

    private static void firstThatFits() {
        edge("Terms", "BAD, STATE, FULL, NONE, the first that fits: BAD ahead of STATE");
        GuiltBell none = new GuiltBell();
        due("drift(1, 0, 0), no GIVERS", none.drift(1, 0, 0), BAD);
        due("drift(1, 61, 0), no GIVERS", none.drift(1, 61, 0), BAD);
        due("drift(1, 1, 2), no GIVERS", none.drift(1, 1, 2), BAD);
        due("back(2), no IMAGE", none.back(2), BAD);
        due("back(-1), no IMAGE", none.back(-1), BAD);
        edge("Terms", "the first that fits: BAD ahead of FULL");
        refused("feed(128)", GuiltBellEdges::full, x -> x.feed(128), BAD);
        refused("feed(-1)", GuiltBellEdges::full, x -> x.feed(-1), BAD);
        refused("ring(100)", GuiltBellEdges::full, x -> x.ring(100), BAD);
        refused("ring(-1)", GuiltBellEdges::full, x -> x.ring(-1), BAD);
        refused("see(9, 0)", GuiltBellEdges::full, x -> x.see(9, 0), BAD);
        refused("see(0, 10)", GuiltBellEdges::full, x -> x.see(0, 10), BAD);
        edge("Terms", "the first that fits: BAD ahead of NONE");
        due("mine(0), no GIVERS", none.mine(0), BAD);
        due("least(3)", none.least(3), BAD);
        due("casts(2)", none.casts(2), BAD);
        due("spare(2)", none.spare(2), BAD);
        due("without(0), no GIVERS", none.without(0), BAD);
        none.see(0, 1);
        due("fits(2), none FIT", none.fits(2), BAD);
        due("range(0, 0), none FIT, no GIVERS", none.range(0, 0), BAD);
        due("next(2), none FIT", none.next(2), BAD);
        GuiltBell one = told("plain tin 1 0;");
        one.see(0, 1);
        one.see(0, 2);
        due("range(0, 2), none FIT", one.range(0, 2), BAD);
        edge("Terms", "the first that fits: STATE ahead of NONE");
        due("swap(), TRUE, nobody to change", told("add copper 1;").swap(), STATE);
    }

    private static void changesNothing() {
        edge("Terms", "what is refused changes nothing: FULL, STATE");
        refused("feed(59)", GuiltBellEdges::full, x -> x.feed(';'), FULL);
        refused("ring(1)", GuiltBellEdges::full, x -> x.ring(1), FULL);
        refused("ring(99)", GuiltBellEdges::full, x -> x.ring(99), FULL);
        refused("see(0, 0)", GuiltBellEdges::full, x -> x.see(0, 0), FULL);
        refused("back(1)", GuiltBellEdges::busy, x -> x.back(1), STATE);
        refused("drift(0, 1, 0)", GuiltBellEdges::fresh, x -> x.drift(0, 1, 0), STATE);
        edge("Terms", "what is only asked changes nothing");
        for (Call asked : new Call[] {x -> x.mine(0), x -> x.mine(3), x -> x.least(1), x -> x.casts(0), x -> x.casts(1), x -> x.spare(1),
            x -> x.without(2), x -> x.lasts(), x -> x.swap(), x -> x.mean(5, 0), x -> x.luck(5, 1), x -> x.fits(1), x -> x.range(1, 1),
            x -> x.next(1), x -> x.drift(9, 60, 1), x -> x.torn(), x -> x.fault()}) {
            GuiltBell x = busy();
            long answer = asked.on(x);
            due("asked once more", asked.on(x), answer);
            due("changed", probe(x).equals(probe(busy())) ? 0 : 1, 0);
        }
        edge("Terms", "what is refused changes nothing but THE TAPE: a text() with a FAULT empties it");
        GuiltBell x = busy();
        GuiltBell y = busy();
        due("text()", x.text(), -17);
        due("bytes", x.count(2), 0);
        y.end(0);
        feedAll(y, "!");
        feedAll(x, "!");
        y.text();
        x.text();
        due("all else differs", probe(x).equals(probe(y)) ? 0 : 1, 0);
    }

    // ---- promise 1

    private static void newObject() {
        edge("Promise 1", "no GIVERS");
        GuiltBell x = new GuiltBell();
        due("rule(0)", x.rule(0), 0);
        for (int what = 0; what < 8; what++) due("giver(0, " + what + ")", x.giver(0, what), BAD);
        due("rule(4)", x.rule(4), 0);
        due("rule(5)", x.rule(5), 0);
        due("count(4)", x.count(4), 0);
        due("count(5)", x.count(5), 0);
        edge("Promise 1", "nothing ADDED");
        for (int m = 0; m < 3; m++) due("metal(" + m + ", 1)", x.metal(m, 1), 0);
        due("bell(0)", x.bell(0), 0);
        edge("Promise 1", "SHEETS have nothing");
        for (int k = 0; k < 4; k++) {
            due("lay(" + k + ", 0, 0)", x.lay(k, 0, 0), -11);
            for (int lane = 0; lane < 3; lane++) due("read()", x.read(k, lane, 0, 1) * 10 + x.torn(), 1);
        }
        due("count(3)", x.count(3), NONE);
        edge("Terms", "at first: ASKED 6, LEAST 0, STRUCK 0, WORN 0; nothing SEEN, no IMAGE, no byte, no FAULT");
        x = new GuiltBell();
        int[] rules = {0, 6, 0, 0};
        for (int what = 0; what < 4; what++) due("rule(" + what + ")", x.rule(what), rules[what]);
        for (int m = 0; m < 3; m++) due("metal(" + m + ", 2)", x.metal(m, 2), 0);
        for (int what = 0; what < 3; what++) due("count(" + what + ")", x.count(what), 0);
        due("fault()", x.fault(), 0);
        due("torn()", x.torn(), 0);
        due("back(0)", x.back(0), STATE);
        due("back(1)", x.back(1), STATE);
    }

    // ---- promises 2, 3

    private static void feeds() {
        edge("Promise 2", "a byte (0 to 127); BAD");
        bounds("feed", GuiltBellEdges::busy, (x, c) -> x.feed(c), 0, 127);
        edge("Promise 2", "how many it has: from the first to the 160th; FULL: more than 160");
        GuiltBell x = new GuiltBell();
        for (int i = 1; i <= 160; i++) due("feed(32)", x.feed(32), i);
        due("the 161st", x.feed(32), FULL);
        due("again", x.feed(0), FULL);
        due("count(2)", x.count(2), 160);
        edge("Promise 2", "what is FULL is not taken");
        GuiltBell y = new GuiltBell();
        feedAll(y, "ask 5 1");
        for (int i = 0; i < 153; i++) y.feed(' ');
        due("feed(;)", y.feed(';'), FULL);
        due("text()", y.text(), -170);
        due("fault()", y.fault(), 2);
        edge("Promise 2", "there is room again behind end(), text()");
        GuiltBell z = full();
        due("end(159)", z.end(159), 160);
        due("feed(59)", z.feed(';'), 160);
        due("feed(59)", z.feed(';'), FULL);
        due("text()", z.text(), -169);
        due("feed(0)", z.feed(0), 1);
    }

    private static void ends() {
        edge("Promise 3", "BAD: below 0, more than there are");
        refusedOutside("end", GuiltBellEdges::busy, (x, n) -> x.end(n), 0, 7);
        refusedOutside("end", GuiltBellEdges::fresh, (x, n) -> x.end(n), 0, 0);
        refusedOutside("end", GuiltBellEdges::full, (x, n) -> x.end(n), 0, 160);
        edge("Promise 3", "its first n bytes: all, one less, none, none of none");
        GuiltBell x = new GuiltBell();
        due("end(0)", x.end(0), 0);
        feedAll(x, "ask 5 1;;");
        due("end(9)", x.end(9), 9);
        due("end(8)", x.end(8), 9);
        due("end(8)", x.end(8), 8);
        due("text()", x.text(), 1);
        due("rule(1)", x.rule(1), 5);
        feedAll(x, "ask 7 0;");
        due("end(0)", x.end(0), 8);
        due("text()", x.text(), 0);
        due("rule(1)", x.rule(1), 6);
        edge("Promise 3", "a byte comes behind what was kept");
        feedAll(x, "ask 5 9");
        due("end(6)", x.end(6), 7);
        due("feed(3)", x.feed('3'), 7);
        due("feed(;)", x.feed(';'), 8);
        due("text()", x.text(), 1);
        due("rule(2)", x.rule(2), 3);
    }

    // ---- promises 4, 5: what a text is

    private static GuiltBell taken(String text, int lines) {
        GuiltBell x = new GuiltBell();
        feedAll(x, text);
        due("text() of '" + text + "'", x.text(), lines);
        due("fault() of '" + text + "'", x.fault(), 0);
        due("bytes behind '" + text + "'", x.count(2), 0);
        return x;
    }

    private static void faulty(String text, int fault, int place) {
        GuiltBell x = told("plain tin 7 0;ask 9 1;");
        feedAll(x, text);
        due("text() of '" + text + "'", x.text(), -10 - place);
        due("fault() of '" + text + "'", x.fault(), fault);
        due("bytes behind '" + text + "'", x.count(2), 0);
        due("what was told, behind '" + text + "'", x.rule(0) * 100 + x.rule(1) * 10 + x.bell(0), 197);
    }

    private static final String FOUR = "maid tin 1 0;maid tin 1 1;maid tin 1 2;maid tin 1 3;";
    /** All that a text may tell once, in 16 lines with no blank that is not needed: 148 bytes. */
    private static final String ALL_LINES = "maid tin1 0;maid tin1 1;maid tin1 2;maid tin1 3;sorry0;sorry1;sorry2;sorry3;"
        + "hold0 1;hold1 1;hold2 1;hold3 1;add tin1;add copper1;add silver1;ask7 0;";

    private static void textsThatAreTaken() {
        edge("Promise 4", "a text of no line: it tells all");
        GuiltBell x = busy();
        x.end(0);
        due("text()", x.text(), 0);
        due("GIVERS", x.rule(0), 0);
        due("ASKED", x.rule(1), 6);
        due("LEAST", x.rule(2), 0);
        due("STRUCK", x.rule(3), 0);
        due("ADDED, WORN", x.metal(0, 1) + x.metal(1, 1) + x.metal(0, 2) + x.metal(1, 2), 0);
        due("WEIGHT", x.bell(0), 0);
        edge("Terms", "a text that is taken: nothing is SEEN, IMAGES are gone; what the text does not tell stays");
        due("SEEN", x.count(0), 0);
        due("IMAGES", x.count(1), 0);
        due("back(0)", x.back(0), STATE);
        due("CELLS", x.count(3), 4);
        due("torn()", x.torn(), 2);
        edge("Promise 4", "blanks alone, 160 of them");
        due("text()", full().text(), 0);
        edge("Promise 4", "most lines, THE TAPE full");
        StringBuilder most = new StringBuilder(ALL_LINES);
        while (most.length() < 160) most.append(' ');
        x = taken(most.toString(), 16);
        due("who is SORRY", x.rule(4), 15);
        due("who HOLDS", x.rule(5), 15);
        due("WEIGHT", x.bell(0), 7);
        most.setLength(0);
        while (most.length() < 12) most.append(' ');
        due("the last byte is taken", taken(most + ALL_LINES, 16).rule(1), 7);
        edge("Terms", "SORRY or not (not), HOLDS (0), ADDED (0), ASKED (6), LEAST (0) where a text tells nothing of it");
        x = taken("plain tin 9 3;", 1);
        int[] giver = {0, 9, 0, 3, 0, 0, 9, 9};
        for (int what = 0; what < 8; what++) due("giver(0, " + what + ")", x.giver(0, what), giver[what]);
        due("ASKED", x.rule(1), 6);
        due("LEAST", x.rule(2), 0);
        due("ADDED", x.metal(0, 1) + x.metal(1, 1) + x.metal(2, 1), 0);
        edge("Terms", "in place of what there was: SORRY, HOLDS, ADDED of an earlier text, taken or not, are gone");
        for (String earlier : new String[] {ALL_LINES, ALL_LINES + "?"}) {
            x = new GuiltBell();
            feedAll(x, earlier);
            x.text();
            feedAll(x, "plain tin 9 3;");
            due("text()", x.text(), 1);
            for (int what = 0; what < 8; what++) due("giver(0, " + what + ")", x.giver(0, what), giver[what]);
            due("ADDED", x.metal(0, 1) + x.metal(1, 1) + x.metal(2, 1), 0);
            due("ASKED", x.rule(1), 6);
            due("rule(4), rule(5)", x.rule(4) + x.rule(5), 0);
        }
        edge("Terms", "what was told by an earlier text is told already by that one alone");
        x = told(ALL_LINES);
        feedAll(x, ALL_LINES);
        due("text() again", x.text(), 16);
        x = new GuiltBell();
        feedAll(x, ALL_LINES + ";");
        due("text() with a FAULT", x.text(), -158);
        feedAll(x, ALL_LINES);
        due("text() behind it", x.text(), 16);
    }

    private static void tokens() {
        edge("Terms", "TOKENS, blanks between: many, none where none is needed, ahead of and behind all");
        taken("   plain    tin   1   1   ;   ", 1);
        taken("plain tin1 1;sorry0;hold0 1;add tin1;ask6 1;", 5);
        edge("Terms", "each as long as may be: NAMES");
        faulty("plaintin 1 1;", 2, 0);
        faulty("plain tintin 1 1;", 2, 6);
        faulty("sorrya 0;", 2, 0);
        faulty("plain ti n 1 1;", 2, 6);
        edge("Terms", "NUMBERS (1 or 2 figures): 3 are too long, its first byte");
        taken("plain tin 00 00;sorry 00;hold 00 09;add tin 01;ask 03 00;", 5);
        faulty("plain tin 000 0;", 1, 10);
        faulty("plain tin 0 0000000000000000000003;", 1, 12);
        faulty("plain tin 1 11 1;", 3, 12);
        edge("Terms", "places from 0: the first byte, the last one of 160, the length");
        faulty("?", 1, 0);
        faulty(" ?", 1, 1);
        StringBuilder far = new StringBuilder();
        while (far.length() < 159) far.append(' ');
        faulty(far + "?", 1, 159);
        faulty(far + ";", 2, 159);
        faulty("ask" + far.substring(2), 2, 160);
        faulty("sorry 0;" + far.substring(7), 6, 160);
    }

    /** Each line as TOKENS; K and M and N stand for what may be there. */
    private static final String[][] LINES = {{"plain", "tin", "1", "1", ";"}, {"mayor", "copper", "1", "1", ";"},
        {"maid", "silver", "1", "1", ";"}, {"deaf", "iron", "1", "1", ";"}, {"sorry", "0", ";"}, {"hold", "0", "1", ";"},
        {"add", "tin", "1", ";"}, {"add", "copper", "1", ";"}, {"add", "silver", "1", ";"}, {"ask", "5", "1", ";"}};

    private static String joined(String[] line, int tokens) {
        StringBuilder text = new StringBuilder();
        for (int t = 0; t < tokens; t++) text.append(line[t]).append(t + 1 < tokens ? " " : "");
        return text.toString();
    }

    private static boolean isName(String token) {
        return Character.isLowerCase(token.charAt(0));
    }

    private static boolean isNumber(String token) {
        return Character.isDigit(token.charAt(0));
    }

    private static void faultsAtEachPlace() {
        edge("Terms", "FAULT 1: no TOKEN, at each place of each line, by each byte that begins none");
        for (String[] line : LINES) {
            for (int t = 0; t < line.length; t++) {
                String ahead = joined(line, t) + (t == 0 ? "" : " ");
                for (char c = 0; c < 128; c++) {
                    if (c == ' ' || c == ';' || c >= 'a' && c <= 'z' || c >= '0' && c <= '9') continue;
                    faulty(ahead + c + line[t], 1, ahead.length());
                }
                faulty(ahead + "100", 1, ahead.length());
                faulty(ahead + "100" + line[t], 1, ahead.length());
            }
            faulty(joined(line, 1) + "_", 1, line[0].length());
        }
        edge("Terms", "FAULT 2: the end (the length), at each place of each line, blanks behind it or none");
        for (String[] line : LINES) {
            for (int t = 1; t < line.length; t++) {
                String ahead = joined(line, t);
                faulty(ahead, 2, ahead.length());
                faulty(ahead + "   ", 2, ahead.length() + 3);
            }
        }
        edge("Terms", "FAULT 2: a TOKEN that can not stand there, at each place of each line");
        String[] tries = {"plain", "tin", "sorry", "ask", "gold", "z", "7", "00", "99", ";"};
        for (String[] line : LINES) {
            for (int t = 0; t < line.length; t++) {
                String ahead = joined(line, t) + (t == 0 ? "" : " ");
                for (String other : tries) {
                    boolean mayStand = t == 0 ? other.equals("plain") || other.equals("sorry") || other.equals("ask")
                        : isName(line[t]) ? other.equals("tin") : isNumber(line[t]) ? isNumber(other) : other.equals(";");
                    if (!mayStand) faulty(ahead + other + " ?", 2, ahead.length());
                }
            }
        }
    }

    private static void faultsTwo() {
        edge("Terms", "FAULT 2: a NAME that begins no line");
        for (String name : new String[] {"p", "plai", "plains", "mayo", "mayors", "mai", "maids", "dea", "deafs", "sorr", "sorrys", "hol",
            "holds", "ad", "adds", "as", "asks", "tin", "iron", "priest"}) faulty(name + " tin 1 1;", 2, 0);
        edge("Terms", "FAULT 2: a NAME that is no M");
        for (String name : new String[] {"t", "ti", "tins", "coppe", "coppers", "silve", "silvers", "iro", "irons", "gold", "maid"}) {
            faulty("maid " + name + " 1 1;", 2, 5);
            faulty("add " + name + " 1;", 2, 4);
        }
        edge("Terms", "FAULT 2: iron to be ADDED");
        faulty("add iron 1;", 2, 4);
        faulty("add iron 99;", 2, 4);
        edge("Terms", "a line needs its ; and one alone");
        faulty("ask 6 0 ask 6 0;", 2, 8);
        faulty("ask 6 0;;", 2, 8);
        faulty(";", 2, 0);
        faulty("plain tin 1 1 1;", 2, 14);
    }

    /** All numbers of one or two figures at one place of a text. */
    private static void numbers(String ahead, String behind, int low, int high, Call got) {
        for (int v = 0; v < 100; v++) {
            String[] written = v < 10 ? new String[] {"" + v, "0" + v} : new String[] {"" + v};
            for (String number : written) {
                String text = ahead + number + behind;
                if (v < low || v > high) faulty(text, 3, ahead.length());
                else due("what '" + text + "' tells", got.on(told(text)), v);
            }
        }
        faulty(ahead + "100" + behind, 1, ahead.length());
        faulty(ahead + "-1" + behind, 1, ahead.length());
    }

    private static long lowestBit(long bits) {
        return Long.numberOfTrailingZeros(bits);
    }

    private static void faultsThree() {
        edge("Terms", "FAULT 3: GUILT (0 to 9)");
        numbers("plain iron ", " 1;", 0, 9, x -> x.giver(0, 1));
        edge("Terms", "FAULT 3: DEED (0 to 3)");
        numbers("mayor tin 1 ", ";", 0, 3, x -> x.giver(0, 3));
        edge("Terms", "FAULT 3: sorry: a GIVER (0 to 3)");
        numbers(FOUR + "sorry ", ";", 0, 3, x -> lowestBit(x.rule(4)));
        edge("Terms", "FAULT 3: hold: a GIVER (0 to 3)");
        numbers(FOUR + "hold ", " 1;", 0, 3, x -> lowestBit(x.rule(5)));
        edge("Terms", "FAULT 3: what he HOLDS (0 to 9)");
        numbers(FOUR + "hold 3 ", ";", 0, 9, x -> x.giver(3, 5));
        edge("Terms", "FAULT 3: ADDED tin, copper, silver (0 to 40 each)");
        numbers("add tin ", ";", 0, 40, x -> x.metal(0, 1));
        numbers("add copper ", ";", 0, 40, x -> x.metal(1, 1));
        numbers("add silver ", ";", 0, 40, x -> x.metal(2, 1));
        edge("Terms", "FAULT 3: ASKED (3 to 12)");
        numbers("ask ", " 0;", 3, 12, x -> x.rule(1));
        edge("Terms", "FAULT 3: LEAST (0 to 10)");
        numbers("ask 3 ", ";", 0, 10, x -> x.rule(2));
    }

    private static void faultsFourToSix() {
        edge("Terms", "FAULT 4: ask for the second time (its NAME)");
        faulty("ask 6 0;ask 6 0;", 4, 8);
        faulty("ask 6 0;  ask ?", 4, 10);
        faulty("ask 6 0;ask", 4, 8);
        faulty("ask 6 0;plain tin 1 1;ask 7 0;", 4, 22);
        edge("Terms", "FAULT 4: a GIVER who is told SORRY already (it)");
        for (int g = 0; g < 4; g++) faulty("sorry " + g + ";sorry " + g + " ?", 4, 14);
        taken(FOUR + "sorry 0;sorry 1;sorry 2;sorry 3;", 8);
        faulty("sorry 0;sorry 00;", 4, 14);
        edge("Terms", "FAULT 4: a GIVER of whom it is told already what he HOLDS (it)");
        for (int g = 0; g < 4; g++) faulty("hold " + g + " 0;hold " + g + " ?", 4, 14);
        taken(FOUR + "hold 0 1;hold 1 1;hold 2 1;hold 3 1;", 8);
        taken("plain tin 1 1;sorry 0;hold 0 0;", 3);
        edge("Terms", "FAULT 4: a METAL of add already (it)");
        faulty("add tin 0;add tin ?", 4, 14);
        faulty("add copper 0;add copper 41;", 4, 17);
        faulty("add silver 0;add tin 0;add silver", 4, 27);
        taken("add silver 0;add copper 0;add tin 0;", 3);
        edge("Terms", "FAULT 3 ahead of FAULT 4: a NUMBER out of its bounds is nobody's");
        faulty("sorry 0;sorry 4;", 3, 14);
        faulty("hold 0 0;hold 4 0;", 3, 14);
        faulty("sorry 0;sorry 32;", 3, 14);
        faulty("hold 0 0;hold 32 0;", 3, 14);
        edge("Terms", "FAULT 1 ahead of FAULT 4: where there is no TOKEN nothing was told already");
        faulty("sorry 0;sorry ?", 1, 14);
        faulty("sorry 0;sorry 000;", 1, 14);
        faulty("hold 0 0;hold ? 0;", 1, 14);
        faulty("add tin 0;add ? 0;", 1, 14);
        faulty("add tin 0;add 000;", 1, 14);
        edge("Terms", "FAULT 2 ahead of FAULT 4: what is no METAL to be ADDED was not told already");
        faulty("add tin 0;add iron 0;", 2, 14);
        faulty("add tin 0;add gold 0;", 2, 14);
        faulty("add copper 1;add 1;", 2, 17);
        edge("Terms", "FAULT 5: the 5th GIVER (its NAME); 4 at most");
        due("four", taken(FOUR, 4).rule(0), 4);
        for (String kind : new String[] {"plain", "mayor", "maid", "deaf"}) {
            faulty(FOUR + kind + " tin 1 1;", 5, 52);
            faulty(FOUR + " " + kind, 5, 53);
            faulty(FOUR + "ask 6 0;" + kind + " ?", 5, 60);
        }
        edge("Terms", "FAULT 6, behind all (the length): a GIVER that there is not");
        for (int givers = 0; givers <= 4; givers++) {
            for (int g = 0; g < 4; g++) {
                String some = FOUR.substring(0, 13 * givers);
                for (String text : new String[] {some + "sorry " + g + ";", "sorry " + g + ";" + some, some + "hold " + g + " 0;",
                    "hold " + g + " 9; " + some + "  "}) {
                    if (g < givers) taken(text, givers + 1);
                    else faulty(text, 6, text.length());
                }
            }
        }
        edge("Terms", "FAULTS, the first met as it is read");
        faulty("sorry 3;?", 1, 8);
        faulty("sorry 3;priest", 2, 8);
        faulty("hold 3 0;ask 2 11;", 3, 13);
        faulty("plain tin 10 4;", 3, 10);
        faulty("plain tin 9 4 ?", 3, 12);
        faulty("ask 6 0;ask 2 11;", 4, 8);
        faulty(FOUR + "maid gold 10 4;", 5, 52);
        faulty("plain gold 10", 2, 6);
    }

    private static void faultsTold() {
        edge("Promise 5", "the FAULT of the latest text(); 0");
        GuiltBell x = new GuiltBell();
        due("fault() ahead of all", x.fault(), 0);
        String[] texts = {"?", "plain", "ask 2 0;", "ask 3 0;ask", FOUR + "maid", "sorry 0;"};
        for (int f = 1; f <= 6; f++) {
            feedAll(x, texts[f - 1]);
            due("fault() ahead of text()", x.fault(), f - 1);
            x.text();
            due("fault()", x.fault(), f);
            due("fault() again", x.fault(), f);
        }
        due("text() of nothing", x.text(), 0);
        due("fault()", x.fault(), 0);
    }

    // ---- promises 6 to 10: what there is

    private static void rules() {
        edge("Promise 6", "what 0 to 5; BAD");
        bounds("rule", GuiltBellEdges::busy, (x, what) -> x.rule(what), 0, 5);
        bounds("rule", GuiltBellEdges::fresh, (x, what) -> x.rule(what), 0, 5);
        edge("Promise 6", "bits each: none, each alone, all");
        GuiltBell x = told(FOUR);
        for (int g = 0; g < 4; g++) {
            x.alter(g, 4, 1);
            x.alter(g, 5, 1);
            due("rule(4)", x.rule(4), 1 << g);
            due("rule(5)", x.rule(5), 1 << g);
            x.alter(g, 4, 0);
            x.alter(g, 5, 0);
            due("rule(4)", x.rule(4), 0);
            due("rule(5)", x.rule(5), 0);
        }
        edge("Promise 6", "who HOLDS 0 does not hold back");
        due("rule(5)", told("plain tin 1 1;hold 0 0;").rule(5), 0);
        edge("Promise 6", "GIVERS from 0 to 4");
        for (int givers = 0; givers <= 4; givers++) due("rule(0)", told(FOUR.substring(0, 13 * givers)).rule(0), givers);
    }

    private static GuiltBell two() {
        return told("plain tin 4 0;deaf silver 3 1;");
    }

    private static void givers() {
        edge("Promise 7", "there is no such GIVER: BAD");
        bounds("giver(g, 0)", GuiltBellEdges::busy, (x, g) -> x.giver(g, 0), 0, 3);
        bounds("giver(g, 7)", GuiltBellEdges::two, (x, g) -> x.giver(g, 7), 0, 1);
        edge("Promise 7", "SORRY (1, 0)");
        GuiltBell s = told("plain tin 1 0;plain tin 1 0;sorry 1;");
        due("giver(0, 4)", s.giver(0, 4), 0);
        due("giver(1, 4)", s.giver(1, 4), 1);
        edge("Promise 7", "what 0 to 7; BAD");
        bounds("giver(0, what)", GuiltBellEdges::busy, (x, what) -> x.giver(0, what), 0, 7);
        edge("Terms", "OWES: plain GUILT; mayor half of it (down); maid twice; deaf 3 more than a maid");
        int[][] owes = {{0, 1, 2, 8, 9}, {0, 0, 1, 4, 4}, {0, 2, 4, 16, 18}, {3, 5, 7, 19, 21}};
        int[] guilts = {0, 1, 2, 8, 9};
        GuiltBell x = told("plain tin 0 0;");
        for (int kind = 0; kind < 4; kind++) {
            x.alter(0, 0, kind);
            for (int i = 0; i < 5; i++) {
                x.alter(0, 1, guilts[i]);
                due("OWES of KIND " + kind + ", GUILT " + guilts[i], x.giver(0, 6), owes[kind][i]);
                due("GIVES alone", x.giver(0, 7), owes[kind][i]);
            }
        }
        edge("Terms", "GIVES half of it (up)");
        x = told("plain tin 0 0;plain tin 0 0;sorry 0;sorry 1;");
        int[] halves = {0, 1, 1, 2, 2, 3, 3, 4, 4, 5};
        for (int guilt = 0; guilt < 10; guilt++) {
            x.alter(0, 1, guilt);
            due("half of " + guilt, x.giver(0, 7), halves[guilt]);
            due("he OWES it all", x.giver(0, 6), guilt);
        }
        edge("Terms", "halved, if there is another GIVER of his DEED");
        x = told("maid tin 9 0;maid tin 9 3;sorry 0;sorry 1;");
        due("alone in his DEED", x.giver(0, 7), 18);
        x.alter(1, 3, 0);
        due("another", x.giver(0, 7), 9);
        due("a single GIVER", told("maid tin 9 0;sorry 0;").giver(0, 7), 18);
        edge("Terms", "halved, if all of that DEED are SORRY");
        for (int sorry = 0; sorry < 16; sorry++) {
            x = told("maid tin 5 2;maid tin 5 2;maid tin 5 2;maid tin 5 2;");
            for (int g = 0; g < 4; g++) x.alter(g, 4, sorry >> g & 1);
            for (int g = 0; g < 4; g++) due("SORRY " + sorry + ", GIVER " + g, x.giver(g, 7), sorry == 15 ? 5 : 10);
        }
        edge("Terms", "of another DEED one need not be SORRY");
        x = told("maid tin 5 1;maid tin 5 2;maid tin 5 1;sorry 0;sorry 2;");
        for (int g = 0; g < 3; g++) due("GIVER " + g, x.giver(g, 7), g == 1 ? 10 : 5);
        edge("Terms", "less what he HOLDS (0 at least)");
        x = told("plain tin 4 0;plain tin 5 1;plain tin 5 1;sorry 1;sorry 2;");
        for (int holds = 0; holds < 10; holds++) {
            x.alter(0, 5, holds);
            x.alter(1, 5, holds);
            due("4 less " + holds, x.giver(0, 7), Math.max(0, 4 - holds));
            due("half of 5, less " + holds, x.giver(1, 7), Math.max(0, 3 - holds));
        }
    }

    private static void metals() {
        edge("Promise 8", "of tin, copper, silver (m 0 to 2), of iron (3); BAD");
        bounds("metal(m, 0)", GuiltBellEdges::busy, (x, m) -> x.metal(m, 0), 0, 3);
        bounds("metal(m, 1)", GuiltBellEdges::busy, (x, m) -> x.metal(m, 1), 0, 2);
        bounds("metal(m, 2)", GuiltBellEdges::busy, (x, m) -> x.metal(m, 2), 0, 2);
        edge("Promise 8", "what 0 to 2, of iron 0; BAD");
        for (int m = 0; m < 3; m++) {
            int metal = m;
            bounds("metal(" + m + ", what)", GuiltBellEdges::busy, (x, what) -> x.metal(metal, what), 0, 2);
        }
        bounds("metal(3, what)", GuiltBellEdges::busy, (x, what) -> x.metal(3, what), 0, 0);
        edge("Terms", "THE BELL has less WORN, 0 at least");
        GuiltBell x = told("add copper 3;");
        int[] left = {2, 1, 0, 0, 0};
        for (int i = 0; i < 5; i++) {
            x.ring(5);
            due("copper behind " + 5 * (i + 1), x.metal(1, 0), left[i]);
        }
        due("WORN", x.metal(1, 2), 3);
        for (int v = 0; v < 6; v++) {
            x.add(1, v);
            due("WORN 3 of " + v, x.metal(1, 0), Math.max(0, v - 3));
            due("WEIGHT", x.bell(0), Math.max(0, v - 3));
        }
        x.add(1, 0);
        x.add(0, 2);
        due("what is WORN too much is not taken of another", x.bell(0), 2);
        edge("Terms", "iron floats: it is no part of WEIGHT and is not WORN");
        x = told("deaf iron 9 0;");
        due("iron", x.metal(3, 0), 21);
        due("WEIGHT", x.bell(0), 0);
        x.ring(99);
        due("iron", x.metal(3, 0), 21);
        due("WORN", x.metal(0, 2) + x.metal(1, 2) + x.metal(2, 2), 0);
        edge("Promise 8", "the most of a metal");
        x = told("deaf silver 9 0;deaf silver 9 1;deaf silver 9 2;deaf silver 9 3;add silver 40;");
        due("silver", x.metal(2, 0), 124);
    }

    private static void bells() {
        edge("Promise 9", "what 0 to 4; BAD");
        bounds("bell", GuiltBellEdges::busy, (x, what) -> x.bell(what), 0, 4);
        bounds("bell", GuiltBellEdges::fresh, (x, what) -> x.bell(what), 0, 4);
        edge("Terms", "NOTE is NONE, SWEET 0, if WEIGHT is 0; it is not TRUE then");
        for (String text : new String[] {"", "plain iron 9 0;", "plain copper 0 0;", "plain copper 9 0;hold 0 9;"}) {
            GuiltBell x = told(text);
            due("WEIGHT", x.bell(0), 0);
            due("NOTE", x.bell(1), NONE);
            due("SWEET", x.bell(2), 0);
            due("TRUE", x.bell(3), 0);
        }
        edge("Terms", "NOTE: by WEIGHT (down), from 3 to 12");
        int[][] notes = {{1, 0, 0, 12}, {40, 0, 0, 12}, {0, 1, 0, 6}, {0, 0, 1, 3}, {0, 0, 40, 3}, {40, 1, 0, 11}, {1, 0, 40, 3},
            {1, 0, 9, 3}, {1, 0, 8, 4}, {1, 0, 7, 4}, {1, 1, 0, 9}, {5, 1, 0, 11}, {4, 1, 0, 10}, {0, 1, 1, 4}, {0, 40, 1, 5},
            {1, 40, 0, 6}};
        for (int[] n : notes) {
            GuiltBell x = new GuiltBell();
            for (int m = 0; m < 3; m++) x.add(m, n[m]);
            due("NOTE of " + n[0] + ", " + n[1] + ", " + n[2], x.bell(1), n[3]);
        }
        edge("Terms", "SWEET: 10 times silver by WEIGHT (down), from 0 to 10");
        int[][] sweets = {{0, 1, 10}, {1, 0, 0}, {1, 1, 5}, {10, 1, 0}, {9, 1, 1}, {1, 9, 9}, {1, 8, 8}, {1, 40, 9}, {2, 1, 3}};
        for (int[] s : sweets) {
            GuiltBell x = new GuiltBell();
            x.add(1, s[0]);
            x.add(2, s[1]);
            due("SWEET of " + s[0] + ", " + s[1], x.bell(2), s[2]);
        }
        edge("Terms", "TRUE is it, if NOTE is ASKED: none less, none more");
        GuiltBell x = told("add tin 1;add copper 1;");
        for (int asked = 3; asked <= 12; asked++) {
            x.ask(0, asked);
            due("TRUE, ASKED " + asked, x.bell(3), asked == 9 ? 1 : 0);
        }
        edge("Terms", "TRUE is it, if SWEET is no less than LEAST");
        x = told("add copper 1;add silver 1;ask 4 0;");
        for (int least = 0; least <= 10; least++) {
            x.ask(1, least);
            due("TRUE, LEAST " + least, x.bell(3), least <= 5 ? 1 : 0);
        }
        edge("Terms", "a FLAW sits at a GIVER who GIVES less than he would HOLDING nothing");
        x = told("plain tin 0 0;plain tin 1 1;mayor tin 1 2;deaf iron 0 3;");
        due("who HOLD nothing", x.bell(4), 0);
        for (int g = 0; g < 4; g++) x.alter(g, 5, 9);
        due("who would give nothing leave none", x.bell(4), 10);
        x.alter(1, 5, 1);
        x.alter(3, 5, 1);
        due("by 1", x.bell(4), 10);
        for (int g = 0; g < 4; g++) x.alter(g, 1, 9);
        due("all", x.bell(4), 15);
        x.alter(0, 5, 0);
        due("all but the first", x.bell(4), 14);
    }

    private static void taps() {
        edge("Promise 10", "TAP i (0 to 8); BAD");
        bounds("tap", GuiltBellEdges::busy, (x, i) -> x.tap(i), 0, 8);
        bounds("tap", GuiltBellEdges::fresh, (x, i) -> x.tap(i), 0, 8);
        edge("Terms", "TAP: the last figure of it: 9, 10, 11");
        GuiltBell x = told("plain iron 9 0;plain iron 0 1;");
        due("9", x.tap(0), 9);
        x.alter(0, 1, 8);
        x.alter(1, 1, 1);
        due("8 and twice 1", x.tap(0), 0);
        x.alter(0, 1, 9);
        due("9 and twice 1", x.tap(0), 1);
        edge("Terms", "TAP: i and g modulo 3: 0 behind 2");
        x = told("plain iron 1 0;plain iron 0 0;plain iron 0 0;plain iron 0 0;");
        for (int g = 0; g < 4; g++) {
            for (int other = 0; other < 4; other++) x.alter(other, 1, other == g ? 1 : 0);
            for (int i = 0; i < 9; i++) due("tap(" + i + ") of GIVER " + g, x.tap(i), new int[] {1, 2, 3}[(i + g) % 3]);
        }
        edge("Terms", "TAP: i times WEIGHT");
        x = told("add tin 40;add copper 40;add silver 33;");
        for (int i = 0; i < 9; i++) due("tap(" + i + ")", x.tap(i), 113 * i % 10);
    }

    // ---- promises 11 to 14: what is changed

    private static void alters() {
        int[] top = {3, 9, 3, 3, 1, 9};
        String[] names = {"KIND", "GUILT", "METAL", "DEED", "SORRY", "HOLDS"};
        for (int w = 0; w < 6; w++) {
            int what = w;
            edge("Promise 11", names[w] + " becomes v (0 to " + top[w] + "); BAD");
            bounds("alter(3, " + w + ", v)", GuiltBellEdges::busy, (x, v) -> x.alter(3, what, v), 0, top[w]);
            GuiltBell x = told(FOUR);
            long was = x.giver(2, w);
            for (int v = 0; v <= top[w]; v++) {
                due("alter(2, " + w + ", " + v + ")", x.alter(2, w, v), was);
                due("giver(2, " + w + ")", x.giver(2, w), v);
                was = v;
            }
        }
        edge("Promise 11", "what 0 to 5; BAD");
        bounds("alter(0, what, 0)", GuiltBellEdges::busy, (x, what) -> x.alter(0, what, 0), 0, 5);
        edge("Promise 11", "there is no such GIVER: BAD");
        bounds("alter(g, 1, 1)", GuiltBellEdges::busy, (x, g) -> x.alter(g, 1, 1), 0, 3);
        bounds("alter(g, 1, 1)", GuiltBellEdges::two, (x, g) -> x.alter(g, 1, 1), 0, 1);
        refusedOutside("alter(g, 1, 1)", GuiltBellEdges::fresh, (x, g) -> x.alter(g, 1, 1), 0, -1);
        edge("Promise 11", "what is SEEN, IMAGES, STRUCK, WORN, all other GIVERS stay");
        GuiltBell x = busy();
        x.alter(2, 1, 0);
        x.alter(2, 1, 5);
        due("changed", probe(x).equals(probe(busy())) ? 0 : 1, 0);
    }

    private static void adds() {
        edge("Promise 12", "a METAL (0 to 2); BAD: iron too");
        bounds("add(m, 1)", GuiltBellEdges::busy, (x, m) -> x.add(m, 1), 0, 2);
        for (int m = 0; m < 3; m++) {
            int metal = m;
            edge("Promise 12", "ADDED (0 to 40), METAL " + m + "; BAD");
            bounds("add(" + m + ", v)", GuiltBellEdges::busy, (x, v) -> x.add(metal, v), 0, 40);
            GuiltBell x = new GuiltBell();
            due("the first", x.add(m, 40), 0);
            due("the same", x.add(m, 40), 40);
            due("0", x.add(m, 0), 40);
            due("again", x.add(m, 1), 0);
            due("metal(" + m + ", 1)", x.metal(m, 1), 1);
            due("WEIGHT", x.bell(0), 1);
        }
        edge("Promise 12", "more than is WORN, as much, less");
        GuiltBell x = told("add tin 2;");
        x.ring(10);
        due("all is WORN", x.bell(0), 0);
        due("add(0, 1)", x.add(0, 1), 2);
        due("WEIGHT", x.bell(0), 0);
        due("add(0, 3)", x.add(0, 3), 1);
        due("WEIGHT", x.bell(0), 1);
    }

    private static void asks() {
        edge("Promise 13", "ASKED (3 to 12); BAD");
        bounds("ask(0, v)", GuiltBellEdges::busy, (x, v) -> x.ask(0, v), 3, 12);
        edge("Promise 13", "LEAST (0 to 10); BAD");
        bounds("ask(1, v)", GuiltBellEdges::busy, (x, v) -> x.ask(1, v), 0, 10);
        edge("Promise 13", "what 0, 1; BAD");
        bounds("ask(what, 5)", GuiltBellEdges::busy, (x, what) -> x.ask(what, 5), 0, 1);
        edge("Promise 13", "what it was");
        GuiltBell x = new GuiltBell();
        due("ask(0, 12)", x.ask(0, 12), 6);
        due("ask(0, 3)", x.ask(0, 3), 12);
        due("ask(0, 3)", x.ask(0, 3), 3);
        due("ask(1, 10)", x.ask(1, 10), 0);
        due("ask(1, 0)", x.ask(1, 0), 10);
        due("rule(1)", x.rule(1), 3);
        due("rule(2)", x.rule(2), 0);
    }

    private static void rings() {
        edge("Promise 14", "n STRIKES (0 to 99); BAD");
        bounds("ring", GuiltBellEdges::busy, (x, n) -> x.ring(n), 0, 99);
        edge("Promise 14", "no STRIKE");
        GuiltBell x = told("add tin 2;");
        due("ring(0)", x.ring(0), 2);
        due("STRUCK", x.rule(3), 0);
        edge("Promise 14", "FULL: STRUCK would be 1000 or more");
        x = new GuiltBell();
        for (int i = 0; i < 9; i++) due("ring(99)", x.ring(99), 0);
        due("STRUCK", x.rule(3), 891);
        due("ring(10)", x.ring(10), 0);
        due("1000", x.ring(99), FULL);
        due("STRUCK", x.rule(3), 901);
        due("999", x.ring(98), 0);
        due("STRUCK", x.rule(3), 999);
        due("ring(0)", x.ring(0), 0);
        due("ring(1)", x.ring(1), FULL);
        due("ring(2)", x.ring(2), FULL);
        due("STRUCK", x.rule(3), 999);
        edge("Terms", "a STRIKE: is STRUCK then five times something, 1 more is WORN");
        x = told("add tin 40;");
        for (int i = 1; i <= 16; i++) {
            due("strike " + i, x.ring(1), 40 - i / 5);
            due("WORN", x.metal(0, 2), i / 5);
        }
        due("from 16 to 20", x.ring(4), 36);
        due("20 more", x.ring(20), 32);
        edge("Terms", "off that of the three of which there is most");
        int[][] most = {{2, 1, 1, 0}, {1, 2, 1, 1}, {1, 1, 2, 2}, {1, 0, 0, 0}, {0, 1, 0, 1}, {0, 0, 1, 2}};
        for (int[] m : most) due("most of METAL " + m[3], wornOf(m), m[3]);
        edge("Terms", "of several the first");
        int[][] several = {{1, 1, 1, 0}, {1, 1, 0, 0}, {1, 0, 1, 0}, {0, 1, 1, 1}, {1, 2, 2, 1}, {2, 1, 2, 0}, {2, 2, 1, 0}};
        for (int[] m : several) due("first of the most, METAL " + m[3], wornOf(m), m[3]);
        edge("Terms", "most is what is in THE BELL, WORN taken off, at each STRIKE anew");
        x = told("add tin 2;add copper 1;add silver 1;");
        int[] worn = {100, 200, 210, 211, 211};
        for (int i = 0; i < 5; i++) {
            x.ring(5);
            due("WORN behind " + 5 * (i + 1), x.metal(0, 2) * 100 + x.metal(1, 2) * 10 + x.metal(2, 2), worn[i]);
        }
        edge("Terms", "none is WORN, if WEIGHT is 0");
        x = told("deaf iron 9 0;");
        due("ring(99)", x.ring(99), 0);
        due("WORN", x.metal(0, 2) + x.metal(1, 2) + x.metal(2, 2), 0);
        due("STRUCK", x.rule(3), 99);
        x.add(2, 1);
        due("the 100th", x.ring(1), 0);
        due("WORN", x.metal(2, 2), 1);
    }

    private static int wornOf(int[] added) {
        GuiltBell x = new GuiltBell();
        for (int m = 0; m < 3; m++) x.add(m, added[m]);
        x.ring(5);
        int sum = x.metal(0, 2) + x.metal(1, 2) + x.metal(2, 2);
        due("WORN in all", sum, 1);
        return x.metal(0, 2) == 1 ? 0 : x.metal(1, 2) == 1 ? 1 : 2;
    }

    // ---- promises 15 to 21: what it should be

    private static void mines() {
        edge("Promise 15", "there is no such GIVER: BAD");
        bounds("mine", GuiltBellEdges::busy, (x, g) -> x.mine(g), 0, 3);
        bounds("mine", GuiltBellEdges::two, (x, g) -> x.mine(g), 0, 1);
        edge("Promise 15", "the least: 0");
        due("of copper all is TRUE", told("plain tin 9 0;add copper 1;").mine(0), 0);
        due("of iron, as it is TRUE", told("plain iron 9 0;add copper 1;").mine(0), 0);
        edge("Promise 15", "the least: 1, as WEIGHT 0 has no NOTE");
        due("copper alone", told("plain copper 9 0;").mine(0), 1);
        edge("Promise 15", "0 to 40: 40 is enough");
        // (12t + 3s) / (t + s) is 3 where s is more than 8t
        GuiltBell x = told("plain silver 9 0;add tin 5;add silver 1;ask 3 0;");
        due("41 in all", x.mine(0), 40);
        edge("Promise 15", "0 to 40: 41 would be needed: NONE");
        x.add(2, 0);
        due("41", x.mine(0), NONE);
        edge("Promise 15", "in place of what he GIVES, be it HELD or halved");
        x = told("maid silver 9 0;maid silver 9 0;sorry 0;sorry 1;hold 0 9;hold 1 9;add tin 4;ask 3 0;");
        due("33 by one alone", x.mine(0), 33);
        x.alter(1, 5, 0);
        due("9 are the other's", x.mine(0), 24);
        edge("Promise 15", "NONE: by none");
        due("iron", told("plain iron 9 0;").mine(0), NONE);
        due("too sweet for tin", told("plain tin 1 0;ask 12 1;").mine(0), NONE);
        edge("Promise 15", "what is WORN is to be given too");
        x = told("plain copper 2 0;");
        x.ring(10);
        due("WORN 2", x.mine(0), 3);
    }

    private static void leasts() {
        edge("Promise 16", "a METAL (0 to 2); BAD: iron too");
        bounds("least", GuiltBellEdges::busy, (x, m) -> x.least(m), 0, 2);
        edge("Promise 16", "the least: 0");
        due("copper is given", told("plain copper 1 0;add copper 40;").least(1), 0);
        due("no tin is best", told("plain copper 1 0;add tin 40;").least(0), 0);
        edge("Promise 16", "the least: 1 in place of 40");
        due("tin", told("add tin 40;ask 12 0;").least(0), 1);
        edge("Promise 16", "0 to 40: 40 is enough");
        GuiltBell x = told("plain silver 1 0;add tin 5;ask 3 0;");
        due("41 in all", x.least(2), 40);
        edge("Promise 16", "0 to 40: 41 would be needed: NONE");
        x.alter(0, 1, 0);
        due("41", x.least(2), NONE);
        edge("Promise 16", "NONE: by none");
        due("never 12", told("plain silver 1 0;ask 12 0;").least(0), NONE);
        edge("Promise 16", "what is WORN is to be ADDED too");
        x = told("add copper 2;");
        x.ring(10);
        due("WORN 2", x.least(1), 3);
        edge("Promise 16", "the least silver so that it is no less sweet than LEAST");
        due("as much as copper", told("add copper 7;ask 4 5;").least(2), 7);
    }

    private static void castsTillTrue() {
        edge("Promise 17", "what 0, 1; BAD");
        bounds("casts", GuiltBellEdges::busy, (x, what) -> x.casts(what), 0, 1);
        edge("Promise 17", "no CAST: 0; by whom: NONE");
        GuiltBell x = told("plain copper 9 0;hold 0 8;");
        due("casts(0)", x.casts(0), 0);
        due("casts(1)", x.casts(1), NONE);
        edge("Promise 17", "one CAST, by him who HOLDS 1, to 0");
        x = told("plain copper 1 0;hold 0 1;");
        due("casts(0)", x.casts(0), 1);
        due("casts(1)", x.casts(1), 0);
        edge("Promise 17", "most CASTS: 36, by the last");
        x = told("plain tin 1 0;plain tin 1 1;plain tin 1 2;plain copper 1 3;hold 0 9;hold 1 9;hold 2 9;hold 3 9;ask 10 0;");
        due("casts(0)", x.casts(0), 36);
        due("casts(1)", x.casts(1), 3);
        edge("Promise 17", "NONE: it never is");
        x.ask(0, 11);
        due("casts(0)", x.casts(0), NONE);
        due("casts(1)", x.casts(1), NONE);
        due("who HOLDS nothing", told("plain tin 1 0;").casts(0), NONE);
        due("no GIVERS", new GuiltBell().casts(0), NONE);
        edge("Promise 17", "he who HOLDS most, of several the first");
        x = told("plain tin 3 0;plain copper 3 1;plain silver 3 2;hold 0 2;hold 1 3;hold 2 3;ask 9 0;");
        // tin 1; copper 1 too: 9
        due("the second", x.casts(0) * 10 + x.casts(1), 11);
        x.alter(0, 5, 3);
        x.ask(0, 12);
        due("the first of three", x.casts(0) * 10 + x.casts(1), 10);
        x.ask(0, 7);
        due("then the others: 21/3", x.casts(0) * 10 + x.casts(1), 32);
        x = told("plain tin 3 0;plain copper 9 1;hold 0 3;hold 1 1;ask 7 0;");
        // copper 8 all the while; tin 2: 72/10
        due("he who HOLDS most, be his GUILT less", x.casts(0) * 10 + x.casts(1), 20);
    }

    private static void spares() {
        edge("Promise 18", "what 0, 1; BAD");
        bounds("spare", GuiltBellEdges::busy, (x, what) -> x.spare(what), 0, 1);
        edge("Promise 18", "none of them: it is TRUE as it is, and by nobody less");
        GuiltBell x = told("plain tin 1 0;plain silver 2 1;");
        due("spare(0)", x.spare(0), 0);
        due("spare(1)", x.spare(1), 0);
        due("no GIVERS", told("add copper 1;").spare(0), 0);
        due("no GIVERS", told("add copper 1;").spare(1), 0);
        edge("Promise 18", "all of them");
        x = told("plain tin 1 0;plain tin 2 1;plain tin 1 2;plain tin 1 3;add copper 1;");
        due("spare(0)", x.spare(0), 4);
        due("spare(1)", x.spare(1), 15);
        edge("Promise 18", "the least set of so many");
        x = told("plain copper 1 0;plain copper 1 1;plain copper 1 2;plain copper 1 3;");
        due("spare(0)", x.spare(0), 3);
        due("spare(1)", x.spare(1), 7);
        x.alter(3, 2, 0);
        due("not the tin", x.spare(0), 3);
        due("the tin is let off", x.spare(1), 11);
        edge("Promise 18", "the most of them, where a lesser set is of fewer");
        x = told("plain tin 9 0;plain copper 9 1;plain copper 9 2;");
        due("the first alone would do", x.spare(0), 2);
        due("spare(1)", x.spare(1), 3);
        edge("Promise 18", "NONE: by none");
        due("spare(0)", told("plain tin 1 0;ask 3 0;").spare(0), NONE);
        due("spare(1)", told("plain tin 1 0;ask 3 0;").spare(1), NONE);
        due("no GIVERS", new GuiltBell().spare(1), NONE);
        edge("Promise 18", "all else as it is: who is let off is of his DEED, SORRY or not");
        x = told("plain copper 2 0;plain copper 2 0;sorry 0;sorry 1;add silver 1;ask 4 5;");
        due("the other's is halved still", x.spare(1), 1);
        x = told("plain copper 2 0;plain tin 1 0;sorry 0;add silver 2;ask 4 5;");
        due("the other's is not halved: (12 + 6) / 4", x.spare(1), 2);
    }

    private static void withouts() {
        edge("Promise 19", "there is no such GIVER: BAD");
        bounds("without", GuiltBellEdges::busy, (x, g) -> x.without(g), 0, 3);
        bounds("without", GuiltBellEdges::two, (x, g) -> x.without(g), 0, 1);
        edge("Promise 19", "NONE: nothing is left");
        due("the only one", told("plain tin 1 0;").without(0), NONE);
        due("but iron", told("plain tin 1 0;plain iron 9 1;").without(0), NONE);
        GuiltBell x = told("plain tin 1 0;plain copper 1 1;");
        x.alter(1, 5, 1);
        due("and one who HOLDS all", x.without(0), NONE);
        edge("Promise 19", "who gives nothing anyway");
        due("iron", told("plain tin 1 0;plain iron 9 1;").without(1), 12);
        due("who HOLDS all", x.without(1), 12);
        edge("Promise 19", "did he give nothing: of his METAL what others give and what is ADDED stays");
        due("tin 1, copper 1", told("plain tin 5 0;plain tin 1 1;add copper 1;").without(0), 9);
        due("tin 1, copper 1", told("plain tin 5 0;add tin 1;add copper 1;").without(0), 9);
        edge("Promise 19", "who is WORN off already");
        x = told("plain tin 1 0;plain copper 1 1;");
        x.ring(5);
        due("tin 1 is WORN", x.without(0), 6);
        due("copper alone was left", x.without(1), NONE);
    }

    private static void lasting() {
        edge("Promise 20", "0: it is not TRUE now");
        due("nothing", new GuiltBell().lasts(), 0);
        due("tin", told("add tin 1;").lasts(), 0);
        edge("Promise 20", "behind 5, as the 5th STRIKE wears it; behind 1, if STRUCK is 4");
        GuiltBell x = told("add copper 1;");
        due("5", x.lasts(), 5);
        x.ring(4);
        due("1", x.lasts(), 1);
        x.ring(1);
        due("0", x.lasts(), 0);
        edge("Promise 20", "0 to 500: behind 500");
        x = told("plain copper 9 0;maid copper 9 1;deaf copper 9 2;deaf copper 9 3;add copper 31;");
        due("100 copper", x.lasts(), 500);
        edge("Promise 20", "NONE: behind none of them: 501 are too many");
        x.add(1, 32);
        x.ring(4);
        due("101 copper, 4 are STRUCK", x.lasts(), NONE);
        x.ring(1);
        due("100 copper, 5 are STRUCK", x.lasts(), 500);
        x.add(1, 33);
        due("101 copper", x.lasts(), NONE);
        edge("Promise 20", "STRIKES that would make STRUCK 1000 and more");
        x = new GuiltBell();
        for (int i = 0; i < 10; i++) x.ring(99);
        x.ring(9);
        x.add(1, 3);
        due("behind the 1010th", x.lasts(), 11);
        due("STRUCK", x.rule(3), 999);
    }

    private static void swaps() {
        edge("Promise 21", "STATE: it is TRUE now");
        due("no GIVERS", told("add copper 1;").swap(), STATE);
        due("two", told("plain copper 1 0;plain copper 1 1;").swap(), STATE);
        edge("Promise 21", "NONE: by none");
        due("no GIVERS", new GuiltBell().swap(), NONE);
        due("one", told("plain tin 1 0;").swap(), NONE);
        due("two of one METAL", told("plain tin 1 0;plain tin 1 1;").swap(), NONE);
        edge("Promise 21", "the first two; the last two");
        due("the first two", told("plain iron 1 0;plain copper 0 1;").swap(), 1);
        GuiltBell x = told("plain copper 0 0;plain copper 0 1;plain silver 1 2;plain copper 2 3;ask 4 0;");
        due("the last two", x.swap(), 23);
        edge("Promise 21", "of several the least");
        x.ask(0, 6);
        due("the first with the third, the second with him", x.swap(), 2);
        x.alter(0, 2, 3);
        x.alter(2, 2, 0);
        due("the first with the third: copper 2", x.swap(), 2);
        x = told("plain iron 1 0;plain copper 0 1;plain copper 0 2;plain copper 0 3;");
        due("with each of three", x.swap(), 1);
        due("METALS stay", x.giver(0, 2) * 10 + x.giver(1, 2), 31);
    }

    // ---- promises 22, 23: who lies

    private static void means() {
        edge("Promise 22", "v out of ten (0 to 10); BAD");
        bounds("mean(v, 0)", GuiltBellEdges::busy, (x, v) -> (int) x.mean(v, 0), 0, 10);
        edge("Promise 22", "what 0, 1; BAD");
        bounds("mean(5, what)", GuiltBellEdges::busy, (x, what) -> (int) x.mean(5, what), 0, 1);
        edge("Promise 22", "by 0 nobody, by 10 everybody");
        GuiltBell x = told("plain tin 9 0;plain copper 7 1;plain silver 1 2;plain iron 9 3;");
        due("mean(0, 0)", x.mean(0, 0), 17);
        due("mean(0, 1)", x.mean(0, 1), 1);
        due("mean(10, 0)", x.mean(10, 0), 7);
        due("mean(10, 1)", x.mean(10, 1), 1);
        edge("Promise 22", "half (down)");
        x = told("plain tin 1 0;");
        due("of 1 is 0", x.mean(10, 0), 0);
        x.alter(0, 1, 3);
        due("of 3 is 1", x.mean(10, 0), 1);
        x.alter(0, 1, 2);
        due("of 2 is 1", x.mean(10, 0), 1);
        edge("Promise 22", "of what he GIVES: what he HOLDS is off already");
        x = told("plain tin 9 0;hold 0 4;");
        due("half of 5", x.mean(10, 0), 2);
        edge("Terms", "0 is 0 by 1; no GIVERS");
        x = new GuiltBell();
        for (int v = 0; v <= 10; v++) due("mean(" + v + ")", x.mean(v, 0) * 10 + x.mean(v, 1), 1);
        x.add(2, 40);
        due("40 by 1", x.mean(3, 0) * 10 + x.mean(3, 1), 401);
        edge("Terms", "in lowest terms, the denominator above 0");
        x = told("plain tin 1 0;");
        int[][] want = {{1, 1}, {9, 10}, {4, 5}, {7, 10}, {3, 5}, {1, 2}, {2, 5}, {3, 10}, {1, 5}, {1, 10}, {0, 1}};
        for (int v = 0; v <= 10; v++) {
            due("mean(" + v + ", 0)", x.mean(v, 0), want[v][0]);
            due("mean(" + v + ", 1)", x.mean(v, 1), want[v][1]);
        }
        edge("Promise 22", "each by himself; WORN is taken off where something is, 0 at least");
        x = told("plain tin 2 0;plain tin 2 1;");
        x.ring(15);
        // of 4, 3, 3, 2 tin 3 are WORN: 1 by 49 of a hundred
        due("mean(3, 0)", x.mean(3, 0), 49);
        due("mean(3, 1)", x.mean(3, 1), 100);
        edge("Promise 22", "the greatest denominator: four who lie");
        x = told("plain tin 1 0;plain tin 1 1;plain tin 1 2;plain tin 1 3;");
        x.ring(15);
        // 3 are WORN: 1 is left where nobody lies: 9 9 9 9 of ten thousand
        due("mean(1, 0)", x.mean(1, 0), 6561);
        due("mean(1, 1)", x.mean(1, 1), 10000);
    }

    private static void lucks() {
        edge("Promise 23", "v out of ten (0 to 10); BAD");
        bounds("luck(v, 0)", GuiltBellEdges::busy, (x, v) -> (int) x.luck(v, 0), 0, 10);
        edge("Promise 23", "what 0, 1; BAD");
        bounds("luck(5, what)", GuiltBellEdges::busy, (x, what) -> (int) x.luck(5, what), 0, 1);
        edge("Promise 23", "never: 0 by 1");
        GuiltBell x = told("plain tin 4 0;plain silver 4 1;ask 3 10;");
        for (int v = 0; v <= 10; v++) due("luck(" + v + ")", x.luck(v, 0) * 10 + x.luck(v, 1), 1);
        edge("Promise 23", "always: 1 by 1");
        x = told("plain copper 4 0;plain copper 4 1;");
        for (int v = 0; v <= 10; v++) due("luck(" + v + ")", x.luck(v, 0) * 10 + x.luck(v, 1), 11);
        edge("Promise 23", "no GIVERS: never or always");
        due("nothing", new GuiltBell().luck(5, 0) * 10 + new GuiltBell().luck(5, 1), 1);
        x = told("add copper 1;");
        due("copper", x.luck(5, 0) * 10 + x.luck(5, 1), 11);
        edge("Promise 23", "in lowest terms, by one GIVER");
        x = told("plain copper 1 0;");
        int[][] want = {{1, 1}, {9, 10}, {4, 5}, {7, 10}, {3, 5}, {1, 2}, {2, 5}, {3, 10}, {1, 5}, {1, 10}, {0, 1}};
        for (int v = 0; v <= 10; v++) {
            due("luck(" + v + ", 0)", x.luck(v, 0), want[v][0]);
            due("luck(" + v + ", 1)", x.luck(v, 1), want[v][1]);
        }
        edge("Promise 23", "the greatest denominator: four who must lie");
        x = told("plain tin 1 0;plain tin 1 1;plain tin 1 2;plain tin 1 3;add copper 1;");
        due("luck(3, 0)", x.luck(3, 0), 81);
        due("luck(3, 1)", x.luck(3, 1), 10000);
        due("luck(10, 0)", x.luck(10, 0), 1);
        due("luck(0, 0)", x.luck(0, 0), 0);
    }

    // ---- promises 24 to 28: guilts from taps

    private static void sees() {
        edge("Promise 24", "TAP i (0 to 8); BAD");
        bounds("see(i, 0)", GuiltBellEdges::busy, (x, i) -> x.see(i, 0), 0, 8);
        edge("Promise 24", "told v (0 to 9); BAD");
        bounds("see(0, v)", GuiltBellEdges::busy, (x, v) -> x.see(0, v), 0, 9);
        edge("Promise 24", "how many are; FULL: the 7th");
        GuiltBell x = new GuiltBell();
        for (int n = 1; n <= 6; n++) due("see(0, 0)", x.see(0, 0), n);
        due("the 7th", x.see(0, 0), FULL);
        due("count(0)", x.count(0), 6);
        edge("Promise 24", "there is room again behind forget(), text()");
        due("forget(5)", x.forget(5), 6);
        due("see(8, 9)", x.see(8, 9), 6);
        due("see(8, 9)", x.see(8, 9), FULL);
        x.text();
        due("behind text()", x.see(8, 9), 1);
        edge("Promise 24", "the first and the sixth both count");
        x = told("plain iron 5 0;");
        for (int i = 0; i < 6; i++) x.see(0, i == 5 ? 4 : 5);
        due("fits(0)", x.fits(0), 0);
        x.forget(5);
        due("fits(0)", x.fits(0), 1);
        x.forget(0);
        for (int i = 0; i < 6; i++) x.see(0, i == 0 ? 4 : 5);
        due("fits(0)", x.fits(0), 0);
    }

    private static void forgets() {
        edge("Promise 25", "BAD: below 0, more than there are");
        refusedOutside("forget", GuiltBellEdges::busy, (x, n) -> x.forget(n), 0, 2);
        refusedOutside("forget", GuiltBellEdges::fresh, (x, n) -> x.forget(n), 0, 0);
        refusedOutside("forget", GuiltBellEdges::full, (x, n) -> x.forget(n), 0, 6);
        edge("Promise 25", "all, some, none, none of none");
        GuiltBell x = new GuiltBell();
        due("none of none", x.forget(0), 0);
        for (int i = 0; i < 6; i++) x.see(i, 0);
        due("all", x.forget(6), 6);
        due("five", x.forget(5), 6);
        due("none", x.forget(0), 5);
        due("count(0)", x.count(0), 0);
        edge("Promise 25", "the first n alone");
        x = told("plain iron 5 0;");
        x.see(0, 5);
        x.see(0, 6);
        due("fits(0)", x.fits(0), 0);
        due("forget(1)", x.forget(1), 2);
        due("fits(1)", x.fits(1), 5);
    }

    /** GUILTS of plain ones who HOLD 8 are told by what they GIVE, 1 for 9 and else 0. */
    private static final String ONLY_NINES =
        "plain iron 0 0;plain iron 0 1;plain iron 0 2;plain iron 0 3;hold 0 8;hold 1 8;hold 2 8;hold 3 8;";

    private static void fitting() {
        edge("Promise 26", "what 0, 1; BAD");
        bounds("fits", GuiltBellEdges::busy, (x, what) -> x.fits(what), 0, 1);
        edge("Promise 26", "nothing SEEN: all FIT, from none to four GIVERS");
        int[] all = {1, 10, 100, 1000, 10000};
        for (int givers = 0; givers <= 4; givers++) {
            GuiltBell x = told(FOUR.substring(0, 13 * givers));
            due("fits(0)", x.fits(0), all[givers]);
            due("fits(1)", x.fits(1), 0);
        }
        edge("Terms", "GUILT (0 to 9) of the deaf: he GIVES 3 for 0, 21 for 9");
        GuiltBell d = told("deaf iron 5 0;");
        d.see(0, 3);
        // 3, 13: GUILT 0, 5
        due("fits(0)", d.fits(0), 2);
        due("fits(1)", d.fits(1), 0);
        d.forget(0);
        d.see(0, 1);
        due("fits(0)", d.fits(0), 2);
        due("fits(1)", d.fits(1), 4);
        due("range(0, 1)", d.range(0, 1), 9);
        edge("Promise 26", "how many: 0; NONE (1): there are none");
        GuiltBell x = told("plain tin 1 0;");
        x.see(0, 1);
        x.see(0, 2);
        due("fits(0)", x.fits(0), 0);
        due("fits(1)", x.fits(1), NONE);
        edge("Promise 26", "the least of one alone: 9999");
        x = told(ONLY_NINES);
        // 1, 2, 3 and 1 by TAP 0
        x.see(0, 7);
        due("fits(0)", x.fits(0), 1);
        due("fits(1)", x.fits(1), 9999);
        edge("Terms", "a figure each, the first GIVER's the highest");
        x.forget(0);
        x.see(0, 6);
        // all but the first, or all but the fourth: the other is any of 0 to 8
        due("fits(0)", x.fits(0), 18);
        due("fits(1)", x.fits(1), 999);
        x.see(1, 7);
        // TAP 1: 2, 3, 1, 2: both have 6 again
        due("none", x.fits(1), NONE);
        edge("Terms", "no GIVERS: the number is 0");
        x = told("add tin 3;");
        x.see(2, 6);
        due("fits(0)", x.fits(0), 1);
        due("fits(1)", x.fits(1), 0);
        x.see(2, 7);
        due("fits(0)", x.fits(0), 0);
        due("fits(1)", x.fits(1), NONE);
        edge("Terms", "GUILTS of all GIVERS FIT, all else as it is: WORN more than there is");
        x = told("plain copper 5 0;");
        x.ring(10);
        // TAP 1: 2g, and WEIGHT, which is g less 2 and 0 for 0 and 1
        int[] taps = {0, 2, 4, 7, 0, 3, 6, 9, 2, 5};
        for (int v = 0; v < 10; v++) {
            x.see(1, v);
            int least = NONE;
            for (int g = 9; g >= 0; g--) if (taps[g] == v) least = g;
            due("fits(1), TAP 1 told " + v, x.fits(1), least);
            x.forget(0);
        }
    }

    private static void ranges() {
        edge("Promise 27", "there is no such GIVER: BAD");
        bounds("range(g, 0)", GuiltBellEdges::busy, (x, g) -> x.range(g, 0), 0, 3);
        bounds("range(g, 1)", GuiltBellEdges::two, (x, g) -> x.range(g, 1), 0, 1);
        edge("Promise 27", "what 0, 1; BAD");
        bounds("range(0, what)", GuiltBellEdges::busy, (x, what) -> x.range(0, what), 0, 1);
        edge("Promise 27", "from 0 to 9");
        GuiltBell x = told(FOUR);
        for (int g = 0; g < 4; g++) due("range(" + g + ")", x.range(g, 0) * 10 + x.range(g, 1), 9);
        edge("Promise 27", "the least is the greatest: each GUILT");
        x = told("plain iron 0 0;");
        for (int v = 0; v < 10; v++) {
            x.see(0, v);
            due("range(0)", x.range(0, 0) * 10 + x.range(0, 1), 11 * v);
            x.forget(0);
        }
        for (int v = 9; v >= 0; v--) {
            x.see(0, v);
            due("range(0)", x.range(0, 1) * 10 + x.range(0, 0), 11 * v);
            x.forget(0);
        }
        edge("Promise 27", "NONE: there are none");
        x.see(0, 1);
        x.see(0, 2);
        due("range(0, 0)", x.range(0, 0), NONE);
        due("range(0, 1)", x.range(0, 1), NONE);
        edge("Promise 27", "of each GIVER by himself");
        x = told(ONLY_NINES);
        x.see(0, 6);
        int[] want = {9, 99, 99, 9};
        for (int g = 0; g < 4; g++) due("range(" + g + ")", x.range(g, 0) * 10 + x.range(g, 1), want[g]);
    }

    /** By see(), fits() and forget() alone: the most that a figure of TAP i leaves. */
    private static int worstBySeeing(GuiltBell x, int i) {
        int were = x.count(0), worst = 0;
        for (int v = 0; v < 10; v++) {
            x.see(i, v);
            worst = Math.max(worst, x.fits(0));
            x.forget(were);
        }
        return worst;
    }

    private static void nextBySeeing(String text, int wantTap) {
        int best = NONE, fewest = told(text).fits(0);
        for (int i = 0; i < 9; i++) {
            int worst = worstBySeeing(told(text), i);
            if (worst < fewest) {
                fewest = worst;
                best = i;
            }
        }
        GuiltBell x = told(text);
        due("next(0) of '" + text + "'", x.next(0), best);
        due("next(1) of '" + text + "'", x.next(1), best == NONE ? NONE : fewest);
        due("the TAP of '" + text + "'", best, wantTap);
    }

    private static void nexts() {
        edge("Promise 28", "what 0, 1; BAD");
        bounds("next", GuiltBellEdges::busy, (x, what) -> x.next(what), 0, 1);
        edge("Promise 28", "of several the first: TAP 0");
        nextBySeeing("plain tin 0 0;", 0);
        edge("Promise 28", "NONE: nowhere: one alone FITS");
        GuiltBell x = told("plain tin 0 0;");
        x.see(0, 3);
        due("next(0)", x.next(0), NONE);
        due("next(1)", x.next(1), NONE);
        due("no GIVERS", new GuiltBell().next(0), NONE);
        due("no GIVERS", new GuiltBell().next(1), NONE);
        edge("Promise 28", "NONE: nowhere: none FIT");
        x.see(0, 4);
        due("next(0)", x.next(0), NONE);
        due("next(1)", x.next(1), NONE);
        edge("Promise 28", "NONE: nowhere fewer than now");
        x = told("mayor iron 0 0;hold 0 4;");
        due("he never gives", x.next(0), NONE);
        due("how many", x.next(1), NONE);
        x.alter(0, 5, 3);
        due("8 of 10 are fewer", x.next(1), 8);
        x.see(0, 1);
        due("8 and 9 give the same", x.fits(0), 2);
        due("nowhere", x.next(0), NONE);
        edge("Promise 28", "fewest at the worst, from TAP 0 to the last");
        nextBySeeing("maid tin 0 0;", 0);
        nextBySeeing("maid tin 0 0;plain iron 0 1;", 1);
        nextBySeeing("deaf tin 0 0;plain tin 0 1;", 2);
        nextBySeeing("maid tin 0 0;mayor tin 0 1;", 3);
        nextBySeeing("maid tin 0 0;mayor tin 0 1;hold 0 6;", 4);
        nextBySeeing("deaf tin 0 0;plain tin 0 1;hold 0 8;hold 1 3;", 6);
        nextBySeeing("maid tin 0 0;mayor iron 0 1;hold 0 3;hold 1 1;", 7);
        nextBySeeing("mayor tin 0 0;maid tin 0 1;hold 1 1;", 8);
    }

    // ---- promise 29

    /** Of one GIVER: what his GUILT was behind each turn, worked out in longs. */
    private static int[] guiltsBySeed(int seed, int n) {
        int[] guilts = new int[n];
        long at = seed & 0xffffffffL;
        for (int i = 0; i < n; i++) {
            for (int step = 0; step < 2; step++) at = (at * 1103515245L + 12345L) % 4294967296L;
            guilts[i] = (int) (at / 65536 % 32768 % 10);
        }
        return guilts;
    }

    private static void drifts() {
        edge("Promise 29", "n times (1 to 60); BAD");
        bounds("drift(1, n, 0)", GuiltBellEdges::busy, (x, n) -> x.drift(1, n, 0), 1, 60);
        edge("Promise 29", "what 0, 1; BAD");
        bounds("drift(1, 1, what)", GuiltBellEdges::busy, (x, what) -> x.drift(1, 1, what), 0, 1);
        edge("Promise 29", "STATE: there are no GIVERS");
        refused("drift(0, 1, 0)", () -> told("add copper 1;"), x -> x.drift(0, 1, 0), STATE);
        refused("drift(0, 60, 1)", () -> told("add copper 1;"), x -> x.drift(0, 60, 1), STATE);
        edge("Promise 29", "a seed: any, with wrap-around; once, 60 times; a NOTE that is none is 0");
        GuiltBell x = told("plain copper 3 0;");
        for (int seed : new int[] {0, 1, -1, LOWEST, GREATEST, LOWEST + 1, 65536, -65536, 1103515245, 12345}) {
            for (int n : new int[] {1, 2, 59, 60}) {
                int given = 0;
                for (int guilt : guiltsBySeed(seed, n)) if (guilt > 0) given++;
                due("drift(" + seed + ", " + n + ", 0)", x.drift(seed, n, 0), given);
                due("drift(" + seed + ", " + n + ", 1)", x.drift(seed, n, 1), 6 * given);
            }
        }
        edge("Promise 29", "by itself: GUILTS stay");
        due("giver(0, 1)", x.giver(0, 1), 3);
        edge("Promise 29", "bits 16 to 30 modulo GIVERS, from one to four");
        // 0 becomes 12345: bits 0: the first; then 3554416254: bits 21468: 8
        String four = "plain tin 1 0;plain silver 1 1;plain silver 1 2;plain silver 1 3;";
        int[] notes = {12, 11, 10, 9};
        for (int givers = 1; givers <= 4; givers++) {
            int end = givers == 1 ? 14 : 14 + 17 * (givers - 1);
            due("tin 8, silver " + (givers - 1), told(four.substring(0, end)).drift(0, 1, 1), notes[givers - 1]);
        }
    }

    // ---- promises 30, 31

    private static void images() {
        edge("Promise 30", "IMAGE k (0, 1); BAD");
        bounds("keep", GuiltBellEdges::busy, (x, k) -> x.keep(k), 0, 1);
        edge("Promise 30", "whether there was one (1, 0)");
        GuiltBell x = new GuiltBell();
        for (int k = 0; k < 2; k++) {
            due("keep(" + k + ")", x.keep(k), 0);
            due("keep(" + k + ")", x.keep(k), 1);
            due("count(1)", x.count(1), k + 1);
        }
        edge("Promise 30", "it is what there was then, and each is by itself");
        x = told("plain tin 1 0;");
        x.keep(0);
        x.alter(0, 1, 2);
        x.keep(1);
        x.alter(0, 1, 3);
        due("back(0)", x.back(0) * 10 + x.giver(0, 1), 1);
        due("back(1)", x.back(1) * 10 + x.giver(0, 1), 2);
        x.alter(0, 1, 9);
        due("back(0) again", x.back(0) * 10 + x.giver(0, 1), 1);
        edge("Promise 30", "an IMAGE in place of one that there was");
        x.alter(0, 1, 7);
        due("keep(0)", x.keep(0), 1);
        x.alter(0, 1, 8);
        x.back(0);
        due("the later one", x.giver(0, 1), 7);
        edge("Promise 30", "an IMAGE of no GIVERS");
        x = new GuiltBell();
        x.keep(1);
        x.add(0, 1);
        x.ask(0, 12);
        due("back(1)", x.back(1), 0);
        due("all is as it was", x.rule(0) + x.bell(0) + x.rule(1), 6);
        edge("Promise 31", "IMAGE k (0, 1); BAD");
        refusedOutside("back", GuiltBellEdges::busy, (y, k) -> y.back(k), 0, 1);
        refusedOutside("back", GuiltBellEdges::full, (y, k) -> y.back(k), 0, 1);
        refusedOutside("back", GuiltBellEdges::fresh, (y, k) -> y.back(k), 0, 1);
        edge("Promise 31", "STATE: there is none");
        refused("back(0)", GuiltBellEdges::fresh, y -> y.back(0), STATE);
        refused("back(1)", GuiltBellEdges::fresh, y -> y.back(1), STATE);
        refused("back(1)", GuiltBellEdges::busy, y -> y.back(1), STATE);
        edge("Promise 31", "STATE behind a text that is taken; there still behind one with a FAULT");
        x = told("plain tin 1 0;");
        x.keep(0);
        x.keep(1);
        feedAll(x, "?");
        x.text();
        due("back(0)", x.back(0), 0);
        due("count(1)", x.count(1), 2);
        x.text();
        due("back(0)", x.back(0), STATE);
        due("back(1)", x.back(1), STATE);
        due("keep(0)", x.keep(0), 0);
        edge("Promise 31", "STRUCK, WORN are as they were: from the most back to 0");
        x = told("add tin 40;add copper 40;");
        x.keep(0);
        for (int i = 0; i < 10; i++) x.ring(99);
        x.ring(9);
        x.keep(1);
        due("ring(1)", x.ring(1), FULL);
        due("back(0)", x.back(0), 0);
        due("WEIGHT", x.bell(0), 80);
        due("ring(5)", x.ring(5), 79);
        due("back(1)", x.back(1), 999);
        due("ring(1)", x.ring(1), FULL);
        due("WEIGHT", x.bell(0), 0);
        edge("Promise 31", "what is no part of an IMAGE stays: SEEN, THE TAPE, SHEETS, torn(), fault()");
        x = busy();
        x.back(0);
        due("SEEN, IMAGES, bytes, CELLS", x.count(0) * 1000 + x.count(1) * 100 + x.count(2) * 10 + x.count(3), 2174);
        due("torn()", x.torn(), 2);
    }

    // ---- promises 32 to 35

    private static void sheets() {
        edge("Promise 32", "SHEETS 0 to 3; BAD");
        bounds("sheet(k, 0, 1)", GuiltBellEdges::busy, (x, k) -> x.sheet(k, 0, 1), 0, 3);
        edge("Promise 32", "lanes 0 to 2; BAD");
        bounds("sheet(0, lane, 1)", GuiltBellEdges::busy, (x, lane) -> x.sheet(0, lane, 1), 0, 2);
        edge("Promise 32", "0 to 40 CELLS; BAD: also n above 40");
        for (int n = 0; n <= 40; n++) {
            GuiltBell x = new GuiltBell();
            due("sheet(0, 0, " + n + ")", x.sheet(0, 0, n), 1);
            due("count(3)", x.count(3), n);
            due("the last CELL", x.lay(0, n - 1, 1), n == 0 ? -12 : 1);
            due("behind it", x.lay(0, n, 1), -12);
        }
        refused("sheet(0, 0, 41)", GuiltBellEdges::busy, x -> x.sheet(0, 0, 41), BAD);
        refused("sheet(0, 0, greatest)", GuiltBellEdges::busy, x -> x.sheet(0, 0, GREATEST), BAD);
        refused("sheet(3, 2, 41)", GuiltBellEdges::busy, x -> x.sheet(3, 2, 41), BAD);
        edge("Promise 32", "-10 - 4: SIZE (below 0)");
        refused("sheet(0, 0, -1)", GuiltBellEdges::busy, x -> x.sheet(0, 0, -1), -14);
        refused("sheet(0, 2, lowest)", GuiltBellEdges::busy, x -> x.sheet(0, 2, LOWEST), -14);
        refused("sheet(3, 1, -1)", GuiltBellEdges::busy, x -> x.sheet(3, 1, -1), -14);
        edge("Promise 32", "BAD ahead of SIZE");
        refused("sheet(4, 0, -1)", GuiltBellEdges::busy, x -> x.sheet(4, 0, -1), BAD);
        refused("sheet(-1, 0, -1)", GuiltBellEdges::busy, x -> x.sheet(-1, 0, -1), BAD);
        refused("sheet(0, 3, -1)", GuiltBellEdges::busy, x -> x.sheet(0, 3, -1), BAD);
        refused("sheet(0, -1, -1)", GuiltBellEdges::busy, x -> x.sheet(0, -1, -1), BAD);
        edge("Promise 32", "a new row: CELLS 0, of its lane, of its size, in place of one that there was");
        GuiltBell x = told("plain tin 5 0;plain tin 6 0;");
        x.sheet(1, 2, 40);
        for (int i = 0; i < 40; i++) x.lay(1, i, 1);
        due("sheet(1, 0, 4)", x.sheet(1, 0, 4), 1);
        due("read(1, 0, 0, 2)", x.read(1, 0, 0, 2), 2);
        due("GIVER 0, GUILT 0", x.giver(0, 1) * 10 + x.giver(1, 1), 6);
        due("read(1, 2, 0, 1)", x.read(1, 2, 0, 1) * 10 + x.torn(), 3);
        due("read(1, 0, 4, 1)", x.read(1, 0, 4, 1) * 10 + x.torn(), 2);
        x.sheet(1, 0, 40);
        due("none is left over", x.read(1, 0, 0, 20), 20);
        due("GUILT 0", x.giver(0, 1) * 10 + x.giver(1, 1), 6);
        edge("Promise 32", "a row of no CELLS is not nothing");
        due("sheet(0, 0, 0)", x.sheet(0, 0, 0), 1);
        due("count(3)", x.count(3), 0);
        due("lay(0, 0, 0)", x.lay(0, 0, 0), -12);
    }

    private static void lays() {
        edge("Promise 33", "SHEETS 0 to 3; BAD: k");
        bounds("lay(k, 0, 0)", GuiltBellEdges::busy, (x, k) -> x.lay(k, 0, 0), 0, 3);
        edge("Promise 33", "-10 less the FAULT: NULL, whatever the CELL");
        for (int i : new int[] {0, -1, 40, LOWEST, GREATEST}) {
            refused("lay(1, " + i + ", 0)", GuiltBellEdges::busy, x -> x.lay(1, i, 0), -11);
        }
        edge("Promise 33", "-10 less the FAULT: INDEX");
        for (int i : new int[] {-1, 4, 5, 39, 40, LOWEST, GREATEST}) {
            refused("lay(0, " + i + ", 9)", GuiltBellEdges::busy, x -> x.lay(0, i, 9), -12);
        }
        edge("Promise 33", "CELL i: the first, the last");
        GuiltBell x = told("plain tin 5 0;plain tin 6 0;");
        x.sheet(3, 0, 40);
        due("lay(3, 0, 1)", x.lay(3, 0, 1), 1);
        due("lay(3, 39, 9)", x.lay(3, 39, 9), 1);
        due("the first", x.read(3, 0, 0, 1) * 10 + x.giver(1, 1), 10);
        due("the last", x.read(3, 0, 38, 1) * 10 + x.giver(0, 1), 19);
        int[][] values = {{127, 128, 255, 256, 257, -128, -129, -256, 265, 266}, {32767, 32768, 65535, 65536, 65537, -32768, -65527, 256},
            {GREATEST, LOWEST, 65536, 256, -1, 10, 9, 0}};
        String[] lanes = {"BYTES", "SHORTS", "INTS"};
        for (int lane = 0; lane < 3; lane++) {
            edge("Promise 33", "its lowest bits: " + lanes[lane]);
            for (int v : values[lane]) {
                GuiltBell y = told("plain tin 5 0;");
                y.sheet(0, lane, 2);
                due("lay(0, 1, " + v + ")", y.lay(0, 1, v), 1);
                int cell = lane == 0 ? (byte) v : lane == 1 ? (short) v : v;
                boolean good = cell >= 0 && cell <= 9;
                due("read() of " + v, y.read(0, lane, 0, 1), good ? 1 : -20);
                due("GUILT of " + v, y.giver(0, 1), good ? cell : 5);
                y.sheet(0, lane, 2);
                y.lay(0, 0, v);
                due("GIVER of " + v, y.read(0, lane, 0, 1), cell == 0 ? 1 : -20);
            }
        }
    }

    /** SHEET 1: ints, all of them GIVER 0, GUILT 0. */
    private static GuiltBell readable(int cells) {
        GuiltBell x = told("plain tin 5 0;plain tin 6 0;");
        x.sheet(1, 2, cells);
        return x;
    }

    private static void reads() {
        edge("Promise 34", "BAD: k");
        bounds("read(k, 0, 0, 1)", GuiltBellEdges::busy, (x, k) -> x.read(k, 0, 0, 1), 0, 3);
        edge("Promise 34", "BAD: lane");
        bounds("read(0, lane, 0, 1)", GuiltBellEdges::busy, (x, lane) -> x.read(0, lane, 0, 1), 0, 2);
        edge("Promise 34", "n (0 to 20); BAD: n");
        bounds("read(0, 1, 0, n)", GuiltBellEdges::busy, (x, n) -> x.read(0, 1, 0, n), 0, 20);
        edge("Promise 34", "BAD ahead of what the machine refuses");
        refused("read(1, 3, 0, 1)", GuiltBellEdges::busy, x -> x.read(1, 3, 0, 1), BAD);
        refused("read(1, 0, -1, 21)", GuiltBellEdges::busy, x -> x.read(1, 0, -1, 21), BAD);
        refused("read(0, 0, 0, -1)", GuiltBellEdges::busy, x -> x.read(0, 0, 0, -1), BAD);
        edge("Promise 34", "none is read: 0");
        due("read(1, 2, 0, 0)", readable(2).read(1, 2, 0, 0), 0);
        edge("Promise 34", "most are read: 20 of 40 CELLS");
        GuiltBell x = readable(40);
        due("read(1, 2, 0, 20)", x.read(1, 2, 0, 20) * 10 + x.torn(), 200);
        due("from 2 on the 20th is not there", x.read(1, 2, 2, 20) * 10 + x.torn(), 192);
        due("from 1 on half of the 20th is", x.read(1, 2, 1, 20) * 10 + x.torn(), 192);
        due("from 38 on", x.read(1, 2, 38, 20) * 10 + x.torn(), 12);
        due("from 38 on, one", x.read(1, 2, 38, 1) * 10 + x.torn(), 10);
        edge("Promise 34", "from CELL f on: ahead of the first, behind the last: INDEX");
        for (int f : new int[] {-1, -2, -40, LOWEST, LOWEST + 1, 39, 40, 41, GREATEST - 1, GREATEST}) {
            due("from " + f, x.read(1, 2, f, 20) * 10 + x.torn(), 2);
        }
        edge("Promise 34", "one behind another: of one GIVER the last holds");
        x = readable(6);
        int[] row = {0, 9, 1, 3, 0, 4};
        for (int i = 0; i < 6; i++) x.lay(1, i, row[i]);
        due("read(1, 2, 0, 3)", x.read(1, 2, 0, 3), 3);
        due("GUILTS", x.giver(0, 1) * 10 + x.giver(1, 1), 43);
        edge("Promise 34", "what the machine refuses: those that were whole ahead are");
        for (int cells = 0; cells <= 6; cells++) {
            x = readable(cells);
            for (int i = 0; i < cells; i++) x.lay(1, i, row[i]);
            due("of " + cells + " CELLS", x.read(1, 2, 0, 4) * 10 + x.torn(), cells / 2 * 10 + 2);
            int[] guilts = {56, 96, 93, 43};
            due("GUILTS by " + cells + " CELLS", x.giver(0, 1) * 10 + x.giver(1, 1), guilts[cells / 2]);
        }
    }

    private static void badReads() {
        edge("Promise 34", "-20 less i: the i-th is BAD, from the first to the 20th; then none was");
        GuiltBell x = readable(40);
        for (int i = 0; i < 20; i++) {
            x.lay(1, 2 * i + 1, 10);
            due("the " + i + "-th", x.read(1, 2, 0, 20), -20 - i);
            x.lay(1, 2 * i + 1, 0);
        }
        due("none was", x.giver(0, 1) * 10 + x.giver(1, 1), 56);
        edge("Promise 34", "BAD: there is no such GIVER; GUILT (0 to 9)");
        for (int v : new int[] {LOWEST, -1, 0, 1, 2, 3, 4, 9, 10, GREATEST}) {
            x = readable(4);
            x.lay(1, 1, 8);
            x.lay(1, 2, v);
            boolean giver = v == 0 || v == 1;
            due("GIVER " + v, x.read(1, 2, 0, 2), giver ? 2 : -21);
            due("GUILTS by GIVER " + v, x.giver(0, 1) * 10 + x.giver(1, 1), v == 0 ? 6 : v == 1 ? 80 : 56);
            x = readable(4);
            x.lay(1, 3, v);
            boolean guilt = v >= 0 && v <= 9;
            due("GUILT " + v, x.read(1, 2, 0, 2), guilt ? 2 : -21);
            due("GUILT by " + v, x.giver(0, 1), guilt ? v : 5);
        }
        edge("Promise 34", "BAD: no GIVERS");
        x = new GuiltBell();
        x.sheet(1, 2, 2);
        due("read(1, 2, 0, 1)", x.read(1, 2, 0, 1), -20);
        due("read(1, 2, 0, 0)", x.read(1, 2, 0, 0), 0);
        edge("Promise 34", "the first met: of two that are BAD the first");
        x = readable(8);
        x.lay(1, 2, 7);
        x.lay(1, 5, 77);
        due("the second, the third", x.read(1, 2, 0, 4), -21);
        due("from the third on", x.read(1, 2, 4, 2), -20);
        edge("Promise 34", "the first met: BAD ahead of where the machine refuses");
        due("and INDEX", x.read(1, 2, 0, 20), -21);
        due("torn()", x.torn(), 0);
        edge("Promise 34", "the first met: the machine refuses ahead of what would be BAD");
        x = readable(3);
        x.lay(1, 1, 8);
        x.lay(1, 2, 7);
        due("the second is not whole", x.read(1, 2, 0, 2) * 10 + x.torn(), 12);
        due("the first is", x.giver(0, 1), 8);
        x = readable(2);
        x.lay(1, 0, 7);
        due("another lane", x.read(1, 1, 0, 1) * 10 + x.torn(), 3);
        due("ahead of CELL 0", x.read(1, 2, -1, 1) * 10 + x.torn(), 2);
        edge("Promise 34", "what is BAD changes nothing");
        refused("read() of GIVER 7", () -> withSheet(7), y -> y.read(1, 2, 0, 2), -21);
    }

    private static GuiltBell withSheet(int giver) {
        GuiltBell x = busy();
        x.sheet(1, 2, 4);
        x.lay(1, 0, 1);
        x.lay(1, 1, 2);
        x.lay(1, 2, giver);
        return x;
    }

    private static void torns() {
        edge("Promise 35", "0 ahead of all read()");
        due("torn()", new GuiltBell().torn(), 0);
        edge("Promise 35", "1 NULL: nothing, whatever the lane and the CELL");
        GuiltBell x = told("plain tin 5 0;");
        for (int lane = 0; lane < 3; lane++) {
            for (int f : new int[] {0, -1, 40, LOWEST, GREATEST}) {
                due("read(0, " + lane + ", " + f + ", 1)", x.read(0, lane, f, 1) * 10 + x.torn(), 1);
            }
        }
        edge("Promise 35", "3 CAST: another lane, whatever the CELL, be there no CELLS");
        for (int lane = 0; lane < 3; lane++) {
            for (int cells = 0; cells <= 2; cells += 2) {
                x = told("plain tin 5 0;");
                x.sheet(0, lane, cells);
                for (int as = 0; as < 3; as++) {
                    int own = cells == 2 ? 10 : 2;
                    due("lane " + lane + " as " + as, x.read(0, as, 0, 1) * 10 + x.torn(), as == lane ? own : 3);
                    due("far off", x.read(0, as, 99, 1) * 10 + x.torn(), as == lane ? 2 : 3);
                }
            }
        }
        edge("Promise 35", "a read() of no pair finds no FAULT");
        x = told("plain tin 5 0;");
        x.sheet(1, 1, 0);
        x.sheet(2, 2, 2);
        for (int k = 0; k < 3; k++) {
            for (int lane = 0; lane < 3; lane++) {
                for (int f : new int[] {0, -1, 2, LOWEST, GREATEST}) {
                    x.read(0, 0, 0, 1);
                    due("NULL", x.torn(), 1);
                    due("read(" + k + ", " + lane + ", " + f + ", 0)", x.read(k, lane, f, 0) * 10 + x.torn(), 0);
                }
            }
        }
        edge("Promise 35", "the latest read(): each in place of the one before");
        x = told("plain tin 5 0;");
        x.sheet(2, 2, 3);
        due("INDEX", x.read(2, 2, 0, 2) * 10 + x.torn(), 12);
        due("CAST", x.read(2, 1, 0, 2) * 10 + x.torn(), 3);
        due("NULL", x.read(3, 1, 0, 2) * 10 + x.torn(), 1);
        due("none", x.read(2, 2, 0, 1) * 10 + x.torn(), 10);
        edge("Promise 35", "that came to an end: a read() that is BAD, or whose i-th is BAD, leaves it");
        x.read(2, 1, 0, 1);
        due("read(4, 2, 0, 1)", x.read(4, 2, 0, 1) * 10 + x.torn(), -7);
        due("read(2, 3, 0, 1)", x.read(2, 3, 0, 1) * 10 + x.torn(), -7);
        due("read(2, 2, 0, 21)", x.read(2, 2, 0, 21) * 10 + x.torn(), -7);
        x.lay(2, 0, 1);
        due("read(2, 2, 0, 1)", x.read(2, 2, 0, 1) * 10 + x.torn(), -197);
        due("read(2, 2, 0, 2)", x.read(2, 2, 0, 2) * 10 + x.torn(), -197);
        edge("Promise 35", "lay(), sheet() leave it");
        x.lay(0, 0, 0);
        x.lay(2, 9, 0);
        x.sheet(2, 2, -1);
        x.sheet(2, 2, 2);
        due("torn()", x.torn(), 3);
    }

    // ---- promise 36

    private static void counts() {
        edge("Promise 36", "what 0 to 5; BAD");
        bounds("count", GuiltBellEdges::busy, (x, what) -> x.count(what), 0, 5);
        bounds("count", GuiltBellEdges::fresh, (x, what) -> x.count(what), 0, 5);
        edge("Promise 36", "SEEN 0 to 6, IMAGES 0 to 2, bytes 0 to 160");
        GuiltBell x = new GuiltBell();
        for (int n = 0; n <= 6; n++) {
            due("count(0)", x.count(0), n);
            x.see(0, 0);
        }
        due("count(0)", x.count(0), 6);
        for (int n = 0; n <= 160; n++) {
            due("count(2)", x.count(2), n);
            x.feed(32);
        }
        due("count(2)", x.count(2), 160);
        due("count(1)", x.count(1), 0);
        x.keep(1);
        due("count(1)", x.count(1), 1);
        x.keep(0);
        due("count(1)", x.count(1), 2);
        edge("Promise 36", "CELLS of SHEET 0 (NONE: nothing), 0 to 40");
        x = new GuiltBell();
        for (int k = 1; k < 4; k++) x.sheet(k, 0, 9);
        due("count(3)", x.count(3), NONE);
        x.sheet(0, 0, -1);
        due("count(3)", x.count(3), NONE);
        for (int n = 0; n <= 40; n++) {
            x.sheet(0, 2, n);
            due("count(3)", x.count(3), n);
        }
        edge("Promise 36", "all that GIVERS GIVE, all GUILTS: none, most");
        x = told("deaf tin 9 0;deaf iron 9 1;deaf silver 9 2;deaf copper 9 3;add tin 40;");
        due("count(4)", x.count(4), 84);
        due("count(5)", x.count(5), 36);
        x.ring(99);
        due("WORN is given still", x.count(4), 84);
        for (int g = 0; g < 4; g++) {
            x.alter(g, 0, 1);
            x.alter(g, 1, 1);
        }
        due("count(4)", x.count(4), 0);
        due("count(5)", x.count(5), 4);
        for (int g = 0; g < 4; g++) x.alter(g, 1, 0);
        due("count(5)", x.count(5), 0);
    }

    public static void main(String[] args) {
        head();
        firstThatFits();
        changesNothing();
        newObject();
        feeds();
        ends();
        textsThatAreTaken();
        tokens();
        faultsAtEachPlace();
        faultsTwo();
        faultsThree();
        faultsFourToSix();
        faultsTold();
        rules();
        givers();
        metals();
        bells();
        taps();
        alters();
        adds();
        asks();
        rings();
        mines();
        leasts();
        castsTillTrue();
        spares();
        withouts();
        lasting();
        swaps();
        means();
        lucks();
        sees();
        forgets();
        fitting();
        ranges();
        nexts();
        drifts();
        images();
        sheets();
        lays();
        reads();
        badReads();
        torns();
        counts();
        System.out.println(wrong == 0 ? sentences + " boundary cases hold" : wrong + " answers are not as due");
        if (wrong != 0) System.exit(1);
    }
}
