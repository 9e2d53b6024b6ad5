/** For each promise of the document: ordinary inputs, the edges it names, wrong inputs. Answers are worked out by hand. */
public final class GuiltBellPromises {
    private static final int BAD = -1, STATE = -2, FULL = -3, NONE = -4;
    private static int wrong = 0;

    private static void due(int promise, String call, long got, long want) {
        if (got == want) return;
        wrong++;
        System.out.println("promise " + promise + ": " + call + " answered " + got + ", due is " + want);
    }

    private static void feedAll(GuiltBell x, String text) {
        for (int i = 0; i < text.length(); i++) x.feed(text.charAt(i));
    }

    private static GuiltBell told(String text) {
        GuiltBell x = new GuiltBell();
        feedAll(x, text);
        int answer = x.text();
        if (answer < 0) due(4, "text of " + text, answer, 0);
        return x;
    }

    private static void faulty(String text, int fault, int place) {
        GuiltBell x = told("plain tin 7 0;ask 9 1;");
        feedAll(x, text);
        due(4, "text() of '" + text + "'", x.text(), -10 - place);
        due(5, "fault() of '" + text + "'", x.fault(), fault);
        due(4, "bytes behind '" + text + "'", x.count(2), 0);
        due(4, "GIVERS behind '" + text + "'", x.rule(0), 1);
        due(4, "ASKED behind '" + text + "'", x.rule(1), 9);
        due(4, "WEIGHT behind '" + text + "'", x.bell(0), 7);
    }

    private static void taken(String text, int lines) {
        GuiltBell x = new GuiltBell();
        feedAll(x, text);
        due(4, "text() of '" + text + "'", x.text(), lines);
        due(5, "fault() of '" + text + "'", x.fault(), 0);
    }

    private static void newObject() {
        GuiltBell x = new GuiltBell();
        due(1, "rule(0)", x.rule(0), 0);
        due(1, "rule(1)", x.rule(1), 6);
        due(1, "rule(2)", x.rule(2), 0);
        due(1, "rule(3)", x.rule(3), 0);
        due(1, "giver(0, 0)", x.giver(0, 0), BAD);
        for (int m = 0; m < 3; m++) for (int what = 0; what < 3; what++) due(1, "metal", x.metal(m, what), 0);
        for (int k = 0; k < 4; k++) due(1, "lay(" + k + ", 0, 0)", x.lay(k, 0, 0), -11);
        for (int what = 0; what < 6; what++) due(1, "count(" + what + ")", x.count(what), what == 3 ? NONE : 0);
        due(1, "fault()", x.fault(), 0);
        due(1, "torn()", x.torn(), 0);
        for (int i = 0; i < 9; i++) due(1, "tap(" + i + ")", x.tap(i), 0);
        due(1, "back(0)", x.back(0), STATE);
        due(1, "back(1)", x.back(1), STATE);
    }

    private static void feedAndEnd() {
        GuiltBell x = new GuiltBell();
        due(2, "feed(-1)", x.feed(-1), BAD);
        due(2, "feed(128)", x.feed(128), BAD);
        due(2, "feed(0)", x.feed(0), 1);
        due(2, "feed(127)", x.feed(127), 2);
        for (int i = 3; i <= 160; i++) due(2, "feed(32)", x.feed(32), i);
        due(2, "feed(32) at 160", x.feed(32), FULL);
        due(2, "feed(128) at 160", x.feed(128), BAD);
        due(2, "count(2)", x.count(2), 160);
        due(3, "end(161)", x.end(161), BAD);
        due(3, "end(-1)", x.end(-1), BAD);
        due(3, "end(160)", x.end(160), 160);
        due(3, "end(3)", x.end(3), 160);
        due(3, "end(4)", x.end(4), BAD);
        due(3, "count(2)", x.count(2), 3);
        due(3, "end(0)", x.end(0), 3);
        due(3, "end(0)", x.end(0), 0);
        feedAll(x, "ask 7 1;xyz");
        due(3, "end(8)", x.end(8), 11);
        due(3, "text()", x.text(), 1);
        due(3, "rule(1)", x.rule(1), 7);
    }

    private static void textTellsAll() {
        taken("", 0);
        taken("   ", 0);
        taken("  plain   tin 09 03 ; ", 1);
        taken("plain tin1 1;sorry0;", 2);
        taken("sorry 3;hold 2 0;plain tin 0 0;mayor copper 9 3;maid silver 0 3;deaf iron 9 0;", 6);
        taken("add tin 40;add copper 0;add silver 40;ask 3 10;", 4);
        taken("ask 12 0;", 1);
        GuiltBell x = told("sorry 0;hold 0 9;maid iron 8 3;add silver 40;ask 12 10;");
        due(4, "KIND", x.giver(0, 0), 2);
        due(4, "GUILT", x.giver(0, 1), 8);
        due(4, "METAL", x.giver(0, 2), 3);
        due(4, "DEED", x.giver(0, 3), 3);
        due(4, "SORRY", x.giver(0, 4), 1);
        due(4, "HOLDS", x.giver(0, 5), 9);
        due(4, "ADDED", x.metal(2, 1), 40);
        due(4, "ASKED", x.rule(1), 12);
        due(4, "LEAST", x.rule(2), 10);
        x.ring(99);
        x.see(0, 0);
        x.keep(0);
        x.keep(1);
        x.sheet(0, 1, 7);
        feedAll(x, "plain tin 3 1;");
        due(4, "text()", x.text(), 1);
        due(4, "STRUCK", x.rule(3), 0);
        due(4, "ASKED", x.rule(1), 6);
        due(4, "LEAST", x.rule(2), 0);
        due(4, "SORRY", x.rule(4), 0);
        due(4, "HOLDS", x.rule(5), 0);
        due(4, "ADDED", x.metal(2, 1), 0);
        due(4, "WORN", x.metal(2, 2), 0);
        due(4, "SEEN", x.count(0), 0);
        due(4, "IMAGES", x.count(1), 0);
        due(4, "bytes", x.count(2), 0);
        due(4, "CELLS of SHEET 0", x.count(3), 7);
        due(4, "text() of nothing", x.text(), 0);
        due(4, "GIVERS", x.rule(0), 0);
    }

    private static void faultyTextChangesNothing() {
        GuiltBell x = told("plain tin 5 0;");
        x.see(0, 0);
        x.keep(1);
        x.ring(5);
        feedAll(x, "ask 7 1;maid tin 1 1");
        due(4, "text()", x.text(), -30);
        due(4, "SEEN", x.count(0), 1);
        due(4, "IMAGES", x.count(1), 1);
        due(4, "STRUCK", x.rule(3), 5);
        due(4, "WORN", x.metal(0, 2), 1);
        due(4, "ASKED", x.rule(1), 6);
        due(5, "fault()", x.fault(), 2);
        due(5, "fault() again", x.fault(), 2);
        feedAll(x, "ask 7 1;");
        due(5, "fault() ahead of text()", x.fault(), 2);
        due(5, "text()", x.text(), 1);
        due(5, "fault()", x.fault(), 0);
    }

    private static void faultsOfTexts() {
        faulty("Plain tin 1 1;", 1, 0);
        faulty("plain tin 1 1,", 1, 13);
        faulty("plain tin 100 1;", 1, 10);
        faulty("plain tin 001 1;", 1, 10);
        faulty("ask 7 1;  :", 1, 10);
        faulty("ask\t7 1;", 1, 3);
        faulty("add tin -1;", 1, 8);
        faulty("\0", 1, 0);
        faulty(";", 2, 0);
        faulty("7", 2, 0);
        faulty("ask 7 1;;", 2, 8);
        faulty("plains tin 1 1;", 2, 0);
        faulty("plai tin 1 1;", 2, 0);
        faulty("tin 1 1;", 2, 0);
        faulty("plain plain 1 1;", 2, 6);
        faulty("plain 1 1;", 2, 6);
        faulty("plain tin tin 1;", 2, 10);
        faulty("plain tin 1;", 2, 11);
        faulty("plain tin 1 1 1;", 2, 14);
        faulty("plain tin 1 1 ask 7 1;", 2, 14);
        faulty("add iron 1;", 2, 4);
        faulty("add gold 1;", 2, 4);
        faulty("sorry;", 2, 5);
        faulty("hold 0;", 2, 6);
        faulty("ask 7;", 2, 5);
        faulty("plain", 2, 5);
        faulty("plain  ", 2, 7);
        faulty("plain tin 1 1  ", 2, 15);
        faulty("plain tin 10 1;", 3, 10);
        faulty("plain tin 9 4;", 3, 12);
        faulty("sorry 4;", 3, 6);
        faulty("hold 4 0;", 3, 5);
        faulty("hold 0 10;", 3, 7);
        faulty("add tin 41;", 3, 8);
        faulty("ask 2 0;", 3, 4);
        faulty("ask 13 0;", 3, 4);
        faulty("ask 12 11;", 3, 7);
        faulty("ask 6 0; ask 6 0;", 4, 9);
        faulty("ask 6 0;ask", 4, 8);
        faulty("ask6 1;ask7 1;", 4, 7);
        faulty("sorry 3;sorry 3", 4, 14);
        faulty("hold 0 0;hold 0 :", 4, 14);
        faulty("add tin 0;add tin 99;", 4, 14);
        faulty("add silver 0;add tin 3;add silver :", 4, 27);
        faulty("maid tin 1 1;maid tin 1 1;maid tin 1 1;maid tin 1 1; maid :", 5, 53);
        faulty("maid tin 1 1;sorry 1;", 6, 21);
        faulty("hold 3 0;maid tin 1 1;  ", 6, 24);
        faulty("hold 3 0;maid tin 1 1; :", 1, 23);
        faulty("priest 100", 2, 0);
        faulty("plain tin 10 100;", 3, 10);
    }

    private static final String FOUR = "plain tin 9 0;mayor copper 7 1;maid silver 4 1;deaf iron 2 3;";

    private static void rulesAndGivers() {
        GuiltBell x = told(FOUR + "sorry 1;sorry 3;hold 0 2;hold 3 9;hold 2 0;ask 5 4;");
        due(6, "rule(0)", x.rule(0), 4);
        due(6, "rule(1)", x.rule(1), 5);
        due(6, "rule(2)", x.rule(2), 4);
        due(6, "rule(3)", x.rule(3), 0);
        due(6, "rule(4)", x.rule(4), 10);
        due(6, "rule(5)", x.rule(5), 9);
        due(6, "rule(6)", x.rule(6), BAD);
        due(6, "rule(-1)", x.rule(-1), BAD);
        x.ring(7);
        due(6, "rule(3)", x.rule(3), 7);
        int[][] want = {{0, 9, 0, 0, 0, 2, 9, 7}, {1, 7, 1, 1, 1, 0, 3, 3}, {2, 4, 2, 1, 0, 0, 8, 8}, {3, 2, 3, 3, 1, 9, 7, 0}};
        for (int g = 0; g < 4; g++) {
            for (int what = 0; what < 8; what++) due(7, "giver(" + g + ", " + what + ")", x.giver(g, what), want[g][what]);
            due(7, "giver(" + g + ", 8)", x.giver(g, 8), BAD);
            due(7, "giver(" + g + ", -1)", x.giver(g, -1), BAD);
        }
        due(7, "giver(4, 0)", x.giver(4, 0), BAD);
        due(7, "giver(-1, 0)", x.giver(-1, 0), BAD);
    }

    private static void halves() {
        GuiltBell x = told("plain tin 9 2;deaf tin 9 2;mayor tin 1 1;sorry 0;sorry 1;sorry 2;hold 0 1;");
        due(7, "half of 9, up, less 1", x.giver(0, 7), 4);
        due(7, "half of 21, up", x.giver(1, 7), 11);
        due(7, "half of 1, down, alone", x.giver(2, 7), 0);
        x.alter(2, 1, 9);
        due(7, "SORRY alone is not halved", x.giver(2, 7), 4);
        x.alter(2, 3, 2);
        due(7, "three of one DEED", x.giver(2, 7), 2);
        x.alter(2, 4, 0);
        due(7, "one is not SORRY", x.giver(0, 7), 8);
        due(7, "nor is the other halved", x.giver(1, 7), 21);
        due(7, "nor he", x.giver(2, 7), 4);
        x.alter(2, 3, 0);
        due(7, "he is of another DEED", x.giver(1, 7), 11);
    }

    private static void metalsAndBell() {
        GuiltBell x = told("plain tin 4 0;plain silver 3 1;maid iron 4 2;add tin 2;add copper 1;");
        due(8, "tin", x.metal(0, 0), 6);
        due(8, "copper", x.metal(1, 0), 1);
        due(8, "silver", x.metal(2, 0), 3);
        due(8, "iron", x.metal(3, 0), 8);
        due(8, "tin ADDED", x.metal(0, 1), 2);
        due(8, "silver ADDED", x.metal(2, 1), 0);
        due(8, "tin WORN", x.metal(0, 2), 0);
        due(8, "metal(3, 1)", x.metal(3, 1), BAD);
        due(8, "metal(3, 2)", x.metal(3, 2), BAD);
        due(8, "metal(4, 0)", x.metal(4, 0), BAD);
        due(8, "metal(-1, 0)", x.metal(-1, 0), BAD);
        due(8, "metal(0, 3)", x.metal(0, 3), BAD);
        due(8, "metal(0, -1)", x.metal(0, -1), BAD);
        due(9, "WEIGHT", x.bell(0), 10);
        due(9, "NOTE", x.bell(1), 8);
        due(9, "SWEET", x.bell(2), 3);
        due(9, "TRUE", x.bell(3), 0);
        due(9, "FLAWS", x.bell(4), 0);
        due(9, "bell(5)", x.bell(5), BAD);
        due(9, "bell(-1)", x.bell(-1), BAD);
        x.ask(0, 8);
        due(9, "TRUE", x.bell(3), 1);
        x.ask(1, 3);
        due(9, "TRUE at LEAST", x.bell(3), 1);
        x.ask(1, 4);
        due(9, "not so sweet", x.bell(3), 0);
        x.alter(0, 5, 1);
        x.alter(2, 5, 9);
        due(9, "FLAWS", x.bell(4), 5);
        x.alter(0, 1, 0);
        due(9, "who owes nothing leaves none", x.bell(4), 4);
        x.alter(1, 1, 0);
        x.add(0, 0);
        x.add(1, 0);
        x.add(2, 1);
        due(9, "SWEET of one silver", x.bell(2), 10);
        x.add(2, 0);
        due(9, "WEIGHT of nothing", x.bell(0), 0);
        due(9, "NOTE of nothing", x.bell(1), NONE);
        due(9, "SWEET of nothing", x.bell(2), 0);
        x.ask(1, 0);
        due(9, "TRUE of nothing", x.bell(3), 0);
    }

    private static void taps() {
        GuiltBell x = told("plain tin 4 0;plain silver 3 1;plain iron 5 2;plain copper 1 3;add copper 3;");
        // WEIGHT 11; sums by the rest of i: 4+6+15+1 = 26, 8+9+5+2 = 24, 12+3+10+3 = 28
        int[] want = {6, 5, 0, 9, 8, 3, 2, 1, 6};
        for (int i = 0; i < 9; i++) due(10, "tap(" + i + ")", x.tap(i), want[i]);
        due(10, "tap(9)", x.tap(9), BAD);
        due(10, "tap(-1)", x.tap(-1), BAD);
    }

    private static void alters() {
        GuiltBell x = told("plain tin 4 0;plain silver 3 1;");
        int[] top = {3, 9, 3, 3, 1, 9};
        int[] was = {0, 3, 2, 1, 0, 0};
        for (int what = 0; what < 6; what++) {
            due(11, "alter(1, " + what + ", top)", x.alter(1, what, top[what]), was[what]);
            due(11, "alter(1, " + what + ", over)", x.alter(1, what, top[what] + 1), BAD);
            due(11, "alter(1, " + what + ", -1)", x.alter(1, what, -1), BAD);
            due(11, "giver(1, " + what + ")", x.giver(1, what), top[what]);
        }
        for (int what = 0; what < 6; what++) due(11, "alter(1, " + what + ", 0)", x.alter(1, what, 0), top[what]);
        due(11, "alter(1, 6, 0)", x.alter(1, 6, 0), BAD);
        due(11, "alter(1, -1, 0)", x.alter(1, -1, 0), BAD);
        due(11, "alter(2, 0, 0)", x.alter(2, 0, 0), BAD);
        due(11, "alter(-1, 0, 0)", x.alter(-1, 0, 0), BAD);
        due(11, "the other", x.giver(0, 1), 4);
        x.see(0, 4);
        x.keep(0);
        x.alter(0, 1, 5);
        due(11, "SEEN", x.count(0), 1);
        due(11, "IMAGES", x.count(1), 1);
    }

    private static void addsAndAsks() {
        GuiltBell x = new GuiltBell();
        for (int m = 0; m < 3; m++) {
            due(12, "add(" + m + ", 40)", x.add(m, 40), 0);
            due(12, "add(" + m + ", 41)", x.add(m, 41), BAD);
            due(12, "add(" + m + ", -1)", x.add(m, -1), BAD);
            due(12, "add(" + m + ", 2)", x.add(m, 2), 40);
            due(12, "metal(" + m + ", 0)", x.metal(m, 0), 2);
        }
        due(12, "add(3, 1)", x.add(3, 1), BAD);
        due(12, "add(-1, 1)", x.add(-1, 1), BAD);
        due(13, "ask(0, 3)", x.ask(0, 3), 6);
        due(13, "ask(0, 12)", x.ask(0, 12), 3);
        due(13, "ask(0, 2)", x.ask(0, 2), BAD);
        due(13, "ask(0, 13)", x.ask(0, 13), BAD);
        due(13, "ask(1, 10)", x.ask(1, 10), 0);
        due(13, "ask(1, 0)", x.ask(1, 0), 10);
        due(13, "ask(1, 11)", x.ask(1, 11), BAD);
        due(13, "ask(1, -1)", x.ask(1, -1), BAD);
        due(13, "ask(2, 5)", x.ask(2, 5), BAD);
        due(13, "ask(-1, 5)", x.ask(-1, 5), BAD);
        due(13, "rule(1)", x.rule(1), 12);
        due(13, "rule(2)", x.rule(2), 0);
    }

    private static void rings() {
        GuiltBell x = told("add tin 2;add copper 3;add silver 3;");
        due(14, "ring(0)", x.ring(0), 8);
        due(14, "ring(4)", x.ring(4), 8);
        due(14, "ring(1)", x.ring(1), 7);
        due(14, "copper, the first of the most", x.metal(1, 2), 1);
        due(14, "ring(5)", x.ring(5), 6);
        due(14, "then silver", x.metal(2, 2), 1);
        due(14, "ring(5)", x.ring(5), 5);
        due(14, "then tin of three alike", x.metal(0, 2), 1);
        due(14, "ring(99)", x.ring(99), 0);
        due(14, "no more than there is", x.metal(0, 2) + x.metal(1, 2) + x.metal(2, 2), 8);
        due(14, "ring(100)", x.ring(100), BAD);
        due(14, "ring(-1)", x.ring(-1), BAD);
        x.add(1, 1);
        due(14, "more WORN than there is", x.metal(1, 0), 0);
        for (int i = 0; i < 8; i++) due(14, "ring(99)", x.ring(99), 0);
        due(14, "rule(3)", x.rule(3), 906);
        due(14, "ring(94)", x.ring(94), FULL);
        due(14, "ring(93)", x.ring(93), 0);
        due(14, "ring(0)", x.ring(0), 0);
        due(14, "ring(1)", x.ring(1), FULL);
        due(14, "ring(100)", x.ring(100), BAD);
        due(14, "rule(3)", x.rule(3), 999);
    }

    private static void shouldGive() {
        // tin 2, copper 2: NOTE 9
        GuiltBell x = told("plain tin 2 0;plain copper 2 1;plain silver 0 2;plain iron 7 3;ask 7 0;");
        due(15, "mine(0): (12t + 12) / (t + 2) is 6, then 8", x.mine(0), NONE);
        due(15, "mine(1): (24 + 6c) / (2 + c) is 7 at 5 (54/7)", x.mine(1), 5);
        due(15, "mine(2): (36 + 3s) / (4 + s) is 7 at 1 (39/5)", x.mine(2), 1);
        due(15, "mine(3): iron floats", x.mine(3), NONE);
        due(15, "mine(4)", x.mine(4), BAD);
        due(15, "mine(-1)", x.mine(-1), BAD);
        x.ask(0, 9);
        due(15, "mine(3), as it is TRUE", x.mine(3), 0);
        due(15, "nothing is changed", x.giver(0, 7), 2);
        GuiltBell y = told("plain silver 0 0;add tin 4;ask 3 0;");
        due(15, "(48 + 3s) / (4 + s) is 3 from 33 on", y.mine(0), 33);
        y.add(0, 5);
        due(15, "(60 + 3s) / (5 + s) is 3 from 41 on: none", y.mine(0), NONE);
        y.add(2, 1);
        due(15, "one silver is there: 40", y.mine(0), 40);
        due(16, "one more is needed", y.least(2), NONE);
        y.alter(0, 1, 1);
        due(16, "he gives it: 40", y.least(2), 40);
        y.add(2, 0);
        y.alter(0, 1, 9);
        due(15, "in place of what he GIVES", y.mine(0), NONE);
        due(16, "least(2): 9 are given, 32 more", y.least(2), 32);
        due(16, "least(0): none is best", y.least(0), 0);
        due(16, "least(1): 14 silver and tin ring 6, never 3", y.least(1), NONE);
        due(16, "least(3)", y.least(3), BAD);
        due(16, "least(-1)", y.least(-1), BAD);
        due(16, "ADDED stays", y.metal(0, 1), 5);
        GuiltBell z = told("add tin 40;ask 12 0;");
        due(16, "in place of what is ADDED", z.least(0), 1);
    }

    private static void castsTillTrue() {
        // HOLDING nothing: tin 6, copper 6: 9
        GuiltBell x = told("plain tin 6 0;plain copper 6 1;hold 0 4;hold 1 4;ask 9 0;");
        due(17, "TRUE now: 0", x.casts(0), 0);
        due(17, "by none", x.casts(1), NONE);
        x.ask(0, 10);
        due(17, "tin 3, copper 2: 48/5 is 9; both again: 9; never 10", x.casts(0), NONE);
        due(17, "never", x.casts(1), NONE);
        x.alter(1, 5, 6);
        // tin 2, copper 0: 12; copper HOLDS 5: (24 + 6) / 3 is 10
        due(17, "one CAST", x.casts(0), 1);
        due(17, "by the second", x.casts(1), 1);
        x.ask(0, 8);
        due(17, "it is 9 from then on", x.casts(0), NONE);
        due(17, "HOLDS stay", x.giver(1, 5), 6);
        x.alter(0, 5, 6);
        x.ask(0, 12);
        due(17, "tin 1 alone", x.casts(0), 1);
        due(17, "by the first of two", x.casts(1), 0);
        x.ask(0, 9);
        due(17, "copper 1 too", x.casts(0), 2);
        due(17, "by the second", x.casts(1), 1);
        x.alter(1, 5, 9);
        due(17, "copper HOLDS 9: 3, then tin, then copper", x.casts(0), 5);
        GuiltBell y = told("plain tin 1 0;plain copper 2 1;plain silver 1 2;hold 1 1;hold 2 1;ask 8 0;");
        // tin 1, copper 1: 9; copper 2: 24/3
        due(17, "who HOLDS but 1", y.casts(0), 1);
        due(17, "by the second", y.casts(1), 1);
        y.ask(0, 6);
        due(17, "all that is HELD: 27/4", y.casts(0), 2);
        due(17, "by the third", y.casts(1), 2);
        due(17, "casts(2)", x.casts(2), BAD);
        due(17, "casts(-1)", x.casts(-1), BAD);
    }

    private static void lettingOff() {
        GuiltBell x = told("plain copper 2 0;plain copper 3 1;plain iron 4 2;plain tin 0 3;");
        due(18, "all but one copper", x.spare(0), 3);
        due(18, "the first, iron, tin of nothing", x.spare(1), 13);
        due(18, "spare(2)", x.spare(2), BAD);
        due(18, "spare(-1)", x.spare(-1), BAD);
        x.alter(3, 1, 9);
        due(18, "the tin too", x.spare(1), 13);
        GuiltBell y = told("plain tin 1 0;plain silver 2 0;");
        due(18, "none may be: (12 + 6) / 3", y.spare(0), 0);
        due(18, "no set", y.spare(1), 0);
        y.ask(0, 5);
        due(18, "by none", y.spare(0), NONE);
        due(18, "by none", y.spare(1), NONE);
        GuiltBell z = told("plain copper 2 0;plain copper 2 0;sorry 0;sorry 1;add silver 1;ask 4 5;");
        // each GIVES 1 still where the other is let off: (6 + 3) / 2 is 4, SWEET 5
        due(18, "all else is as it is", z.spare(0), 1);
        due(18, "the least set", z.spare(1), 1);
        due(19, "without the first: 9/2", z.without(0), 4);
        due(19, "without(2)", z.without(2), BAD);
        due(19, "without(-1)", z.without(-1), BAD);
        due(19, "nothing is changed", z.bell(0), 3);
        GuiltBell w = told("plain tin 2 0;plain iron 2 0;");
        due(19, "nothing is left", w.without(0), NONE);
        due(19, "iron floats", w.without(1), 12);
    }

    private static void lastsAndSwaps() {
        GuiltBell x = told("add copper 3;");
        due(20, "till nothing is left", x.lasts(), 15);
        x.ring(4);
        due(20, "4 are STRUCK", x.lasts(), 11);
        due(20, "STRUCK stays", x.rule(3), 4);
        due(20, "WORN stays", x.metal(1, 2), 0);
        x.ask(0, 7);
        due(20, "not TRUE now", x.lasts(), 0);
        GuiltBell y = told("plain copper 9 0;maid copper 9 0;deaf copper 9 0;deaf copper 9 0;add copper 31;");
        due(20, "100 copper: 500 STRIKES", y.lasts(), 500);
        y.add(1, 32);
        due(20, "101 copper: none of them", y.lasts(), NONE);
        y.ring(4);
        due(20, "501 STRIKES are too many", y.lasts(), NONE);
        y.ring(1);
        due(20, "100 are left: 500 STRIKES", y.lasts(), 500);
        due(21, "TRUE now", y.swap(), STATE);
        GuiltBell z = told("plain tin 1 0;plain copper 9 1;plain iron 5 2;plain silver 2 3;ask 11 0;");
        // tin 9, copper 1, silver 2: 120/12 is 10; 0 with 2: no tin; 0 with 3: tin 2, copper 9, silver 1
        due(21, "none", z.swap(), NONE);
        z.ask(0, 10);
        due(21, "the first two", z.swap(), 1);
        due(21, "METALS stay", z.giver(0, 2), 0);
        z.ask(0, 6);
        // now 72/12 is 6: TRUE
        due(21, "TRUE now", z.swap(), STATE);
        GuiltBell w = told("plain iron 9 0;plain tin 1 1;plain copper 2 2;plain silver 6 3;ask 12 0;");
        due(21, "no tin alone", w.swap(), NONE);
        w.ask(0, 4);
        // now (12 + 12 + 18) / 9 is 4
        due(21, "TRUE now", w.swap(), STATE);
        w.ask(0, 8);
        // 1 with 3: tin 6, copper 2, silver 1: 87/9 is 9; 0 with 1: tin 9: 138/17 is 8
        due(21, "the first with the second", w.swap(), 1);
        w.ask(0, 9);
        due(21, "the second with the fourth", w.swap(), 13);
    }

    private static void liars() {
        GuiltBell x = told("plain tin 3 0;plain iron 5 1;");
        due(22, "by 5 of ten: (3 + 1) / 2", x.mean(5, 0), 2);
        due(22, "by one", x.mean(5, 1), 1);
        due(22, "by 1 of ten: 3 - 2/10", x.mean(1, 0), 14);
        due(22, "fifths", x.mean(1, 1), 5);
        due(22, "nobody lies", x.mean(0, 0), 3);
        due(22, "all lie", x.mean(10, 0), 1);
        due(22, "mean(11, 0)", x.mean(11, 0), BAD);
        due(22, "mean(-1, 0)", x.mean(-1, 0), BAD);
        due(22, "mean(5, 2)", x.mean(5, 2), BAD);
        due(22, "mean(5, -1)", x.mean(5, -1), BAD);
        x.ring(10);
        due(22, "WORN 2: 1 or 0", x.mean(5, 0), 1);
        due(22, "halves", x.mean(5, 1), 2);
        due(22, "nothing is changed", x.bell(0), 1);
        GuiltBell y = told("plain tin 2 0;plain copper 3 1;ask 8 0;");
        // 42/5 is 8; tin 1: 30/4 is 7; copper 1: 30/3 is 10; both: 18/2 is 9
        due(23, "none lies: 49", y.luck(3, 0), 49);
        due(23, "of a hundred", y.luck(3, 1), 100);
        due(23, "nobody lies", y.luck(0, 0), 1);
        due(23, "by one", y.luck(0, 1), 1);
        due(23, "all lie", y.luck(10, 0), 0);
        due(23, "0 by 1", y.luck(10, 1), 1);
        y.ask(0, 7);
        due(23, "the first lies: 1/4", y.luck(5, 0), 1);
        due(23, "quarters", y.luck(5, 1), 4);
        due(23, "21 of a hundred", y.luck(3, 0), 21);
        due(23, "luck(11, 0)", y.luck(11, 0), BAD);
        due(23, "luck(-1, 0)", y.luck(-1, 0), BAD);
        due(23, "luck(5, 2)", y.luck(5, 2), BAD);
        due(23, "luck(5, -1)", y.luck(5, -1), BAD);
        GuiltBell z = new GuiltBell();
        due(22, "of nobody", z.mean(5, 1), 1);
        due(23, "of nobody", z.luck(5, 1), 1);
    }

    private static void seen() {
        GuiltBell x = told("plain tin 3 0;");
        due(24, "see(9, 0)", x.see(9, 0), BAD);
        due(24, "see(-1, 0)", x.see(-1, 0), BAD);
        due(24, "see(0, 10)", x.see(0, 10), BAD);
        due(24, "see(0, -1)", x.see(0, -1), BAD);
        due(25, "forget(0)", x.forget(0), 0);
        due(25, "forget(1)", x.forget(1), BAD);
        for (int i = 1; i <= 6; i++) due(24, "see(" + i + ", 0)", x.see(i, 0), i);
        due(24, "the 7th", x.see(0, 0), FULL);
        due(24, "the 7th, BAD", x.see(9, 0), BAD);
        due(24, "count(0)", x.count(0), 6);
        due(25, "forget(7)", x.forget(7), BAD);
        due(25, "forget(-1)", x.forget(-1), BAD);
        due(25, "forget(6)", x.forget(6), 6);
        due(25, "forget(2)", x.forget(2), 6);
        due(25, "forget(3)", x.forget(3), BAD);
        due(25, "forget(2)", x.forget(2), 2);
        due(25, "the next is the third", x.see(8, 8), 3);
    }

    private static void fitting() {
        // TAP 0 tells the first's GUILT and twice the second's (iron), TAP 3 besides 3 times the first's
        GuiltBell x = told("plain tin 3 0;plain iron 8 1;");
        due(26, "nothing SEEN", x.fits(0), 100);
        due(26, "the least", x.fits(1), 0);
        due(27, "range(1, 1)", x.range(1, 1), 9);
        due(28, "a TAP at which each figure leaves 10", x.next(1), 10);
        due(24, "see(0, 9)", x.see(0, 9), 1);
        // g + 2h ends in 9: g odd, each with two h
        due(26, "g + 2h ends in 9", x.fits(0), 10);
        due(26, "1 and 4", x.fits(1), 14);
        due(27, "g from", x.range(0, 0), 1);
        due(27, "g to", x.range(0, 1), 9);
        due(27, "h from", x.range(1, 0), 0);
        due(27, "h to", x.range(1, 1), 9);
        due(28, "TAP 1 tells 3g + 3h: each figure once", x.next(0), 1);
        due(28, "how many these are", x.next(1), 1);
        x.see(1, 3);
        // g + h ends in 1, so h ends in 8, g in 3
        due(26, "one", x.fits(0), 1);
        due(26, "3 and 8", x.fits(1), 38);
        due(27, "range(0, 0)", x.range(0, 0), 3);
        due(27, "range(1, 1)", x.range(1, 1), 8);
        due(28, "no fewer than one", x.next(0), NONE);
        due(28, "nor how many", x.next(1), NONE);
        x.see(1, 4);
        due(26, "none", x.fits(0), 0);
        due(26, "no least", x.fits(1), NONE);
        due(27, "no range", x.range(0, 0), NONE);
        due(27, "no range", x.range(0, 1), NONE);
        due(28, "nowhere", x.next(0), NONE);
        due(27, "range(2, 0)", x.range(2, 0), BAD);
        due(27, "range(-1, 0)", x.range(-1, 0), BAD);
        due(27, "range(0, 2)", x.range(0, 2), BAD);
        due(27, "range(0, -1)", x.range(0, -1), BAD);
        due(26, "fits(2)", x.fits(2), BAD);
        due(26, "fits(-1)", x.fits(-1), BAD);
        due(28, "next(2)", x.next(2), BAD);
        due(28, "next(-1)", x.next(-1), BAD);
        due(26, "GUILTS stay", x.giver(0, 1), 3);
    }

    private static void fittingByWhatHeGives() {
        GuiltBell x = told("mayor iron 9 0;hold 0 3;");
        x.see(0, 0);
        // half of 0 to 7 is 3 at most
        due(26, "he HOLDS 3", x.fits(0), 8);
        due(27, "up to 7", x.range(0, 1), 7);
        due(28, "all TAPS tell 0", x.next(0), NONE);
        x.forget(0);
        due(28, "8 of 10 at the worst", x.next(1), 8);
        due(28, "by the first", x.next(0), 0);
        x.see(0, 1);
        due(27, "8 or 9", x.range(0, 0), 8);
        x.alter(0, 0, 0);
        x.alter(0, 5, 8);
        due(27, "9 alone, from", x.range(0, 0), 9);
        due(27, "9 alone, to", x.range(0, 1), 9);
        x.forget(0);
        x.alter(0, 5, 0);
        x.see(0, 0);
        due(27, "0 alone, from", x.range(0, 0), 0);
        due(27, "0 alone, to", x.range(0, 1), 0);
        GuiltBell w = told("plain copper 5 0;add tin 1;");
        w.ring(5);
        // copper is WORN 1: GUILT 0 weighs but the tin, 1 too; TAP 1 tells 2g and WEIGHT
        due(26, "all", w.fits(0), 10);
        w.see(1, 3);
        due(26, "2 + 1, by GUILT 1", w.fits(1), 1);
        due(26, "2g + g is 3 or 13 or 23", w.fits(0), 1);
        GuiltBell y = new GuiltBell();
        y.see(0, 1);
        due(26, "no GIVERS: TAP 0 tells 0", y.fits(0), 0);
        due(26, "no least", y.fits(1), NONE);
        due(27, "no GIVER", y.range(0, 0), BAD);
    }

    private static void drifts() {
        GuiltBell x = told("plain copper 3 0;");
        due(29, "copper rings 6 but for GUILT 0", x.drift(5, 60, 1), 6 * x.drift(5, 60, 0));
        due(29, "drift(5, 0, 0)", x.drift(5, 0, 0), BAD);
        due(29, "drift(5, 61, 0)", x.drift(5, 61, 0), BAD);
        due(29, "drift(5, 1, 2)", x.drift(5, 1, 2), BAD);
        due(29, "drift(5, 1, -1)", x.drift(5, 1, -1), BAD);
        due(29, "GUILT stays", x.giver(0, 1), 3);
        GuiltBell w = told("plain tin 1 0;plain silver 1 1;plain copper 1 2;");
        due(29, "drift(1, 60, 0)", w.drift(1, 60, 0), 25);
        due(29, "drift(1, 60, 1)", w.drift(1, 60, 1), 387);
        due(29, "drift(1, 3, 1)", w.drift(1, 3, 1), 19);
        due(29, "drift(-1, 60, 0)", w.drift(-1, 60, 0), 14);
        due(29, "drift(-1, 60, 1)", w.drift(-1, 60, 1), 362);
        due(29, "drift(lowest, 60, 1)", w.drift(Integer.MIN_VALUE, 60, 1), 408);
        GuiltBell y = new GuiltBell();
        due(29, "no GIVERS", y.drift(5, 1, 0), STATE);
        due(29, "no GIVERS, and BAD", y.drift(5, 61, 0), BAD);
        GuiltBell z = told("plain tin 1 0;plain silver 1 1;");
        // 0 becomes 12345: bits 0, the first; then 12345 * 1103515245 + 12345 by 2^32 is 3554416254: bits 21468: 8
        due(29, "tin 8, silver 1: 99/9", z.drift(0, 1, 1), 11);
    }

    private static void images() {
        GuiltBell x = told("plain tin 3 0;maid silver 2 1;sorry 1;hold 1 1;add copper 5;ask 8 2;");
        x.ring(5);
        due(31, "none yet", x.back(1), STATE);
        due(30, "keep(1)", x.keep(1), 0);
        due(30, "keep(1) again", x.keep(1), 1);
        due(30, "keep(2)", x.keep(2), BAD);
        due(30, "keep(-1)", x.keep(-1), BAD);
        due(30, "the other is not", x.back(0), STATE);
        due(31, "back(2)", x.back(2), BAD);
        due(31, "back(-1)", x.back(-1), BAD);
        x.see(3, 3);
        x.ring(7);
        for (int what = 0; what < 6; what++) x.alter(1, what, 0);
        x.alter(0, 1, 9);
        for (int m = 0; m < 3; m++) x.add(m, 9);
        x.ask(0, 3);
        x.ask(1, 9);
        due(31, "back(1)", x.back(1), 5);
        int[] want = {2, 2, 2, 1, 1, 1, 4, 3};
        for (int what = 0; what < 8; what++) due(31, "giver(1, " + what + ")", x.giver(1, what), want[what]);
        due(31, "giver(0, 1)", x.giver(0, 1), 3);
        due(31, "ADDED", x.metal(1, 1), 5);
        due(31, "ADDED", x.metal(0, 1), 0);
        due(31, "WORN", x.metal(1, 2), 1);
        due(31, "WORN", x.metal(0, 2) + x.metal(2, 2), 0);
        due(31, "ASKED", x.rule(1), 8);
        due(31, "LEAST", x.rule(2), 2);
        due(31, "STRUCK", x.rule(3), 5);
        due(31, "SEEN stays", x.count(0), 1);
        x.alter(0, 1, 7);
        due(31, "it is there still", x.back(1), 5);
        due(31, "as it was", x.giver(0, 1), 3);
        due(30, "a second IMAGE", x.keep(0), 0);
        due(30, "count(1)", x.count(1), 2);
    }

    private static void sheets() {
        GuiltBell x = new GuiltBell();
        due(32, "sheet(4, 0, 1)", x.sheet(4, 0, 1), BAD);
        due(32, "sheet(-1, 0, 1)", x.sheet(-1, 0, 1), BAD);
        due(32, "sheet(0, 3, 1)", x.sheet(0, 3, 1), BAD);
        due(32, "sheet(0, -1, 1)", x.sheet(0, -1, 1), BAD);
        due(32, "sheet(0, 0, 41)", x.sheet(0, 0, 41), BAD);
        due(32, "sheet(0, 0, -1)", x.sheet(0, 0, -1), -14);
        due(32, "sheet(0, 0, lowest)", x.sheet(0, 0, Integer.MIN_VALUE), -14);
        due(32, "sheet(4, 0, -1)", x.sheet(4, 0, -1), BAD);
        due(32, "sheet(0, 3, -1)", x.sheet(0, 3, -1), BAD);
        due(32, "nothing yet", x.count(3), NONE);
        due(32, "sheet(0, 2, 40)", x.sheet(0, 2, 40), 1);
        due(32, "count(3)", x.count(3), 40);
        due(33, "lay(0, 39, 5)", x.lay(0, 39, 5), 1);
        due(33, "lay(0, 40, 5)", x.lay(0, 40, 5), -12);
        due(33, "lay(0, -1, 5)", x.lay(0, -1, 5), -12);
        due(33, "lay(1, 0, 5)", x.lay(1, 0, 5), -11);
        due(33, "lay(1, -1, 5)", x.lay(1, -1, 5), -11);
        due(33, "lay(4, 0, 5)", x.lay(4, 0, 5), BAD);
        due(33, "lay(-1, 0, 5)", x.lay(-1, 0, 5), BAD);
        due(32, "refused: the row stays", x.sheet(0, 0, -5), -14);
        due(32, "count(3)", x.count(3), 40);
        due(32, "sheet(0, 1, 0)", x.sheet(0, 1, 0), 1);
        due(32, "no CELLS is not nothing", x.count(3), 0);
        due(33, "lay(0, 0, 5)", x.lay(0, 0, 5), -12);
    }

    private static void lanes() {
        GuiltBell x = told("plain tin 1 0;plain tin 1 0;");
        x.sheet(0, 0, 2);
        x.lay(0, 0, 257);
        x.lay(0, 1, -250);
        due(33, "a byte's lowest bits", x.read(0, 0, 0, 1), 1);
        due(33, "257 is 1, -250 is 6", x.giver(1, 1), 6);
        x.lay(0, 1, 135);
        due(33, "135 is below 0", x.read(0, 0, 0, 1), -20);
        x.sheet(1, 1, 2);
        x.lay(1, 0, 65536);
        x.lay(1, 1, 65536 * 3 + 9);
        due(33, "a short's lowest bits", x.read(1, 1, 0, 1), 1);
        due(33, "9", x.giver(0, 1), 9);
        x.lay(1, 1, 256);
        due(33, "256 is a short", x.read(1, 1, 0, 1), -20);
        x.sheet(2, 2, 2);
        x.lay(2, 1, 65536);
        due(33, "65536 is an int", x.read(2, 2, 0, 1), -20);
        x.lay(2, 1, 4);
        due(33, "4", x.read(2, 2, 0, 1), 1);
        due(33, "4", x.giver(0, 1), 4);
        x.sheet(2, 2, 2);
        x.read(2, 2, 0, 1);
        due(32, "a new row of CELLS 0", x.giver(0, 1), 0);
    }

    private static void reads() {
        GuiltBell x = told("plain tin 1 0;plain tin 2 0;plain tin 3 0;");
        x.sheet(3, 1, 8);
        int[] row = {7, 0, 8, 2, 9, 0, 5, 2};
        for (int i = 0; i < 8; i++) x.lay(3, i, row[i]);
        due(34, "read(4, 1, 1, 1)", x.read(4, 1, 1, 1), BAD);
        due(34, "read(-1, 1, 1, 1)", x.read(-1, 1, 1, 1), BAD);
        due(34, "read(3, 3, 1, 1)", x.read(3, 3, 1, 1), BAD);
        due(34, "read(3, -1, 1, 1)", x.read(3, -1, 1, 1), BAD);
        due(34, "read(3, 1, 1, 21)", x.read(3, 1, 1, 21), BAD);
        due(34, "read(3, 1, 1, -1)", x.read(3, 1, 1, -1), BAD);
        due(34, "none of GIVER 7", x.read(3, 1, 0, 4), -20);
        due(34, "the last CELL has no second: 3 whole ahead", x.read(3, 1, 1, 20), 3);
        due(35, "INDEX", x.torn(), 2);
        due(34, "the later one holds", x.giver(0, 1), 5);
        due(34, "9", x.giver(2, 1), 9);
        due(34, "not he", x.giver(1, 1), 2);
        due(34, "two", x.read(3, 1, 1, 2), 2);
        due(35, "none", x.torn(), 0);
        due(34, "8", x.giver(0, 1), 8);
        x.lay(3, 6, 0);
        x.lay(3, 5, 3);
        x.lay(3, 1, 1);
        due(34, "GIVER 3 is the third", x.read(3, 1, 1, 20), -22);
        due(34, "then none was", x.giver(1, 1), 2);
        due(35, "that read came to no end", x.torn(), 0);
        x.lay(3, 5, 2);
        x.lay(3, 6, 10);
        due(34, "GUILT 10", x.read(3, 1, 1, 3), -22);
        x.lay(3, 6, -1);
        due(34, "GUILT -1", x.read(3, 1, 1, 3), -22);
        due(34, "the two ahead", x.read(3, 1, 1, 2), 2);
        due(34, "8", x.giver(1, 1), 8);
    }

    private static void torn() {
        GuiltBell x = told("plain tin 1 0;");
        x.sheet(0, 1, 2);
        due(35, "another lane", x.read(0, 0, 0, 1), 0);
        due(35, "CAST", x.torn(), 3);
        due(35, "BAD", x.read(0, 5, 0, 1), BAD);
        due(35, "still CAST", x.torn(), 3);
        due(35, "CAST ahead of INDEX", x.read(0, 2, 99, 1), 0);
        due(35, "CAST", x.torn(), 3);
        due(35, "nothing", x.read(1, 0, -5, 20), 0);
        due(35, "NULL", x.torn(), 1);
        due(35, "-1", x.read(0, 1, -1, 1), 0);
        due(35, "INDEX", x.torn(), 2);
        due(35, "the greatest", x.read(0, 1, Integer.MAX_VALUE, 20), 0);
        due(35, "INDEX", x.torn(), 2);
        due(35, "the lowest", x.read(0, 1, Integer.MIN_VALUE, 20), 0);
        due(35, "INDEX", x.torn(), 2);
        due(35, "no times", x.read(0, 1, 99, 0), 0);
        due(35, "none", x.torn(), 0);
        due(35, "no times, nothing", x.read(1, 1, 0, 0), 0);
        due(35, "no CELL was touched", x.torn(), 0);
        due(35, "CAST ahead", x.read(0, 0, 0, 1), 0);
        due(35, "CAST", x.torn(), 3);
        due(35, "no times, another lane", x.read(0, 0, 0, 0), 0);
        due(35, "it was taken as of none", x.torn(), 0);
        due(35, "no times, another lane, far off", x.read(0, 2, Integer.MIN_VALUE, 0), 0);
        due(35, "none", x.torn(), 0);
        due(35, "INDEX ahead", x.read(0, 1, 1, 1), 0);
        due(35, "no times, no CELLS", x.sheet(2, 1, 0) + x.read(2, 0, 0, 0), 1);
        due(35, "none", x.torn(), 0);
        due(35, "once, no CELLS, another lane", x.read(2, 0, 0, 1), 0);
        due(35, "CAST ahead of INDEX", x.torn(), 3);
        due(35, "once, no CELLS", x.read(2, 1, 0, 1), 0);
        due(35, "INDEX", x.torn(), 2);
        due(35, "GUILT 0", x.read(0, 1, 0, 1), 1);
        due(35, "0", x.giver(0, 1), 0);
    }

    private static void counts() {
        GuiltBell x = told("plain tin 5 0;deaf iron 4 1;hold 0 2;");
        x.see(1, 1);
        x.see(1, 1);
        x.keep(1);
        feedAll(x, "abc");
        x.sheet(0, 0, 5);
        int[] want = {2, 1, 3, 5, 14, 9};
        for (int what = 0; what < 6; what++) due(36, "count(" + what + ")", x.count(what), want[what]);
        due(36, "count(6)", x.count(6), BAD);
        due(36, "count(-1)", x.count(-1), BAD);
    }

    public static void main(String[] args) {
        newObject();
        feedAndEnd();
        textTellsAll();
        faultyTextChangesNothing();
        faultsOfTexts();
        rulesAndGivers();
        halves();
        metalsAndBell();
        taps();
        alters();
        addsAndAsks();
        rings();
        shouldGive();
        castsTillTrue();
        lettingOff();
        lastsAndSwaps();
        liars();
        seen();
        fitting();
        fittingByWhatHeGives();
        drifts();
        images();
        sheets();
        lanes();
        reads();
        torn();
        counts();
        System.out.println(wrong == 0 ? "all answers are as due" : wrong + " answers are not as due");
        if (wrong != 0) System.exit(1);
    }
}
