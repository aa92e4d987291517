import java.util.ArrayList;
import java.util.List;

/**
 * The document's boundary cases, sentence by sentence: the last value that is taken and the first that is refused,
 * nothing there yet and all places taken, what comes round again. A refused call is made on up to four kinds of port,
 * and everything that can be asked of each must be as on a like port where the call was never made.
 */
public final class QuarrelsPawnedBoundaries {
    private static final int NONE = QuarrelsPawned.NONE;
    private static final int MIN = Integer.MIN_VALUE;
    private static final int MAX = Integer.MAX_VALUE;
    private static int wrong = 0;
    private static int asked = 0;
    private static String sentence = "";

    private interface Maker {
        QuarrelsPawned make();
    }

    private interface Call {
        long ask(QuarrelsPawned x);
    }

    private static void doc(String words) {
        sentence = words;
    }

    private static void due(String call, long got, long want) {
        asked++;
        if (got != want) {
            wrong++;
            System.out.println("\"" + sentence + "\": " + call + " answered " + got + ", due is " + want);
        }
    }

    private static int bit(boolean b) {
        return b ? 1 : 0;
    }

    private static void yes(String call, boolean got) {
        due(call, bit(got), 1);
    }

    private static void no(String call, boolean got) {
        due(call, bit(got), 0);
    }

    public static void main(String[] args) {
        refusedTellings();
        refusedTapes();
        refusedSteps();
        refusedQuestions();
        refusedOfTold();
        quarrelsToTheEnds();
        purseToTheEnds();
        rainAndHeats();
        sellingDays();
        lastDays();
        drawsComeRound();
        stepsComeRound();
        stepsOfAllKinds();
        toldSince();
        fullBook();
        tapeToTheEnds();
        tokens();
        faultsOfOneToken();
        numbersOfClauses();
        clausesToTheEnd();
        openOnes();
        namesOfClauses();
        valuesToTheBounds();
        heatsAskedFor();
        namesSay();
        duesAndSellsToTheBounds();
        playedToTheEnds();
        foretoldToTheEnds();
        speaking();
        costsAndWays();
        forAllAndCuts();
        coolest();
        plansToTheEnds();
        plansOfLikeOnes();
        bestToTheEnds();
        ticketsToTheEnds();
        hooksToTheEnds();
        marketToTheEnds();
        whoseLaw();
        hottestSilentLedger();
        yearsToTheEnds();
        images();
        System.out.println(wrong == 0 ? "all " + asked + " answers are as due" : wrong + " answers are not as due");
        if (wrong != 0) {
            System.exit(1);
        }
    }

    // ------------------------------------------------------------------ tools

    private static void tape(QuarrelsPawned x, String text) {
        x.end(0);
        for (int i = 0; i < text.length(); i += 20) {
            int[] v = new int[5];
            for (int k = 0; k < 20; k++) {
                int b = i + k < text.length() ? text.charAt(i + k) : 0;
                v[k / 4] |= b << 24 - 8 * (k % 4);
            }
            x.feed(v[0], v[1], v[2], v[3], v[4]);
        }
        x.end(text.length());
    }

    private static int tell(QuarrelsPawned x, String text) {
        tape(x, text);
        return x.text();
    }

    private static QuarrelsPawned ruled(String text) {
        QuarrelsPawned x = new QuarrelsPawned();
        due("text '" + text + "'", tell(x, text), 0);
        yes("by(0)", x.by(0));
        return x;
    }

    private static void reads(String text, int fault, int place) {
        QuarrelsPawned x = new QuarrelsPawned();
        due("text() of '" + text + "'", tell(x, text), fault == 0 ? 0 : NONE);
        due("fault(0) of '" + text + "'", x.fault(0), fault);
        due("fault(1) of '" + text + "'", x.fault(1), place);
        due("about(1) of '" + text + "'", x.about(1), fault == 0 ? 1 : 0);
        due("about(7) of '" + text + "'", x.about(7), 0);
    }

    private static void stands(String text) {
        reads(text, 0, NONE);
    }

    private static String times(int n, String text) {
        return text.repeat(n);
    }

    /** Quarrels of 0 and 1 with these worths, all pawned today. */
    private static void pawnAll(QuarrelsPawned x, int... worths) {
        for (int worth : worths) {
            x.pawn(x.quarrel(0, 1, worth, 0));
        }
    }

    private static int next(int x) {
        return (x * 619 + 493) % 30871;
    }

    /** Earns until there is so much. */
    private static void fill(QuarrelsPawned x, int purse) {
        for (int now = x.is(2); now < purse; now += 999) {
            x.earn(Math.min(999, purse - now));
        }
    }

    /** Passes days until it is that one: few calls, for an object is good for 512. */
    private static void pass(QuarrelsPawned x, int day) {
        for (int now = x.is(0); now < day; now += 60) {
            x.day(Math.min(60, day - now));
        }
    }

    // ------------------------------------------------------------------ ports, and all that can be asked of them

    private static QuarrelsPawned fresh() {
        return new QuarrelsPawned();
    }

    /** One sold, one redeemed, one pawned, two going on; something of everything is told, and an image is kept. */
    private static QuarrelsPawned busy() {
        QuarrelsPawned x = new QuarrelsPawned();
        x.quarrel(0, 1, 40, 5);
        x.quarrel(1, 2, 20, 3);
        x.quarrel(2, 3, 60, 9);
        x.quarrel(3, 4, 10, 0);
        x.pawn(0);
        x.day(32);
        x.pawn(1);
        x.earn(25);
        x.redeem(1);
        tell(x, "dues worth+held;sells held-9;earn 5;day 1;");
        tell(x, "dues worth*2;");
        x.image();
        x.pawn(2);
        x.quarrel(4, 5, 7, 2);
        x.by(0);
        x.earns(7);
        x.digit(1, 4);
        x.hook(55);
        x.hook(60);
        x.bid(30, true);
        x.bid(10, false);
        x.bid(20, true);
        x.said(2, 60);
        x.said(0, 40);
        x.day(1);
        tell(x, "dues 10000;");
        tape(x, "earn 3;pawn 3;");
        return x;
    }

    /** All places are taken. */
    private static QuarrelsPawned full() {
        QuarrelsPawned x = new QuarrelsPawned();
        for (int i = 0; i < 8; i++) {
            x.quarrel(i % 6, (i + 1) % 6, 10 + i, i);
            x.hook(10 + i);
            x.said(i, 10 + i);
        }
        for (int i = 0; i < 10; i++) {
            x.bid(9 * i, i % 3 == 0);
        }
        for (int i = 0; i < 4; i++) {
            tell(x, "dues worth+" + i + ";earn 1;");
            x.pawn(i);
        }
        x.by(3);
        x.day(30);
        x.digit(0, 0);
        x.digit(1, 0);
        x.digit(2, 1);
        x.digit(3, 7);
        tape(x, times(42, "earn 1;") + "pawn 1");
        x.image();
        x.earn(1);
        return x;
    }

    /** The last DAY, and a full purse. */
    private static QuarrelsPawned last() {
        QuarrelsPawned x = ruled("sells 0;earn 1;");
        x.quarrel(0, 1, 99, 9);
        x.pawn(0);
        pass(x, 9999);
        fill(x, 9999);
        return x;
    }

    /** Answers that change nothing first, then the tape, the steps and the image as they come to light. */
    private static List<Integer> trace(QuarrelsPawned x) {
        List<Integer> t = new ArrayList<>();
        for (int q = 0; q < x.about(0); q++) {
            for (int what = 0; what < 8; what++) {
                t.add(x.of(q, what));
            }
        }
        for (int i = 0; i < 8; i++) {
            t.add(x.is(i));
            t.add(x.about(i));
            t.add(x.fault(i));
        }
        for (int i = 0; i < x.book(NONE, 0); i++) {
            for (int what = 0; what < 4; what++) {
                t.add(x.book(i, what));
            }
        }
        t.add(x.tickets(NONE));
        t.add(x.tickets(0));
        t.add(x.hung(9, NONE));
        for (int hook = 0; hook < 6; hook++) {
            t.add(x.hung(9, hook));
        }
        for (int what = 0; what < 3; what++) {
            t.add(x.market(what));
        }
        t.add(x.gain());
        t.add(x.whose());
        t.add(x.plan(4, 0));
        t.add(x.plan(1, 0));
        t.add(x.text());
        t.add(x.fault(0));
        t.add(x.fault(1));
        for (int i = 0; i < 31; i++) {
            t.add(x.undo());
            t.add(x.is(1));
            t.add(x.is(2));
        }
        for (int q = 0; q < x.about(0); q++) {
            t.add(x.of(q, 3));
            t.add(x.of(q, 4));
            t.add(x.of(q, 5));
        }
        t.add(x.back());
        for (int i = 0; i < 8; i++) {
            t.add(x.is(i));
            t.add(x.about(i));
        }
        t.add(x.undo());
        t.add(x.is(1));
        return t;
    }

    private static void refused(String name, Maker maker, Call call, long want) {
        QuarrelsPawned x = maker.make();
        due(name, call.ask(x), want);
        List<Integer> with = trace(x);
        List<Integer> without = trace(maker.make());
        int unlike = 0;
        for (int i = 0; i < without.size() && i < with.size(); i++) {
            unlike += with.get(i).equals(without.get(i)) ? 0 : 1;
        }
        due("answers that " + name + " changed", unlike + Math.abs(with.size() - without.size()), 0);
    }

    /** On a new port, on one of all kinds, on a full one and on the last day. */
    private static void refusedAlways(String name, Call call, long want) {
        refused(name + " (new)", QuarrelsPawnedBoundaries::fresh, call, want);
        refused(name + " (busy)", QuarrelsPawnedBoundaries::busy, call, want);
        refused(name + " (full)", QuarrelsPawnedBoundaries::full, call, want);
        refused(name + " (last day)", QuarrelsPawnedBoundaries::last, call, want);
    }

    private static void busyRefuses(String name, Call call, long want) {
        refused(name, QuarrelsPawnedBoundaries::busy, call, want);
    }

    private static void fullRefuses(String name, Call call, long want) {
        refused(name, QuarrelsPawnedBoundaries::full, call, want);
    }

    // ------------------------------------------------------------------ refused calls: what they answer, and that nothing changes

    private static void refusedTellings() {
        doc("2: NONE for others (unlike PEOPLE 0 .. 5; 1 .. 99; 0 .. 9), or if there are 8");
        for (int bad : new int[] {-1, 6, MIN, MAX}) {
            refusedAlways("quarrel(" + bad + ",1,1,1)", x -> x.quarrel(bad, 1, 1, 1), NONE);
            refusedAlways("quarrel(1," + bad + ",1,1)", x -> x.quarrel(1, bad, 1, 1), NONE);
        }
        for (int person = 0; person < 6; person++) {
            int it = person;
            busyRefuses("quarrel of " + it + " with itself", x -> x.quarrel(it, it, 1, 1), NONE);
        }
        for (int bad : new int[] {0, -1, 100, MIN, MAX}) {
            refusedAlways("quarrel(0,1," + bad + ",1)", x -> x.quarrel(0, 1, bad, 1), NONE);
        }
        for (int bad : new int[] {-1, 10, MIN, MAX}) {
            refusedAlways("quarrel(0,1,1," + bad + ")", x -> x.quarrel(0, 1, 1, bad), NONE);
        }
        fullRefuses("the ninth quarrel", x -> x.quarrel(0, 1, 1, 1), NONE);
        doc("29: False for others (0 .. 99)");
        for (int bad : new int[] {-1, 100, MIN, MAX}) {
            refusedAlways("earns(" + bad + ")", x -> bit(x.earns(bad)), 0);
        }
        doc("32: False for others (places 0 .. 3; 0 .. 9)");
        for (int bad : new int[] {-1, 4, MIN, MAX}) {
            refusedAlways("digit(" + bad + ",0)", x -> bit(x.digit(bad, 0)), 0);
            refusedAlways("digit(" + bad + ",NONE)", x -> bit(x.digit(bad, NONE)), 0);
        }
        for (int bad : new int[] {-2, 10, MIN, MAX}) {
            refusedAlways("digit(0," + bad + ")", x -> bit(x.digit(0, bad)), 0);
            refusedAlways("digit(3," + bad + ")", x -> bit(x.digit(3, bad)), 0);
        }
        doc("34: -2 for others (1 .. 99), or if there are 6");
        for (int bad : new int[] {-2, 0, 100, MIN, MAX}) {
            refusedAlways("hook(" + bad + ")", x -> x.hook(bad), -2);
        }
        fullRefuses("the seventh hook", x -> x.hook(50), -2);
        doc("37: -2 for others (0 .. 99), or if there are 10");
        for (int bad : new int[] {-2, 100, MIN, MAX}) {
            refusedAlways("bid(" + bad + ",true)", x -> x.bid(bad, true), -2);
            refusedAlways("bid(" + bad + ",false)", x -> x.bid(bad, false), -2);
        }
        fullRefuses("the eleventh bid, a buyer's", x -> x.bid(99, true), -2);
        fullRefuses("the eleventh bid, a seller's", x -> x.bid(0, false), -2);
        doc("40: -2 for others (0 .. 9999), or if there are 8");
        for (int bad : new int[] {-1, 10000, MIN, MAX}) {
            busyRefuses("said(0," + bad + ")", x -> x.said(0, bad), -2);
        }
        for (int bad : new int[] {-2, 5, 7, 8, MIN, MAX}) {
            busyRefuses("said(" + bad + ",5)", x -> x.said(bad, 5), -2);
        }
        refused("said(0,5) (new)", QuarrelsPawnedBoundaries::fresh, x -> x.said(0, 5), -2);
        fullRefuses("the ninth said", x -> x.said(0, 10), -2);
    }

    private static void refusedTapes() {
        doc("3: NONE, and none come, if there would be more than 300");
        fullRefuses("feed at 300", x -> x.feed(1, 2, 3, 4, 5), NONE);
        for (int at : new int[] {281, 290, 299}) {
            refused("feed at " + at, () -> {
                QuarrelsPawned x = fresh();
                tape(x, times(at, " "));
                return x;
            }, x -> x.feed(0x65617261, 2, 3, 4, 5), NONE);
        }
        doc("4: NONE, and nothing is done, if it has not so many, or n is below 0");
        for (int bad : new int[] {-1, -2, 301, MIN, MAX}) {
            refusedAlways("end(" + bad + ")", x -> x.end(bad), NONE);
        }
        busyRefuses("end(15) of 14", x -> x.end(15), NONE);
        refused("end(1) of nothing", QuarrelsPawnedBoundaries::fresh, x -> x.end(1), NONE);
        doc("5: NONE: .. or (the tape stays) there are 4");
        fullRefuses("text() when there are 4", QuarrelsPawned::text, NONE);
        fullRefuses("text() twice when there are 4", x -> x.text() + x.text(), 2 * NONE);
        doc("7: False for others");
        for (int bad : new int[] {-2, 4, MIN, MAX}) {
            refusedAlways("by(" + bad + ")", x -> bit(x.by(bad)), 0);
        }
        refused("by(0) without texts", QuarrelsPawnedBoundaries::fresh, x -> bit(x.by(0)), 0);
        busyRefuses("by(2) of two", x -> bit(x.by(2)), 0);
        doc("12: -2 for others");
        for (int bad : new int[] {-1, -2, 4, MIN, MAX}) {
            refusedAlways("played(" + bad + ")", x -> x.played(bad), -2);
        }
        refused("played(0) without texts", QuarrelsPawnedBoundaries::fresh, x -> x.played(0), -2);
        busyRefuses("played(2) of two", x -> x.played(2), -2);
    }

    private static void refusedSteps() {
        doc("8: False, if it can't be, and for others");
        for (int bad : new int[] {-1, 8, MIN, MAX}) {
            refusedAlways("pawn(" + bad + ")", x -> bit(x.pawn(bad)), 0);
        }
        refused("pawn(0) without quarrels", QuarrelsPawnedBoundaries::fresh, x -> bit(x.pawn(0)), 0);
        busyRefuses("pawn(0), sold", x -> bit(x.pawn(0)), 0);
        busyRefuses("pawn(1), redeemed", x -> bit(x.pawn(1)), 0);
        busyRefuses("pawn(2), pawned", x -> bit(x.pawn(2)), 0);
        busyRefuses("pawn(5), not told", x -> bit(x.pawn(5)), 0);
        doc("9: NONE, if it can't be, and for others");
        for (int bad : new int[] {-1, 8, MIN, MAX}) {
            refusedAlways("redeem(" + bad + ")", x -> x.redeem(bad), NONE);
        }
        refused("redeem(0) without quarrels", QuarrelsPawnedBoundaries::fresh, x -> x.redeem(0), NONE);
        busyRefuses("redeem(0), sold", x -> x.redeem(0), NONE);
        busyRefuses("redeem(1), redeemed", x -> x.redeem(1), NONE);
        busyRefuses("redeem(3), going on", x -> x.redeem(3), NONE);
        busyRefuses("redeem(5), not told", x -> x.redeem(5), NONE);
        refused("redeem(0) for 1 more than there is", () -> {
            QuarrelsPawned x = ruled("dues purse+1;");
            pawnAll(x, 80);
            return x;
        }, x -> x.redeem(0), NONE);
        doc("10: False for others (1 .. 999), and beyond 9999");
        for (int bad : new int[] {0, -1, 1000, MIN, MAX}) {
            refusedAlways("earn(" + bad + ")", x -> bit(x.earn(bad)), 0);
        }
        refused("earn(1) at 9999", QuarrelsPawnedBoundaries::last, x -> bit(x.earn(1)), 0);
        refused("earn(2) at 9998", () -> {
            QuarrelsPawned x = fresh();
            fill(x, 9998);
            return x;
        }, x -> bit(x.earn(2)), 0);
        doc("11: NONE for others, or beyond 9999 (nothing is done then)");
        for (int bad : new int[] {0, -1, 61, MIN, MAX}) {
            refusedAlways("day(" + bad + ")", x -> x.day(bad), NONE);
        }
        refused("day(1) at 9999", QuarrelsPawnedBoundaries::last, x -> x.day(1), NONE);
        refused("day(60) at 9999", QuarrelsPawnedBoundaries::last, x -> x.day(60), NONE);
        refused("day(2) at 9998", () -> {
            QuarrelsPawned x = last();
            x.back();
            pass(x, 9998);
            return x;
        }, x -> x.day(2), NONE);
        refused("day(60) at 9940", () -> {
            QuarrelsPawned x = fresh();
            x.quarrel(0, 1, 9, 3);
            pass(x, 9940);
            return x;
        }, x -> x.day(60), NONE);
        doc("13: NONE for others");
        for (int bad : new int[] {-1, 10000, MIN, MAX}) {
            refusedAlways("years(" + bad + ",1)", x -> x.years(bad, 1), NONE);
        }
        for (int bad : new int[] {0, -1, 41, MIN, MAX}) {
            refusedAlways("years(0," + bad + ")", x -> x.years(0, bad), NONE);
        }
        doc("14: NONE: there is none");
        refused("undo() of nothing", QuarrelsPawnedBoundaries::fresh, QuarrelsPawned::undo, NONE);
        refused("undo() of what is only told", () -> {
            QuarrelsPawned x = fresh();
            x.quarrel(0, 1, 9, 3);
            x.earns(5);
            x.hook(5);
            tell(x, "earn 1;");
            x.by(0);
            return x;
        }, QuarrelsPawned::undo, NONE);
    }

    private static void refusedQuestions() {
        doc("6: NONE for others");
        for (int bad : new int[] {-1, 2, MIN, MAX}) {
            refusedAlways("fault(" + bad + ")", x -> x.fault(bad), NONE);
        }
        doc("15: -10000 for others");
        for (int what = 0; what < 8; what++) {
            int it = what;
            for (int bad : new int[] {-1, 8, MIN, MAX}) {
                busyRefuses("of(" + bad + "," + what + ")", x -> x.of(bad, it), -10000);
            }
            busyRefuses("of(5," + what + "), not told", x -> x.of(5, it), -10000);
            refused("of(0," + what + ") without quarrels", QuarrelsPawnedBoundaries::fresh, x -> x.of(0, it), -10000);
        }
        for (int bad : new int[] {-1, 8, MIN, MAX}) {
            refusedAlways("of(0," + bad + ")", x -> x.of(0, bad), -10000);
        }
        doc("16: -2 for others");
        for (int bad : new int[] {-1, 5, MIN, MAX}) {
            refusedAlways("is(" + bad + ")", x -> x.is(bad), -2);
        }
        doc("17: -2 if there is none such, and for others");
        for (int bad : new int[] {-2, 16, 30, MIN, MAX, 1 << 30}) {
            refusedAlways("book(" + bad + ",0)", x -> x.book(bad, 0), -2);
        }
        for (int bad : new int[] {-1, 4, MIN, MAX}) {
            refusedAlways("book(0," + bad + ")", x -> x.book(0, bad), -2);
        }
        doc("18: -2 for others");
        for (int bad : new int[] {0, -1, 61, MIN, MAX}) {
            refusedAlways("foretold(" + bad + ",0,0)", x -> x.foretold(bad, 0, 0), -2);
        }
        for (int bad : new int[] {-1, 8, MIN, MAX}) {
            refusedAlways("foretold(1," + bad + ",0)", x -> x.foretold(1, bad, 0), -2);
        }
        busyRefuses("foretold(1,5,0), not told", x -> x.foretold(1, 5, 0), -2);
        for (int bad : new int[] {-1, 3, MIN, MAX}) {
            refusedAlways("foretold(1,0," + bad + ")", x -> x.foretold(1, 0, bad), -2);
        }
        doc("19 .. 26: for others");
        for (int bad : new int[] {-1, 6, MIN, MAX}) {
            refusedAlways("speak(" + bad + ",0)", x -> bit(x.speak(bad, 0)), 0);
            refusedAlways("speak(0," + bad + ")", x -> bit(x.speak(0, bad)), 0);
            refusedAlways("speak of two " + bad, x -> bit(x.speak(bad, bad)), 0);
            refusedAlways("group(" + bad + ")", x -> x.group(bad), NONE);
            refusedAlways("cost(" + bad + ",0)", x -> x.cost(bad, 0), NONE);
            refusedAlways("cost(0," + bad + ")", x -> x.cost(0, bad), NONE);
            refusedAlways("word(" + bad + ",0)", x -> x.word(bad, 0), NONE);
            refusedAlways("word(0," + bad + ")", x -> x.word(0, bad), NONE);
            refusedAlways("word of two " + bad, x -> x.word(bad, bad), NONE);
            refusedAlways("way(" + bad + ",0,NONE)", x -> x.way(bad, 0, NONE), -2);
            refusedAlways("way(0," + bad + ",NONE)", x -> x.way(0, bad, NONE), -2);
            refusedAlways("way(" + bad + ",0,0)", x -> x.way(bad, 0, 0), -2);
            refusedAlways("way of two " + bad, x -> x.way(bad, bad, 0), -2);
            refusedAlways("cut(" + bad + ",0)", x -> x.cut(bad, 0), NONE);
            refusedAlways("cut(0," + bad + ")", x -> x.cut(0, bad), NONE);
        }
        for (int person = 0; person < 6; person++) {
            int it = person;
            busyRefuses("speak with itself", x -> bit(x.speak(it, it)), 0);
            busyRefuses("cost with itself", x -> x.cost(it, it), NONE);
            busyRefuses("cut with itself", x -> x.cut(it, it), NONE);
        }
        for (int bad : new int[] {-2, 6, MIN, MAX}) {
            refusedAlways("way(0,1," + bad + ")", x -> x.way(0, 1, bad), -2);
        }
    }

    private static void refusedOfTold() {
        doc("28: NONE for others");
        for (int bad : new int[] {-1, 3, MIN, MAX}) {
            refusedAlways("cool(" + bad + ")", x -> x.cool(bad), NONE);
        }
        doc("30: NONE: none, there is none such, and for others");
        for (int bad : new int[] {-1, 256, MIN, MAX, 1 << 8 | 4}) {
            refusedAlways("plan(" + bad + ",0)", x -> x.plan(bad, 0), NONE);
            refusedAlways("plan(" + bad + ",1)", x -> x.plan(bad, 1), NONE);
            refusedAlways("plan(" + bad + ",2)", x -> x.plan(bad, 2), NONE);
        }
        for (int bad : new int[] {-1, 2, 7, MIN, MAX}) {
            refusedAlways("plan(0," + bad + ")", x -> x.plan(0, bad), NONE);
        }
        int[] how = {1, 2, 8, 32};
        for (int set : how) {
            busyRefuses("plan(" + set + ",0), not pawned", x -> x.plan(set, 0), NONE);
            busyRefuses("plan(" + (set | 4) + ",0), one not pawned", x -> x.plan(set | 4, 0), NONE);
        }
        doc("31: NONE for others (n 0 .. 60; of one that is pawned)");
        for (int bad : new int[] {-1, 61, MIN, MAX}) {
            busyRefuses("best(2," + bad + ",true)", x -> x.best(2, bad, true), NONE);
            busyRefuses("best(2," + bad + ",false)", x -> x.best(2, bad, false), NONE);
        }
        for (int bad : new int[] {-1, 8, MIN, MAX}) {
            refusedAlways("best(" + bad + ",0,true)", x -> x.best(bad, 0, true), NONE);
            refusedAlways("best(" + bad + ",0,false)", x -> x.best(bad, 0, false), NONE);
        }
        for (int bad : new int[] {0, 1, 3, 5}) {
            busyRefuses("best(" + bad + ",5,true), not pawned", x -> x.best(bad, 5, true), NONE);
        }
        doc("33: -2 if there is none such");
        for (int bad : new int[] {-2, 1000, MIN, MAX}) {
            refusedAlways("tickets(" + bad + ")", x -> x.tickets(bad), -2);
        }
        doc("35: -2: there is none such, and for others (err 0 .. 9)");
        for (int bad : new int[] {-1, 10, MIN, MAX}) {
            refusedAlways("hung(" + bad + ",NONE)", x -> x.hung(bad, NONE), -2);
            refusedAlways("hung(" + bad + ",0)", x -> x.hung(bad, 0), -2);
        }
        for (int bad : new int[] {-2, 6, MIN, MAX}) {
            refusedAlways("hung(9," + bad + ")", x -> x.hung(9, bad), -2);
        }
        busyRefuses("hung(9,2) of two", x -> x.hung(9, 2), -2);
        doc("36: NONE: none, and for others (0 .. 9)");
        for (int bad : new int[] {-1, 10, MIN, MAX}) {
            refusedAlways("look(" + bad + ")", x -> x.look(bad), NONE);
        }
        doc("38: NONE .. for others");
        for (int bad : new int[] {-1, 3, MIN, MAX}) {
            refusedAlways("market(" + bad + ")", x -> x.market(bad), NONE);
        }
        doc("44: -2 for others (0 .. 2)");
        for (int bad : new int[] {-1, 3, MIN, MAX}) {
            refusedAlways("ledger(" + bad + ")", x -> x.ledger(bad), -2);
        }
        doc("47: -2 for others");
        for (int bad : new int[] {-1, 8, MIN, MAX}) {
            refusedAlways("about(" + bad + ")", x -> x.about(bad), -2);
        }
        doc("III: All that follows changes nothing but what is told");
        Call questions = x -> {
            int sum = x.foretold(60, 2, 0) + x.foretold(1, 2, 2) + bit(x.speak(0, 2)) + x.group(0) + x.groups(true);
            sum += x.cost(2, 3) + x.word(0, 5) + x.way(0, 5, NONE) + x.all() + x.cut(0, 5) + x.gossips() + x.cool(0);
            sum += x.plan(4, 0) + x.best(2, 60, true) + x.tickets(9) + x.hung(9, 0) + x.look(9) + x.market(1);
            sum += x.gain() + x.whose() + x.hottest() + x.silent() + x.ledger(0) + x.is(4) + x.book(0, 0) + x.about(3);
            return sum * 0L;
        };
        refusedAlways("all questions", questions, 0);
    }

    // ------------------------------------------------------------------ I: quarrels, purse, days, steps

    private static void quarrelsToTheEnds() {
        doc("QUARRELS 0 .. 7 (told one by one): of two PEOPLE, WORTH 1 .. 99, HEAT 0 .. 9");
        for (int a = 0; a < 6; a++) {
            for (int b = 0; b < 6; b++) {
                QuarrelsPawned x = fresh();
                due("quarrel(" + a + "," + b + ",1,0)", x.quarrel(a, b, 1, 0), a == b ? NONE : 0);
                due("quarrel(" + a + "," + b + ",99,9)", x.quarrel(a, b, 99, 9), a == b ? NONE : 1);
                due("of(1,0)", x.of(1, 0), a == b ? -10000 : a);
                due("of(1,1)", x.of(1, 1), a == b ? -10000 : b);
                due("of(0,2)", x.of(0, 2), a == b ? -10000 : 1);
                due("of(0,3)", x.of(0, 3), a == b ? -10000 : 0);
                due("of(1,2)", x.of(1, 2), a == b ? -10000 : 99);
                due("of(1,3)", x.of(1, 3), a == b ? -10000 : 9);
            }
        }
        QuarrelsPawned x = fresh();
        for (int i = 0; i < 8; i++) {
            due("about(0)", x.about(0), i);
            due("quarrel " + i, x.quarrel(0, 1, 1 + i, i), i);
            due("of(" + i + ",4): going on at first", x.of(i, 4), 0);
            due("of(" + i + ",5)", x.of(i, 5), 0);
        }
        due("the ninth", x.quarrel(0, 1, 1, 1), NONE);
        yes("pawn(7)", x.pawn(7));
        no("pawn(8)", x.pawn(8));
        due("of(7,2)", x.of(7, 2), 8);
        due("of(8,2)", x.of(8, 2), -10000);
        doc("PURSE (at first 0), RAIN (at first 0), DAY (at first 0), X: at first 373");
        QuarrelsPawned y = fresh();
        due("is(0)", y.is(0), 0);
        due("is(1)", y.is(1), 373);
        due("is(2)", y.is(2), 0);
        due("is(3)", y.is(3), 0);
        due("is(4)", y.is(4), 0);
        due("book(NONE,0)", y.book(NONE, 0), 0);
        due("about(2)", y.about(2), NONE);
    }

    private static void purseToTheEnds() {
        doc("PURSE is more by half its WORTH (cut; 9999 at most)");
        int[][] halves = {{1, 0}, {2, 1}, {3, 1}, {98, 49}, {99, 49}};
        for (int[] half : halves) {
            QuarrelsPawned x = fresh();
            pawnAll(x, half[0]);
            due("half of " + half[0], x.is(2), half[1]);
            due("book(0,3)", x.book(0, 3), half[1]);
        }
        for (int ahead : new int[] {9949, 9950, 9951, 9998, 9999}) {
            QuarrelsPawned x = fresh();
            fill(x, ahead);
            pawnAll(x, 99);
            due("half of 99 to " + ahead, x.is(2), Math.min(9999, ahead + 49));
            due("book(0,3)", x.book(0, 3), Math.min(9999, ahead + 49));
            due("of(0,4)", x.of(0, 4), 1);
            due("undo()", x.undo() >= 0 ? 0 : 1, 0);
            due("is(2)", x.is(2), ahead);
        }
        doc("REDEEMED: one that is pawned, PURSE being no less than dues: PURSE is less by that");
        for (int less = 0; less < 3; less++) {
            QuarrelsPawned x = fresh();
            pawnAll(x, 50);
            fill(x, 51 - less);
            due("redeem(0) of " + (51 - less), x.redeem(0), less < 2 ? 50 : NONE);
            due("is(2)", x.is(2), less < 2 ? 1 - less : 49);
            due("of(0,4)", x.of(0, 4), less < 2 ? 2 : 1);
            due("book(NONE,0)", x.book(NONE, 0), less < 2 ? 2 : 1);
        }
        QuarrelsPawned rich = ruled("dues 9999;");
        pawnAll(rich, 1);
        fill(rich, 9998);
        due("redeem(0) for 9999 of 9998", rich.redeem(0), NONE);
        yes("earn(1)", rich.earn(1));
        due("redeem(0) for 9999 of 9999", rich.redeem(0), 9999);
        due("is(2)", rich.is(2), 0);
        QuarrelsPawned poor = ruled("dues 0;");
        pawnAll(poor, 1);
        due("redeem(0) for 0 of 0", poor.redeem(0), 0);
        due("of(0,4)", poor.of(0, 4), 2);
        due("about(3): it is a step", poor.about(3), 2);
        doc("10: EARNED: true. False for others (1 .. 999), and beyond 9999");
        QuarrelsPawned x = fresh();
        yes("earn(1)", x.earn(1));
        yes("earn(999)", x.earn(999));
        due("is(2)", x.is(2), 1000);
        fill(x, 9000);
        yes("earn(999) to 9999", x.earn(999));
        due("is(2)", x.is(2), 9999);
        no("earn(1)", x.earn(1));
        x.undo();
        yes("earn(998) to 9998", x.earn(998));
        no("earn(2)", x.earn(2));
        yes("earn(1)", x.earn(1));
    }

    private static void rainAndHeats() {
        doc("a draw by 10: below 4 there is RAIN, else not");
        boolean[] seen = new boolean[10];
        QuarrelsPawned x = fresh();
        int drawn = 373;
        for (int i = 0; i < 100; i++) {
            x.day(1);
            due("is(3) by " + drawn, x.is(3), drawn % 10 < 4 ? 1 : 0);
            seen[drawn % 10] = true;
            drawn = next(drawn);
            due("is(1): one draw without quarrels", x.is(1), drawn);
        }
        for (int digit = 0; digit < 10; digit++) {
            yes("a draw of " + digit, seen[digit]);
        }
        doc("Are there QUARRELS, a draw by how many: that one, if it is going on, has 1 more HEAT (9 at most)");
        for (int count = 1; count <= 8; count++) {
            QuarrelsPawned y = fresh();
            int[] heat = new int[count];
            for (int i = 0; i < count; i++) {
                y.quarrel(0, 1, 5, 6);
                heat[i] = 6;
            }
            int draw = 373;
            for (int day = 0; day < 25; day++) {
                y.day(1);
                draw = next(draw);
                heat[draw % count] = Math.min(9, heat[draw % count] + 1);
                draw = next(draw);
            }
            for (int i = 0; i < count; i++) {
                due("of(" + i + ",3) of " + count, y.of(i, 3), heat[i]);
            }
            due("is(1): two draws with quarrels", y.is(1), draw);
        }
        doc("if it is pawned, 1 less in RAIN (not below 0)");
        QuarrelsPawned z = ruled("sells 0;");
        z.quarrel(0, 1, 5, 3);
        z.pawn(0);
        int draw = 373;
        int heat = 3;
        for (int day = 0; day < 40; day++) {
            z.day(1);
            heat = draw % 10 < 4 ? Math.max(0, heat - 1) : heat;
            draw = next(next(draw));
            due("of(0,3) behind day " + day, z.of(0, 3), heat);
        }
        due("of(0,3)", z.of(0, 3), 0);
        QuarrelsPawned still = fresh();
        pawnAll(still, 4, 4);
        still.earn(2);
        still.redeem(0);
        still.day(60);
        int redeemed = still.of(0, 3);
        int sold = still.of(1, 3);
        due("of(1,4)", still.of(1, 4), 3);
        still.day(60);
        due("of(0,3): redeemed, it stays", still.of(0, 3), redeemed);
        due("of(1,3): sold, it stays", still.of(1, 3), sold);
    }

    private static void sellingDays() {
        doc("sells saying more than 0: sold");
        int[][] says = {{-1, 0}, {0, 0}, {1, 1}};
        for (int[] say : says) {
            QuarrelsPawned x = ruled("sells 5-" + (5 - say[0]) + ";");
            pawnAll(x, 10);
            due("day(1) by sells " + say[0], x.day(1), say[1]);
            due("of(0,4)", x.of(0, 4), say[1] == 1 ? 3 : 1);
            due("ledger(2)", x.ledger(2), say[1]);
        }
        doc("without: held less 30");
        QuarrelsPawned x = fresh();
        pawnAll(x, 10);
        due("of(0,7)", x.of(0, 7), -30);
        due("day(30)", x.day(30), 0);
        due("of(0,7): held for 30", x.of(0, 7), 0);
        due("day(1): 0 isn't more than 0", x.day(1), 0);
        due("of(0,7): held for 31", x.of(0, 7), 1);
        due("of(0,4)", x.of(0, 4), 1);
        due("day(1)", x.day(1), 1);
        due("of(0,4)", x.of(0, 4), 3);
        due("of(0,5): it is not pawned", x.of(0, 5), 0);
        due("of(0,7)", x.of(0, 7), -30);
        due("book(1,0): the DAY that passed", x.book(1, 0), 31);
        due("is(0)", x.is(0), 32);
        QuarrelsPawned later = fresh();
        later.quarrel(0, 1, 50, 0);
        later.day(60);
        later.pawn(0);
        due("of(0,5): pawned today", later.of(0, 5), 0);
        later.day(29);
        due("of(0,5)", later.of(0, 5), 29);
        due("of(0,6)", later.of(0, 6), 79);
        due("of(0,7)", later.of(0, 7), -1);
        due("day(2)", later.day(2), 0);
        due("day(1)", later.day(1), 1);
        due("book(1,0)", later.book(1, 0), 91);
        doc("11: how many QUARRELS are sold in them");
        QuarrelsPawned y = fresh();
        pawnAll(y, 9, 9, 9, 9, 9, 9, 9, 9);
        due("day(31)", y.day(31), 0);
        due("day(60): all eight", y.day(60), 8);
        for (int i = 0; i < 8; i++) {
            due("book(" + (8 + i) + ",1): by number", y.book(8 + i, 1), i);
            due("book(" + (8 + i) + ",2)", y.book(8 + i, 2), 2);
        }
        due("day(60): none is left", y.day(60), 0);
        QuarrelsPawned on = fresh();
        on.quarrel(0, 1, 9, 0);
        due("one that is going on is not sold", on.day(60), 0);
        due("of(0,4)", on.of(0, 4), 0);
    }

    private static void lastDays() {
        doc("DAY is one more (at 9999 none can pass)");
        QuarrelsPawned x = fresh();
        pass(x, 9939);
        due("is(0)", x.is(0), 9939);
        due("day(60) to 9999", x.day(60), 0);
        due("is(0)", x.is(0), 9999);
        due("day(1)", x.day(1), NONE);
        for (int left = 1; left <= 3; left++) {
            due("undo()", x.undo(), 30 - left);
            due("is(0)", x.is(0), 9999 - left);
            due("day(" + (left + 1) + ")", x.day(left + 1), NONE);
            due("is(0)", x.is(0), 9999 - left);
        }
        due("day(3)", x.day(3), 0);
        due("is(0)", x.is(0), 9999);
        due("day(1)", x.day(1), NONE);
        doc("11: DAYS pass (1 .. 60)");
        QuarrelsPawned y = fresh();
        due("day(1)", y.day(1), 0);
        due("day(60)", y.day(60), 0);
        due("is(0)", y.is(0), 61);
    }

    private static void drawsComeRound() {
        doc("X being (X * 619 + 493) mod 30871 then");
        QuarrelsPawned x = fresh();
        x.quarrel(0, 1, 9, 0);
        int drawn = 373;
        int most = 0;
        int least = 30871;
        for (int i = 0; i < 166; i++) {
            x.day(60);
            for (int k = 0; k < 120; k++) {
                drawn = next(drawn);
                most = Math.max(most, drawn);
                least = Math.min(least, drawn);
            }
            due("is(1) on day " + 60 * (i + 1), x.is(1), drawn);
        }
        yes("draws near both ends", most > 30800 && least < 70);
    }

    private static void stepsComeRound() {
        doc("the latest 30 can be taken back, the latest first");
        QuarrelsPawned x = fresh();
        for (int i = 1; i <= 95; i++) {
            yes("earn(" + i + ")", x.earn(i));
            due("about(3)", x.about(3), Math.min(30, i));
        }
        int sum = 95 * 96 / 2;
        for (int i = 95; i > 65; i--) {
            due("undo()", x.undo(), i - 66);
            sum -= i;
            due("is(2)", x.is(2), sum);
        }
        due("undo(): the 31st", x.undo(), NONE);
        due("is(2)", x.is(2), 65 * 66 / 2);
        yes("earn(1)", x.earn(1));
        due("about(3)", x.about(3), 1);
        due("undo()", x.undo(), 0);
        due("undo()", x.undo(), NONE);
        QuarrelsPawned thirty = fresh();
        for (int i = 0; i < 30; i++) {
            thirty.earn(2);
        }
        due("about(3)", thirty.about(3), 30);
        for (int i = 29; i >= 0; i--) {
            due("undo()", thirty.undo(), i);
        }
        due("is(2): the first too", thirty.is(2), 0);
        due("undo()", thirty.undo(), NONE);
        doc("a DAY (each)");
        QuarrelsPawned y = fresh();
        y.earn(5);
        y.day(29);
        due("about(3)", y.about(3), 30);
        for (int i = 29; i >= 0; i--) {
            due("undo()", y.undo(), i);
            due("is(0)", y.is(0), Math.max(0, i - 1));
        }
        due("is(2)", y.is(2), 0);
        y.earn(5);
        y.day(30);
        due("about(3)", y.about(3), 30);
        for (int i = 29; i >= 0; i--) {
            due("undo()", y.undo(), i);
        }
        due("is(0)", y.is(0), 0);
        due("undo(): earned 31 steps ago", y.undo(), NONE);
        due("is(2)", y.is(2), 5);
        y.day(60);
        due("about(3)", y.about(3), 30);
        for (int i = 0; i < 30; i++) {
            y.undo();
        }
        due("is(0): thirty of sixty", y.is(0), 30);
        due("undo()", y.undo(), NONE);
    }

    private static void stepsOfAllKinds() {
        doc("STEPS: PAWNED, REDEEMED, EARNED, a DAY (each), YEARS");
        QuarrelsPawned x = fresh();
        x.quarrel(0, 1, 8, 2);
        due("about(3): a quarrel told is none", x.about(3), 0);
        x.pawn(0);
        due("about(3)", x.about(3), 1);
        x.earn(4);
        due("about(3)", x.about(3), 2);
        x.redeem(0);
        due("about(3)", x.about(3), 3);
        x.day(2);
        due("about(3)", x.about(3), 5);
        due("years(0,40): one", x.years(0, 40) >= 2 ? 1 : 0, 1);
        due("about(3)", x.about(3), 6);
        tell(x, "quarrel 0 by 1 worth 2;pawn 1;earn 1;redeem 1;day 3;dues 1;");
        due("played(0)", x.played(0), NONE);
        due("about(3): 1 1 1 3", x.about(3), 12);
        for (int i = 11; i >= 6; i--) {
            due("undo()", x.undo(), i);
        }
        due("about(0): what was told stays", x.about(0), 2);
        due("undo(): all years at once", x.undo(), 5);
        due("is(0)", x.is(0), 2);
        due("is(1)", x.is(1), next(next(next(next(373)))));
        x.undo();
        x.undo();
        due("is(0)", x.is(0), 0);
        due("is(1)", x.is(1), 373);
        due("is(3)", x.is(3), 0);
        due("undo(): redeemed", x.undo(), 2);
        due("of(0,4)", x.of(0, 4), 1);
        due("is(2)", x.is(2), 8);
        due("book(NONE,0)", x.book(NONE, 0), 1);
        due("undo(): earned", x.undo(), 1);
        due("is(2)", x.is(2), 4);
        due("undo(): pawned", x.undo(), 0);
        due("of(0,4)", x.of(0, 4), 0);
        due("of(0,5)", x.of(0, 5), 0);
        due("is(2)", x.is(2), 0);
        due("book(NONE,0)", x.book(NONE, 0), 0);
        due("of(0,3)", x.of(0, 3), 2);
        doc("13: It is one STEP");
        QuarrelsPawned y = fresh();
        due("years(0,1), in which nothing can be", y.years(0, 1), 0);
        due("about(3)", y.about(3), 1);
        due("is(1)", y.is(1), next(373));
        due("undo()", y.undo(), 0);
        due("is(1)", y.is(1), 373);
    }

    private static void toldSince() {
        doc("QUARRELS told since go on, as told");
        QuarrelsPawned x = fresh();
        x.earn(9);
        x.quarrel(0, 1, 30, 9);
        x.quarrel(2, 3, 31, 0);
        x.pawn(0);
        x.day(20);
        yes("heat of 1 has changed", x.of(1, 3) > 0);
        for (int i = 20; i >= 1; i--) {
            x.undo();
        }
        due("undo(): pawned", x.undo(), 1);
        due("of(0,4)", x.of(0, 4), 0);
        due("undo(): earned, ahead of both", x.undo(), 0);
        due("about(0)", x.about(0), 2);
        int[][] want = {{0, 1, 30, 9, 0, 0, 30, -30}, {2, 3, 31, 0, 0, 0, 31, -30}};
        for (int q = 0; q < 2; q++) {
            for (int what = 0; what < 8; what++) {
                due("of(" + q + "," + what + ")", x.of(q, what), want[q][what]);
            }
        }
        QuarrelsPawned y = fresh();
        y.years(3, 40);
        for (int i = 0; i < 8; i++) {
            y.quarrel(0, 1 + i % 5, 10 + i, i + 1);
            y.pawn(i);
        }
        y.day(5);
        for (int i = 0; i < 14; i++) {
            y.undo();
        }
        due("undo()", y.undo(), NONE);
        due("about(0)", y.about(0), 8);
        for (int i = 0; i < 8; i++) {
            due("of(" + i + ",3)", y.of(i, 3), i + 1);
            due("of(" + i + ",4)", y.of(i, 4), 0);
        }
        due("is(2)", y.is(2), 0);
        due("the ninth", y.quarrel(0, 1, 1, 1), NONE);
        yes("pawn(7)", y.pawn(7));
        due("is(2)", y.is(2), 8);
        QuarrelsPawned z = fresh();
        z.earn(1);
        tell(z, "quarrel 0 by 1 worth 5;");
        z.played(0);
        z.day(3);
        due("of(0,3)", z.of(0, 3), 3);
        for (int i = 0; i < 4; i++) {
            z.undo();
        }
        due("of(0,3): told by a text with HEAT 0", z.of(0, 3), 0);
    }

    private static void fullBook() {
        doc("17: BOOK: how many (i NONE); the i-th, from the eldest on");
        QuarrelsPawned x = fresh();
        for (int i = 0; i < 8; i++) {
            x.quarrel(0, 1, 2, 0);
            x.pawn(i);
            x.earn(1);
            if (i % 2 == 0) {
                x.redeem(i);
            }
            x.day(1);
        }
        x.day(60);
        due("book(NONE,0): two lines of each", x.book(NONE, 0), 16);
        due("ledger(0)", x.ledger(0), 8);
        due("ledger(1)", x.ledger(1), 4);
        due("ledger(2)", x.ledger(2), 4);
        int line = 0;
        int purse = 0;
        for (int i = 0; i < 8; i++) {
            // worth 2: 1 for pawning, 1 is earned, 2 are due
            for (int what = 0; what <= 1 - i % 2; what++) {
                int[] want = {i, i, what, what == 0 ? purse + 1 : purse};
                for (int part = 0; part < 4; part++) {
                    due("book(" + line + "," + part + ")", x.book(line, part), want[part]);
                }
                line++;
            }
            purse += i % 2 == 0 ? 0 : 2;
        }
        for (int i = 1; i < 8; i += 2) {
            int[] want = {i + 31, i, 2, x.is(2)};
            for (int part = 0; part < 4; part++) {
                due("book(" + line + "," + part + ")", x.book(line, part), want[part]);
            }
            line++;
        }
        due("book(16,0)", x.book(16, 0), -2);
        due("book(15,4)", x.book(15, 4), -2);
        due("book(15,-1)", x.book(15, -1), -2);
    }

    // ------------------------------------------------------------------ II: texts

    private static void tapeToTheEnds() {
        doc("3: Twenty bytes come behind the tape, the highest of a first: how many it has");
        QuarrelsPawned x = fresh();
        for (int i = 1; i <= 15; i++) {
            due("feed " + i, x.feed(0x20202020, 0x20202020, 0x20202020, 0x20202020, 0x2020200a), 20 * i);
            due("about(7)", x.about(7), 20 * i);
        }
        due("feed 16", x.feed(0x20202020, 0, 0, 0, 0), NONE);
        due("text() of 300 blanks", x.text(), 0);
        due("about(7)", x.about(7), 0);
        due("feed: there is place again", x.feed(0x6561726e, 0x2031323b, 0x20202020, 0x20202020, 0x20202020), 20);
        due("text()", x.text(), 1);
        due("played(1)", x.played(1), NONE);
        due("is(2): earn 12", x.is(2), 12);
        doc("4: The tape has its first n bytes alone: n");
        for (int n : new int[] {0, 1, 19, 20}) {
            QuarrelsPawned y = fresh();
            y.feed(0x20202020, 0x20202020, 0x20202020, 0x20202020, 0x20202020);
            due("end(" + n + ")", y.end(n), n);
            due("about(7)", y.about(7), n);
            due("end(" + (n + 1) + ")", y.end(n + 1), NONE);
            due("end(" + n + ")", y.end(n), n);
            due("feed", y.feed(0, 0, 0, 0, 0), n + 20);
        }
        doc("TEXTS 0 .. 3: of up to 300 bytes");
        stands(times(293, " ") + "earn 1;");
        stands("earn" + times(294, "\n") + "1;");
        stands("earn " + times(293, "0") + "1;");
        reads("earn 1" + times(294, " "), 1, 300);
        reads(times(300, "("), 1, 0);
        reads(times(300, "a"), 1, 0);
        reads(times(299, " ") + "!", 1, 299);
        reads("dues " + times(295, "1"), 2, 5);
        stands("dues 1" + times(146, "+1") + " ;");
        QuarrelsPawned deep = ruled("dues 1" + times(146, "+1") + " ;");
        deep.quarrel(0, 1, 1, 0);
        due("of(0,6)", deep.of(0, 6), 147);
        doc("5: The tape (empty then) is a TEXT: its number");
        QuarrelsPawned y = fresh();
        for (int i = 0; i < 4; i++) {
            due("about(1)", y.about(1), i);
            due("text() " + i, tell(y, i == 2 ? "" : "earn " + (i + 1) + ";"), i);
            due("about(7)", y.about(7), 0);
        }
        tape(y, "earn 5;");
        due("text(): there are 4", y.text(), NONE);
        due("about(7): the tape stays", y.about(7), 7);
        due("fault(0): it was not read", y.fault(0), 0);
        due("played(3)", y.played(3), NONE);
        due("is(2)", y.is(2), 4);
        y.back();
        due("text(): there are none again", y.text(), 0);
        due("played(0)", y.played(0), NONE);
        due("is(2): the tape that stayed", y.is(2), 5);
        QuarrelsPawned shorter = fresh();
        tell(shorter, times(24, "earn 9;"));
        tell(shorter, "earn 1;");
        tell(shorter, "");
        tell(shorter, "day 1;earn 2;");
        due("played(1): one clause, behind a text of 24", shorter.played(1), NONE);
        due("is(2)", shorter.is(2), 1);
        due("played(2): none", shorter.played(2), NONE);
        due("is(2)", shorter.is(2), 1);
        due("played(3): two", shorter.played(3), NONE);
        due("is(2)", shorter.is(2), 3);
        due("played(0)", shorter.played(0), NONE);
        due("is(2)", shorter.is(2), 219);
        doc("5: NONE: it has a FAULT");
        QuarrelsPawned z = fresh();
        due("text()", tell(z, "earn 0;"), NONE);
        due("about(1)", z.about(1), 0);
        due("about(7): the tape is empty", z.about(7), 0);
        due("text() of nothing", z.text(), 0);
        due("fault(0)", z.fault(0), 0);
        doc("6: NONE for others, and ahead of any");
        QuarrelsPawned w = fresh();
        for (int what = -1; what < 3; what++) {
            due("fault(" + what + ")", w.fault(what), NONE);
        }
        tape(w, "earn 0;");
        due("fault(0): not read yet", w.fault(0), NONE);
        w.text();
        due("fault(0)", w.fault(0), 2);
        due("fault(1)", w.fault(1), 5);
        tell(w, "");
        due("fault(0)", w.fault(0), 0);
        due("fault(1)", w.fault(1), NONE);
    }

    private static void tokens() {
        doc("TOKENS, blanks (32, 10) aside: letters a .. z, A .. Z one behind the other (one TOKEN), digits likewise");
        for (int b = 0; b < 256; b++) {
            boolean blank = b == 32 || b == 10;
            boolean letter = b >= 'a' && b <= 'z' || b >= 'A' && b <= 'Z';
            boolean digit = b >= '0' && b <= '9';
            char c = (char) b;
            reads("pawn" + c + "1;", blank || digit ? digit && b > '0' ? 2 : 0 : 1,
                    blank || digit ? digit && b > '0' ? 4 : NONE : letter ? 0 : 4);
            reads("earn 2" + c + ";", blank || digit ? 0 : 1, blank || digit ? NONE : b == ';' ? 7 : 6);
            reads("dues 2" + c + "2;", blank ? 1 : digit || "+-*/".indexOf(c) >= 0 ? 0 : b == ';' ? 1 : 1,
                    blank ? 7 : digit || "+-*/".indexOf(c) >= 0 ? NONE : b == ';' ? 7 : 6);
            boolean asks = "<>=#".indexOf(c) >= 0;
            boolean goesOn = "+-*/".indexOf(c) >= 0 || digit;
            reads("dues if 2" + c + "2 then 1 else 1 end;", asks ? 0 : 1, asks ? NONE : goesOn ? 12 : blank ? 10 : 9);
        }
        doc("<= >= < > = # + - * / ( ) ; (the longest)");
        for (String sign : new String[] {"<=", ">=", "<", ">", "=", "#"}) {
            stands("dues if 2" + sign + "2 then 1 else 1 end;");
            stands("dues if 2" + sign + "-2 then 1 else 1 end;");
        }
        for (String signs : new String[] {"< =", "> =", "==", "#=", "<>", "<<", "=<", "=>", ">>"}) {
            reads("dues if 2" + signs + "2 then 1 else 1 end;", 1, 9 + signs.length() - 1);
        }
        reads("dues if 2<==2 then 1 else 1 end;", 1, 11);
        reads("dues if 2>==2 then 1 else 1 end;", 1, 11);
        stands("dues(1)+2-3*4/5;");
        stands("dues2;sells3;earn4;day5;pawn6;redeem7;quarrel1by2worth3;");
        reads("dues 2;Sells 3;", 1, 7);
        reads("dues 2;sellS 3;", 1, 7);
        reads("duessells 3;", 1, 0);
        doc("digits likewise (NUMBERS, 0 .. 9999)");
        stands("dues 0;");
        stands("dues 9999;");
        stands("dues 0009999;");
        reads("dues 10000;", 2, 5);
        reads("dues 0010000;", 2, 5);
        reads("dues 99 99;", 1, 8);
        for (String wrapped : new String[] {"4294967296", "4294967301", "2147483648", "18446744073709551617"}) {
            reads("dues " + wrapped + ";", 2, 5);
            reads("earn " + wrapped + ";", 2, 5);
            reads("pawn " + wrapped + ";", 2, 5);
        }
    }

    private static void faultsOfOneToken() {
        doc("FAULTS, the first as TOKENS are come to, at the TOKEN's first byte (of the end at the length), of one the least");
        reads("earn", 1, 4);
        reads("earn \n ", 1, 7);
        reads("earn 1", 1, 6);
        reads("earn 1   ", 1, 9);
        reads("quarrel", 1, 7);
        reads("quarrel 1", 1, 9);
        reads("quarrel 1 by", 1, 12);
        reads("quarrel 1 by 2", 1, 14);
        reads("quarrel 1 by 2 worth", 1, 20);
        reads("quarrel 1 by 2 worth 3", 1, 22);
        reads("sells", 1, 5);
        reads("dues rest", 1, 9);
        reads("dues rest 1", 1, 11);
        reads("dues rest 1 by", 1, 14);
        reads("dues hot", 1, 8);
        reads("dues -", 1, 6);
        reads("dues (", 1, 6);
        reads("dues (1", 1, 7);
        reads("dues if", 1, 7);
        reads("dues if 1", 1, 9);
        reads("dues if 1=", 1, 10);
        reads("dues if 1=1", 1, 11);
        reads("dues if 1=1 then", 1, 16);
        reads("dues if 1=1 then 1", 1, 18);
        reads("dues if 1=1 then 1 else", 1, 23);
        reads("dues if 1=1 then 1 else 1", 1, 25);
        reads("dues if 1=1 then 1 else 1 end", 1, 29);
        reads("dues if 1=1 or", 1, 14);
        reads("dues if 1=1 and", 1, 15);
        reads("dues if not", 1, 11);
        // nothing where something must stand
        reads(";", 1, 0);
        reads("earn ;", 1, 5);
        reads("dues ;", 1, 5);
        reads("sells ;", 1, 6);
        reads("dues ();", 1, 6);
        reads("dues 1+;", 1, 7);
        reads("dues 1-;", 1, 7);
        reads("dues 1*;", 1, 7);
        reads("dues 1/;", 1, 7);
        reads("dues -;", 1, 6);
        reads("dues hot;", 1, 8);
        reads("dues rest by 1;", 1, 10);
        reads("dues rest 1 by;", 1, 14);
        reads("dues if then 1 else 1 end;", 1, 8);
        reads("dues if =1 then 1 else 1 end;", 1, 8);
        reads("dues if 1= then 1 else 1 end;", 1, 11);
        reads("dues if 1=1 then else 1 end;", 1, 17);
        reads("dues if 1=1 then 1 else end;", 1, 24);
        reads("dues if not then 1 else 1 end;", 1, 12);
        reads("dues if 1=1 or then 1 else 1 end;", 1, 15);
        reads("dues if 1<=", 1, 11);
        reads("dues if 1>=", 1, 11);
        reads("dues if 1<", 1, 10);
        // a number too high where none can stand is 1, where one can it is 2
        reads("10000", 1, 0);
        reads("earn 5 10000", 1, 7);
        reads("dues 5 10000", 1, 7);
        reads("quarrel 1 10000", 1, 10);
        reads("earn 10000 !", 2, 5);
        // the first of two
        reads("earn 1000;dues pawned;", 2, 5);
        reads("dues pawned;earn 1000;", 5, 5);
        reads("dues pawned+10000;", 5, 5);
        reads("dues 10000+pawned;", 2, 5);
        reads("dues 1;dues pawned;", 4, 7);
        reads("dues 1;dues", 4, 7);
        reads("sells 1;sells", 4, 8);
        reads("dues 1;sells 1;dues !", 4, 15);
        // the 25th that is also a law for the second time is 4, and one that is none is 1
        String many = "dues 1;sells 1;" + times(22, "earn 1;");
        stands(many);
        reads(many + "dues 1;", 4, 169);
        reads(many + "sells 1;", 4, 169);
        reads(many + "earn 1;", 6, 169);
        reads(many + "earn 10000;", 6, 169);
        reads(many + "earned 1;", 1, 169);
        reads(many + "1", 1, 169);
        reads(many + ";", 1, 169);
        reads(many + "day", 6, 169);
        // the ninth that can't stand there is 1
        String eight = "dues " + times(8, "(");
        reads(eight + "not 1=1", 1, 13);
        reads(eight + "1 (", 1, 15);
        reads(eight + "pawned", 5, 13);
        reads(eight + "10000", 2, 13);
        reads(eight + "(", 3, 13);
    }

    private static void numbersOfClauses() {
        doc("2 a NUMBER that isn't one of those told (above 9999; PEOPLE 0 .. 5, WORTH 1 .. 99, QUARRELS 0 .. 7, "
                + "of earn 1 .. 999, DAYS 1 .. 60)");
        stands("quarrel 0 by 5 worth 1;");
        stands("quarrel 5 by 0 worth 99;");
        reads("quarrel 6 by 0 worth 9;", 2, 8);
        reads("quarrel 0 by 6 worth 9;", 2, 13);
        reads("quarrel 0 by 1 worth 0;", 2, 21);
        reads("quarrel 0 by 1 worth 100;", 2, 21);
        reads("quarrel 10000 by 1 worth 1;", 2, 8);
        reads("quarrel 1 by 10000 worth 1;", 2, 13);
        reads("quarrel 1 by 2 worth 10000;", 2, 21);
        for (String deed : new String[] {"pawn", "redeem"}) {
            stands(deed + " 0;");
            stands(deed + " 7;");
            reads(deed + " 8;", 2, deed.length() + 1);
            reads(deed + " 10000;", 2, deed.length() + 1);
        }
        stands("earn 1;");
        stands("earn 999;");
        reads("earn 0;", 2, 5);
        reads("earn 1000;", 2, 5);
        reads("earn 10000;", 2, 5);
        stands("day 1;");
        stands("day 60;");
        reads("day 0;", 2, 4);
        reads("day 61;", 2, 4);
        reads("day 10000;", 2, 4);
        stands("dues 0;sells 9999;");
        reads("sells 10000;", 2, 6);
    }

    private static void clausesToTheEnd() {
        doc("{CLAUSE}, 24 at most; 6 the 25th CLAUSE (at its first TOKEN)");
        stands("");
        stands(times(23, "earn 1;"));
        stands(times(24, "earn 1;"));
        stands(times(24, "earn 1;") + " \n");
        reads(times(25, "earn 1;"), 6, 168);
        reads(times(24, "earn 1;") + "  day 61;", 6, 170);
        stands("sells 1;" + times(22, "earn 1;") + "dues 2;");
        reads("sells 1;" + times(23, "earn 1;") + "dues 2;", 6, 169);
        QuarrelsPawned x = fresh();
        tell(x, times(24, "earn 1;"));
        due("played(0)", x.played(0), NONE);
        due("is(2): all 24", x.is(2), 24);
        doc("dues SUM ; or sells SUM ; (each once)");
        stands("dues 1;sells 1;");
        stands("sells 1;dues 1;");
        reads("dues 1;dues 1;", 4, 7);
        reads("sells 1;sells 1;", 4, 8);
        reads("sells 1;dues 1; dues 1;", 4, 16);
    }

    private static void openOnes() {
        doc("3 the 9th of ( not rest hot if and - (of one ONE) that are open around one another (at it)");
        String[] open = {"(", "-", "hot ", "rest ", "rest 1 by ", "if ", "if 1=1 then ", "if 1=1 then 1 else ", "if 1="};
        String[] close = {")", "", "", " by 1", "", "=1 then 1 else 1 end", " else 1 end", " end", " then 1 else 1 end"};
        for (int around = 0; around < open.length; around++) {
            for (int inside = 0; inside < open.length; inside++) {
                String in8 = times(4, "(") + times(3, open[around]) + open[inside] + "1" + close[inside]
                        + times(3, close[around]) + times(4, ")");
                String in9 = times(4, "(") + times(4, open[around]) + open[inside] + "1" + close[inside]
                        + times(4, close[around]) + times(4, ")");
                stands("dues " + in8 + ";");
                reads("sells " + in9 + ";", 3, 10 + 4 * open[around].length());
            }
        }
        stands("dues if " + times(7, "not ") + "1=1 then 1 else 1 end;");
        reads("dues if " + times(8, "not ") + "1=1 then 1 else 1 end;", 3, 36);
        stands("dues " + times(6, "(") + "if not 1=1 then 1 else 1 end" + times(6, ")") + ";");
        reads("dues " + times(7, "(") + "if not 1=1 then 1 else 1 end" + times(7, ")") + ";", 3, 15);
        reads("dues " + times(7, "(") + "if 1=1 and not 1=1 then 1 else 1 end" + times(7, ")") + ";", 3, 23);
        reads("dues " + times(7, "(") + "if 1=1 or not 1=1 then 1 else 1 end" + times(7, ")") + ";", 3, 22);
        String seven = times(7, "(") + "1" + times(7, ")");
        String eight = times(8, "(") + "1" + times(8, ")");
        doc("rest till its second is whole");
        stands("dues rest " + seven + " by " + seven + ";");
        reads("dues rest " + eight + " by 1;", 3, 17);
        reads("dues rest 1 by " + eight + ";", 3, 22);
        stands("dues rest 1 by 1*" + eight + ";");
        stands("dues (rest 1 by 1)+" + eight + ";");
        doc("that are open around one another");
        stands("dues " + eight + "+" + eight + "*" + eight + ";");
        stands("dues -" + seven + "-" + eight + ";");
        reads("dues -" + eight + ";", 3, 13);
        reads("dues 1- -" + eight + ";", 3, 16);
        stands("dues 1-" + eight + ";");
        stands("dues hot " + seven + "+" + eight + ";");
        reads("dues hot " + eight + ";", 3, 16);
        stands("dues if " + seven + "=" + seven + " then " + seven + " else " + seven + " end+" + eight + ";");
        reads("dues if " + eight + "=1 then 1 else 1 end;", 3, 15);
        reads("dues if 1=" + eight + " then 1 else 1 end;", 3, 17);
        reads("dues if 1=1 then " + eight + " else 1 end;", 3, 24);
        reads("dues if 1=1 then 1 else " + eight + " end;", 3, 31);
        String six = times(6, "(") + "1" + times(6, ")");
        stands("dues if not " + six + "=" + six + " and " + seven + "=1 then 1 else 1 end;");
        reads("dues if not " + seven + "=1 then 1 else 1 end;", 3, 18);
        reads("dues if not 1=" + seven + " then 1 else 1 end;", 3, 20);
        stands("dues if not 1=1 or " + seven + "=1 then 1 else 1 end;");
        stands("dues if not not 1=1 and " + seven + "=1 then 1 else 1 end;");
        stands("dues " + eight + ";sells " + eight + ";");
    }

    private static void namesOfClauses() {
        doc("5 a NAME that isn't of that CLAUSE (at it)");
        for (String name : new String[] {"day", "rain", "number", "worth", "heat", "held"}) {
            stands("dues " + name + ";sells " + name + ";");
            stands("sells " + name + ";dues " + name + ";");
        }
        stands("dues purse;sells pawned;");
        stands("sells pawned;dues purse;");
        reads("dues 1+pawned;", 5, 7);
        reads("sells 1+purse;", 5, 8);
        reads("dues purse;sells purse;", 5, 17);
        reads("sells pawned;dues pawned;", 5, 18);
        reads("dues if pawned=1 then 1 else 1 end;", 5, 8);
        reads("sells if 1=1 then 1 else purse end;", 5, 25);
        reads("earn purse;", 1, 5);
        reads("pawned 1;", 1, 0);
        reads("dues 1 purse;", 1, 7);
        reads("dues 1 pawned;", 1, 7);
        for (String none : new String[] {"pawn", "by", "quarrel", "redeem", "earn", "dues", "sells", "then", "else",
            "end", "not", "and", "or", "Day", "days", "heats", "x"}) {
            reads("dues " + none + ";", 1, 5);
            reads("sells " + none + ";", 1, 6);
        }
    }

    /** What dues are by a SUM, for a quarrel 0 of worth 20 and heat 4 that is going on. */
    private static void says(String sum, int want) {
        QuarrelsPawned x = ruled("dues " + sum + ";");
        x.quarrel(0, 1, 20, 4);
        due("dues " + sum, x.of(0, 6), want);
    }

    private static void valuesToTheBounds() {
        doc("what is above 1000000 (below the same less) is that, at each step");
        says("9999*100+99-9999*100", 99);
        says("9999*100+100-9999*100", 100);
        says("9999*100+101-9999*100", 100);
        says("9999*100+9999-9999*100", 100);
        says("1001*999-9999*100", 99);
        says("1000*1000-9999*100", 100);
        says("1001*1000-9999*100", 100);
        says("9999*9999-9999*100", 100);
        says("9999*9999*9999*9999*9999-9999*100", 100);
        says("1000*1000+1-1-9999*100", 99);
        says("1000*1000-(0-1)-1-9999*100", 99);
        says("(0-9999*100)-99+9999*100+101", 2);
        says("(0-9999*100)-100+9999*100+101", 1);
        says("(0-9999*100)-101+9999*100+101", 1);
        says("-1001*999+9999*100+101", 2);
        says("-1000*1000+9999*100+101", 1);
        says("-1001*1000+9999*100+101", 1);
        says("-9999*9999+9999*100+101", 1);
        says("-9999*-9999-9999*100", 100);
        says("-(9999*9999)+9999*100+101", 1);
        says("9999*9999*-1+9999*100+101", 1);
        says("9999*9999/9999", 100);
        says("rest (9999*9999) by 7", 1);
        says("if 9999*9999=1000*1000 then 1 else 2 end", 1);
        says("if 9999*9999>1000*1000 then 1 else 2 end", 2);
        says("if -9999*9999<-1000*1000 then 1 else 2 end", 2);
        doc("/ cuts towards 0, by 0 it is 0");
        says("7/7", 1);
        says("6/7", 0);
        says("13/7", 1);
        says("14/7", 2);
        says("-7/2+10", 7);
        says("7/-2+10", 7);
        says("-7/-2", 3);
        says("-1/2+10", 10);
        says("9/0+5", 5);
        says("-9/0+5", 5);
        says("0/0+5", 5);
        says("9/(3-3)+5", 5);
        doc("rest ONE by ONE (what is left over of the first by the second, signs aside; by 0 it is 0)");
        says("rest 0 by 5", 0);
        says("rest 4 by 5", 4);
        says("rest 5 by 5", 0);
        says("rest 6 by 5", 1);
        says("rest 6 by 1", 0);
        says("rest -6 by 5", 1);
        says("rest 6 by -5", 1);
        says("rest -6 by -5", 1);
        says("rest 6 by 0+5", 5);
        says("rest -6 by 0+5", 5);
        says("rest 0 by 0+5", 5);
        says("rest (9999*9999) by (9999*9999)", 0);
        says("rest (0-9999*9999) by 9999", 100);
        doc("From the left");
        says("9-4-3", 2);
        says("9-4+3", 8);
        says("60/6/5", 2);
        says("60/6*5", 50);
        says("7*3/2", 10);
        says("7/2*3", 9);
        says("2+3*4", 14);
        says("2*3+4", 10);
        says("- 3+5", 2);
        says("- 3*2+7", 1);
        says("rest 9 by 5*2", 8);
        says("hot 0*2", 8);
        doc("SUM one of < <= > >= = # (unlike) SUM");
        String[] signs = {"<", "<=", ">", ">=", "=", "#"};
        boolean[][] so = {{true, false, false}, {true, true, false}, {false, false, true}, {false, true, true},
            {false, true, false}, {true, false, true}};
        for (int s = 0; s < 6; s++) {
            for (int left = 4; left <= 6; left++) {
                boolean is = so[s][left - 4];
                says("if " + left + signs[s] + "5 then 1 else 2 end", is ? 1 : 2);
                says("if not " + left + signs[s] + "5 then 1 else 2 end", is ? 2 : 1);
                says("if " + left + "-5" + signs[s] + "0 then 1 else 2 end", is ? 1 : 2);
            }
        }
        doc("EITHER: BOTH {or BOTH}. BOTH: ASK {and ASK}. ASK: not ASK, or SUM ..");
        for (int bits = 0; bits < 8; bits++) {
            boolean a = (bits & 1) != 0;
            boolean b = (bits & 2) != 0;
            boolean c = (bits & 4) != 0;
            String p = a ? "1=1" : "1=2";
            String q = b ? "1=1" : "1=2";
            String r = c ? "1=1" : "1=2";
            says("if " + p + " or " + q + " and " + r + " then 1 else 2 end", a || b && c ? 1 : 2);
            says("if " + p + " and " + q + " or " + r + " then 1 else 2 end", a && b || c ? 1 : 2);
            says("if " + p + " and " + q + " and " + r + " then 1 else 2 end", a && b && c ? 1 : 2);
            says("if " + p + " or " + q + " or " + r + " then 1 else 2 end", a || b || c ? 1 : 2);
            says("if not " + p + " and " + q + " or not " + r + " then 1 else 2 end", !a && b || !c ? 1 : 2);
            says("if not " + p + " or not not " + q + " and not " + r + " then 1 else 2 end", !a || b && !c ? 1 : 2);
        }
        says("if 1=1 then 9/0+1 else 9999*9999 end", 1);
        says("if 1=2 then 9999*9999 else rest 9 by 0+1 end", 1);
    }

    private static void heatsAskedFor() {
        doc("hot ONE (HEAT of the QUARREL of that number; 0 for others)");
        for (int count = 1; count <= 8; count++) {
            QuarrelsPawned x = ruled("dues hot worth+20;");
            for (int i = 0; i < count; i++) {
                x.quarrel(0, 1, i + 1, 9 - i % 9);
            }
            for (int i = 0; i < count; i++) {
                due("hot " + (i + 1) + " of " + count, x.of(i, 6), 20 + (i + 1 < count ? 8 - i : 0));
            }
        }
        says("hot 0", 4);
        says("hot -0", 4);
        says("hot 1+7", 7);
        says("hot (0-1)+7", 7);
        says("hot -1+7", 7);
        says("hot 7+7", 7);
        says("hot 8+7", 7);
        says("hot 9999+7", 7);
        says("hot (9999*9999)+7", 7);
        says("hot (0-9999*9999)+7", 7);
        doc("held (for how many DAYS it is pawned; 0: it is not) .. purse in dues; pawned (how many QUARRELS are) in sells");
        QuarrelsPawned x = ruled("dues held*100+purse;sells pawned-20;");
        x.quarrel(0, 1, 4, 0);
        x.quarrel(0, 1, 4, 0);
        x.day(5);
        due("of(0,6): going on", x.of(0, 6), 0);
        due("of(0,7): none is pawned", x.of(0, 7), -20);
        x.pawn(0);
        due("of(0,6): pawned today", x.of(0, 6), 2);
        due("of(0,7)", x.of(0, 7), -19);
        x.day(1);
        due("of(0,6)", x.of(0, 6), 102);
        due("of(1,7): of one that is going on", x.of(1, 7), -19);
        x.pawn(1);
        due("of(1,7)", x.of(1, 7), -18);
        x.earn(900);
        due("redeem(0)", x.redeem(0), NONE);
        x.by(NONE);
        due("redeem(0)", x.redeem(0), 4);
        x.by(0);
        due("of(0,6): redeemed", x.of(0, 6), 900);
        due("of(0,7)", x.of(0, 7), -19);
    }

    private static void namesSay() {
        doc("NAMES: day, rain, number (of the QUARREL), worth, heat, held in both");
        String[] names = {"day", "rain", "number", "worth", "heat", "held"};
        for (int i = 0; i < names.length; i++) {
            QuarrelsPawned x = ruled("dues " + names[i] + ";sells " + names[i] + "-50;");
            x.quarrel(0, 1, 20, 4);
            x.quarrel(2, 3, 30, 7);
            x.quarrel(4, 5, 40, 8);
            due("dues " + names[i] + " at first", x.of(1, 6), new int[] {0, 0, 1, 30, 7, 0}[i]);
            due("sells " + names[i] + " at first", x.of(1, 7), new int[] {0, 0, 1, 30, 7, 0}[i] - 50);
            x.day(1);
            x.pawn(1);
            x.day(1);
            // rain by 373 and then by 14144; heats by 15283 and 19136, which 3 leaves 1 of
            due("dues " + names[i], x.of(1, 6), new int[] {2, 0, 1, 30, 8, 1}[i]);
            due("sells " + names[i], x.of(1, 7), new int[] {2, 0, 1, 30, 8, 1}[i] - 50);
            x.undo();
            due("dues " + names[i] + " a day ahead", x.of(1, 6), new int[] {1, 1, 1, 30, 8, 0}[i]);
        }
        doc("without: a TEXT that has no such law");
        QuarrelsPawned x = ruled("dues 7;");
        tell(x, "sells 8;");
        tell(x, "earn 9;");
        x.quarrel(0, 1, 20, 4);
        int[][] want = {{7, -30}, {20, 8}, {20, -30}};
        for (int i = 0; i < 3; i++) {
            x.by(i);
            due("dues by " + i, x.of(0, 6), want[i][0]);
            due("sells by " + i, x.of(0, 7), want[i][1]);
        }
    }

    private static void duesAndSellsToTheBounds() {
        doc("dues: 0 at least, 9999 at most");
        says("9999", 9999);
        says("9998", 9998);
        says("9999+1", 9999);
        says("9999*9999", 9999);
        says("0", 0);
        says("1", 1);
        says("0-1", 0);
        says("0-9999*9999", 0);
        doc("without: WORTH and held by WORTH by 50 (cut)");
        int[][] cases = {{1, 49, 1}, {1, 50, 2}, {1, 99, 2}, {1, 100, 3}, {50, 1, 51}, {49, 1, 49}, {51, 1, 52},
            {99, 0, 99}, {99, 1, 100}, {99, 2, 102}, {10, 4, 10}, {10, 5, 11}};
        for (int[] c : cases) {
            QuarrelsPawned x = ruled("sells 0;");
            pawnAll(x, c[0]);
            pass(x, c[1]);
            due("dues of " + c[0] + " held for " + c[1], x.of(0, 6), c[2]);
            x.by(NONE);
            due("dues of " + c[0] + " held for " + c[1], x.of(0, 6), c[2]);
        }
        QuarrelsPawned old = ruled("sells 0;");
        pawnAll(old, 99);
        pass(old, 5000);
        due("99 and 5000 by 99 by 50", old.of(0, 6), 9999);
        old.undo();
        due("99 and 4999 by 99 by 50", old.of(0, 6), 9997);
        old.day(2);
        due("99 and 5001 by 99 by 50: at most", old.of(0, 6), 9999);
        due("is(4)", old.is(4), 9999);
        doc("sells: -99 at least, 99 at most");
        String[] sums = {"98", "99", "100", "9999*9999", "0-98", "0-99", "0-100", "0-9999*9999", "0"};
        int[] want = {98, 99, 99, 99, -98, -99, -99, -99, 0};
        for (int i = 0; i < sums.length; i++) {
            QuarrelsPawned x = ruled("sells " + sums[i] + ";");
            x.quarrel(0, 1, 20, 4);
            due("sells " + sums[i], x.of(0, 7), want[i]);
        }
        int[][] held = {{0, -30}, {29, -1}, {30, 0}, {31, 1}, {128, 98}, {129, 99}, {130, 99}, {600, 99}};
        for (int[] h : held) {
            QuarrelsPawned x = ruled("sells 0;");
            pawnAll(x, 5);
            pass(x, h[0]);
            x.by(NONE);
            due("sells without a law, held for " + h[0], x.of(0, 7), h[1]);
        }
        doc("7: THE TEXT (NONE: none): true");
        QuarrelsPawned x = fresh();
        x.quarrel(0, 1, 50, 0);
        for (int i = 0; i < 4; i++) {
            tell(x, "dues " + i + ";");
        }
        for (int i = 3; i >= 0; i--) {
            yes("by(" + i + ")", x.by(i));
            due("about(2)", x.about(2), i);
            due("of(0,6)", x.of(0, 6), i);
        }
        yes("by(NONE)", x.by(NONE));
        due("about(2)", x.about(2), NONE);
        due("of(0,6)", x.of(0, 6), 50);
        due("about(3): no step", x.about(3), 0);
    }

    private static void playedToTheEnds() {
        doc("one that can't be ends it: its number among all CLAUSES (from 0); what was done stays");
        String[] cant = {"pawn 7;", "redeem 0;", "quarrel 2 by 2 worth 9;"};
        for (String it : cant) {
            QuarrelsPawned x = fresh();
            tell(x, it + "earn 1;");
            due("played(0) of '" + it + "' first", x.played(0), 0);
            due("is(2)", x.is(2), 0);
            due("about(3)", x.about(3), 0);
            tell(x, "dues 1;" + times(21, "earn 1;") + "sells 1;" + it);
            due("played(1) of '" + it + "' last", x.played(1), 23);
            due("is(2)", x.is(2), 21);
            due("about(0)", x.about(0), 0);
        }
        QuarrelsPawned x = fresh();
        tell(x, "dues 1;sells 1;");
        due("played(0): laws alone", x.played(0), NONE);
        tell(x, "");
        due("played(1): nothing", x.played(1), NONE);
        due("about(3)", x.about(3), 0);
        due("about(2): it does not rule by that", x.about(2), NONE);
        doc("of so many DAYS those that can pass do");
        for (int left = 0; left <= 3; left++) {
            QuarrelsPawned y = fresh();
            tell(y, "earn 1;day 2;earn 1;");
            pass(y, 9999 - left);
            due("played(0), " + left + " days being left", y.played(0), left >= 2 ? NONE : 1);
            due("is(0)", y.is(0), Math.min(9999, 9999 - left + 2));
            due("is(2)", y.is(2), left >= 2 ? 2 : 1);
        }
        QuarrelsPawned far = fresh();
        tell(far, "day 60;");
        pass(far, 9940);
        due("played(0): 59 of 60", far.played(0), 0);
        due("is(0)", far.is(0), 9999);
        due("played(0)", far.played(0), 0);
        doc("as by hand");
        QuarrelsPawned hand = fresh();
        tell(hand, "quarrel 0 by 1 worth 99;");
        for (int i = 0; i < 8; i++) {
            due("played(0)", hand.played(0), NONE);
        }
        due("played(0): the ninth", hand.played(0), 0);
        due("about(0)", hand.about(0), 8);
        tell(hand, "pawn 7;");
        fill(hand, 9990);
        due("played(1)", hand.played(1), NONE);
        due("is(2): 9999 at most", hand.is(2), 9999);
        due("played(1): it is pawned", hand.played(1), 0);
        tell(hand, "earn 1;");
        due("played(2): beyond 9999", hand.played(2), 0);
        tell(hand, "redeem 7;redeem 7;");
        due("played(3)", hand.played(3), 1);
        due("is(2)", hand.is(2), 9900);
    }

    // ------------------------------------------------------------------ III: what comes, who speaks

    private static void foretoldToTheEnds() {
        doc("FORETOLD behind n DAYS (1 .. 60; those that can pass), nothing else being done");
        for (int n : new int[] {1, 2, 31, 32, 59, 60}) {
            QuarrelsPawned x = fresh();
            x.quarrel(0, 1, 50, 9);
            x.quarrel(0, 2, 25, 1);
            x.quarrel(0, 3, 10, 4);
            x.pawn(0);
            int[] said = new int[9];
            for (int i = 0; i < 9; i++) {
                said[i] = x.foretold(n, i / 3, i % 3);
            }
            due("is(0)", x.is(0), 0);
            x.day(n);
            int[] parts = {4, 3, 6};
            for (int i = 0; i < 9; i++) {
                due("foretold(" + n + "," + i / 3 + "," + i % 3 + ")", said[i], x.of(i / 3, parts[i % 3]));
            }
        }
        for (int left = 0; left <= 2; left++) {
            QuarrelsPawned x = ruled("dues day-9000;sells 0;");
            x.quarrel(0, 1, 9, 0);
            pass(x, 9999 - left);
            int heat = Math.min(9, x.of(0, 3));
            due("foretold(60,0,2), " + left + " days being left", x.foretold(60, 0, 2), 999);
            due("foretold(1,0,2)", x.foretold(1, 0, 2), left == 0 ? 999 : 1000 - left);
            due("foretold(60,0,1)", x.foretold(60, 0, 1), heat);
            due("is(0)", x.is(0), 9999 - left);
        }
        QuarrelsPawned y = fresh();
        pawnAll(y, 50);
        due("foretold(31,0,0)", y.foretold(31, 0, 0), 1);
        due("foretold(31,0,2): held for 31", y.foretold(31, 0, 2), 81);
        due("foretold(32,0,0): sold", y.foretold(32, 0, 0), 3);
        due("foretold(32,0,2): not held", y.foretold(32, 0, 2), 50);
    }

    private static QuarrelsPawned lonely(int one) {
        QuarrelsPawned x = fresh();
        for (int other = 0; other < 6; other++) {
            if (other != one) {
                x.quarrel(one, other, 10 + other, 1);
            }
        }
        return x;
    }

    private static void speaking() {
        doc("Two SPEAK, if each QUARREL of theirs is redeemed");
        QuarrelsPawned x = fresh();
        yes("speak(0,1): without quarrels", x.speak(0, 1));
        x.quarrel(0, 1, 2, 0);
        x.quarrel(1, 0, 2, 0);
        no("speak: going on", x.speak(0, 1));
        x.pawn(0);
        x.pawn(1);
        no("speak: pawned", x.speak(1, 0));
        x.earn(2);
        x.redeem(0);
        no("speak: one of two", x.speak(0, 1));
        x.redeem(1);
        yes("speak: both", x.speak(0, 1));
        x.pawn(x.quarrel(0, 1, 2, 0));
        x.day(60);
        no("speak: one of three is sold", x.speak(0, 1));
        doc("20: A GROUP (bits); 21: GROUPS: how many, how many PEOPLE the greatest has; 43: SILENT: who SPEAK with nobody");
        QuarrelsPawned all = fresh();
        for (int person = 0; person < 6; person++) {
            due("group(" + person + ")", all.group(person), 63);
        }
        due("groups(false)", all.groups(false), 1);
        due("groups(true)", all.groups(true), 6);
        due("silent()", all.silent(), 0);
        for (int one = 0; one < 6; one++) {
            QuarrelsPawned y = lonely(one);
            for (int person = 0; person < 6; person++) {
                due("group(" + person + ") without " + one, y.group(person), person == one ? 1 << one : 63 & ~(1 << one));
            }
            due("groups(false)", y.groups(false), 2);
            due("groups(true)", y.groups(true), 5);
            due("silent()", y.silent(), 1 << one);
            due("all()", y.all(), NONE);
            y.pawn(2);
            due("silent(): a pawned one is no word", y.silent(), 1 << one);
            y.earn(99);
            y.redeem(2);
            due("silent()", y.silent(), 0);
            due("groups(false)", y.groups(false), 1);
            due("groups(true)", y.groups(true), 6);
        }
        // two and four: eight quarrels part them
        QuarrelsPawned parted = fresh();
        for (int a = 0; a < 2; a++) {
            for (int b = 2; b < 6; b++) {
                parted.quarrel(a, b, 9, 0);
            }
        }
        due("group(1)", parted.group(1), 3);
        due("group(5)", parted.group(5), 60);
        due("groups(false)", parted.groups(false), 2);
        due("groups(true)", parted.groups(true), 4);
        due("silent()", parted.silent(), 0);
        due("cut(0,1)", parted.cut(0, 1), 1);
        due("cut(0,5)", parted.cut(0, 5), 0);
        due("cut(2,5)", parted.cut(2, 5), 3);
        due("gossips()", parted.gossips(), 0);
    }

    private static void costsAndWays() {
        doc("THE COST of two: dues of all their QUARRELS that are pawned, together (0: they SPEAK); no way (one is going on, or sold)");
        QuarrelsPawned x = fresh();
        due("cost(0,1)", x.cost(0, 1), 0);
        for (int i = 0; i < 8; i++) {
            x.quarrel(i % 2, 1 - i % 2, 10 + i, 0);
            due("cost: one is going on", x.cost(0, 1), NONE);
            x.pawn(i);
            due("cost of " + (i + 1), x.cost(0, 1), 10 * (i + 1) + i * (i + 1) / 2);
            due("cost of " + (i + 1), x.cost(1, 0), 10 * (i + 1) + i * (i + 1) / 2);
        }
        QuarrelsPawned dear = ruled("dues 9999;");
        pawnAll(dear, 1, 1, 1, 1, 1, 1, 1, 1);
        due("cost: eight of 9999", dear.cost(0, 1), 79992);
        due("is(4)", dear.is(4), 79992);
        due("word(0,1): by another", dear.word(0, 1), 0);
        x.day(31);
        due("cost", x.cost(0, 1) > 0 ? 1 : 0, 1);
        x.day(1);
        due("cost: sold", x.cost(0, 1), NONE);
        for (int lower = 0; lower < 2; lower++) {
            QuarrelsPawned y = fresh();
            y.quarrel(0, 1, 10, 0);
            y.quarrel(1, 0, 20, 0);
            y.pawn(lower);
            due("cost: " + lower + " is pawned, the other is going on", y.cost(0, 1), NONE);
            y.day(20);
            y.pawn(1 - lower);
            due("cost: both are pawned", y.cost(0, 1), lower == 0 ? 34 : 38);
            y.day(20);
            due("cost: " + lower + " is sold, the other is pawned", y.cost(0, 1), NONE);
            due("of(" + lower + ",4)", y.of(lower, 4), 3);
            due("of(" + (1 - lower) + ",4)", y.of(1 - lower, 4), 1);
            due("all(): by others", y.all(), 0);
        }
        doc("23: the least together (to itself 0)");
        for (int person = 0; person < 6; person++) {
            QuarrelsPawned y = lonely(person);
            due("word to itself", y.word(person, person), 0);
            due("way to itself", y.way(person, person, NONE), 1);
            due("way to itself, 0", y.way(person, person, 0), person);
            due("way to itself, 1", y.way(person, person, 1), -2);
            due("way to itself, -2", y.way(person, person, -2), -2);
            int other = person == 5 ? 0 : 5;
            due("word: no way", y.word(person, other), NONE);
            due("word: no way", y.word(other, person), NONE);
            due("way: no way", y.way(person, other, NONE), -2);
            due("way: no way", y.way(person, other, 0), -2);
            due("way: no way", y.way(other, person, 1), -2);
        }
        QuarrelsPawned dearest = ruled("dues 9999;");
        for (int i = 0; i < 5; i++) {
            dearest.quarrel(5, i, 1, 0);
            dearest.pawn(i);
        }
        dearest.quarrel(4, 5, 1, 0);
        dearest.pawn(5);
        dearest.quarrel(4, 5, 1, 0);
        dearest.pawn(6);
        dearest.quarrel(4, 5, 1, 0);
        dearest.pawn(7);
        due("word(5,4): for 9999, not for 39996", dearest.word(5, 4), 9999);
        due("way(5,4,NONE)", dearest.way(5, 4, NONE), 3);
        due("way(5,4,1)", dearest.way(5, 4, 1), 0);
        due("all()", dearest.all(), 9999);
        doc("A WAY: of like ones that of fewest PEOPLE, then the lowest second one, then the third");
        // dues 0 for all: each pair is as cheap as another, so two people are enough
        QuarrelsPawned free = ruled("dues 0;");
        for (int i = 0; i < 5; i++) {
            free.quarrel(5, i, 1, 0);
        }
        free.pawn(4);
        due("way(5,0,NONE): by 4, for nothing", free.way(5, 0, NONE), 3);
        due("way(5,0,1)", free.way(5, 0, 1), 4);
        free.pawn(2);
        due("way(5,0,1): by 2", free.way(5, 0, 1), 2);
        free.pawn(0);
        due("way(5,0,NONE)", free.way(5, 0, NONE), 2);
        due("way(5,0,0)", free.way(5, 0, 0), 5);
        due("way(5,0,1)", free.way(5, 0, 1), 0);
        due("way(5,0,2)", free.way(5, 0, 2), -2);
        // 0 speaks with 1 and 2 alone, 5 with 3 and 4; 1 with 4 alone of those
        QuarrelsPawned y = fresh();
        int[][] pairs = {{0, 3}, {0, 4}, {0, 5}, {5, 1}, {5, 2}, {1, 3}};
        for (int[] pair : pairs) {
            y.quarrel(pair[0], pair[1], 1, 0);
        }
        int[] way = {0, 1, 4, 5};
        due("way(0,5,NONE)", y.way(0, 5, NONE), 4);
        for (int i = 0; i < 4; i++) {
            due("way(0,5," + i + "): the lowest second, not the lowest third", y.way(0, 5, i), way[i]);
            due("way(5,0," + i + ")", y.way(5, 0, i), new int[] {5, 3, 2, 0}[i]);
        }
        due("way(0,5,4)", y.way(0, 5, 4), -2);
        y.quarrel(1, 4, 1, 0);
        due("way(0,5,1): 1 has no way of four", y.way(0, 5, 1), 2);
        due("way(0,5,2)", y.way(0, 5, 2), 3);
        y.quarrel(2, 3, 1, 0);
        due("way(0,5,2)", y.way(0, 5, 2), 4);
        // the whole six in a row
        QuarrelsPawned row = fresh();
        int[][] apart = {{0, 2}, {0, 3}, {0, 4}, {0, 5}, {1, 3}, {1, 4}, {1, 5}, {2, 4}};
        for (int[] pair : apart) {
            row.quarrel(pair[0], pair[1], 1, 0);
        }
        due("way(0,5,NONE): 0 1 2 5", row.way(0, 5, NONE), 4);
        due("way(0,4,NONE): 0 1 2 3 4", row.way(0, 4, NONE), 5);
        for (int i = 0; i < 5; i++) {
            due("way(0,4," + i + ")", row.way(0, 4, i), new int[] {0, 1, 2, 3, 4}[i]);
        }
        due("gossips()", row.gossips(), 6);
        due("cut(0,4)", row.cut(0, 4), 1);
    }

    private static void forAllAndCuts() {
        doc("FOR ALL: the least COSTS together by which all six are one GROUP; no way");
        due("all()", fresh().all(), 0);
        QuarrelsPawned x = lonely(3);
        due("all()", x.all(), NONE);
        x.pawn(4);
        due("all()", x.all(), 15);
        x.pawn(0);
        due("all()", x.all(), 10);
        // two and four parted: the cheapest of eight joins them
        QuarrelsPawned y = fresh();
        for (int i = 0; i < 8; i++) {
            y.quarrel(i / 4, 2 + i % 4, 30 - i, 0);
        }
        due("all()", y.all(), NONE);
        for (int i = 0; i < 8; i++) {
            y.pawn(i);
            due("all()", y.all(), 30 - i);
        }
        QuarrelsPawned free = ruled("dues 0;");
        for (int i = 0; i < 5; i++) {
            free.quarrel(0, i + 1, 9, 0);
        }
        due("all()", free.all(), NONE);
        free.pawn(3);
        due("all(): for nothing", free.all(), 0);
        doc("A CUT of two: the fewest pairs that SPEAK .. (0: they aren't)");
        for (int a = 0; a < 6; a++) {
            for (int b = 0; b < 6; b++) {
                due("cut(" + a + "," + b + ")", fresh().cut(a, b), a == b ? NONE : 5);
                int want = a == 2 || b == 2 ? 0 : 4;
                due("cut(" + a + "," + b + ") without 2", lonely(2).cut(a, b), a == b ? NONE : want);
            }
        }
        QuarrelsPawned one = fresh();
        one.quarrel(0, 1, 9, 0);
        due("cut(0,1): by the four others", one.cut(0, 1), 4);
        due("cut(0,2)", one.cut(0, 2), 4);
        due("cut(2,3)", one.cut(2, 3), 5);
        doc("GOSSIPS: PEOPLE (bits) without whom others of their GROUP would be in more GROUPS than one");
        due("gossips()", fresh().gossips(), 0);
        for (int gossip = 0; gossip < 6; gossip++) {
            // the next one speaks with the gossip alone
            QuarrelsPawned z = fresh();
            int end = (gossip + 1) % 6;
            for (int other = 0; other < 6; other++) {
                if (other != end && other != gossip) {
                    z.quarrel(end, other, 9, 0);
                }
            }
            due("gossips()", z.gossips(), 1 << gossip);
            z.quarrel(end, gossip, 9, 0);
            due("gossips(): the end is silent", z.gossips(), 0);
        }
    }

    private static void coolest() {
        doc("COOLEST: .. that can be REDEEMED by PURSE together of the greatest HEAT together");
        for (int purse : new int[] {29, 30, 31}) {
            QuarrelsPawned x = ruled("dues worth;");
            x.quarrel(0, 1, 10, 2);
            x.quarrel(0, 1, 20, 3);
            x.pawn(0);
            x.pawn(1);
            fill(x, purse);
            due("cool(0) of " + purse, x.cool(0), purse >= 30 ? 3 : 2);
            due("cool(1) of " + purse, x.cool(1), purse >= 30 ? 5 : 3);
            due("cool(2) of " + purse, x.cool(2), purse >= 30 ? 30 : 20);
        }
        doc("of like ones least dues, then the lowest set");
        QuarrelsPawned y = ruled("dues worth;");
        int[][] told = {{30, 4}, {20, 2}, {9, 2}, {29, 4}, {29, 4}};
        for (int i = 0; i < told.length; i++) {
            y.quarrel(0, 1, told[i][0], told[i][1]);
            y.pawn(i);
        }
        y.by(NONE);
        tell(y, "dues if number=1 then 20 else worth end;");
        y.by(1);
        // purse 15 10 4 14 14 is 57: 3 with 2 or 4 with 2 leave 19; 3 with 4 is 58
        due("is(2)", y.is(2), 57);
        due("cool(1)", y.cool(1), 6);
        due("cool(2): 29 and 9", y.cool(2), 38);
        due("cool(0): 2 and 3, not 2 and 4", y.cool(0), 12);
        y.earn(1);
        due("cool(0): 1 2 3, as good as 3 and 4", y.cool(0), 14);
        due("cool(1)", y.cool(1), 8);
        due("cool(2)", y.cool(2), 58);
        doc("COOLEST: of QUARRELS that are pawned");
        QuarrelsPawned none = fresh();
        fill(none, 999);
        for (int what = 0; what < 3; what++) {
            due("cool(" + what + ") without quarrels", none.cool(what), 0);
        }
        none.quarrel(0, 1, 5, 9);
        due("cool(0): going on", none.cool(0), 0);
        none.pawn(0);
        due("cool(0)", none.cool(0), 1);
        due("cool(1)", none.cool(1), 9);
        none.redeem(0);
        due("cool(0): redeemed", none.cool(0), 0);
        pawnAll(none, 4);
        none.day(60);
        due("cool(0): sold", none.cool(0), 0);
        QuarrelsPawned poor = fresh();
        poor.quarrel(0, 1, 5, 9);
        poor.pawn(0);
        due("cool(0): not enough for any", poor.cool(0), 0);
        due("cool(1)", poor.cool(1), 0);
        due("cool(2)", poor.cool(2), 0);
        QuarrelsPawned all = fresh();
        for (int i = 0; i < 8; i++) {
            all.quarrel(0, 1, 99, 9);
            all.pawn(i);
        }
        fill(all, 791);
        due("cool(0): seven", all.cool(0), 127);
        all.earn(1);
        due("cool(0): all eight", all.cool(0), 255);
        due("cool(1)", all.cool(1), 72);
        due("cool(2)", all.cool(2), 792);
    }

    // ------------------------------------------------------------------ IV: plans, tickets, hooks, market, laws

    private static void plansToTheEnds() {
        doc("A PLAN for QUARRELS (bits, 5 at most, all pawned)");
        QuarrelsPawned x = fresh();
        pawnAll(x, 2, 2, 2, 2, 2, 2, 2, 2);
        fill(x, 100);
        for (int set = 0; set < 256; set++) {
            int count = Integer.bitCount(set);
            due("plan(" + set + ",0)", x.plan(set, 0), count <= 5 ? 0 : NONE);
            if (set > 200) {
                due("plan(" + set + ",1)", x.plan(set, 1), count <= 5 ? 2 * count : NONE);
            }
        }
        due("plan(248,2)", x.plan(248, 2), 3);
        due("plan(248,6)", x.plan(248, 6), 7);
        due("plan(248,7)", x.plan(248, 7), NONE);
        due("plan(128,2)", x.plan(128, 2), 7);
        due("plan(128,3)", x.plan(128, 3), NONE);
        doc("(of none: 0, 0)");
        for (Maker maker : new Maker[] {QuarrelsPawnedBoundaries::fresh, QuarrelsPawnedBoundaries::busy,
            QuarrelsPawnedBoundaries::full, QuarrelsPawnedBoundaries::last}) {
            QuarrelsPawned any = maker.make();
            due("plan(0,0)", any.plan(0, 0), 0);
            due("plan(0,1)", any.plan(0, 1), 0);
            due("plan(0,2)", any.plan(0, 2), NONE);
        }
        doc("60 DAYS at most");
        for (int price : new int[] {59, 60, 61}) {
            QuarrelsPawned y = ruled("dues " + price + ";");
            pawnAll(y, 1);
            y.earns(1);
            due("plan(1,0) for " + price, y.plan(1, 0), price <= 60 ? price : NONE);
            due("plan(1,1) for " + price, y.plan(1, 1), price <= 60 ? price : NONE);
            due("plan(1,2) for " + price, y.plan(1, 2), price <= 60 ? 0 : NONE);
        }
        QuarrelsPawned second = ruled("dues 30+number;");
        pawnAll(second, 1, 1);
        second.earns(1);
        due("plan(3,0): 61 for both", second.plan(3, 0), NONE);
        second.earn(1);
        due("plan(3,0)", second.plan(3, 0), 60);
        doc("29: A WAGE told: true. False for others (0 .. 99)");
        QuarrelsPawned wage = ruled("dues 5940;");
        pawnAll(wage, 1);
        due("plan(1,0): no wage is told at first", wage.plan(1, 0), NONE);
        yes("earns(99)", wage.earns(99));
        due("plan(1,0): 60 by 99", wage.plan(1, 0), 60);
        no("earns(100)", wage.earns(100));
        due("plan(1,0)", wage.plan(1, 0), 60);
        yes("earns(98)", wage.earns(98));
        due("plan(1,0)", wage.plan(1, 0), NONE);
        yes("earns(0)", wage.earns(0));
        fill(wage, 5939);
        due("plan(1,0)", wage.plan(1, 0), NONE);
        wage.earn(1);
        due("plan(1,0): no less than dues", wage.plan(1, 0), 0);
        doc("PURSE has no bound; purse what it is then");
        QuarrelsPawned z = ruled("dues if purse>9999 then 7 else 9999 end;");
        pawnAll(z, 1);
        fill(z, 9901);
        z.earns(99);
        due("plan(1,0): 10000 behind a day", z.plan(1, 0), 1);
        due("plan(1,1)", z.plan(1, 1), 7);
        doc("held and day alone being later, also beyond 9999");
        QuarrelsPawned late = ruled("dues if day-60=9999 then held else 9999 end;sells 0;");
        late.quarrel(0, 1, 1, 0);
        pass(late, 9994);
        late.pawn(0);
        late.day(5);
        late.earns(99);
        due("plan(1,0)", late.plan(1, 0), 60);
        due("plan(1,1): held for 65", late.plan(1, 1), 65);
        due("best(0,60,true)", late.best(0, 60, true), 60);
        due("best(0,60,false)", late.best(0, 60, false), 65);
        due("best(0,59,true)", late.best(0, 59, true), 0);
        doc("nothing is sold");
        QuarrelsPawned sold = ruled("dues 50;sells 1;");
        pawnAll(sold, 1);
        sold.earns(1);
        due("plan(1,0)", sold.plan(1, 0), 50);
        due("foretold(1,0,0)", sold.foretold(1, 0, 0), 3);
    }

    private static void plansOfLikeOnes() {
        doc("a WAGE comes ahead of each DAY to come; more than one on a DAY can be");
        QuarrelsPawned x = ruled("dues worth;");
        pawnAll(x, 20, 20, 20);
        x.earns(30);
        due("plan(7,0): 30 now, 60 behind a day", x.plan(7, 0), 1);
        due("plan(7,1)", x.plan(7, 1), 60);
        x.earns(29);
        due("plan(7,0)", x.plan(7, 0), 2);
        doc("the order by which all is done first; of like ones least paid together");
        // by number 0 is dear at first and cheap from day 2 on, 1 grows by 10 a day
        QuarrelsPawned y = ruled("dues if number=0 then if held<2 then 40 else 10 end else 20+held*10 end;");
        pawnAll(y, 98, 1);
        // 49: 0 first leaves 9, and then 1 is never caught up with; 1 first for 20, then 0 for 10 behind two days
        due("is(2)", y.is(2), 49);
        due("plan(3,0)", y.plan(3, 0), 2);
        due("plan(3,1)", y.plan(3, 1), 30);
        due("plan(3,2)", y.plan(3, 2), 1);
        due("plan(3,3)", y.plan(3, 3), 0);
        y.earn(11);
        due("plan(3,0): 60 is enough for both now", y.plan(3, 0), 0);
        due("plan(3,1): sooner, though dearer", y.plan(3, 1), 60);
        due("plan(3,2): of like ones the lowest first", y.plan(3, 2), 0);
        // all on one day: it is cheaper to redeem the one that asks for the purse last
        QuarrelsPawned z = ruled("dues if number=0 then purse/10 else 30 end;");
        pawnAll(z, 1, 1, 1);
        z.earn(100);
        due("plan(7,0)", z.plan(7, 0), 0);
        due("plan(7,1): 30 30 4", z.plan(7, 1), 64);
        due("plan(7,2)", z.plan(7, 2), 1);
        due("plan(7,3)", z.plan(7, 3), 2);
        due("plan(7,4)", z.plan(7, 4), 0);
        doc("then the lowest first QUARREL, then the next, ..");
        QuarrelsPawned like = fresh();
        pawnAll(like, 9, 9, 9, 9, 9, 9, 9, 9);
        like.earn(99);
        int[] order = {1, 3, 4, 6, 7};
        for (int i = 0; i < 5; i++) {
            due("plan(218," + (i + 2) + ")", like.plan(218, i + 2), order[i]);
        }
        doc("each as early as PURSE has enough");
        // waiting would be cheaper, but it has enough now
        QuarrelsPawned early = ruled("dues 20-held;");
        pawnAll(early, 40);
        due("plan(1,0)", early.plan(1, 0), 0);
        due("plan(1,1)", early.plan(1, 1), 20);
        early.back();
        tell(early, "dues 21-held;");
        early.by(0);
        pawnAll(early, 40);
        due("plan(1,0)", early.plan(1, 0), 1);
        due("plan(1,1)", early.plan(1, 1), 20);
    }

    private static void bestToTheEnds() {
        doc("BEST of one: the least dues of now and n DAYS to come, behind how many DAYS first");
        QuarrelsPawned x = ruled("dues 100-day;");
        pawnAll(x, 5);
        for (int n : new int[] {0, 1, 59, 60}) {
            due("best(0," + n + ",false)", x.best(0, n, false), 100 - n);
            due("best(0," + n + ",true)", x.best(0, n, true), n);
        }
        QuarrelsPawned y = ruled("dues 100+day;");
        pawnAll(y, 5);
        due("best(0,60,true): now", y.best(0, 60, true), 0);
        due("best(0,60,false)", y.best(0, 60, false), 100);
        QuarrelsPawned z = ruled("dues if held=7 then 3 else if held=9 then 3 else 4 end end;");
        pawnAll(z, 5);
        due("best(0,6,true)", z.best(0, 6, true), 0);
        due("best(0,7,true)", z.best(0, 7, true), 7);
        due("best(0,60,true): the first", z.best(0, 60, true), 7);
        QuarrelsPawned dear = ruled("dues 9999;");
        pawnAll(dear, 5);
        due("best(0,60,true)", dear.best(0, 60, true), 0);
        due("best(0,60,false)", dear.best(0, 60, false), 9999);
        QuarrelsPawned less = ruled("dues 9999-held/3;");
        pawnAll(less, 5);
        due("best(0,2,true)", less.best(0, 2, true), 0);
        due("best(0,3,true)", less.best(0, 3, true), 3);
        due("best(0,3,false)", less.best(0, 3, false), 9998);
        due("best(0,60,true)", less.best(0, 60, true), 60);
    }

    private static void ticketsToTheEnds() {
        doc("TICKETS are four digits; the first, 3 times the second, 7 times the third, 9 times the fourth together by 10 leave 0");
        List<Integer> all = new ArrayList<>();
        for (int t = 0; t < 10000; t++) {
            if ((t / 1000 + 3 * (t / 100 % 10) + 7 * (t / 10 % 10) + 9 * (t % 10)) % 10 == 0) {
                all.add(t);
            }
        }
        QuarrelsPawned x = fresh();
        due("tickets(NONE)", x.tickets(NONE), all.size());
        for (int i : new int[] {0, 1, 2, 9, 10, 11, 99, 100, 500, 998, 999}) {
            due("tickets(" + i + ")", x.tickets(i), all.get(i));
        }
        due("tickets(1000)", x.tickets(1000), -2);
        doc("all that fit the DIGITS told (others not to be read; at first none is)");
        for (int place = 0; place < 4; place++) {
            for (int digit = 0; digit <= 9; digit++) {
                QuarrelsPawned y = fresh();
                yes("digit(" + place + "," + digit + ")", y.digit(place, digit));
                int power = new int[] {1000, 100, 10, 1}[place];
                int first = -2;
                int last = -2;
                int count = 0;
                for (int t : all) {
                    if (t / power % 10 == digit) {
                        first = count == 0 ? t : first;
                        last = t;
                        count++;
                    }
                }
                due("tickets(NONE)", y.tickets(NONE), count);
                due("tickets(0)", y.tickets(0), first);
                due("tickets(" + (count - 1) + ")", y.tickets(count - 1), last);
                due("tickets(" + count + ")", y.tickets(count), -2);
                yes("digit(" + place + ",NONE)", y.digit(place, NONE));
                due("tickets(NONE)", y.tickets(NONE), 1000);
            }
        }
        QuarrelsPawned z = fresh();
        for (int place = 0; place < 4; place++) {
            yes("digit", z.digit(place, 9));
        }
        due("tickets(NONE): 9 27 63 81", z.tickets(NONE), 1);
        due("tickets(0)", z.tickets(0), 9999);
        yes("digit(3,8)", z.digit(3, 8));
        due("tickets(NONE)", z.tickets(NONE), 0);
        due("tickets(0)", z.tickets(0), -2);
    }

    private static void hooksToTheEnds() {
        doc("HOOKS (6 at most; told: weights)");
        QuarrelsPawned x = fresh();
        for (int i = 1; i <= 6; i++) {
            due("hook " + i, x.hook(i % 2 == 0 ? 99 : 1), i);
            due("about(4)", x.about(4), i);
        }
        due("hook 7", x.hook(1), -2);
        due("hook(NONE)", x.hook(NONE), 0);
        due("hook(NONE) again", x.hook(NONE), 0);
        due("about(4)", x.about(4), 0);
        due("hook(1)", x.hook(1), 1);
        due("hook(99)", x.hook(99), 2);
        doc("WORTH out by err at most");
        for (int err = 0; err <= 9; err++) {
            for (int side = -1; side <= 1; side += 2) {
                QuarrelsPawned y = fresh();
                y.hook(50);
                pawnAll(y, 50 + side * (err + 1));
                due("hung(" + err + ",NONE): out by " + (err + 1), y.hung(err, NONE), 0);
                due("hung(" + err + ",0)", y.hung(err, 0), -2);
                pawnAll(y, 50 + side * err);
                due("hung(" + err + ",NONE): out by " + err, y.hung(err, NONE), 1);
                due("hung(" + err + ",0)", y.hung(err, 0), 1);
                due("look(" + err + "): one way", y.look(err), NONE);
            }
        }
        doc("(without HOOKS 1)");
        QuarrelsPawned none = fresh();
        due("hung(0,NONE)", none.hung(0, NONE), 1);
        due("hung(9,NONE)", none.hung(9, NONE), 1);
        due("hung(0,0)", none.hung(0, 0), -2);
        pawnAll(none, 5, 5);
        due("hung(9,NONE)", none.hung(9, NONE), 1);
        due("look(9)", none.look(9), NONE);
        doc("each on each a QUARREL that is pawned, its own");
        QuarrelsPawned own = fresh();
        own.hook(5);
        due("hung(0,NONE): there is none", own.hung(0, NONE), 0);
        own.quarrel(0, 1, 5, 0);
        due("hung(0,NONE): going on", own.hung(0, NONE), 0);
        own.pawn(0);
        due("hung(0,NONE)", own.hung(0, NONE), 1);
        own.hook(5);
        due("hung(0,NONE): one for two", own.hung(0, NONE), 0);
        pawnAll(own, 5);
        due("hung(0,NONE)", own.hung(0, NONE), 2);
        due("hung(0,0)", own.hung(0, 0), 0);
        due("hung(0,1)", own.hung(0, 1), 1);
        due("hung(0,2)", own.hung(0, 2), -2);
        due("look(0): two ways", own.look(0), 0);
        own.earn(9);
        own.redeem(0);
        due("hung(0,NONE): one is redeemed", own.hung(0, NONE), 0);
        own.day(60);
        own.hook(NONE);
        own.hook(5);
        due("hung(0,NONE): the other is sold", own.hung(0, NONE), 0);
        due("look(0): no way", own.look(0), NONE);
        QuarrelsPawned most = fresh();
        pawnAll(most, 9, 9, 9, 9, 9, 9, 9, 9);
        int ways = 1;
        for (int i = 0; i < 6; i++) {
            most.hook(9);
            ways *= 8 - i;
            due("hung(0,NONE) of " + (i + 1), most.hung(0, NONE), ways);
            due("hung(0," + i + ")", most.hung(0, i), i);
            due("hung(0," + (i + 1) + ")", most.hung(0, i + 1), -2);
            due("hung(0,-2)", most.hung(0, -2), -2);
            due("look(0)", most.look(0), 0);
        }
        doc("the lowest QUARREL on HOOK 0, then on 1, ..");
        QuarrelsPawned needed = fresh();
        pawnAll(needed, 20, 21, 22);
        needed.hook(21);
        needed.hook(19);
        due("hung(1,NONE): 0 must hang on the second", needed.hung(1, NONE), 2);
        due("hung(1,0)", needed.hung(1, 0), 1);
        due("hung(1,1)", needed.hung(1, 1), 0);
        lookedFor();
    }

    private static void lookedFor() {
        doc("WHERE TO LOOK: the HOOK by whose QUARREL the most ways that can be left are fewest; of like ones the lowest");
        // 10 fits the first alone, 20 21 22 the other two: the first leaves 6, each other 2
        QuarrelsPawned x = fresh();
        pawnAll(x, 10, 20, 21, 22);
        x.hook(10);
        x.hook(21);
        x.hook(21);
        due("hung(1,NONE)", x.hung(1, NONE), 6);
        due("look(1)", x.look(1), 1);
        x.hook(NONE);
        x.hook(21);
        x.hook(10);
        x.hook(21);
        due("look(1): the lowest of like ones", x.look(1), 0);
        x.hook(NONE);
        x.hook(20);
        x.hook(22);
        // 20 or 21 on the first, 21 or 22 on the second, not 21 twice: each leaves 2 at most
        due("hung(1,NONE)", x.hung(1, NONE), 3);
        due("look(1)", x.look(1), 0);
        // 20 21 on the first, 20 21 22 on the second: by the first 2 are left, by the second 1 or 2
        x.hook(NONE);
        x.hook(19);
        x.hook(20);
        due("hung(2,NONE): 20 21 by 20 21 22", x.hung(2, NONE), 4);
        due("hung(2,0)", x.hung(2, 0), 1);
        due("hung(2,1)", x.hung(2, 1), 2);
        due("look(2)", x.look(2), 0);
        doc("36: (0 .. 9)");
        QuarrelsPawned far = fresh();
        pawnAll(far, 41, 59, 60);
        far.hook(50);
        due("look(8): no way", far.look(8), NONE);
        due("look(9): two ways", far.look(9), 0);
        due("look(10)", far.look(10), NONE);
        far.hook(NONE);
        far.hook(60);
        due("look(0): one way", far.look(0), NONE);
        pawnAll(far, 60);
        due("look(0): two ways", far.look(0), 0);
        due("look(-1)", far.look(-1), NONE);
        doc("WHERE TO LOOK: the HOOK by whose QUARREL the most ways that can be left are fewest; of like ones the lowest");
        // the last of three alone tells them apart
        QuarrelsPawned y = fresh();
        pawnAll(y, 10, 30, 50, 52, 54);
        y.hook(10);
        y.hook(30);
        y.hook(52);
        due("look(2)", y.look(2), 2);
        due("look(2) again", y.look(2), 2);
        due("look(1): one way", y.look(1), NONE);
    }

    private static int marketOf(int what, int... bids) {
        QuarrelsPawned x = fresh();
        for (int bid : bids) {
            x.bid(Math.abs(bid) - 1, bid > 0);
        }
        return what == 3 ? x.gain() : x.market(what);
    }

    /** Bids are told as price and 1, sellers' below 0; wanted are trades, least, greatest, gain. */
    private static void trades(int[] bids, int... want) {
        for (int what = 0; what < 4; what++) {
            due((what == 3 ? "gain()" : "market(" + what + ")") + " of " + java.util.Arrays.toString(bids),
                    marketOf(what, bids), want[what]);
        }
    }

    private static void marketToTheEnds() {
        doc("A MARKET of BIDS (10 at most; told: a price, buys or sells one)");
        QuarrelsPawned x = fresh();
        for (int i = 1; i <= 10; i++) {
            due("bid " + i, x.bid(i % 2 == 0 ? 0 : 99, i % 2 == 0), i);
            due("about(5)", x.about(5), i);
        }
        due("bid 11", x.bid(0, true), -2);
        due("market(0): 0 for 99", x.market(0), 0);
        due("bid(NONE,true)", x.bid(NONE, true), 0);
        due("about(5)", x.about(5), 0);
        due("bid(NONE,false)", x.bid(NONE, false), 0);
        due("bid(99,true)", x.bid(99, true), 1);
        due("bid(0,false)", x.bid(0, false), 2);
        due("market(0)", x.market(0), 1);
        due("market(1)", x.market(1), 0);
        due("market(2)", x.market(2), 99);
        due("gain()", x.gain(), 99);
        due("bid(NONE,false): buyers too", x.bid(NONE, false), 0);
        due("market(0)", x.market(0), 0);
        for (int i = 0; i < 10; i++) {
            x.bid(i < 5 ? 90 + i : i, i < 5);
        }
        due("market(0)", x.market(0), 5);
        x.bid(NONE, true);
        x.bid(50, true);
        x.bid(20, false);
        due("market(1): nothing of the bids that are no more", x.market(1), 20);
        due("market(2)", x.market(2), 50);
        due("gain()", x.gain(), 30);
        doc("as long as the buyer's is no less than the seller's; without trades none");
        trades(new int[] {}, 0, NONE, NONE, 0);
        trades(new int[] {51}, 0, NONE, NONE, 0);
        trades(new int[] {-51}, 0, NONE, NONE, 0);
        trades(new int[] {50, -51}, 0, NONE, NONE, 0);
        trades(new int[] {51, -51}, 1, 50, 50, 0);
        trades(new int[] {52, -51}, 1, 50, 51, 1);
        trades(new int[] {1, -1}, 1, 0, 0, 0);
        trades(new int[] {100, -100}, 1, 99, 99, 0);
        doc("no less than any other buyer's, no more than any other seller's (if there are others)");
        trades(new int[] {90, 40, -10, -60}, 1, 39, 59, 80);
        trades(new int[] {90, 40, -10}, 1, 39, 89, 80);
        trades(new int[] {90, -10, -60}, 1, 9, 59, 80);
        trades(new int[] {90, 5, -10, -95}, 1, 9, 89, 80);
        trades(new int[] {90, 90, -10, -95}, 1, 89, 89, 80);
        trades(new int[] {90, -10, -10}, 1, 9, 9, 80);
        trades(new int[] {30, 31, 32, -1, -2, -3}, 3, 2, 29, 87);
        trades(new int[] {11, 21, 31, 41, 51, -11, -21, -31, -41, -51}, 3, 30, 30, 60);
        trades(new int[] {-51, -41, -31, -21, -11, 51, 41, 31, 21, 11}, 3, 30, 30, 60);
        trades(new int[] {1, 1, 1, 1, 1, 1, 1, 1, 1, -1}, 1, 0, 0, 0);
        trades(new int[] {100, -1, -1, -1, -1, -1, -1, -1, -1, -1}, 1, 0, 0, 99);
        trades(new int[] {100, 100, 100, 100, 100, -1, -1, -1, -1, -1}, 5, 0, 99, 495);
    }

    private static void whoseLaw() {
        doc("WHOSE LAW (told: SAID, 8 at most: a QUARREL, dues): TEXTS (bits) by whose dues all are so (as now)");
        QuarrelsPawned x = fresh();
        due("said(0,0): not told", x.said(0, 0), -2);
        due("whose(): no texts", x.whose(), 0);
        x.quarrel(0, 1, 50, 0);
        for (int i = 1; i <= 8; i++) {
            due("said " + i, x.said(0, i % 2 == 0 ? 9999 : 0), i);
            due("about(6)", x.about(6), i);
        }
        due("said 9", x.said(0, 0), -2);
        due("said(NONE,0)", x.said(NONE, 0), 0);
        due("about(6)", x.about(6), 0);
        due("said(NONE,10000)", x.said(NONE, 10000), 0);
        due("said(0,0)", x.said(0, 0), 1);
        due("said(1,0): not told", x.said(1, 0), -2);
        x.said(NONE, 0);
        String[] laws = {"dues 0;", "dues 9999;", "dues 0-5;", "dues 9999*9;"};
        for (int i = 0; i < 4; i++) {
            tell(x, laws[i]);
            due("whose(): nothing is said", x.whose(), (2 << i) - 1);
        }
        x.said(0, 0);
        due("whose(): 0 at least", x.whose(), 5);
        x.said(NONE, 0);
        x.said(0, 9999);
        due("whose(): 9999 at most", x.whose(), 10);
        x.said(0, 9998);
        due("whose(): not both", x.whose(), 0);
        x.said(NONE, 0);
        for (int i = 0; i < 7; i++) {
            x.said(0, 9999);
        }
        due("whose()", x.whose(), 10);
        x.said(0, 0);
        due("whose(): the eighth too", x.whose(), 0);
        x.by(1);
        x.said(NONE, 0);
        x.said(0, 0);
        due("whose(): whatever rules", x.whose(), 5);
        QuarrelsPawned each = fresh();
        for (int i = 0; i < 8; i++) {
            each.quarrel(0, 1, 10 + i, 0);
        }
        tell(each, "dues worth;");
        tell(each, "dues 10+number-number/7;");
        for (int i = 0; i < 8; i++) {
            each.said(i, 10 + i);
            due("whose() of " + (i + 1), each.whose(), i < 7 ? 3 : 1);
        }
        due("said(8,18)", each.said(8, 18), -2);
        QuarrelsPawned y = fresh();
        pawnAll(y, 50);
        tell(y, "dues purse;");
        tell(y, "dues held;");
        tell(y, "earn 1;");
        y.said(0, 25);
        due("whose()", y.whose(), 1);
        y.day(25);
        due("whose(): as now", y.whose(), 3);
        y.said(NONE, 0);
        y.said(0, 75);
        due("whose(): a text without dues", y.whose(), 4);
    }

    private static void hottestSilentLedger() {
        doc("HOTTEST: the QUARREL of most HEAT (maybe 0) that is going on; of like ones the lowest; none");
        QuarrelsPawned x = fresh();
        due("hottest()", x.hottest(), NONE);
        x.quarrel(0, 1, 2, 0);
        due("hottest(): of heat 0", x.hottest(), 0);
        x.quarrel(0, 1, 2, 0);
        due("hottest()", x.hottest(), 0);
        x.quarrel(0, 1, 2, 1);
        due("hottest()", x.hottest(), 2);
        for (int i = 3; i < 8; i++) {
            x.quarrel(0, 1, 2, 9);
        }
        due("hottest(): the lowest", x.hottest(), 3);
        int[] order = {3, 4, 5, 6, 7, 2, 0, 1};
        for (int i = 0; i < 8; i++) {
            due("hottest()", x.hottest(), order[i]);
            x.pawn(order[i]);
        }
        due("hottest(): all are pawned", x.hottest(), NONE);
        x.earn(9);
        x.redeem(7);
        due("hottest(): redeemed", x.hottest(), NONE);
        x.day(60);
        due("hottest(): sold", x.hottest(), NONE);
        doc("BY THE BOOK: how many lines there are of a kind");
        due("ledger(0)", x.ledger(0), 8);
        due("ledger(1)", x.ledger(1), 1);
        due("ledger(2)", x.ledger(2), 7);
        for (int what = 0; what < 3; what++) {
            due("ledger(" + what + ")", fresh().ledger(what), 0);
        }
    }

    // ------------------------------------------------------------------ V: years, images

    private static void yearsToTheEnds() {
        doc("YEARS by a SEED: X is SEED (0 .. 9999) * 2 + 373; n times (1 .. 40)");
        for (int seed : new int[] {0, 1, 2, 4999, 5000, 9998, 9999}) {
            for (int n : new int[] {1, 2, 39, 40}) {
                int drawn = seed * 2 + 373;
                int day = 0;
                int purse = 0;
                int rain = 0;
                for (int i = 0; i < n; i++) {
                    int x = drawn;
                    drawn = next(drawn);
                    if (x % 6 >= 4) {
                        rain = drawn % 10 < 4 ? 1 : 0;
                        drawn = next(drawn);
                        day++;
                    } else if (x % 6 == 3) {
                        purse += 1 + x / 6 % 9;
                    }
                }
                QuarrelsPawned port = fresh();
                due("years(" + seed + "," + n + ")", port.years(seed, n), day);
                due("is(0)", port.is(0), day);
                due("is(1)", port.is(1), drawn);
                due("is(2)", port.is(2), purse);
                due("is(3)", port.is(3), rain);
                due("about(3)", port.about(3), 1);
                due("undo()", port.undo(), 0);
                due("is(1)", port.is(1), 373);
                due("is(2)", port.is(2), 0);
            }
        }
        doc("3 1 and x / 6 mod 9 is EARNED (each if it can be)");
        for (int purse : new int[] {9989, 9990, 9991, 9999}) {
            QuarrelsPawned x = fresh();
            fill(x, purse);
            // 375 leaves 3, and 62 by 9 leaves 8
            x.years(1, 1);
            due("is(2) of " + purse, x.is(2), purse + 9 <= 9999 ? purse + 9 : purse);
            due("is(1)", x.is(1), next(375));
        }
        doc("1, 2 REDEEMED (if it can be)");
        for (int purse : new int[] {7, 8, 9}) {
            QuarrelsPawned x = fresh();
            pawnAll(x, 8);
            fill(x, purse);
            // 397 leaves 1
            x.years(12, 1);
            due("of(0,4) by " + purse, x.of(0, 4), purse >= 8 ? 2 : 1);
            due("is(2)", x.is(2), purse >= 8 ? purse - 8 : purse);
            due("is(1)", x.is(1), next(397));
        }
        yearsOfEachKind();
        doc("4, 5 a DAY (if it can pass)");
        QuarrelsPawned sold = fresh();
        pawnAll(sold, 8);
        sold.day(31);
        due("years(2,1): held for 31", sold.years(2, 1), 32);
        due("of(0,4)", sold.of(0, 4), 3);
        due("book(1,0)", sold.book(1, 0), 31);
        due("undo()", sold.undo() >= 0 ? sold.of(0, 4) : NONE, 1);
        for (int left = 0; left <= 1; left++) {
            QuarrelsPawned x = fresh();
            pass(x, 9999 - left);
            // 377 leaves 5
            due("years(2,1)", x.years(2, 1), 9999);
            due("is(1)", x.is(1), left == 0 ? next(377) : next(next(377)));
        }
        doc("What there are none of isn't");
        QuarrelsPawned none = fresh();
        due("years(0,1): 373 leaves 1, but there is no quarrel", none.years(0, 1), 0);
        due("is(1)", none.is(1), next(373));
        due("book(NONE,0)", none.book(NONE, 0), 0);
    }

    /** Steps that the image has are taken back and done in another way: the image has them as they were. */
    private static void imageOfThePast() {
        QuarrelsPawned x = fresh();
        x.quarrel(0, 1, 60, 3);
        x.quarrel(2, 3, 52, 4);
        tell(x, "dues 9999;");
        x.day(1);
        x.pawn(0);
        x.day(1);
        x.pawn(1);
        x.earns(7);
        x.hook(55);
        x.hook(60);
        x.bid(30, true);
        x.bid(10, false);
        x.said(0, 9999);
        int drawn = x.is(1);
        int rain = x.is(3);
        due("image()", x.image(), 2);
        for (int i = 0; i < 4; i++) {
            x.undo();
        }
        x.day(5);
        x.earn(1);
        x.pawn(1);
        x.pawn(0);
        x.earns(1);
        x.hook(NONE);
        x.hook(1);
        x.hook(2);
        x.bid(NONE, true);
        x.bid(3, false);
        x.bid(90, true);
        x.said(NONE, 0);
        x.said(1, 1);
        due("back()", x.back(), 2);
        due("is(1)", x.is(1), drawn);
        due("is(3)", x.is(3), rain);
        int[][] lines = {{1, 0, 0, 30}, {2, 1, 0, 56}};
        for (int i = 0; i < 8; i++) {
            due("book(" + i / 4 + "," + i % 4 + ")", x.book(i / 4, i % 4), lines[i / 4][i % 4]);
        }
        due("of(0,5)", x.of(0, 5), 1);
        due("of(1,5)", x.of(1, 5), 0);
        due("hung(9,NONE)", x.hung(9, NONE), 2);
        due("hung(5,0)", x.hung(5, 0), 1);
        due("market(1)", x.market(1), 10);
        due("market(2)", x.market(2), 30);
        due("whose()", x.whose(), 1);
        // 0 for 62 behind a day, then 1 for 62; or 1 for 52 now, then 0 for 73
        due("plan(3,0): 56, and 7 a day", x.plan(3, 0), 10);
        due("plan(3,1)", x.plan(3, 1), 124);
        int[] purses = {30, 30, 0, 0};
        for (int i = 0; i < 4; i++) {
            due("undo()", x.undo(), 3 - i);
            due("is(2)", x.is(2), purses[i]);
        }
    }

    /** A seed whose first draw earns and whose second is of this kind and for quarrel 1 of three. */
    private static int seedFor(int kind) {
        for (int seed = 0; seed <= 9999; seed++) {
            int first = seed * 2 + 373;
            int second = next(first);
            if (first % 6 == 3 && second % 6 == kind && second / 6 % 3 == 1) {
                return seed;
            }
        }
        due("a seed of kind " + kind, 0, 1);
        return 0;
    }

    private static void yearsOfEachKind() {
        doc("x mod 6: 0 QUARREL x / 6 mod how many is PAWNED, 1, 2 REDEEMED (each if it can be)");
        for (int kind = 0; kind < 3; kind++) {
            int seed = seedFor(kind);
            int earned = 1 + (seed * 2 + 373) / 6 % 9;
            for (int how = 0; how < 4; how++) {
                for (int less = 0; less < 2; less++) {
                    QuarrelsPawned x = ruled("dues 30;sells 0;");
                    x.quarrel(0, 1, 9, 0);
                    x.quarrel(0, 1, 8, 0);
                    x.quarrel(0, 1, 7, 0);
                    if (how > 0) {
                        x.pawn(1);
                    }
                    if (how == 2) {
                        x.earn(26);
                        x.redeem(1);
                    } else if (how == 3) {
                        x.by(NONE);
                        x.day(32);
                        x.by(0);
                    }
                    fill(x, 30 - earned - less);
                    int lines = x.book(NONE, 0);
                    x.years(seed, 2);
                    boolean pawns = kind == 0 && how == 0;
                    boolean redeems = kind > 0 && how == 1 && less == 0;
                    String name = "years(" + seed + ",2) of kind " + kind + ", how " + how + ", less by " + less;
                    due(name + ": of(1,4)", x.of(1, 4), pawns ? 1 : redeems ? 2 : how);
                    due(name + ": is(2)", x.is(2), 30 - less + (pawns ? 4 : 0) - (redeems ? 30 : 0));
                    due(name + ": book(NONE,0)", x.book(NONE, 0), lines + (pawns || redeems ? 1 : 0));
                    due(name + ": of(0,4)", x.of(0, 4), 0);
                    due(name + ": of(2,4)", x.of(2, 4), 0);
                    due(name + ": is(1)", x.is(1), next(next(seed * 2 + 373)));
                }
            }
        }
    }

    private static void images() {
        doc("1: THE IMAGE is this; 46: BACK to THE IMAGE (it stays): DAY");
        QuarrelsPawned x = busy();
        x.day(7);
        QuarrelsPawned never = fresh();
        never.day(5);
        tell(never, "earn 1;");
        for (int i = 0; i < 3; i++) {
            due("back(): to the new object", never.back(), 0);
            due("about(1)", never.about(1), 0);
            due("about(3)", never.about(3), 0);
            due("is(1)", never.is(1), 373);
            never.earn(5);
            never.quarrel(0, 1, 5, 5);
        }
        due("back(): to day 32", x.back(), 32);
        due("about(0)", x.about(0), 4);
        due("about(1)", x.about(1), 2);
        due("about(2)", x.about(2), NONE);
        due("about(4)", x.about(4), 0);
        due("about(5)", x.about(5), 0);
        due("about(6)", x.about(6), 0);
        due("tickets(NONE)", x.tickets(NONE), 1000);
        doc("AN IMAGE: all as it is, but the tape and the latest FAULT");
        due("about(7): the tape of now", x.about(7), 14);
        due("fault(0): the FAULT of now", x.fault(0), 2);
        due("fault(1)", x.fault(1), 5);
        doc("45: THE IMAGE is as all is now: DAY");
        for (Maker maker : new Maker[] {QuarrelsPawnedBoundaries::fresh, QuarrelsPawnedBoundaries::busy,
            QuarrelsPawnedBoundaries::full, QuarrelsPawnedBoundaries::last}) {
            QuarrelsPawned a = maker.make();
            QuarrelsPawned b = maker.make();
            due("image()", a.image(), a.is(0));
            b.image();
            a.years(77, 20);
            a.quarrel(2, 5, 9, 9);
            a.by(NONE);
            a.undo();
            a.undo();
            a.earns(50);
            a.digit(2, 2);
            a.hook(NONE);
            a.hook(44);
            a.bid(NONE, true);
            a.said(NONE, 0);
            due("back()", a.back(), a.is(0));
            List<Integer> with = trace(a);
            List<Integer> without = trace(b);
            due("all is so again", with.equals(without) ? 1 : 0, 1);
        }
        imageOfThePast();
        doc("46: (it stays)");
        QuarrelsPawned y = fresh();
        y.earn(3);
        y.image();
        for (int i = 0; i < 3; i++) {
            y.undo();
            y.earn(4);
            y.day(2);
            due("back()", y.back(), 0);
            due("is(2)", y.is(2), 3);
            due("about(3)", y.about(3), 1);
        }
        due("undo(): the steps are kept too", y.undo(), 0);
        due("is(2)", y.is(2), 0);
    }
}
