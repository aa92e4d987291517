/** Each promise of the document by number: ordinary inputs, edges, wrong inputs; what is due was worked out by hand. */
public final class QuarrelsPawnedPromises {
    private static final int NONE = QuarrelsPawned.NONE;
    private static int wrong = 0;
    private static int asked = 0;
    private static int promise = 0;

    private static void due(String call, long got, long want) {
        asked++;
        if (got != want) {
            wrong++;
            System.out.println("promise " + promise + ": " + call + " answered " + got + ", due is " + want);
        }
    }

    private static void yes(String call, boolean got) {
        due(call, got ? 1 : 0, 1);
    }

    private static void no(String call, boolean got) {
        due(call, got ? 1 : 0, 0);
    }

    private static void tape(QuarrelsPawned x, String text) {
        x.end(0);
        for (int i = 0; i < text.length(); i += 20) {
            int[] v = new int[5];
            for (int k = 0; k < 20; k++) {
                int b = i + k < text.length() ? text.charAt(i + k) : 0;
                v[k / 4] |= b << 24 - 8 * (k % 4);
            }
            x.feed(v[0], v[1], v[2], v[3], v[4]);
        }
        x.end(text.length());
    }

    private static int tell(QuarrelsPawned x, String text) {
        tape(x, text);
        return x.text();
    }

    /** A port that is ruled by this text (its number is 0). */
    private static QuarrelsPawned ruled(String text) {
        QuarrelsPawned x = new QuarrelsPawned();
        due("text '" + text + "'", tell(x, text), 0);
        yes("by(0)", x.by(0));
        return x;
    }

    private static void reads(String text, int fault, int place) {
        QuarrelsPawned x = new QuarrelsPawned();
        due("text() of '" + text + "'", tell(x, text), fault == 0 ? 0 : NONE);
        due("fault(0) of '" + text + "'", x.fault(0), fault);
        due("fault(1) of '" + text + "'", x.fault(1), place);
    }

    private static String times(int n, String text) {
        return text.repeat(n);
    }

    /** What a law says of a quarrel 0 between 1 and 2 of worth 20 and heat 4, pawned on day 0, a day ago. */
    private static void says(String sum, int want) {
        QuarrelsPawned x = ruled("dues " + sum + ";sells " + "0;");
        x.quarrel(1, 2, 20, 4);
        x.pawn(0);
        x.quarrel(2, 3, 30, 7);
        x.day(1);
        due("dues " + sum, x.of(0, 6), want);
    }

    public static void main(String[] args) {
        newObject();
        quarrel();
        feedAndEnd();
        text();
        fault();
        by();
        laws();
        pawn();
        redeem();
        earn();
        day();
        lastDay();
        played();
        years();
        undo();
        ofAndIs();
        bounds();
        book();
        foretold();
        talk();
        costs();
        ways();
        forAll();
        cutsAndGossips();
        cool();
        plans();
        planLimits();
        best();
        tickets();
        hooks();
        market();
        whose();
        hottest();
        silent();
        ledger();
        image();
        imageOfThePast();
        about();
        System.out.println(wrong == 0 ? "all " + asked + " answers are as due" : wrong + " answers are not as due");
        if (wrong != 0) {
            System.exit(1);
        }
    }

    private static void newObject() {
        promise = 1;
        QuarrelsPawned x = new QuarrelsPawned();
        due("NONE", QuarrelsPawned.NONE, -1);
        int[] about = {0, 0, -1, 0, 0, 0, 0, 0};
        for (int i = 0; i < about.length; i++) {
            due("about(" + i + ")", x.about(i), about[i]);
        }
        int[] is = {0, 373, 0, 0, 0};
        for (int i = 0; i < is.length; i++) {
            due("is(" + i + ")", x.is(i), is[i]);
        }
        due("book(-1, 0)", x.book(NONE, 0), 0);
        due("undo()", x.undo(), NONE);
        x.quarrel(0, 1, 5, 5);
        x.earn(7);
        x.day(3);
        due("back()", x.back(), 0);
        due("about(0)", x.about(0), 0);
        due("is(1)", x.is(1), 373);
        due("is(2)", x.is(2), 0);
        due("about(3)", x.about(3), 0);
    }

    private static void quarrel() {
        promise = 2;
        QuarrelsPawned x = new QuarrelsPawned();
        due("quarrel(-1,1,1,1)", x.quarrel(-1, 1, 1, 1), NONE);
        due("quarrel(6,1,1,1)", x.quarrel(6, 1, 1, 1), NONE);
        due("quarrel(1,-1,1,1)", x.quarrel(1, -1, 1, 1), NONE);
        due("quarrel(1,6,1,1)", x.quarrel(1, 6, 1, 1), NONE);
        due("quarrel(3,3,1,1)", x.quarrel(3, 3, 1, 1), NONE);
        due("quarrel(0,1,0,1)", x.quarrel(0, 1, 0, 1), NONE);
        due("quarrel(0,1,100,1)", x.quarrel(0, 1, 100, 1), NONE);
        due("quarrel(0,1,1,-1)", x.quarrel(0, 1, 1, -1), NONE);
        due("quarrel(0,1,1,10)", x.quarrel(0, 1, 1, 10), NONE);
        due("quarrel(min)", x.quarrel(Integer.MIN_VALUE, Integer.MAX_VALUE, 1, 1), NONE);
        due("about(0)", x.about(0), 0);
        due("quarrel(5,0,1,0)", x.quarrel(5, 0, 1, 0), 0);
        due("quarrel(0,5,99,9)", x.quarrel(0, 5, 99, 9), 1);
        due("of(0,0)", x.of(0, 0), 5);
        due("of(0,1)", x.of(0, 1), 0);
        due("of(1,2)", x.of(1, 2), 99);
        due("of(1,3)", x.of(1, 3), 9);
        due("of(1,4)", x.of(1, 4), 0);
        for (int i = 2; i < 8; i++) {
            due("quarrel " + i, x.quarrel(1, 2, 10, 1), i);
        }
        due("the ninth", x.quarrel(1, 2, 10, 1), NONE);
        due("about(0)", x.about(0), 8);
        due("about(3)", x.about(3), 0);
    }

    private static void feedAndEnd() {
        promise = 3;
        QuarrelsPawned x = new QuarrelsPawned();
        for (int i = 1; i <= 15; i++) {
            due("feed " + i, x.feed(0x20202020, 0x20202020, 0x20202020, 0x20202020, 0x20202020), 20 * i);
        }
        due("feed 16", x.feed(0, 0, 0, 0, 0), NONE);
        due("about(7)", x.about(7), 300);
        promise = 4;
        due("end(301)", x.end(301), NONE);
        due("end(-1)", x.end(-1), NONE);
        due("about(7)", x.about(7), 300);
        due("end(281)", x.end(281), 281);
        promise = 3;
        due("feed at 281", x.feed(0, 0, 0, 0, 0), NONE);
        promise = 4;
        due("end(280)", x.end(280), 280);
        promise = 3;
        due("feed at 280", x.feed(0, 0, 0, 0, 0), 300);
        promise = 4;
        due("end(300)", x.end(300), 300);
        due("end(4)", x.end(4), 4);
        due("end(5)", x.end(5), NONE);
        due("about(7)", x.about(7), 4);
        due("end(0)", x.end(0), 0);
        due("end(0)", x.end(0), 0);
        due("end(1)", x.end(1), NONE);
        promise = 3;
        // "earn 9;ear" and "n 1;day 2;" with the highest byte of each first
        due("feed", x.feed(0x6561726e, 0x20393b65, 0x61726e20, 0x313b6461, 0x7920323b), 20);
        due("text()", x.text(), 0);
        due("played(0)", x.played(0), NONE);
        due("is(2)", x.is(2), 10);
        due("is(0)", x.is(0), 2);
        // the uppermost bit is a byte's too: 255 is no token
        due("feed", x.feed(0xff000000, 0, 0, 0, 0), 20);
        due("text()", x.text(), NONE);
        due("fault(1)", x.fault(1), 0);
    }

    private static void text() {
        promise = 5;
        QuarrelsPawned x = new QuarrelsPawned();
        due("text() of nothing", x.text(), 0);
        due("fault(0)", x.fault(0), 0);
        due("about(1)", x.about(1), 1);
        due("text", tell(x, "dues 1;"), 1);
        due("about(7)", x.about(7), 0);
        due("text", tell(x, "dues"), NONE);
        due("about(7) behind a fault", x.about(7), 0);
        due("about(1)", x.about(1), 2);
        due("text", tell(x, "dues 2;"), 2);
        due("text", tell(x, "dues 3;"), 3);
        tape(x, "dues ;");
        due("text()", x.text(), NONE);
        due("about(7): it stays", x.about(7), 6);
        due("fault(0): none was read", x.fault(0), 0);
        due("about(1)", x.about(1), 4);
        x.back();
        due("about(7) behind back", x.about(7), 6);
        due("text()", x.text(), NONE);
        due("fault(1)", x.fault(1), 5);
    }

    private static void fault() {
        promise = 6;
        QuarrelsPawned x = new QuarrelsPawned();
        due("fault(0)", x.fault(0), NONE);
        due("fault(1)", x.fault(1), NONE);
        due("fault(2)", x.fault(2), NONE);
        tell(x, "dues 10000;");
        due("fault(0)", x.fault(0), 2);
        due("fault(-1)", x.fault(-1), NONE);
        due("fault(2)", x.fault(2), NONE);
        x.back();
        due("fault(0) behind back", x.fault(0), 2);
        due("fault(1) behind back", x.fault(1), 5);
        tell(x, "dues 1;");
        due("fault(0)", x.fault(0), 0);
        due("fault(1)", x.fault(1), NONE);
        faultsOfPlace();
        faultsOfNumbers();
        faultsOfDepth();
        faultsOfLaws();
        faultsOfCutTapes();
        textsOneBehindTheOther();
    }

    private static void readsCut(String text, int n, int fault, int place) {
        QuarrelsPawned x = new QuarrelsPawned();
        tape(x, text);
        due("end(" + n + ")", x.end(n), n);
        due("text() of '" + text + "' to " + n, x.text(), fault == 0 ? 0 : NONE);
        due("fault(0) of '" + text + "' to " + n, x.fault(0), fault);
        due("fault(1) of '" + text + "' to " + n, x.fault(1), place);
    }

    /** What stood behind the end of the tape is not read. */
    private static void faultsOfCutTapes() {
        readsCut("earn 12;", 6, 1, 6);
        readsCut("earn 12;", 7, 1, 7);
        readsCut("earn 1234;", 8, 1, 8);
        readsCut("dues  1;", 5, 1, 5);
        readsCut("dues 1;  !", 8, 0, NONE);
        readsCut("pawned", 4, 1, 4);
        readsCut("dues if 1<=2", 10, 1, 10);
        readsCut("dues 1;day 2;", 7, 0, NONE);
        readsCut("dues purser;", 10, 1, 10);
        // a 60 cut from 601 is a number of days
        readsCut("day 601;", 6, 1, 6);
    }

    /** Nothing of a text that was read stays for the next. */
    private static void textsOneBehindTheOther() {
        QuarrelsPawned x = new QuarrelsPawned();
        x.quarrel(0, 1, 50, 0);
        String ones = "1" + times(140, "+1");
        for (int i = 0; i < 4; i++) {
            due("a long law with a fault", tell(x, "sells 0;dues " + ones), NONE);
            due("fault(1)", x.fault(1), 294);
        }
        due("text", tell(x, "sells 7;earn 1;earn 1;earn 1;dues 8;"), 0);
        due("text", tell(x, "dues 9;"), 1);
        due("text", tell(x, "sells 4;dues " + ones + ";"), 2);
        due("text", tell(x, "earn 1;"), 3);
        int[][] want = {{8, 7}, {9, -30}, {141, 4}, {50, -30}};
        for (int i = 0; i < 4; i++) {
            x.by(i);
            due("dues by text " + i, x.of(0, 6), want[i][0]);
            due("sells by text " + i, x.of(0, 7), want[i][1]);
        }
        due("played(3)", x.played(3), NONE);
        due("is(2)", x.is(2), 1);
    }

    private static void faultsOfPlace() {
        reads("", 0, NONE);
        reads(" \n ", 0, NONE);
        reads(" dues\n1 ; ", 0, NONE);
        reads("dues", 1, 4);
        reads("dues  ", 1, 6);
        reads("Dues 1;", 1, 0);
        reads("due 1;", 1, 0);
        reads("duess 1;", 1, 0);
        reads("dues1;", 0, NONE);
        reads("dues\t1;", 1, 4);
        reads("dues 1", 1, 6);
        reads("dues 1;;", 1, 7);
        reads("dues 1 1;", 1, 7);
        reads("dues ();", 1, 6);
        reads("dues (1;", 1, 7);
        reads("dues 1);", 1, 6);
        reads("dues 1+;", 1, 7);
        reads("dues *1;", 1, 5);
        reads("dues +1;", 1, 5);
        reads("dues 1!;", 1, 6);
        reads("! dues 1;", 1, 0);
        reads("dues dues;", 1, 5);
        reads("dues not 1;", 1, 5);
        reads("dues foo;", 1, 5);
        reads("dues z;", 1, 5);
        reads("dues 1z;", 1, 6);
        reads("pawnz 1;", 1, 0);
        reads("pawnA 1;", 1, 0);
        reads("pawnZ 1;", 1, 0);
        reads("pawn[1;", 1, 4);
        reads("pawn@1;", 1, 4);
        reads("pawn`1;", 1, 4);
        reads("pawn{1;", 1, 4);
        reads("pawn:1;", 1, 4);
        reads("Apawn 1;", 1, 0);
        reads("dues end;", 1, 5);
        reads("pawn heat;", 1, 5);
        reads("pawn -1;", 1, 5);
        reads("pawn;", 1, 4);
        reads("quarrel 0 with 1 worth 1;", 1, 10);
        reads("quarrel 0 by 1 heat 1;", 1, 15);
        reads("quarrel x by 1 worth 1;", 1, 8);
        reads("quarrel 0 by 1 worth 1", 1, 22);
        reads("dues if day then 1 else 2 end;", 1, 12);
        reads("dues if 1<2 then 1 end;", 1, 19);
        reads("dues if 1<2 then 1 else 2;", 1, 25);
        reads("dues if (1<2) then 1 else 2 end;", 1, 10);
        reads("dues if 1< =2 then 1 else 2 end;", 1, 11);
        reads("dues if 1<=2 then 1 else 2 end;", 0, NONE);
        reads("dues if 1=<2 then 1 else 2 end;", 1, 10);
        reads("dues if 1<=", 1, 11);
        reads("dues if 1<", 1, 10);
        reads("dues if 1<2<3 then 1 else 2 end;", 1, 11);
        reads("dues if 1<2 and then 1 else 2 end;", 1, 16);
        reads("dues if not not 1#1 or 2>=1 and 3>2 then 1 else 2 end;", 0, NONE);
        reads("dues rest 1 2;", 1, 12);
        reads("dues rest -1 by hot 2*3;", 0, NONE);
    }

    private static void faultsOfNumbers() {
        reads("dues 9999;", 0, NONE);
        reads("dues 10000;", 2, 5);
        reads("dues 00009999;", 0, NONE);
        reads("dues 99999999999999999999;", 2, 5);
        reads("dues 4294967297;", 2, 5);
        reads("dues 1 99999;", 1, 7);
        reads("99999;", 1, 0);
        reads("pawn 99999", 2, 5);
        reads("day 0;", 2, 4);
        reads("day 1;", 0, NONE);
        reads("day 60;", 0, NONE);
        reads("day 61;", 2, 4);
        reads("earn 0;", 2, 5);
        reads("earn 1;", 0, NONE);
        reads("earn 999;", 0, NONE);
        reads("earn 1000;", 2, 5);
        reads("pawn 7;redeem 7;", 0, NONE);
        reads("pawn 8;", 2, 5);
        reads("redeem 8;", 2, 7);
        reads("quarrel 5 by 0 worth 99;", 0, NONE);
        reads("quarrel 6 by 0 worth 99;", 2, 8);
        reads("quarrel 0 by 6 worth 99;", 2, 13);
        reads("quarrel 0 by 5 worth 0;", 2, 21);
        reads("quarrel 0 by 5 worth 100;", 2, 21);
        reads("quarrel 3 by 3 worth 1;", 0, NONE);
    }

    private static void faultsOfDepth() {
        reads("dues " + times(8, "(") + "1" + times(8, ")") + ";", 0, NONE);
        reads("dues " + times(9, "(") + "1" + times(9, ")") + ";", 3, 13);
        reads("dues " + times(8, "-") + "1;", 0, NONE);
        reads("dues " + times(9, "-") + "1;", 3, 13);
        reads("dues 1" + times(20, "-1") + ";", 0, NONE);
        reads("dues -1" + times(20, "+-1") + ";", 0, NONE);
        reads("dues " + times(8, "hot ") + "1;", 0, NONE);
        reads("dues " + times(9, "hot ") + "1;", 3, 37);
        reads("dues " + times(8, "rest ") + "1" + times(8, " by 1") + ";", 0, NONE);
        reads("dues " + times(9, "rest ") + "1" + times(9, " by 1") + ";", 3, 45);
        reads("dues " + times(8, "rest 1 by ") + "1;", 0, NONE);
        reads("dues " + times(9, "rest 1 by ") + "1;", 3, 85);
        reads("dues if " + times(7, "not ") + "1=1 then 1 else 2 end;", 0, NONE);
        reads("dues if " + times(8, "not ") + "1=1 then 1 else 2 end;", 3, 36);
        reads("dues " + times(8, "if ") + "1" + times(8, "=1 then 1 else 1 end") + ";", 0, NONE);
        reads("dues " + times(9, "if ") + "1" + times(9, "=1 then 1 else 1 end") + ";", 3, 29);
        reads("dues " + times(8, "if 1=1 then 1 else ") + "1" + times(8, " end") + ";", 0, NONE);
        String eight = times(8, "(") + "1" + times(8, ")");
        reads("dues rest 1 by 1 + hot 1 + -1 + if 1=1 then 1 else 1 end + " + eight + " ;", 0, NONE);
        reads("dues rest " + eight + " by 1;", 3, 17);
        reads("dues rest 1 by " + eight + ";", 3, 22);
        reads("dues if not 1=1 and 1=" + eight + " then 1 else 1 end;", 3, 29);
        reads("dues " + times(8, "(") + "not", 1, 13);
    }

    private static void faultsOfLaws() {
        reads("dues day+rain+number+worth+heat+held+purse;", 0, NONE);
        reads("sells day+rain+number+worth+heat+held+pawned;", 0, NONE);
        reads("dues pawned;", 5, 5);
        reads("sells purse;", 5, 6);
        reads("sells 1 purse;", 1, 8);
        reads("dues 1;sells purse;", 5, 13);
        reads("sells 1;dues purse;", 0, NONE);
        reads("sells 1;dues pawned;", 5, 13);
        reads("sells " + times(8, "(") + "1" + times(8, ")") + ";", 0, NONE);
        reads("sells " + times(9, "(") + "1" + times(9, ")") + ";", 3, 14);
        reads("dues 1;dues 2;", 4, 7);
        reads("sells 1;dues 1;sells 2;", 4, 15);
        reads(times(24, "day 1;") + "  ", 0, NONE);
        reads(times(25, "day 1;"), 6, 144);
        reads(times(24, "day 1;") + "1;", 1, 144);
        reads("dues 1;" + times(23, "day 1;") + "dues 1;", 4, 145);
        reads("dues 1;" + times(23, "day 1;") + "sells 1;", 6, 145);
    }

    private static void by() {
        promise = 7;
        QuarrelsPawned x = new QuarrelsPawned();
        no("by(0)", x.by(0));
        yes("by(NONE)", x.by(NONE));
        tell(x, "dues 7;");
        tell(x, "dues 8;sells 1;");
        due("about(2)", x.about(2), NONE);
        x.quarrel(0, 1, 50, 0);
        due("of(0,6)", x.of(0, 6), 50);
        yes("by(0)", x.by(0));
        due("about(2)", x.about(2), 0);
        due("of(0,6)", x.of(0, 6), 7);
        due("of(0,7)", x.of(0, 7), -30);
        yes("by(1)", x.by(1));
        due("of(0,6)", x.of(0, 6), 8);
        due("of(0,7)", x.of(0, 7), 1);
        no("by(2)", x.by(2));
        no("by(-2)", x.by(-2));
        no("by(4)", x.by(4));
        due("about(2)", x.about(2), 1);
        yes("by(NONE)", x.by(NONE));
        due("about(2)", x.about(2), NONE);
        due("of(0,6)", x.of(0, 6), 50);
    }

    /** The language: of(0, 6) of a law about quarrel 0, a day behind its pawning. */
    private static void laws() {
        promise = 15;
        says("1+2*3", 7);
        says("(1+2)*3", 9);
        says("10-3-2", 5);
        says("100/7/2", 7);
        says("7/2*2", 6);
        says("10-7/2", 7);
        says("-7/2+10", 7);
        says("10 - -7/2", 13);
        says("5/0+3", 3);
        says("0-5", 0);
        says("-5+6", 1);
        says("- -5", 5);
        says("2*-3+10", 4);
        says("9999+9999", 9999);
        says("9999*9999/1000", 1000);
        says("9999*9999-9990*100", 1000);
        says("-9999*9999+9999*100+999", 899);
        says("(9999*9999+9999*9999)/1000", 1000);
        says("(0-9999*9999-9999*9999)/1000+1001", 1);
        says("rest 17 by 5", 2);
        says("rest -17 by 5", 2);
        says("rest 17 by -5", 2);
        says("rest 17 by 0", 0);
        says("rest 17 by 5*10", 20);
        says("rest rest 17 by 10 by 4", 3);
        says("1+rest 9 by rest 11 by 6", 5);
        says("hot 0", 4);
        says("hot number", 4);
        // 15283 by 2 leaves 1: it is going on, and has 1 more
        says("hot 1", 8);
        says("hot 2", 0);
        says("hot 8", 0);
        says("hot -1", 0);
        says("hot 1+1", 9);
        says("hot (9999*9999)", 0);
        says("day", 1);
        says("rain", 1);
        says("number", 0);
        says("worth", 20);
        says("heat", 4);
        says("held", 1);
        says("purse", 10);
        says("if 1<2 then 3 else 4 end", 3);
        says("if 2<2 then 3 else 4 end", 4);
        says("if 2<=2 then 3 else 4 end", 3);
        says("if 3<=2 then 3 else 4 end", 4);
        says("if 2>2 then 3 else 4 end", 4);
        says("if 3>2 then 3 else 4 end", 3);
        says("if 2>=2 then 3 else 4 end", 3);
        says("if 1>=2 then 3 else 4 end", 4);
        says("if 2=2 then 3 else 4 end", 3);
        says("if 2=3 then 3 else 4 end", 4);
        says("if 2#2 then 3 else 4 end", 4);
        says("if 2#3 then 3 else 4 end", 3);
        says("if not 1=1 then 3 else 4 end", 4);
        says("if not not 1=1 then 3 else 4 end", 3);
        says("if not 1=2 and 1=2 then 3 else 4 end", 4);
        says("if not 1=1 or 1=1 then 3 else 4 end", 3);
        says("if 1=1 or 1=2 and 1=2 then 3 else 4 end", 3);
        says("if 1=2 or 1=1 and 1=1 then 3 else 4 end", 3);
        says("if 1=2 or 1=2 and 1=1 then 3 else 4 end", 4);
        says("if 1=1 and 1=1 then 3 else 4 end", 3);
        says("if 1=1 and 1=2 then 3 else 4 end", 4);
        says("if 1=2 and 1=1 then 3 else 4 end", 4);
        says("if 1=2 or 1=2 then 3 else 4 end", 4);
        says("if 1+1=2*1 then 3+1 else 4 end*2", 8);
        says("2*if 1=1 then if 1=2 then 1 else 5 end else 9 end+1", 11);
        QuarrelsPawned eight = ruled("dues hot 8+hot 7;");
        for (int i = 0; i < 8; i++) {
            eight.quarrel(0, 1, 5, 9);
        }
        due("of(0,6): there is no 8", eight.of(0, 6), 9);
        QuarrelsPawned x = ruled("sells pawned*10+number;");
        x.quarrel(0, 1, 5, 0);
        x.quarrel(0, 2, 5, 0);
        x.quarrel(0, 3, 5, 0);
        due("of(2,7)", x.of(2, 7), 2);
        x.pawn(0);
        x.pawn(2);
        due("of(2,7)", x.of(2, 7), 22);
        due("of(1,7)", x.of(1, 7), 21);
    }

    private static void pawn() {
        promise = 8;
        QuarrelsPawned x = new QuarrelsPawned();
        no("pawn(0)", x.pawn(0));
        x.quarrel(0, 1, 5, 3);
        x.quarrel(0, 2, 99, 3);
        no("pawn(-1)", x.pawn(-1));
        no("pawn(2)", x.pawn(2));
        no("pawn(max)", x.pawn(Integer.MAX_VALUE));
        due("about(3)", x.about(3), 0);
        x.day(2);
        yes("pawn(0)", x.pawn(0));
        due("is(2)", x.is(2), 2);
        due("of(0,4)", x.of(0, 4), 1);
        due("of(0,5)", x.of(0, 5), 0);
        due("about(3)", x.about(3), 3);
        no("pawn(0) again", x.pawn(0));
        due("about(3)", x.about(3), 3);
        due("book(0,0)", x.book(0, 0), 2);
        due("book(0,2)", x.book(0, 2), 0);
        due("book(0,3)", x.book(0, 3), 2);
        x.earn(10);
        x.redeem(0);
        no("pawn(0) when redeemed", x.pawn(0));
        for (int i = 0; i < 10; i++) {
            x.earn(999);
        }
        due("is(2)", x.is(2), 9997);
        yes("pawn(1)", x.pawn(1));
        due("is(2)", x.is(2), 9999);
        due("book(2,3)", x.book(2, 3), 9999);
        x.day(32);
        due("of(1,4)", x.of(1, 4), 3);
        no("pawn(1) when sold", x.pawn(1));
    }

    private static void redeem() {
        promise = 9;
        QuarrelsPawned x = new QuarrelsPawned();
        due("redeem(0)", x.redeem(0), NONE);
        x.quarrel(0, 1, 10, 3);
        due("redeem(0) going on", x.redeem(0), NONE);
        due("redeem(-1)", x.redeem(-1), NONE);
        due("redeem(1)", x.redeem(1), NONE);
        x.pawn(0);
        due("redeem(0) of 5", x.redeem(0), NONE);
        x.earn(4);
        due("redeem(0) of 9", x.redeem(0), NONE);
        due("about(3)", x.about(3), 2);
        x.earn(1);
        due("redeem(0) of 10", x.redeem(0), 10);
        due("is(2)", x.is(2), 0);
        due("of(0,4)", x.of(0, 4), 2);
        due("about(3)", x.about(3), 4);
        due("redeem(0) again", x.redeem(0), NONE);
        due("book(1,2)", x.book(1, 2), 1);
        x.quarrel(1, 2, 40, 3);
        x.pawn(1);
        x.day(5);
        x.earn(50);
        due("redeem(1): 40 and 5 by 40 by 50", x.redeem(1), 44);
        due("is(2)", x.is(2), 26);
        x.quarrel(1, 2, 40, 3);
        x.pawn(2);
        x.day(32);
        due("of(2,4)", x.of(2, 4), 3);
        due("redeem(2) when sold", x.redeem(2), NONE);
        x.quarrel(1, 2, 50, 3);
        x.pawn(3);
        x.earn(50);
        due("redeem(3) on the same day", x.redeem(3), 50);
        QuarrelsPawned free = ruled("dues 0-5;");
        free.quarrel(0, 1, 1, 0);
        free.pawn(0);
        due("redeem(0) for nothing", free.redeem(0), 0);
        due("of(0,4)", free.of(0, 4), 2);
    }

    private static void earn() {
        promise = 10;
        QuarrelsPawned x = new QuarrelsPawned();
        no("earn(0)", x.earn(0));
        no("earn(-1)", x.earn(-1));
        no("earn(1000)", x.earn(1000));
        no("earn(max)", x.earn(Integer.MAX_VALUE));
        due("about(3)", x.about(3), 0);
        yes("earn(1)", x.earn(1));
        for (int i = 0; i < 10; i++) {
            yes("earn(999)", x.earn(999));
        }
        no("earn(9)", x.earn(9));
        due("is(2)", x.is(2), 9991);
        yes("earn(8)", x.earn(8));
        no("earn(1)", x.earn(1));
        due("is(2)", x.is(2), 9999);
        due("about(3)", x.about(3), 12);
    }

    private static void day() {
        promise = 11;
        QuarrelsPawned x = new QuarrelsPawned();
        due("day(0)", x.day(0), NONE);
        due("day(61)", x.day(61), NONE);
        due("day(-1)", x.day(-1), NONE);
        due("day(1)", x.day(1), 0);
        due("is(1): no quarrel, one draw", x.is(1), 15283);
        due("is(3)", x.is(3), 1);
        due("day(2)", x.day(2), 0);
        due("is(1)", x.is(1), 19136);
        due("is(3): 14144 by 10", x.is(3), 0);
        due("is(0)", x.is(0), 3);
        due("day(60)", x.day(60), 0);
        due("is(0)", x.is(0), 63);

        QuarrelsPawned heats = new QuarrelsPawned();
        heats.quarrel(0, 1, 9, 8);
        heats.day(1);
        due("of(0,3)", heats.of(0, 3), 9);
        heats.day(1);
        due("of(0,3): 9 at most", heats.of(0, 3), 9);
        due("is(3): 14144 by 10", heats.is(3), 0);
        heats.pawn(0);
        heats.day(1);
        due("is(3): 22084 by 10", heats.is(3), 0);
        due("of(0,3): without rain", heats.of(0, 3), 9);

        QuarrelsPawned rain = new QuarrelsPawned();
        rain.quarrel(0, 1, 9, 1);
        rain.quarrel(0, 1, 9, 1);
        rain.pawn(1);
        rain.day(1);
        due("15283 by 2 is 1", rain.of(1, 3), 0);
        due("of(0,3)", rain.of(0, 3), 1);
        rain.undo();
        rain.quarrel(0, 1, 9, 0);
        rain.pawn(2);
        rain.day(1);
        due("15283 by 3 is 1", rain.of(1, 3), 0);
        rain.undo();
        rain.redeem(1);
        rain.earn(9);
        rain.redeem(1);
        due("of(1,4)", rain.of(1, 4), 2);
        rain.day(1);
        due("redeemed: the heat stays", rain.of(1, 3), 1);

        QuarrelsPawned cold = new QuarrelsPawned();
        cold.quarrel(0, 1, 9, 0);
        cold.pawn(0);
        cold.day(1);
        due("not below 0", cold.of(0, 3), 0);

        sold();
    }

    private static void sold() {
        QuarrelsPawned x = new QuarrelsPawned();
        x.quarrel(0, 1, 10, 2);
        x.quarrel(1, 2, 10, 2);
        x.pawn(0);
        x.day(1);
        x.pawn(1);
        due("day(30)", x.day(30), 0);
        due("of(0,5)", x.of(0, 5), 31);
        due("of(0,7)", x.of(0, 7), 1);
        due("day(1)", x.day(1), 1);
        due("of(0,4)", x.of(0, 4), 3);
        due("of(1,4)", x.of(1, 4), 1);
        due("book(2,0)", x.book(2, 0), 31);
        due("book(2,1)", x.book(2, 1), 0);
        due("book(2,2)", x.book(2, 2), 2);
        due("book(2,3)", x.book(2, 3), 10);
        due("day(2)", x.day(2), 1);
        due("book(3,0)", x.book(3, 0), 32);
        // one sold is pawned no more when the next is asked for
        QuarrelsPawned y = ruled("sells pawned-2;");
        for (int i = 0; i < 4; i++) {
            y.quarrel(0, 1, 10, 2);
            y.pawn(i);
        }
        due("day(1)", y.day(1), 2);
        due("of(1,4)", y.of(1, 4), 3);
        due("of(2,4)", y.of(2, 4), 1);
        // by rain and heat as they are behind the draws
        QuarrelsPawned z = ruled("sells if rain=1 and heat=2 then 1 else 0 end;");
        z.quarrel(0, 1, 10, 3);
        z.pawn(0);
        due("day(1)", z.day(1), 1);
        // more than 0: 0 is not enough
        QuarrelsPawned w = ruled("sells day;");
        w.quarrel(0, 1, 10, 3);
        w.pawn(0);
        due("day(1)", w.day(1), 0);
        due("day(1)", w.day(1), 1);
    }

    private static void lastDay() {
        promise = 11;
        QuarrelsPawned x = new QuarrelsPawned();
        for (int i = 0; i < 166; i++) {
            x.day(60);
        }
        due("is(0)", x.is(0), 9960);
        int at = x.is(1);
        due("day(40)", x.day(40), NONE);
        due("is(1): nothing is done", x.is(1), at);
        due("day(38)", x.day(38), 0);
        promise = 12;
        due("text", tell(x, "earn 1;day 3;earn 1;"), 0);
        due("played(0): one day passes", x.played(0), 1);
        due("is(0)", x.is(0), 9999);
        due("is(2)", x.is(2), 1);
        due("about(3)", x.about(3), 30);
        promise = 11;
        due("day(1)", x.day(1), NONE);
        promise = 13;
        // 377 by 6 leaves 5: a day, which can't pass
        due("years(2,1)", x.years(2, 1), 9999);
        due("is(1)", x.is(1), 17759);
        promise = 18;
        x.quarrel(0, 1, 10, 5);
        due("foretold: none can pass", x.foretold(60, 0, 1), 5);
        promise = 11;
        due("undo()", x.undo(), 29);
        due("undo()", x.undo(), 28);
        due("is(0)", x.is(0), 9998);
        due("day(2)", x.day(2), NONE);
        due("day(1)", x.day(1), 0);
        due("is(0)", x.is(0), 9999);
        promise = 30;
        x.pawn(0);
        tell(x, "dues if day-2=9999 then 1 else 9999 end;");
        x.by(1);
        due("plan beyond 9999", x.plan(1, 0), 2);
        promise = 31;
        due("best beyond 9999", x.best(0, 5, true), 2);
        due("best beyond 9999", x.best(0, 5, false), 1);
        due("best beyond 9999", x.best(0, 1, false), 9999);
    }

    private static void played() {
        promise = 12;
        QuarrelsPawned x = new QuarrelsPawned();
        due("played(0)", x.played(0), -2);
        due("played(-1)", x.played(-1), -2);
        due("played(4)", x.played(4), -2);
        tell(x, "quarrel 4 by 2 worth 12;dues 3;pawn 0;earn 8;day 2;redeem 0;sells 1;");
        due("played(0)", x.played(0), NONE);
        due("of(0,0)", x.of(0, 0), 4);
        due("of(0,1)", x.of(0, 1), 2);
        due("of(0,2)", x.of(0, 2), 12);
        due("of(0,3): told with 0, never going on in a day", x.of(0, 3), 0);
        due("its laws do not rule: 12 was paid", x.is(2), 2);
        due("about(2)", x.about(2), NONE);
        due("about(3): 1, 1, 2, 1", x.about(3), 5);
        due("is(0)", x.is(0), 2);
        // again: the quarrel is another, but 0 is redeemed
        due("played(0)", x.played(0), 2);
        due("about(0)", x.about(0), 2);
        due("about(3)", x.about(3), 5);
        tell(x, "quarrel 3 by 3 worth 1;earn 1;");
        due("played(1): of one with itself", x.played(1), 0);
        due("is(2)", x.is(2), 2);
        tell(x, "earn 999;redeem 1;");
        due("played(2): it is not pawned", x.played(2), 1);
        due("is(2): what was done stays", x.is(2), 1001);
        tell(x, "");
        due("played(3) of nothing", x.played(3), NONE);
        for (int i = 0; i < 8; i++) {
            x.played(2);
        }
        due("is(2)", x.is(2), 8993);
        due("played(2)", x.played(2), 1);
        due("played(2): beyond 9999", x.played(2), 0);
        due("is(2)", x.is(2), 9992);
        QuarrelsPawned other = new QuarrelsPawned();
        tell(other, "quarrel 0 by 1 worth 8;quarrel 2 by 1 worth 6;pawn 1;earn 3;redeem 1;");
        due("played(0)", other.played(0), NONE);
        due("of(0,4)", other.of(0, 4), 0);
        due("of(1,4)", other.of(1, 4), 2);
        due("of(0,3)", other.of(0, 3), 0);
        due("is(2)", other.is(2), 0);
        due("played(0): 1 is redeemed", other.played(0), 2);
        due("about(0)", other.about(0), 4);
        QuarrelsPawned full = new QuarrelsPawned();
        tell(full, times(9, "quarrel 0 by 1 worth 1;"));
        due("played(0): the ninth", full.played(0), 8);
        due("about(0)", full.about(0), 8);
    }

    private static void years() {
        promise = 13;
        QuarrelsPawned x = new QuarrelsPawned();
        due("years(-1,1)", x.years(-1, 1), NONE);
        due("years(10000,1)", x.years(10000, 1), NONE);
        due("years(0,0)", x.years(0, 0), NONE);
        due("years(0,41)", x.years(0, 41), NONE);
        due("about(3)", x.about(3), 0);
        due("years(0,40)", x.years(0, 40) > 0 ? 1 : 0, 1);
        due("undo()", x.undo(), 0);
        due("years(9999,1): 20371 by 6 leaves 1", x.years(9999, 1), 0);
        due("is(1)", x.is(1), (20371 * 619 + 493) % 30871);
        due("about(3)", x.about(3), 1);
        due("years(0,5): 373 15283 14144 19136 22084, a day", x.years(0, 5), 1);
        due("is(1)", x.is(1), 14245);
        due("is(3): 25507 by 10", x.is(3), 0);
        due("about(3)", x.about(3), 2);
        due("years(2,1): a day", x.years(2, 1), 2);
        due("is(1)", x.is(1), 3238);
        due("years(1,1): 1 and 62 by 9", x.years(1, 1), 2);
        due("is(2)", x.is(2), 9);
        due("is(1)", x.is(1), 16521);
        due("years(1,3): 375 16521 8691", x.years(1, 3), 2);
        due("is(2)", x.is(2), 36);
        due("undo()", x.undo(), 4);
        due("is(2)", x.is(2), 9);
        due("is(1)", x.is(1), 16521);
        yearsOfQuarrels();
    }

    private static void yearsOfQuarrels() {
        // seed 5: 383 leaves 5: a day; rain by 21470, a draw by 2 of 15793; then 21142 leaves 4
        QuarrelsPawned x = new QuarrelsPawned();
        x.quarrel(0, 1, 8, 2);
        x.quarrel(2, 3, 9, 2);
        int first = 383;
        int second = (first * 619 + 493) % 30871;
        int third = (second * 619 + 493) % 30871;
        int fourth = (third * 619 + 493) % 30871;
        due("first", first % 6, 5);
        due("years(5,1)", x.years(5, 1), 1);
        due("is(3)", x.is(3), second % 10 < 4 ? 1 : 0);
        due("of(third by 2,3)", x.of(third % 2, 3), 3);
        due("of(the other,3)", x.of(1 - third % 2, 3), 2);
        due("is(1)", x.is(1), fourth);
        // redeemed and pawned by draws: 397 leaves 1 (66 by 2 is 0)
        QuarrelsPawned y = new QuarrelsPawned();
        y.quarrel(0, 1, 8, 2);
        y.quarrel(2, 3, 9, 2);
        y.pawn(0);
        due("397 leaves", 397 % 6, 1);
        y.years(12, 1);
        due("4 is not enough", y.of(0, 4), 1);
        y.earn(4);
        y.years(12, 1);
        due("8 is enough", y.of(0, 4), 2);
        due("is(2)", y.is(2), 0);
        due("about(3)", y.about(3), 4);
        // of one quarrel; one that is going on is not redeemed
        QuarrelsPawned z = new QuarrelsPawned();
        z.quarrel(0, 1, 8, 2);
        z.earn(9);
        z.years(12, 1);
        due("going on", z.of(0, 4), 0);
        due("is(2)", z.is(2), 9);
        z.pawn(0);
        z.years(12, 1);
        due("redeemed", z.of(0, 4), 2);
        due("is(2)", z.is(2), 5);
        z.years(12, 1);
        due("is(2)", z.is(2), 5);
        pawnedByYears();
    }

    /** The first of a SEED is odd, so it takes a second draw that 6 divides: it is looked for. */
    private static void pawnedByYears() {
        for (int seed = 0; seed <= 9999; seed++) {
            int x1 = seed * 2 + 373;
            int x2 = (x1 * 619 + 493) % 30871;
            if (x1 % 6 == 3 && x2 % 6 == 0) {
                QuarrelsPawned x = new QuarrelsPawned();
                x.quarrel(0, 1, 8, 2);
                x.quarrel(2, 3, 9, 2);
                x.quarrel(2, 4, 9, 2);
                x.years(seed, 2);
                for (int q = 0; q < 3; q++) {
                    due("years(" + seed + ",2), of(" + q + ",4)", x.of(q, 4), q == x2 / 6 % 3 ? 1 : 0);
                }
                due("is(2)", x.is(2), 1 + x1 / 6 % 9 + 4);
                due("book(0,3)", x.book(0, 3), 1 + x1 / 6 % 9 + 4);
                due("undo()", x.undo(), 0);
                due("book(-1,0)", x.book(NONE, 0), 0);
                return;
            }
        }
        due("a seed that pawns", 0, 1);
    }

    private static void undo() {
        promise = 14;
        QuarrelsPawned x = new QuarrelsPawned();
        due("undo()", x.undo(), NONE);
        for (int i = 0; i < 31; i++) {
            x.earn(1);
        }
        due("about(3)", x.about(3), 30);
        for (int i = 29; i >= 0; i--) {
            due("undo()", x.undo(), i);
        }
        due("undo()", x.undo(), NONE);
        due("is(2)", x.is(2), 1);

        QuarrelsPawned y = new QuarrelsPawned();
        y.quarrel(0, 1, 20, 3);
        y.day(2);
        due("of(0,3)", y.of(0, 3), 5);
        y.quarrel(2, 3, 30, 6);
        y.pawn(0);
        y.pawn(1);
        y.day(3);
        due("about(3): each day is one", y.about(3), 7);
        due("undo()", y.undo(), 6);
        due("is(0)", y.is(0), 4);
        due("undo()", y.undo(), 5);
        due("undo()", y.undo(), 4);
        due("is(0)", y.is(0), 2);
        due("is(2)", y.is(2), 25);
        due("undo()", y.undo(), 3);
        due("of(1,4)", y.of(1, 4), 0);
        due("is(2)", y.is(2), 10);
        due("book(-1,0)", y.book(NONE, 0), 1);
        due("undo()", y.undo(), 2);
        due("undo()", y.undo(), 1);
        due("is(3): as behind the first day", y.is(3), 1);
        due("of(0,3)", y.of(0, 3), 4);
        due("is(1)", y.is(1), 14144);
        due("undo()", y.undo(), 0);
        due("is(1)", y.is(1), 373);
        due("is(3)", y.is(3), 0);
        due("about(0): told ones stay", y.about(0), 2);
        due("of(1,3): as told", y.of(1, 3), 6);
        due("of(1,4)", y.of(1, 4), 0);

        QuarrelsPawned z = new QuarrelsPawned();
        z.quarrel(0, 1, 20, 3);
        z.pawn(0);
        z.day(31);
        due("day(1)", z.day(1), 1);
        due("book(-1,0)", z.book(NONE, 0), 2);
        z.undo();
        due("of(0,4)", z.of(0, 4), 1);
        due("of(0,5)", z.of(0, 5), 31);
        due("book(-1,0)", z.book(NONE, 0), 1);
        tell(z, "dues 1;");
        z.by(0);
        z.earns(5);
        z.redeem(0);
        z.undo();
        due("about(2): what is told stays", z.about(2), 0);
        due("is(2)", z.is(2), 10);
        due("of(0,4)", z.of(0, 4), 1);
    }

    private static void ofAndIs() {
        promise = 15;
        QuarrelsPawned x = new QuarrelsPawned();
        due("of(0,0)", x.of(0, 0), -10000);
        x.quarrel(4, 3, 50, 6);
        due("of(-1,0)", x.of(-1, 0), -10000);
        due("of(1,0)", x.of(1, 0), -10000);
        due("of(0,-1)", x.of(0, -1), -10000);
        due("of(0,8)", x.of(0, 8), -10000);
        x.pawn(0);
        x.day(10);
        int[] want = {4, 3, 50, x.of(0, 3), 1, 10, 60, -20};
        for (int what = 0; what < 8; what++) {
            due("of(0," + what + ")", x.of(0, what), want[what]);
        }
        x.earn(60);
        x.redeem(0);
        due("of(0,4)", x.of(0, 4), 2);
        due("of(0,5)", x.of(0, 5), 0);
        due("of(0,6)", x.of(0, 6), 50);
        due("of(0,7)", x.of(0, 7), -30);
        promise = 16;
        QuarrelsPawned y = new QuarrelsPawned();
        y.quarrel(0, 1, 50, 6);
        y.quarrel(0, 1, 20, 6);
        y.quarrel(0, 1, 10, 6);
        due("is(4)", y.is(4), 0);
        y.pawn(0);
        y.pawn(2);
        y.day(5);
        due("is(4)", y.is(4), 55 + 11);
        due("is(0)", y.is(0), 5);
        due("is(2)", y.is(2), 30);
        due("is(-1)", y.is(-1), -2);
        due("is(5)", y.is(5), -2);
    }

    /** Dues and sells keep to their bounds. */
    private static void bounds() {
        promise = 15;
        QuarrelsPawned x = ruled("dues 9999+1;sells 100-200*rain-100*(1-rain);");
        x.quarrel(0, 1, 99, 0);
        due("of(0,6)", x.of(0, 6), 9999);
        due("of(0,7)", x.of(0, 7), 0);
        x.day(1);
        due("of(0,7)", x.of(0, 7), -99);
        QuarrelsPawned y = ruled("dues 0-1;sells 100;");
        y.quarrel(0, 1, 99, 0);
        due("of(0,6)", y.of(0, 6), 0);
        due("of(0,7)", y.of(0, 7), 99);
        QuarrelsPawned z = ruled("sells 0;");
        z.quarrel(0, 1, 99, 0);
        z.pawn(0);
        for (int i = 0; i < 3; i++) {
            z.day(60);
        }
        z.by(NONE);
        due("of(0,6): 99 and 180 by 99 by 50", z.of(0, 6), 455);
        due("of(0,7)", z.of(0, 7), 99);
    }

    private static void book() {
        promise = 17;
        QuarrelsPawned x = new QuarrelsPawned();
        due("book(0,0)", x.book(0, 0), -2);
        x.quarrel(0, 1, 20, 3);
        x.quarrel(0, 1, 30, 3);
        x.day(1);
        x.pawn(1);
        x.earn(30);
        x.redeem(1);
        x.pawn(0);
        x.day(32);
        due("book(-1,0)", x.book(NONE, 0), 4);
        int[][] want = {{1, 1, 0, 15}, {1, 1, 1, 15}, {1, 0, 0, 25}, {32, 0, 2, 25}};
        for (int i = 0; i < 4; i++) {
            for (int what = 0; what < 4; what++) {
                due("book(" + i + "," + what + ")", x.book(i, what), want[i][what]);
            }
        }
        due("book(4,0)", x.book(4, 0), -2);
        due("book(-2,0)", x.book(-2, 0), -2);
        due("book(0,-1)", x.book(0, -1), -2);
        due("book(0,4)", x.book(0, 4), -2);
        due("book(max,0)", x.book(Integer.MAX_VALUE, 0), -2);
    }

    private static void foretold() {
        promise = 18;
        QuarrelsPawned x = new QuarrelsPawned();
        due("foretold(1,0,0)", x.foretold(1, 0, 0), -2);
        x.quarrel(0, 1, 50, 3);
        x.quarrel(0, 1, 50, 3);
        x.pawn(0);
        due("foretold(0,0,0)", x.foretold(0, 0, 0), -2);
        due("foretold(61,0,0)", x.foretold(61, 0, 0), -2);
        due("foretold(1,2,0)", x.foretold(1, 2, 0), -2);
        due("foretold(1,-1,0)", x.foretold(1, -1, 0), -2);
        due("foretold(1,0,-1)", x.foretold(1, 0, -1), -2);
        due("foretold(1,0,3)", x.foretold(1, 0, 3), -2);
        due("foretold(1,1,1): 15283 by 2", x.foretold(1, 1, 1), 4);
        due("foretold(31,0,0)", x.foretold(31, 0, 0), 1);
        due("foretold(31,0,2)", x.foretold(31, 0, 2), 81);
        due("foretold(32,0,0)", x.foretold(32, 0, 0), 3);
        due("foretold(60,0,2): sold, not held", x.foretold(60, 0, 2), 50);
        due("foretold(60,1,0)", x.foretold(60, 1, 0), 0);
        due("is(0): nothing is changed", x.is(0), 0);
        due("is(1)", x.is(1), 373);
        due("is(3)", x.is(3), 0);
        due("of(0,4)", x.of(0, 4), 1);
        due("of(1,3)", x.of(1, 3), 3);
        due("about(3)", x.about(3), 1);
        due("book(-1,0)", x.book(NONE, 0), 1);
        int said = x.foretold(20, 1, 1);
        x.day(20);
        due("what was foretold comes", x.of(1, 3), said);
    }

    /** Zero has a quarrel with each of the others: numbers 0 .. 4, worths 10, 20, .. 50. */
    private static QuarrelsPawned lonely() {
        QuarrelsPawned x = new QuarrelsPawned();
        for (int i = 1; i < 6; i++) {
            x.quarrel(i % 2 == 0 ? i : 0, i % 2 == 0 ? 0 : i, 10 * i, 1);
        }
        return x;
    }

    private static void talk() {
        promise = 19;
        QuarrelsPawned x = lonely();
        no("speak(0,1)", x.speak(0, 1));
        no("speak(2,0)", x.speak(2, 0));
        yes("speak(1,2)", x.speak(1, 2));
        no("speak(1,1)", x.speak(1, 1));
        no("speak(-1,1)", x.speak(-1, 1));
        no("speak(1,6)", x.speak(1, 6));
        no("speak(min,max)", x.speak(Integer.MIN_VALUE, Integer.MAX_VALUE));
        promise = 20;
        due("group(0)", lonely().group(0), 1);
        due("group(1)", lonely().group(1), 62);
        promise = 21;
        due("groups(false)", lonely().groups(false), 2);
        due("groups(true)", lonely().groups(true), 5);
        promise = 20;
        due("group(0)", x.group(0), 1);
        due("group(3)", x.group(3), 62);
        due("group(-1)", x.group(-1), NONE);
        due("group(6)", x.group(6), NONE);
        promise = 21;
        due("groups(false)", x.groups(false), 2);
        due("groups(true)", x.groups(true), 5);
        promise = 19;
        x.quarrel(4, 0, 40, 1);
        x.pawn(3);
        x.earn(999);
        x.redeem(3);
        no("speak(0,4): one of two is going on", x.speak(0, 4));
        x.pawn(5);
        no("speak(0,4): pawned", x.speak(0, 4));
        x.redeem(5);
        yes("speak(0,4)", x.speak(0, 4));
        yes("speak(4,0)", x.speak(4, 0));
        promise = 20;
        due("group(0)", x.group(0), 63);
        promise = 21;
        due("groups(false)", x.groups(false), 1);
        due("groups(true)", x.groups(true), 6);
        x.pawn(0);
        x.day(40);
        promise = 19;
        no("speak(0,1): sold", x.speak(0, 1));
    }

    private static void costs() {
        promise = 22;
        QuarrelsPawned x = lonely();
        due("cost(0,1) going on", x.cost(0, 1), NONE);
        due("cost(1,2)", x.cost(1, 2), 0);
        due("cost(1,1)", x.cost(1, 1), NONE);
        due("cost(-1,1)", x.cost(-1, 1), NONE);
        due("cost(1,6)", x.cost(1, 6), NONE);
        x.pawn(0);
        due("cost(0,1)", x.cost(0, 1), 10);
        due("cost(1,0)", x.cost(1, 0), 10);
        x.quarrel(1, 0, 7, 0);
        due("cost(1,0): the other is going on", x.cost(1, 0), NONE);
        x.pawn(5);
        due("cost(1,0)", x.cost(1, 0), 17);
        x.earn(99);
        x.redeem(0);
        due("cost(1,0)", x.cost(1, 0), 7);
        x.redeem(5);
        due("cost(1,0)", x.cost(1, 0), 0);
        x.pawn(1);
        x.day(25);
        due("cost(0,2): 20 and 25 by 20 by 50", x.cost(0, 2), 30);
        x.day(10);
        due("cost(0,2): sold", x.cost(0, 2), NONE);
        QuarrelsPawned y = ruled("dues 0;");
        y.quarrel(0, 1, 5, 5);
        y.pawn(0);
        due("cost(0,1): for nothing", y.cost(0, 1), 0);
        no("but they do not speak", y.speak(0, 1));
    }

    private static void ways() {
        QuarrelsPawned x = lonely();
        promise = 23;
        due("word(0,1)", x.word(0, 1), NONE);
        due("word(0,0)", x.word(0, 0), 0);
        due("word(1,2)", x.word(1, 2), 0);
        due("word(-1,0)", x.word(-1, 0), NONE);
        due("word(0,6)", x.word(0, 6), NONE);
        promise = 24;
        due("way(0,1,-1)", x.way(0, 1, NONE), -2);
        due("way(0,1,0)", x.way(0, 1, 0), -2);
        due("way(0,0,-1)", x.way(0, 0, NONE), 1);
        due("way(3,3,0)", x.way(3, 3, 0), 3);
        due("way(3,3,1)", x.way(3, 3, 1), -2);
        due("way(-1,0,-1)", x.way(-1, 0, NONE), -2);
        due("way(0,6,-1)", x.way(0, 6, NONE), -2);
        x.pawn(2);
        x.pawn(4);
        promise = 23;
        due("word(0,3)", x.word(0, 3), 30);
        due("word(0,5): by 3, not for 50", x.word(0, 5), 30);
        due("word(1,0)", x.word(1, 0), 30);
        promise = 24;
        due("way(0,5,-1)", x.way(0, 5, NONE), 3);
        due("way(0,5,0)", x.way(0, 5, 0), 0);
        due("way(0,5,1)", x.way(0, 5, 1), 3);
        due("way(0,5,2)", x.way(0, 5, 2), 5);
        due("way(0,5,3)", x.way(0, 5, 3), -2);
        due("way(0,5,-2)", x.way(0, 5, -2), -2);
        due("way(0,3,-1)", x.way(0, 3, NONE), 2);
        due("way(5,0,1)", x.way(5, 0, 1), 3);

        // of like costs fewer people, then the lowest second one: 0 and 5 by 1 or by 3, for 0
        QuarrelsPawned y = new QuarrelsPawned();
        y.quarrel(0, 5, 9, 0);
        y.quarrel(0, 2, 9, 0);
        y.quarrel(0, 4, 9, 0);
        due("way(0,5,-1)", y.way(0, 5, NONE), 3);
        due("way(0,5,1)", y.way(0, 5, 1), 1);
        y.quarrel(1, 5, 9, 0);
        due("way(0,5,1)", y.way(0, 5, 1), 3);
        due("way(5,0,1)", y.way(5, 0, 1), 3);
        y.quarrel(3, 5, 9, 0);
        // now 5 speaks with 2 and 4, 0 with 1 and 3: four people, 0 1 2 5
        due("way(0,5,-1)", y.way(0, 5, NONE), 4);
        due("way(0,5,1)", y.way(0, 5, 1), 1);
        due("way(0,5,2)", y.way(0, 5, 2), 2);
        due("way(0,5,3)", y.way(0, 5, 3), 5);
        due("way(5,0,1)", y.way(5, 0, 1), 2);
        due("way(5,0,2)", y.way(5, 0, 2), 1);
        y.quarrel(1, 2, 9, 0);
        due("way(0,5,1)", y.way(0, 5, 1), 1);
        due("way(0,5,2): not 2 any more", y.way(0, 5, 2), 4);
        // for 9 there is a shorter way, but it costs
        y.pawn(0);
        due("way(0,5,-1)", y.way(0, 5, NONE), 4);
        due("word(0,5)", y.word(0, 5), 0);
    }

    private static void forAll() {
        promise = 25;
        QuarrelsPawned x = lonely();
        due("all()", x.all(), NONE);
        x.pawn(4);
        due("all()", x.all(), 50);
        x.pawn(1);
        due("all()", x.all(), 20);
        x.pawn(3);
        due("all()", x.all(), 20);
        x.quarrel(1, 2, 5, 0);
        x.quarrel(1, 3, 6, 0);
        due("all(): 1 by 4", x.all(), 20);
        x.earn(60);
        x.redeem(1);
        due("all()", x.all(), 0);
        // three alone at once: 0 and 1, and each to 2, for 30, 1, 2
        QuarrelsPawned y = new QuarrelsPawned();
        int[][] pairs = {{0, 1, 30}, {0, 2, 3}, {0, 3, 40}, {0, 4, 50}, {0, 5, 60}};
        for (int i = 0; i < 5; i++) {
            y.quarrel(pairs[i][0], pairs[i][1], pairs[i][2], 0);
            y.pawn(i);
        }
        due("all()", y.all(), 3);
        QuarrelsPawned z = new QuarrelsPawned();
        for (int i = 0; i < 5; i++) {
            z.quarrel(5, i, 7 + i, 0);
            z.pawn(i);
        }
        due("all(): the last one", z.all(), 7);
    }

    private static void cutsAndGossips() {
        promise = 26;
        QuarrelsPawned x = lonely();
        due("cut(0,1)", x.cut(0, 1), 0);
        due("cut(1,0)", x.cut(1, 0), 0);
        due("cut(1,2)", x.cut(1, 2), 4);
        due("cut(1,1)", x.cut(1, 1), NONE);
        due("cut(-1,1)", x.cut(-1, 1), NONE);
        due("cut(1,6)", x.cut(1, 6), NONE);
        promise = 27;
        due("gossips()", x.gossips(), 0);
        // 0 1 on one side, 2 3 4 on the other, 5 between
        QuarrelsPawned y = new QuarrelsPawned();
        for (int a = 0; a < 2; a++) {
            for (int b = 2; b < 5; b++) {
                y.quarrel(a, b, 10, 0);
            }
        }
        due("gossips()", y.gossips(), 32);
        promise = 26;
        due("cut(0,2)", y.cut(0, 2), 2);
        due("cut(2,3)", y.cut(2, 3), 3);
        due("cut(5,2)", y.cut(5, 2), 3);
        promise = 27;
        y.quarrel(1, 5, 10, 0);
        due("gossips(): 0 too", y.gossips(), 33);
        promise = 26;
        due("cut(1,2)", y.cut(1, 2), 1);
        y.quarrel(0, 5, 10, 0);
        due("cut(1,2)", y.cut(1, 2), 0);
        due("cut(0,1)", y.cut(0, 1), 1);
        promise = 27;
        due("gossips()", y.gossips(), 0);
    }

    private static void cool() {
        promise = 28;
        QuarrelsPawned x = new QuarrelsPawned();
        due("cool(-1)", x.cool(-1), NONE);
        due("cool(3)", x.cool(3), NONE);
        int[][] told = {{40, 5}, {30, 4}, {20, 3}, {90, 9}, {10, 0}};
        for (int i = 0; i < told.length; i++) {
            x.quarrel(0, 1, told[i][0], told[i][1]);
        }
        x.earn(15);
        due("cool(0): none is pawned", x.cool(0), 0);
        for (int i = 0; i < 3; i++) {
            x.pawn(i);
        }
        // 15 and 45: 0 with 2 (60, heat 8), 1 with 2 (50, heat 7), 0 with 1 is 70
        due("is(2)", x.is(2), 60);
        due("cool(0)", x.cool(0), 5);
        due("cool(1)", x.cool(1), 8);
        due("cool(2)", x.cool(2), 60);
        x.pawn(4);
        due("cool(0): heat 0 adds nothing", x.cool(0), 5);
        x.pawn(3);
        due("is(2)", x.is(2), 110);
        // 0 1 2 (90, heat 12) beats 3 with 2 (110, heat 12) by dues
        due("cool(0)", x.cool(0), 7);
        due("cool(1)", x.cool(1), 12);
        due("cool(2)", x.cool(2), 90);
        QuarrelsPawned y = new QuarrelsPawned();
        for (int i = 0; i < 3; i++) {
            y.quarrel(0, 1, 20, 3);
            y.pawn(i);
        }
        y.earn(10);
        due("cool(0): of like ones the lowest", y.cool(0), 3);
        QuarrelsPawned z = ruled("dues 0;");
        z.quarrel(0, 1, 20, 0);
        z.pawn(0);
        due("cool(0): for nothing, but without heat", z.cool(0), 0);
        z.quarrel(0, 1, 20, 1);
        due("cool(0): 1 is going on", z.cool(0), 0);
        z.pawn(1);
        due("cool(0)", z.cool(0), 2);
        QuarrelsPawned w = ruled("dues 0;");
        w.quarrel(0, 1, 20, 2);
        due("cool(0): 0 is going on", w.cool(0), 0);
        w.pawn(0);
        due("cool(0)", w.cool(0), 1);
        due("cool(1)", w.cool(1), 2);
        for (int i = 1; i < 8; i++) {
            w.quarrel(0, 1, 20, 2);
            w.pawn(i);
        }
        due("cool(0): all", w.cool(0), 255);
        due("cool(1)", w.cool(1), 16);
    }

    private static void plans() {
        promise = 29;
        QuarrelsPawned x = new QuarrelsPawned();
        no("earns(-1)", x.earns(-1));
        no("earns(100)", x.earns(100));
        yes("earns(99)", x.earns(99));
        yes("earns(0)", x.earns(0));
        promise = 30;
        due("plan(0,0)", x.plan(0, 0), 0);
        due("plan(0,1)", x.plan(0, 1), 0);
        due("plan(0,2)", x.plan(0, 2), NONE);
        due("plan(0,-1)", x.plan(0, -1), NONE);
        due("plan(-1,0)", x.plan(-1, 0), NONE);
        due("plan(256,0)", x.plan(256, 0), NONE);
        for (int i = 0; i < 7; i++) {
            x.quarrel(0, 1, 20 + i, 0);
        }
        due("plan(1,0): it is not pawned", x.plan(1, 0), NONE);
        for (int i = 0; i < 6; i++) {
            x.pawn(i);
        }
        due("plan(128,0)", x.plan(128, 0), NONE);
        due("plan(65,0)", x.plan(65, 0), NONE);
        due("plan(63,0): six", x.plan(63, 0), NONE);
        x.earn(900);
        due("plan(31,0)", x.plan(31, 0), 0);
        due("plan(31,1)", x.plan(31, 1), 110);
        for (int i = 0; i < 5; i++) {
            due("plan(31," + (i + 2) + "): lowest first", x.plan(31, i + 2), i);
        }
        due("plan(31,7)", x.plan(31, 7), NONE);
        due("plan(31,max)", x.plan(31, Integer.MAX_VALUE), NONE);
        due("plan(31,min)", x.plan(31, Integer.MIN_VALUE), NONE);
        due("plan(40,2)", x.plan(40, 2), 3);
        due("plan(40,3)", x.plan(40, 3), 5);

        // the dearer one first: it grows faster
        QuarrelsPawned y = new QuarrelsPawned();
        y.quarrel(0, 1, 10, 0);
        y.quarrel(0, 1, 90, 0);
        y.pawn(0);
        y.pawn(1);
        y.earns(20);
        // 50, 70 and 90: 1 for 90 and 2 by 90 by 50 is 93, so on day 3 for 95 of 110; then 0 for 10 of 15
        due("plan(3,0)", y.plan(3, 0), 3);
        due("plan(3,1)", y.plan(3, 1), 105);
        due("plan(3,2)", y.plan(3, 2), 0);
        due("plan(3,3)", y.plan(3, 3), 1);
        due("plan(2,0)", y.plan(2, 0), 3);
        due("plan(2,1)", y.plan(2, 1), 95);
        due("plan(1,1)", y.plan(1, 1), 10);
        y.earns(0);
        due("plan(3,0)", y.plan(3, 0), NONE);
        due("plan(3,1)", y.plan(3, 1), NONE);
        QuarrelsPawned z = new QuarrelsPawned();
        z.quarrel(0, 1, 10, 0);
        z.quarrel(0, 1, 40, 0);
        z.earn(30);
        due("plan(1,0): 0 is going on", z.plan(1, 0), NONE);
        z.undo();
        z.pawn(0);
        z.pawn(1);
        z.earns(10);
        // of 25: 0 for 10 and then 1 for 42 on day 3; or 1 for 41 on day 2 and 0 for 10 on day 3
        due("plan(3,0)", z.plan(3, 0), 3);
        due("plan(3,1): the less", z.plan(3, 1), 51);
        due("plan(3,2)", z.plan(3, 2), 1);
        due("plan(3,3)", z.plan(3, 3), 0);
        due("plan(3,2)", y.plan(3, 2), NONE);
        due("is(2): nothing is changed", y.is(2), 50);
        due("of(0,4)", y.of(0, 4), 1);
    }

    private static void planLimits() {
        promise = 30;
        QuarrelsPawned x = ruled("dues 60;");
        tell(x, "dues 61;");
        tell(x, "dues purse;");
        tell(x, "dues if number=0 then 5 else if purse<5 then 1 else 99 end end;");
        x.quarrel(0, 1, 1, 0);
        x.quarrel(0, 1, 1, 0);
        x.pawn(0);
        x.pawn(1);
        x.earns(1);
        due("plan(1,0): 60 days", x.plan(1, 0), 60);
        due("plan(1,1)", x.plan(1, 1), 60);
        x.by(1);
        due("plan(1,0): 61 days", x.plan(1, 0), NONE);
        x.by(2);
        x.earn(7);
        due("plan(3,0)", x.plan(3, 0), 0);
        due("plan(3,1): the second for nothing", x.plan(3, 1), 7);
        x.by(3);
        due("plan(3,1): purse is what is left", x.plan(3, 1), 6);
        due("plan(3,2)", x.plan(3, 2), 0);
        x.earns(2);
        due("plan(2,0): 99 of 7 and 46 by 2", x.plan(2, 0), 46);
        // a plan sells nothing, and the heats and the rain are as now
        QuarrelsPawned y = ruled("dues 40+rain*100+heat;sells 1;");
        y.quarrel(0, 1, 1, 3);
        y.pawn(0);
        y.earns(1);
        due("plan(1,0)", y.plan(1, 0), 43);
        due("plan(1,1)", y.plan(1, 1), 43);
        // the purse of a plan has no bound
        QuarrelsPawned z = ruled("dues if purse>9999 then 3 else 9999 end;");
        z.quarrel(0, 1, 1, 3);
        z.pawn(0);
        for (int i = 0; i < 10; i++) {
            z.earn(999);
        }
        z.earns(5);
        due("plan(1,0): 9990, 9995, 10000", z.plan(1, 0), 2);
        due("plan(1,1)", z.plan(1, 1), 3);
    }

    private static void best() {
        promise = 31;
        QuarrelsPawned x = ruled("dues (held-5)*(held-5)+day;");
        due("best(0,0,true)", x.best(0, 0, true), NONE);
        x.quarrel(0, 1, 10, 0);
        due("best(0,0,true): going on", x.best(0, 0, true), NONE);
        x.pawn(0);
        due("best(0,-1,true)", x.best(0, -1, true), NONE);
        due("best(0,61,true)", x.best(0, 61, true), NONE);
        due("best(-1,0,true)", x.best(-1, 0, true), NONE);
        due("best(1,0,true)", x.best(1, 0, true), NONE);
        due("best(0,0,false)", x.best(0, 0, false), 25);
        due("best(0,0,true)", x.best(0, 0, true), 0);
        due("best(0,2,false)", x.best(0, 2, false), 11);
        due("best(0,2,true)", x.best(0, 2, true), 2);
        due("best(0,60,false): 1 and 4, or 0 and 5", x.best(0, 60, false), 5);
        due("best(0,60,true): the first", x.best(0, 60, true), 4);
        x.earn(99);
        x.redeem(0);
        due("best(0,0,true): redeemed", x.best(0, 0, true), NONE);
        QuarrelsPawned y = ruled("dues 100-purse-rain*9;");
        y.quarrel(0, 1, 20, 0);
        y.pawn(0);
        y.earns(50);
        due("best: no wage comes", y.best(0, 60, false), 90);
        due("best: the first", y.best(0, 60, true), 0);
        QuarrelsPawned dear = ruled("dues 9999;");
        dear.quarrel(0, 1, 20, 0);
        dear.pawn(0);
        due("best of the dearest", dear.best(0, 5, true), 0);
        due("best of the dearest", dear.best(0, 5, false), 9999);
        QuarrelsPawned z = ruled("dues 70-day;");
        z.quarrel(0, 1, 20, 0);
        z.pawn(0);
        due("best(0,60,true)", z.best(0, 60, true), 60);
        due("best(0,60,false)", z.best(0, 60, false), 10);
    }

    private static void tickets() {
        promise = 33;
        QuarrelsPawned x = new QuarrelsPawned();
        due("tickets(-1)", x.tickets(NONE), 1000);
        due("tickets(0)", x.tickets(0), 0);
        due("tickets(1)", x.tickets(1), 17);
        due("tickets(999): 9 27 63 is 99", x.tickets(999), 9999);
        due("tickets(1000)", x.tickets(1000), -2);
        due("tickets(-2)", x.tickets(-2), -2);
        due("tickets(max)", x.tickets(Integer.MAX_VALUE), -2);
        promise = 32;
        no("digit(-1,0)", x.digit(-1, 0));
        no("digit(4,0)", x.digit(4, 0));
        no("digit(0,10)", x.digit(0, 10));
        no("digit(0,-2)", x.digit(0, -2));
        due("tickets(-1)", x.tickets(NONE), 1000);
        yes("digit(1,3)", x.digit(1, 3));
        due("tickets(-1)", x.tickets(NONE), 100);
        due("tickets(0): 9 and 9 by 9", x.tickets(0), 309);
        yes("digit(2,5)", x.digit(2, 5));
        due("tickets(0): 9 and 35", x.tickets(0), 354);
        due("tickets(1)", x.tickets(1), 1355);
        yes("digit(0,9)", x.digit(0, 9));
        due("tickets(-1)", x.tickets(NONE), 1);
        due("tickets(0): 9 and 9 and 35", x.tickets(0), 9353);
        due("tickets(1)", x.tickets(1), -2);
        yes("digit(3,4)", x.digit(3, 4));
        due("tickets(-1)", x.tickets(NONE), 0);
        due("tickets(0)", x.tickets(0), -2);
        yes("digit(0,-1)", x.digit(0, NONE));
        due("tickets(0)", x.tickets(0), 354);
        due("tickets(-1)", x.tickets(NONE), 1);
        yes("digit(3,0)", x.digit(3, 0));
        due("tickets(0)", x.tickets(0), 6350);
    }

    private static void hooks() {
        promise = 34;
        QuarrelsPawned x = new QuarrelsPawned();
        due("hook(0)", x.hook(0), -2);
        due("hook(100)", x.hook(100), -2);
        due("hook(-2)", x.hook(-2), -2);
        for (int i = 1; i <= 6; i++) {
            due("hook", x.hook(i == 1 ? 1 : 99), i);
        }
        due("hook 7", x.hook(5), -2);
        due("about(4)", x.about(4), 6);
        promise = 35;
        due("hung(9,-1)", x.hung(9, NONE), 0);
        promise = 34;
        due("hook(-1)", x.hook(NONE), 0);
        due("about(4)", x.about(4), 0);
        promise = 35;
        due("hung(0,-1)", x.hung(0, NONE), 1);
        due("hung(0,0)", x.hung(0, 0), -2);
        due("hung(-1,-1)", x.hung(-1, NONE), -2);
        due("hung(10,-1)", x.hung(10, NONE), -2);
        int[] worths = {10, 12, 14, 11};
        for (int i = 0; i < 4; i++) {
            x.quarrel(0, 1, worths[i], 0);
        }
        x.pawn(0);
        x.pawn(1);
        x.pawn(2);
        x.hook(11);
        x.hook(13);
        // 0 or 1 on the first, 1 or 2 on the second
        due("hung(1,-1)", x.hung(1, NONE), 3);
        due("hung(1,0)", x.hung(1, 0), 0);
        due("hung(1,1)", x.hung(1, 1), 1);
        due("hung(1,2)", x.hung(1, 2), -2);
        due("hung(1,-2)", x.hung(1, -2), -2);
        due("hung(0,-1)", x.hung(0, NONE), 0);
        due("hung(0,0)", x.hung(0, 0), -2);
        due("hung(9,-1)", x.hung(9, NONE), 6);
        promise = 36;
        due("look(1): 2 each", x.look(1), 0);
        due("look(0)", x.look(0), NONE);
        due("look(-1)", x.look(-1), NONE);
        due("look(10)", x.look(10), NONE);
        x.hook(NONE);
        x.hook(13);
        x.hook(11);
        promise = 35;
        due("hung(1,0)", x.hung(1, 0), 1);
        due("hung(1,1): not 1 again", x.hung(1, 1), 0);
        x.earn(99);
        x.redeem(1);
        due("hung(1,-1): 1 is not pawned", x.hung(1, NONE), 1);
        due("hung(1,0)", x.hung(1, 0), 2);
        promise = 36;
        due("look(1): one way", x.look(1), NONE);
        QuarrelsPawned y = new QuarrelsPawned();
        int[] others = {10, 20, 22, 24};
        for (int i = 0; i < 4; i++) {
            y.quarrel(0, 1, others[i], 0);
            y.pawn(i);
        }
        y.hook(10);
        y.hook(22);
        // the first holds 0 in all three ways, the second another in each
        due("look(2)", y.look(2), 1);
        promise = 35;
        due("hung(2,-1)", y.hung(2, NONE), 3);
        due("hung(2,1)", y.hung(2, 1), 1);
        // 0 would fit the first too, but nothing else fits the second
        QuarrelsPawned w = new QuarrelsPawned();
        w.quarrel(0, 1, 10, 0);
        w.quarrel(0, 1, 12, 0);
        w.quarrel(0, 1, 12, 0);
        w.pawn(0);
        w.pawn(1);
        w.hook(11);
        w.hook(9);
        due("hung(1,-1)", w.hung(1, NONE), 1);
        due("hung(1,0)", w.hung(1, 0), 1);
        due("hung(1,1)", w.hung(1, 1), 0);
        w.pawn(2);
        w.hook(NONE);
        w.hook(12);
        due("hung(0,-1)", w.hung(0, NONE), 2);
        promise = 36;
        due("look(0): of two ways", w.look(0), 0);
        w.hook(NONE);
        w.hook(10);
        w.hook(12);
        due("look(0): not the one that always holds 0", w.look(0), 1);
        due("look(0) again", w.look(0), 1);
        promise = 35;
        QuarrelsPawned z = new QuarrelsPawned();
        for (int i = 0; i < 8; i++) {
            z.quarrel(0, 1, 50 + i, 0);
            z.pawn(i);
        }
        for (int i = 0; i < 6; i++) {
            z.hook(53);
        }
        due("hung(9,-1): 8 7 6 5 4 3", z.hung(9, NONE), 20160);
        due("hung(9,5)", z.hung(9, 5), 5);
        promise = 36;
        due("look(9)", z.look(9), 0);
    }

    private static void market() {
        promise = 37;
        QuarrelsPawned x = new QuarrelsPawned();
        due("bid(-2)", x.bid(-2, true), -2);
        due("bid(100)", x.bid(100, false), -2);
        for (int i = 1; i <= 10; i++) {
            due("bid", x.bid(i == 1 ? 0 : 99, i % 2 == 0), i);
        }
        due("bid 11", x.bid(1, true), -2);
        due("about(5)", x.about(5), 10);
        promise = 38;
        // five buy for 99; one sells for 0, four for 99
        due("market(0)", x.market(0), 5);
        due("market(1)", x.market(1), 99);
        due("market(2)", x.market(2), 99);
        promise = 39;
        due("gain()", x.gain(), 99);
        promise = 37;
        due("bid(-1)", x.bid(NONE, false), 0);
        due("about(5)", x.about(5), 0);
        promise = 38;
        due("market(0)", x.market(0), 0);
        due("market(1)", x.market(1), NONE);
        due("market(2)", x.market(2), NONE);
        due("market(-1)", x.market(-1), NONE);
        due("market(3)", x.market(3), NONE);
        x.bid(10, true);
        x.bid(11, false);
        due("market(0)", x.market(0), 0);
        due("market(1)", x.market(1), NONE);
        promise = 39;
        due("gain()", x.gain(), 0);
        promise = 38;
        x.bid(11, true);
        due("market(0): no less", x.market(0), 1);
        due("market(1)", x.market(1), 11);
        due("market(2)", x.market(2), 11);
        x.bid(NONE, true);
        x.bid(20, false);
        x.bid(60, true);
        due("market(1): nobody else", x.market(1), 20);
        due("market(2)", x.market(2), 60);
        x.bid(30, true);
        due("market(1): the other buyer's", x.market(1), 30);
        due("market(2)", x.market(2), 60);
        x.bid(40, false);
        due("market(0)", x.market(0), 1);
        due("market(2): the other seller's", x.market(2), 40);
        x.bid(5, false);
        due("market(0)", x.market(0), 2);
        due("market(1)", x.market(1), 20);
        due("market(2)", x.market(2), 30);
        promise = 39;
        due("gain(): 60 30 less 5 20", x.gain(), 65);
    }

    private static void whose() {
        promise = 40;
        QuarrelsPawned x = new QuarrelsPawned();
        due("said(0,1)", x.said(0, 1), -2);
        x.quarrel(0, 1, 50, 0);
        x.quarrel(0, 2, 25, 0);
        due("said(-2,1)", x.said(-2, 1), -2);
        due("said(2,1)", x.said(2, 1), -2);
        due("said(0,-1)", x.said(0, -1), -2);
        due("said(0,10000)", x.said(0, 10000), -2);
        due("said(0,9999)", x.said(0, 9999), 1);
        due("said(1,0)", x.said(1, 0), 2);
        for (int i = 3; i <= 8; i++) {
            due("said(1,0)", x.said(1, 0), i);
        }
        due("said 9", x.said(1, 0), -2);
        due("about(6)", x.about(6), 8);
        due("said(-1,0)", x.said(NONE, 0), 0);
        due("said(-1,-7)", x.said(NONE, -7), 0);
        due("about(6)", x.about(6), 0);
        promise = 41;
        due("whose()", x.whose(), 0);
        tell(x, "dues worth;");
        tell(x, "dues 50;");
        tell(x, "sells 50;");
        tell(x, "dues 25+25*(1-number)+held;");
        due("whose(): nothing is said", x.whose(), 15);
        x.said(0, 50);
        due("whose()", x.whose(), 15);
        x.said(1, 25);
        due("whose()", x.whose(), 13);
        x.pawn(0);
        x.day(1);
        due("whose(): as now, 50 and 50 by 50", x.whose(), 1);
        x.said(NONE, 0);
        x.said(0, 51);
        due("whose()", x.whose(), 12);
        x.by(1);
        due("whose(): whatever rules", x.whose(), 12);
        x.said(0, 50);
        due("whose(): not both", x.whose(), 0);
    }

    private static void hottest() {
        promise = 42;
        QuarrelsPawned x = new QuarrelsPawned();
        due("hottest()", x.hottest(), NONE);
        x.quarrel(0, 1, 9, 0);
        due("hottest(): of heat 0", x.hottest(), 0);
        x.quarrel(0, 2, 9, 6);
        x.quarrel(0, 3, 9, 8);
        x.quarrel(0, 4, 9, 8);
        due("hottest(): the lowest", x.hottest(), 2);
        x.pawn(2);
        due("hottest(): it is pawned", x.hottest(), 3);
        x.pawn(3);
        due("hottest()", x.hottest(), 1);
        x.pawn(1);
        x.pawn(0);
        due("hottest()", x.hottest(), NONE);
    }

    private static void silent() {
        promise = 43;
        QuarrelsPawned x = lonely();
        due("silent()", x.silent(), 1);
        x.quarrel(1, 2, 9, 0);
        due("silent()", x.silent(), 1);
        x.pawn(0);
        x.earn(99);
        x.redeem(0);
        due("silent()", x.silent(), 0);
        QuarrelsPawned y = new QuarrelsPawned();
        due("silent()", y.silent(), 0);
        for (int i = 0; i < 5; i++) {
            y.quarrel(5, i, 9, 0);
        }
        due("silent()", y.silent(), 32);
    }

    private static void ledger() {
        promise = 44;
        QuarrelsPawned x = new QuarrelsPawned();
        due("ledger(-1)", x.ledger(-1), -2);
        due("ledger(3)", x.ledger(3), -2);
        due("ledger(0)", x.ledger(0), 0);
        for (int i = 0; i < 4; i++) {
            x.quarrel(0, 1, 9, 0);
            x.pawn(i);
        }
        x.earn(50);
        x.redeem(2);
        x.day(32);
        due("ledger(0)", x.ledger(0), 4);
        due("ledger(1)", x.ledger(1), 1);
        due("ledger(2)", x.ledger(2), 3);
        x.undo();
        due("ledger(2)", x.ledger(2), 0);
    }

    private static void image() {
        QuarrelsPawned x = new QuarrelsPawned();
        x.quarrel(0, 1, 30, 4);
        tell(x, "dues 5;");
        x.by(0);
        x.pawn(0);
        x.day(2);
        x.earns(3);
        x.digit(0, 7);
        x.hook(30);
        x.bid(20, true);
        x.bid(10, false);
        x.said(0, 5);
        promise = 45;
        due("image()", x.image(), 2);
        int at = x.is(1);
        int heat = x.of(0, 3);
        int rain = x.is(3);
        for (int round = 0; round < 2; round++) {
            x.quarrel(1, 2, 60, 5);
            tell(x, "dues 6+round;");
            tell(x, "dues 6;");
            x.by(1);
            x.redeem(0);
            x.pawn(1);
            x.day(20);
            x.undo();
            x.earns(90);
            x.digit(0, 1);
            x.digit(1, 1);
            x.hook(NONE);
            x.hook(1);
            x.hook(2);
            x.bid(NONE, true);
            x.bid(1, false);
            x.said(NONE, 0);
            x.said(1, 9);
            x.said(1, 9);
            tape(x, "dues");
            promise = 46;
            due("back()", x.back(), 2);
            due("is(0)", x.is(0), 2);
            due("is(1)", x.is(1), at);
            due("is(2)", x.is(2), 15);
            due("is(3)", x.is(3), rain);
            int[] about = {1, 1, 0, 3, 1, 2, 1, 4};
            for (int what = 0; what < 8; what++) {
                due("about(" + what + ")", x.about(what), about[what]);
            }
            due("of(0,3)", x.of(0, 3), heat);
            due("of(0,4)", x.of(0, 4), 1);
            due("of(0,5)", x.of(0, 5), 2);
            due("of(0,6)", x.of(0, 6), 5);
            due("of(0,2)", x.of(0, 2), 30);
            due("book(-1,0)", x.book(NONE, 0), 1);
            due("book(0,2)", x.book(0, 2), 0);
            due("fault(0) stays", x.fault(0), 0);
            due("tickets(0)", x.tickets(0), 7003 + 4);
            due("hung(0,-1)", x.hung(0, NONE), 1);
            due("market(1)", x.market(1), 10);
            due("whose()", x.whose(), 1);
            tell(x, "dues 20;");
            x.by(1);
            due("plan(1,0): the wage of then", x.plan(1, 0), 2);
            x.back();
        }
        due("undo(): the steps of then", x.undo(), 2);
        due("undo()", x.undo(), 1);
        due("undo()", x.undo(), 0);
        due("of(0,4)", x.of(0, 4), 0);
        due("of(0,3)", x.of(0, 3), 4);
        due("back()", x.back(), 2);
        due("about(3)", x.about(3), 3);
        x.day(1);
        promise = 45;
        due("image()", x.image(), 3);
        x.day(1);
        promise = 46;
        due("back()", x.back(), 3);
        due("about(3)", x.about(3), 4);
    }

    /** What was taken back and done in another way is as in the image again. */
    private static void imageOfThePast() {
        promise = 46;
        QuarrelsPawned x = new QuarrelsPawned();
        x.quarrel(0, 1, 30, 4);
        x.quarrel(0, 2, 10, 4);
        x.earn(3);
        x.pawn(0);
        x.earn(4);
        tell(x, "dues number+10;");
        x.said(0, 10);
        x.image();
        x.undo();
        x.undo();
        x.undo();
        x.day(3);
        x.pawn(1);
        x.pawn(0);
        x.earn(100);
        x.said(NONE, 0);
        x.said(1, 10);
        due("whose()", x.whose(), 0);
        due("back()", x.back(), 0);
        due("of(0,5)", x.of(0, 5), 0);
        due("of(1,4)", x.of(1, 4), 0);
        due("is(2)", x.is(2), 22);
        due("book(-1,0)", x.book(NONE, 0), 1);
        due("book(0,0)", x.book(0, 0), 0);
        due("book(0,1)", x.book(0, 1), 0);
        due("book(0,3)", x.book(0, 3), 18);
        due("whose()", x.whose(), 1);
        due("undo()", x.undo(), 2);
        due("is(2)", x.is(2), 18);
        due("undo()", x.undo(), 1);
        due("is(2)", x.is(2), 3);
        due("of(0,4)", x.of(0, 4), 0);
        due("undo()", x.undo(), 0);
        due("is(2)", x.is(2), 0);
        due("undo()", x.undo(), NONE);
        QuarrelsPawned y = new QuarrelsPawned();
        for (int i = 0; i < 40; i++) {
            y.earn(1);
        }
        y.image();
        for (int i = 0; i < 35; i++) {
            y.earn(2);
        }
        y.back();
        for (int i = 29; i >= 0; i--) {
            due("undo()", y.undo(), i);
            due("is(2)", y.is(2), 10 + i);
        }
    }

    private static void about() {
        promise = 47;
        QuarrelsPawned x = new QuarrelsPawned();
        due("about(-1)", x.about(-1), -2);
        due("about(8)", x.about(8), -2);
        x.quarrel(0, 1, 5, 5);
        x.quarrel(0, 1, 5, 5);
        for (int i = 0; i < 3; i++) {
            tell(x, "");
        }
        x.by(2);
        for (int i = 0; i < 4; i++) {
            x.earn(1);
            x.hook(5);
        }
        for (int i = 0; i < 5; i++) {
            x.bid(5, true);
        }
        for (int i = 0; i < 6; i++) {
            x.said(1, 5);
        }
        tape(x, "dues 12");
        int[] want = {2, 3, 2, 4, 4, 5, 6, 7};
        for (int what = 0; what < 8; what++) {
            due("about(" + what + ")", x.about(what), want[what]);
        }
    }
}
