import java.util.ArrayList;
import java.util.Arrays;
import java.util.List;
import java.util.Random;

/**
 * Draws long runs of calls and compares each answer with a slow model that was written from the document
 * in another way (trees, lists of all ways, copies of everything).
 */
public final class QuarrelsPawnedAgainstModel {
    private static final int RUNS = 1000;
    private static final int CALLS = 500;

    private static int wrong = 0;
    private static final int[] asked = new int[64];
    private static final int[] faultsSeen = new int[7];

    public static void main(String[] args) {
        long seed = args.length > 0 ? Long.parseLong(args[0]) : 20261118L;
        int runs = args.length > 1 ? Integer.parseInt(args[1]) : RUNS;
        for (int run = 0; run < runs && wrong == 0; run++) {
            new Run(new Random(seed + run), run).go();
        }
        for (int fault = 0; fault < faultsSeen.length; fault++) {
            if (runs >= RUNS && faultsSeen[fault] == 0) {
                wrong++;
                System.out.println("no text was drawn with FAULT " + fault);
            }
        }
        System.out.println(wrong == 0 ? "all answers are as the model's" : wrong + " answers are not as due");
        if (wrong != 0) {
            System.exit(1);
        }
    }

    // ------------------------------------------------------------------ runs

    private static final class Run {
        final Random random;
        final int run;
        final QuarrelsPawned port = new QuarrelsPawned();
        final Model model = new Model();
        final List<String> calls = new ArrayList<>();
        final int mood;
        boolean stopped = false;

        Run(Random random, int run) {
            this.random = random;
            this.run = run;
            this.mood = random.nextInt(6);
        }

        void go() {
            while (calls.size() < CALLS && !stopped) {
                int kind = random.nextInt(100);
                if (kind < 12) {
                    feedText();
                } else if (kind < 40) {
                    act();
                } else {
                    ask();
                }
            }
        }

        void same(String call, long got, long want) {
            calls.add(call + " -> " + got);
            if (got != want && !stopped) {
                stopped = true;
                wrong++;
                int from = Math.max(0, calls.size() - 40);
                System.out.println("run " + run + ", call " + calls.size() + ": " + call + " answered " + got
                        + ", due is " + want);
                for (int i = from; i < calls.size(); i++) {
                    System.out.println("    " + calls.get(i));
                }
            }
        }

        static int bit(boolean b) {
            return b ? 1 : 0;
        }

        /** Mostly within the bounds, at times just outside or far outside. */
        int in(int least, int most) {
            int r = random.nextInt(60);
            if (r == 0) {
                return least - 1;
            }
            if (r == 1) {
                return most + 1;
            }
            if (r == 2) {
                return random.nextBoolean() ? Integer.MIN_VALUE : Integer.MAX_VALUE;
            }
            if (r == 3) {
                return random.nextInt();
            }
            if (r < 8) {
                return random.nextBoolean() ? least : most;
            }
            return least + random.nextInt(most - least + 1);
        }

        int q() {
            int n = model.all.quarrels.size();
            return n == 0 || random.nextInt(20) == 0 ? in(0, 7) : random.nextInt(n);
        }

        void feedText() {
            if (random.nextInt(8) > 0) {
                same("end(0)", port.end(0), model.end(0));
            }
            String text = new TextMaker(random).make();
            byte[] bytes = new byte[text.length()];
            for (int i = 0; i < bytes.length; i++) {
                bytes[i] = (byte) text.charAt(i);
            }
            for (int i = 0; i < bytes.length && calls.size() < CALLS - 20; i += 20) {
                int[] v = new int[5];
                for (int k = 0; k < 20; k++) {
                    int b = i + k < bytes.length ? bytes[i + k] & 255 : 0;
                    v[k / 4] |= b << (24 - 8 * (k % 4));
                }
                same("feed(" + Arrays.toString(v) + ")", port.feed(v[0], v[1], v[2], v[3], v[4]),
                        model.feed(v[0], v[1], v[2], v[3], v[4]));
            }
            int n = random.nextInt(15) == 0 ? in(0, 300) : Math.min(300, bytes.length);
            same("end(" + n + ")", port.end(n), model.end(n));
            same("text() of '" + text.replace('\n', '~') + "'", port.text(), model.text());
            same("fault(0)", port.fault(0), model.fault(0));
            same("fault(1)", port.fault(1), model.fault(1));
            if (model.fault >= 0) {
                faultsSeen[model.fault]++;
            }
            int what = random.nextInt(5) - 1;
            same("fault(" + what + ")", port.fault(what), model.fault(what));
            if (model.all.texts.size() == 4 && random.nextInt(3) == 0) {
                same("back()", port.back(), model.back());
            }
        }

        void act() {
            int a = in(0, 5);
            int b = in(0, 5);
            switch (random.nextInt(24)) {
                case 0:
                case 1:
                case 2: {
                    int w = in(1, 99);
                    int h = in(0, 9);
                    same("quarrel(" + a + "," + b + "," + w + "," + h + ")", port.quarrel(a, b, w, h),
                            model.quarrel(a, b, w, h));
                    break;
                }
                case 3:
                case 4:
                case 5:
                case 6: {
                    int q = q();
                    same("pawn(" + q + ")", bit(port.pawn(q)), bit(model.pawn(q)));
                    break;
                }
                case 7:
                case 8: {
                    int q = q();
                    if (mood != 1) {
                        same("redeem(" + q + ")", port.redeem(q), model.redeem(q));
                    }
                    break;
                }
                case 9:
                case 10: {
                    int s = mood == 2 ? in(500, 999) : in(1, mood == 3 ? 999 : 40);
                    same("earn(" + s + ")", bit(port.earn(s)), bit(model.earn(s)));
                    break;
                }
                case 11:
                case 12:
                case 13: {
                    int n = mood >= 4 ? in(40, 60) : random.nextInt(10) == 0 ? in(1, 60) : 1 + random.nextInt(3);
                    same("day(" + n + ")", port.day(n), model.day(n));
                    for (int i = 0; mood == 5 && i < 12 && calls.size() < CALLS - 20; i++) {
                        same("day(60)", port.day(60), model.day(60));
                    }
                    break;
                }
                case 14: {
                    int t = in(0, 3);
                    same("played(" + t + ")", port.played(t), model.played(t));
                    break;
                }
                case 15: {
                    int s = in(0, 9999);
                    int n = in(1, 40);
                    same("years(" + s + "," + n + ")", port.years(s, n), model.years(s, n));
                    break;
                }
                case 16:
                case 17: {
                    int n = random.nextInt(10) == 0 ? 33 : random.nextInt(4);
                    for (int i = 0; i < n && calls.size() < CALLS - 20; i++) {
                        same("undo()", port.undo(), model.undo());
                    }
                    break;
                }
                case 18:
                case 19: {
                    int t = in(-1, 3);
                    same("by(" + t + ")", bit(port.by(t)), bit(model.by(t)));
                    break;
                }
                case 20:
                    if (random.nextInt(2) == 0) {
                        same("image()", port.image(), model.image());
                    }
                    break;
                case 21:
                    if (random.nextInt(3) == 0) {
                        same("back()", port.back(), model.back());
                    }
                    break;
                default:
                    tell();
                    break;
            }
            same("is(1)", port.is(1), model.is(1));
            same("is(2)", port.is(2), model.is(2));
        }

        void tell() {
            switch (random.nextInt(5)) {
                case 0: {
                    int s = in(0, 99);
                    same("earns(" + s + ")", bit(port.earns(s)), bit(model.earns(s)));
                    break;
                }
                case 1: {
                    int p = in(0, 3);
                    int d = in(-1, 9);
                    same("digit(" + p + "," + d + ")", bit(port.digit(p, d)), bit(model.digit(p, d)));
                    break;
                }
                case 2: {
                    int n = model.all.quarrels.size();
                    int w = in(1, 99);
                    if (n > 0 && random.nextInt(5) > 0) {
                        w = model.all.quarrels.get(random.nextInt(n)).worth + random.nextInt(19) - 9;
                    }
                    w = random.nextInt(8) == 0 ? -1 : w;
                    same("hook(" + w + ")", port.hook(w), model.hook(w));
                    break;
                }
                case 3: {
                    int p = random.nextInt(12) == 0 ? -1 : in(0, random.nextBoolean() ? 99 : 20);
                    boolean buys = random.nextBoolean();
                    same("bid(" + p + "," + buys + ")", port.bid(p, buys), model.bid(p, buys));
                    break;
                }
                default: {
                    int q = random.nextInt(6) == 0 ? -1 : q();
                    int d = in(0, 9999);
                    if (q >= 0 && q < model.all.quarrels.size() && random.nextInt(5) > 0) {
                        d = model.of(q, 6);
                    }
                    same("said(" + q + "," + d + ")", port.said(q, d), model.said(q, d));
                    break;
                }
            }
        }

        void ask() {
            int a = in(0, 5);
            int b = in(0, 5);
            int q = q();
            int kind = random.nextInt(27);
            asked[kind]++;
            switch (kind) {
                case 0:
                    for (int what = -1; what <= 8; what++) {
                        same("of(" + q + "," + what + ")", port.of(q, what), model.of(q, what));
                    }
                    break;
                case 1:
                    for (int what = -1; what <= 5; what++) {
                        same("is(" + what + ")", port.is(what), model.is(what));
                    }
                    break;
                case 2: {
                    int i = in(-1, 16);
                    int what = in(0, 3);
                    same("book(-1," + what + ")", port.book(-1, what), model.book(-1, what));
                    same("book(" + i + "," + what + ")", port.book(i, what), model.book(i, what));
                    break;
                }
                case 3: {
                    int n = in(1, 60);
                    int what = in(0, 2);
                    same("foretold(" + n + "," + q + "," + what + ")", port.foretold(n, q, what),
                            model.foretold(n, q, what));
                    break;
                }
                case 4:
                    same("speak(" + a + "," + b + ")", bit(port.speak(a, b)), bit(model.speak(a, b)));
                    break;
                case 5:
                    same("group(" + a + ")", port.group(a), model.group(a));
                    break;
                case 6: {
                    boolean most = random.nextBoolean();
                    same("groups(" + most + ")", port.groups(most), model.groups(most));
                    break;
                }
                case 7:
                    same("cost(" + a + "," + b + ")", port.cost(a, b), model.cost(a, b));
                    break;
                case 8:
                    same("word(" + a + "," + b + ")", port.word(a, b), model.word(a, b));
                    break;
                case 9:
                    for (int i = -2; i < 5; i++) {
                        same("way(" + a + "," + b + "," + i + ")", port.way(a, b, i), model.way(a, b, i));
                    }
                    break;
                case 10:
                    same("all()", port.all(), model.all());
                    break;
                case 11:
                    same("cut(" + a + "," + b + ")", port.cut(a, b), model.cut(a, b));
                    break;
                case 12:
                    same("gossips()", port.gossips(), model.gossips());
                    break;
                case 13:
                    for (int what = -1; what < 4; what++) {
                        same("cool(" + what + ")", port.cool(what), model.cool(what));
                    }
                    break;
                case 14: {
                    int set = random.nextInt(6) == 0 ? in(0, 255) : model.pawnedSet() & random.nextInt(256);
                    for (int what = -1; what < 7; what++) {
                        same("plan(" + set + "," + what + ")", port.plan(set, what), model.plan(set, what));
                    }
                    break;
                }
                case 15: {
                    int n = in(0, 60);
                    same("best(" + q + "," + n + ",false)", port.best(q, n, false), model.best(q, n, false));
                    same("best(" + q + "," + n + ",true)", port.best(q, n, true), model.best(q, n, true));
                    break;
                }
                case 16: {
                    same("tickets(-1)", port.tickets(-1), model.tickets(-1));
                    int i = in(-1, random.nextBoolean() ? 9 : 999);
                    same("tickets(" + i + ")", port.tickets(i), model.tickets(i));
                    break;
                }
                case 17:
                case 18: {
                    int err = random.nextInt(3) == 0 ? 9 : in(0, 9);
                    for (int hook = -2; hook < 7; hook++) {
                        same("hung(" + err + "," + hook + ")", port.hung(err, hook), model.hung(err, hook));
                    }
                    same("look(" + err + ")", port.look(err), model.look(err));
                    break;
                }
                case 19:
                    for (int what = -1; what < 4; what++) {
                        same("market(" + what + ")", port.market(what), model.market(what));
                    }
                    same("gain()", port.gain(), model.gain());
                    break;
                case 20:
                    same("whose()", port.whose(), model.whose());
                    break;
                case 21:
                    same("hottest()", port.hottest(), model.hottest());
                    break;
                case 22:
                    same("silent()", port.silent(), model.silent());
                    break;
                case 23: {
                    int what = in(0, 2);
                    same("ledger(" + what + ")", port.ledger(what), model.ledger(what));
                    break;
                }
                default:
                    for (int what = -1; what < 9; what++) {
                        same("about(" + what + ")", port.about(what), model.about(what));
                    }
                    break;
            }
        }
    }

    // ------------------------------------------------------------------ texts

    private static final class TextMaker {
        final Random random;
        final StringBuilder out = new StringBuilder();

        TextMaker(Random random) {
            this.random = random;
        }

        String make() {
            int clauses = random.nextInt(12) == 0 ? 22 + random.nextInt(6) : random.nextInt(7);
            boolean dues = false;
            boolean sells = false;
            for (int i = 0; i < clauses; i++) {
                int kind = random.nextInt(8);
                if (kind == 0 && (!dues || random.nextInt(9) == 0)) {
                    dues = true;
                    law(false);
                } else if (kind == 1 && (!sells || random.nextInt(9) == 0)) {
                    sells = true;
                    law(true);
                } else {
                    deed();
                }
            }
            if (random.nextInt(6) == 0) {
                deep();
            }
            String text = out.toString();
            if (text.length() > 300 && random.nextInt(3) > 0) {
                text = cutBehindClause(text);
            }
            if (text.length() > 300) {
                text = text.substring(0, 300);
            }
            return random.nextInt(4) == 0 ? spoil(text) : text;
        }

        String cutBehindClause(String text) {
            int at = text.lastIndexOf(';', 299);
            return at < 0 ? text : text.substring(0, at + 1);
        }

        String spoil(String text) {
            StringBuilder s = new StringBuilder(text);
            int n = 1 + random.nextInt(2);
            for (int i = 0; i < n && s.length() > 0; i++) {
                int at = random.nextInt(s.length());
                switch (random.nextInt(5)) {
                    case 0:
                        s.deleteCharAt(at);
                        break;
                    case 1:
                        s.setCharAt(at, (char) random.nextInt(256));
                        break;
                    case 2:
                        s.insert(at, " 12345678901 ".substring(random.nextInt(9)));
                        break;
                    case 3:
                        s.insert(at, " ; ( ) not by end dues sells purse pawned - < = day A".split(" ")[random.nextInt(16)]);
                        break;
                    default:
                        s.setLength(at);
                        break;
                }
            }
            return s.length() > 300 ? s.substring(0, 300) : s.toString();
        }

        void put(String word) {
            int n = out.length();
            boolean letter = n > 0 && Character.isLetterOrDigit(out.charAt(n - 1));
            boolean more = Character.isLetterOrDigit(word.charAt(0));
            if (letter && more || random.nextInt(12) == 0) {
                out.append(random.nextInt(9) == 0 ? '\n' : ' ');
            }
            out.append(word);
        }

        void law(boolean sells) {
            put(sells ? "sells" : "dues");
            sum(sells, 3);
            put(";");
        }

        int number(int least, int most) {
            return random.nextInt(60) == 0 ? most + 1 : random.nextInt(80) == 0 ? least - 1 : least + random.nextInt(most - least + 1);
        }

        void deed() {
            switch (random.nextInt(6)) {
                case 0:
                    put("quarrel");
                    put("" + Math.max(0, number(0, 5)));
                    put("by");
                    put("" + Math.max(0, number(0, 5)));
                    put("worth");
                    put("" + number(1, 99));
                    break;
                case 1:
                    put("pawn");
                    put("" + Math.max(0, number(0, 7)));
                    break;
                case 2:
                    put("redeem");
                    put("" + Math.max(0, number(0, 7)));
                    break;
                case 3:
                    put("earn");
                    put("" + Math.max(0, number(1, 999)));
                    break;
                default:
                    put("day");
                    put("" + number(1, random.nextInt(3) == 0 ? 60 : 4));
                    break;
            }
            put(";");
        }

        /** Around the limit of what may be open. */
        void deep() {
            put("dues");
            int n = 6 + random.nextInt(4);
            List<String> close = new ArrayList<>();
            for (int i = 0; i < n; i++) {
                switch (random.nextInt(6)) {
                    case 0:
                        put("(");
                        close.add(")");
                        break;
                    case 1:
                        put("-");
                        break;
                    case 2:
                        put("hot");
                        break;
                    case 3:
                        put("rest");
                        if (random.nextBoolean()) {
                            put("7");
                            put("by");
                        } else {
                            close.add("by 3");
                        }
                        break;
                    case 4:
                        put("if");
                        close.add("> 2 then 1 else 2 end");
                        break;
                    default:
                        put("if");
                        put("not");
                        close.add("# 2 then 1 else 2 end");
                        break;
                }
            }
            put("held");
            for (int i = close.size() - 1; i >= 0; i--) {
                out.append(' ').append(close.get(i));
            }
            put(";");
        }

        void sum(boolean sells, int depth) {
            product(sells, depth);
            while (random.nextInt(3) == 0) {
                put(random.nextBoolean() ? "+" : "-");
                product(sells, depth);
            }
        }

        void product(boolean sells, int depth) {
            one(sells, depth);
            while (random.nextInt(4) == 0) {
                put(random.nextBoolean() ? "*" : "/");
                one(sells, depth);
            }
        }

        void one(boolean sells, int depth) {
            int kind = depth <= 0 ? random.nextInt(2) : random.nextInt(8);
            switch (kind) {
                case 0:
                    put("" + Math.max(0, random.nextInt(3) == 0 ? number(0, 9999) : number(0, 12)));
                    break;
                case 1:
                case 7:
                    name(sells);
                    break;
                case 2:
                    put("(");
                    sum(sells, depth - 1);
                    put(")");
                    break;
                case 3:
                    put("-");
                    one(sells, depth - 1);
                    break;
                case 4:
                    put("rest");
                    one(sells, depth - 1);
                    put("by");
                    one(sells, depth - 1);
                    break;
                case 5:
                    put("hot");
                    one(sells, depth - 1);
                    break;
                default:
                    put("if");
                    either(sells, depth - 1);
                    put("then");
                    sum(sells, depth - 1);
                    put("else");
                    sum(sells, depth - 1);
                    put("end");
                    break;
            }
        }

        void name(boolean sells) {
            String[] names = {"day", "rain", "number", "worth", "heat", "held", sells ? "pawned" : "purse"};
            if (random.nextInt(150) == 0) {
                put(sells ? "purse" : "pawned");
            } else {
                put(names[random.nextInt(names.length)]);
            }
        }

        void either(boolean sells, int depth) {
            both(sells, depth);
            while (random.nextInt(4) == 0) {
                put("or");
                both(sells, depth);
            }
        }

        void both(boolean sells, int depth) {
            ask(sells, depth);
            while (random.nextInt(4) == 0) {
                put("and");
                ask(sells, depth);
            }
        }

        void ask(boolean sells, int depth) {
            if (random.nextInt(4) == 0) {
                put("not");
                ask(sells, depth - 1);
                return;
            }
            sum(sells, depth - 1);
            put(new String[] {"<", "<=", ">", ">=", "=", "#"}[random.nextInt(6)]);
            sum(sells, depth - 1);
        }
    }

    // ------------------------------------------------------------------ the language of the model

    private static final class Fault extends RuntimeException {
        private static final long serialVersionUID = 1L;
        final int kind;
        final int place;

        Fault(int kind, int place) {
            this.kind = kind;
            this.place = place;
        }
    }

    private interface Value {
        long ask(Moment moment);
    }

    private interface Condition {
        boolean ask(Moment moment);
    }

    /** What a law can see. */
    private static final class Moment {
        long day;
        long rain;
        long number;
        long worth;
        long heat;
        long held;
        long purse;
        long pawned;
        int[] heats;
    }

    private static final class Token {
        final String text;
        final int place;

        Token(String text, int place) {
            this.text = text;
            this.place = place;
        }

        boolean isNumber() {
            return !text.isEmpty() && Character.isDigit(text.charAt(0));
        }

        int number() {
            String digits = text.replaceFirst("^0+(?=.)", "");
            return digits.length() > 6 ? 999999 : Integer.parseInt(digits);
        }
    }

    private static final class Clause {
        final String kind;
        final int[] numbers;

        Clause(String kind, int... numbers) {
            this.kind = kind;
            this.numbers = numbers;
        }
    }

    private static final class Script {
        final List<Clause> clauses = new ArrayList<>();
        Value dues;
        Value sells;
    }

    private static final class Parser {
        final List<Token> tokens = new ArrayList<>();
        int at = 0;
        int open = 0;
        String law = "";

        Parser(String text) {
            int i = 0;
            while (i < text.length()) {
                char c = text.charAt(i);
                if (c == ' ' || c == '\n') {
                    i++;
                    continue;
                }
                int from = i;
                if (letter(c)) {
                    while (i < text.length() && letter(text.charAt(i))) {
                        i++;
                    }
                } else if (c >= '0' && c <= '9') {
                    while (i < text.length() && text.charAt(i) >= '0' && text.charAt(i) <= '9') {
                        i++;
                    }
                } else if (text.startsWith("<=", i) || text.startsWith(">=", i)) {
                    i += 2;
                } else {
                    i++;
                }
                tokens.add(new Token(text.substring(from, i), from));
            }
            tokens.add(new Token("", text.length()));
        }

        static boolean letter(char c) {
            return c >= 'a' && c <= 'z' || c >= 'A' && c <= 'Z';
        }

        Token now() {
            return tokens.get(at);
        }

        boolean sees(String text) {
            return now().text.equals(text);
        }

        Fault fault(int kind) {
            return new Fault(kind, now().place);
        }

        void need(String text) {
            if (!sees(text)) {
                throw fault(1);
            }
            at++;
        }

        int number(int least, int most) {
            if (!now().isNumber()) {
                throw fault(1);
            }
            int n = now().number();
            if (n < least || n > most) {
                throw fault(2);
            }
            at++;
            return n;
        }

        Script script() {
            Script script = new Script();
            while (!sees("")) {
                String kind = now().text;
                if (!Arrays.asList("dues", "sells", "quarrel", "pawn", "redeem", "earn", "day").contains(kind)) {
                    throw fault(1);
                }
                if (kind.equals("dues") && script.dues != null || kind.equals("sells") && script.sells != null) {
                    throw fault(4);
                }
                if (script.clauses.size() == 24) {
                    throw fault(6);
                }
                at++;
                clause(script, kind);
                need(";");
            }
            return script;
        }

        void clause(Script script, String kind) {
            if (kind.equals("dues")) {
                law = kind;
                script.dues = sum();
                script.clauses.add(new Clause(kind));
            } else if (kind.equals("sells")) {
                law = kind;
                script.sells = sum();
                script.clauses.add(new Clause(kind));
            } else if (kind.equals("quarrel")) {
                int a = number(0, 5);
                need("by");
                int b = number(0, 5);
                need("worth");
                script.clauses.add(new Clause(kind, a, b, number(1, 99)));
            } else if (kind.equals("earn")) {
                script.clauses.add(new Clause(kind, number(1, 999)));
            } else if (kind.equals("day")) {
                script.clauses.add(new Clause(kind, number(1, 60)));
            } else {
                script.clauses.add(new Clause(kind, number(0, 7)));
            }
        }

        static long hold(long v) {
            return v > 1000000 ? 1000000 : v < -1000000 ? -1000000 : v;
        }

        Value sum() {
            Value left = product();
            while (sees("+") || sees("-")) {
                boolean plus = sees("+");
                at++;
                Value a = left;
                Value b = product();
                left = plus ? m -> hold(a.ask(m) + b.ask(m)) : m -> hold(a.ask(m) - b.ask(m));
            }
            return left;
        }

        Value product() {
            Value left = one();
            while (sees("*") || sees("/")) {
                boolean times = sees("*");
                at++;
                Value a = left;
                Value b = one();
                left = times ? m -> hold(a.ask(m) * b.ask(m)) : m -> b.ask(m) == 0 ? 0 : a.ask(m) / b.ask(m);
            }
            return left;
        }

        void openOne() {
            if (open == 8) {
                throw fault(3);
            }
            open++;
            at++;
        }

        Value one() {
            Token t = now();
            if (t.isNumber()) {
                int n = number(0, 9999);
                return m -> n;
            }
            Value value;
            switch (t.text) {
                case "day": at++; return m -> m.day;
                case "rain": at++; return m -> m.rain;
                case "number": at++; return m -> m.number;
                case "worth": at++; return m -> m.worth;
                case "heat": at++; return m -> m.heat;
                case "held": at++; return m -> m.held;
                case "purse":
                    if (!law.equals("dues")) {
                        throw fault(5);
                    }
                    at++;
                    return m -> m.purse;
                case "pawned":
                    if (!law.equals("sells")) {
                        throw fault(5);
                    }
                    at++;
                    return m -> m.pawned;
                case "(":
                    openOne();
                    value = sum();
                    need(")");
                    break;
                case "-": {
                    openOne();
                    Value a = one();
                    value = m -> -a.ask(m);
                    break;
                }
                case "rest": {
                    openOne();
                    Value a = one();
                    need("by");
                    Value b = one();
                    value = m -> b.ask(m) == 0 ? 0 : Math.abs(a.ask(m)) % Math.abs(b.ask(m));
                    break;
                }
                case "hot": {
                    openOne();
                    Value a = one();
                    value = m -> {
                        long n = a.ask(m);
                        return n >= 0 && n < m.heats.length ? m.heats[(int) n] : 0;
                    };
                    break;
                }
                case "if": {
                    openOne();
                    Condition c = either();
                    need("then");
                    Value a = sum();
                    need("else");
                    Value b = sum();
                    need("end");
                    value = m -> c.ask(m) ? a.ask(m) : b.ask(m);
                    break;
                }
                default:
                    throw fault(1);
            }
            open--;
            return value;
        }

        Condition either() {
            Condition left = both();
            while (sees("or")) {
                at++;
                Condition a = left;
                Condition b = both();
                left = m -> a.ask(m) | b.ask(m);
            }
            return left;
        }

        Condition both() {
            Condition left = ask();
            while (sees("and")) {
                at++;
                Condition a = left;
                Condition b = ask();
                left = m -> a.ask(m) & b.ask(m);
            }
            return left;
        }

        Condition ask() {
            if (sees("not")) {
                openOne();
                Condition a = ask();
                open--;
                return m -> !a.ask(m);
            }
            Value a = sum();
            String sign = now().text;
            if (!Arrays.asList("<", "<=", ">", ">=", "=", "#").contains(sign)) {
                throw fault(1);
            }
            at++;
            Value b = sum();
            return m -> {
                int c = Long.compare(a.ask(m), b.ask(m));
                switch (sign) {
                    case "<": return c < 0;
                    case "<=": return c <= 0;
                    case ">": return c > 0;
                    case ">=": return c >= 0;
                    case "=": return c == 0;
                    default: return c != 0;
                }
            };
        }
    }

    // ------------------------------------------------------------------ the model

    private static final class Quarrel implements Cloneable {
        int a;
        int b;
        int worth;
        int heatTold;
        int heat;
        int how;
        int since;

        Quarrel copy() {
            Quarrel q = new Quarrel();
            q.a = a;
            q.b = b;
            q.worth = worth;
            q.heatTold = heatTold;
            q.heat = heat;
            q.how = how;
            q.since = since;
            return q;
        }
    }

    /** All, or (as a step) all but what is only told. */
    private static final class All {
        List<Quarrel> quarrels = new ArrayList<>();
        int purse = 0;
        int rain = 0;
        int day = 0;
        int x = 373;
        List<int[]> book = new ArrayList<>();
        List<All> steps = new ArrayList<>();
        List<Script> texts = new ArrayList<>();
        int ruling = -1;
        int wage = 0;
        int[] digits = {-1, -1, -1, -1};
        List<Integer> hooks = new ArrayList<>();
        List<int[]> bids = new ArrayList<>();
        List<int[]> said = new ArrayList<>();

        All stand() {
            All c = new All();
            for (Quarrel q : quarrels) {
                c.quarrels.add(q.copy());
            }
            c.purse = purse;
            c.rain = rain;
            c.day = day;
            c.x = x;
            c.book = new ArrayList<>(book);
            return c;
        }

        All copy() {
            All c = stand();
            c.steps = new ArrayList<>(steps);
            c.texts = new ArrayList<>(texts);
            c.ruling = ruling;
            c.wage = wage;
            c.digits = digits.clone();
            c.hooks = new ArrayList<>(hooks);
            c.bids = new ArrayList<>(bids);
            c.said = new ArrayList<>(said);
            return c;
        }
    }

    private static final class Model {
        All all = new All();
        All image = new All();
        String tape = "";
        int fault = -1;
        int place = -1;

        int quarrel(int a, int b, int worth, int heat) {
            if (!two(a, b) || worth < 1 || worth > 99 || heat < 0 || heat > 9 || all.quarrels.size() == 8) {
                return -1;
            }
            Quarrel q = new Quarrel();
            q.a = a;
            q.b = b;
            q.worth = worth;
            q.heat = heat;
            q.heatTold = heat;
            all.quarrels.add(q);
            return all.quarrels.size() - 1;
        }

        static boolean person(int a) {
            return 0 <= a && a <= 5;
        }

        static boolean two(int a, int b) {
            return person(a) && person(b) && a != b;
        }

        int feed(int... v) {
            if (tape.length() > 280) {
                return -1;
            }
            StringBuilder s = new StringBuilder(tape);
            for (int four : v) {
                s.append((char) (four >> 24 & 255)).append((char) (four >> 16 & 255));
                s.append((char) (four >> 8 & 255)).append((char) (four & 255));
            }
            tape = s.toString();
            return tape.length();
        }

        int end(int n) {
            if (n < 0 || n > tape.length()) {
                return -1;
            }
            tape = tape.substring(0, n);
            return n;
        }

        int text() {
            if (all.texts.size() == 4) {
                return -1;
            }
            String text = tape;
            tape = "";
            try {
                Script script = new Parser(text).script();
                fault = 0;
                place = -1;
                all.texts.add(script);
                return all.texts.size() - 1;
            } catch (Fault f) {
                fault = f.kind;
                place = f.place;
                return -1;
            }
        }

        int fault(int what) {
            return what == 0 ? fault : what == 1 ? place : -1;
        }

        boolean by(int text) {
            if (text < -1 || text >= all.texts.size()) {
                return false;
            }
            all.ruling = text;
            return true;
        }

        boolean has(int q) {
            return q >= 0 && q < all.quarrels.size();
        }

        boolean how(int q, int how) {
            return has(q) && all.quarrels.get(q).how == how;
        }

        void step() {
            all.steps.add(all.stand());
            if (all.steps.size() > 30) {
                all.steps.remove(0);
            }
        }

        void write(int q, int what) {
            all.book.add(new int[] {all.day, q, what, all.purse});
            if (all.book.size() > 30) {
                all.book.remove(0);
            }
        }

        boolean pawnIt(int q) {
            if (!how(q, 0)) {
                return false;
            }
            Quarrel it = all.quarrels.get(q);
            it.how = 1;
            it.since = all.day;
            all.purse = Math.min(9999, all.purse + it.worth / 2);
            write(q, 0);
            return true;
        }

        int redeemIt(int q) {
            if (!how(q, 1) || dues(q) > all.purse) {
                return -1;
            }
            int paid = dues(q);
            all.purse -= paid;
            all.quarrels.get(q).how = 2;
            write(q, 1);
            return paid;
        }

        boolean earnIt(int sum) {
            if (all.purse + sum > 9999) {
                return false;
            }
            all.purse += sum;
            return true;
        }

        boolean pawn(int q) {
            All ahead = all.stand();
            boolean done = pawnIt(q);
            keep(done, ahead);
            return done;
        }

        int redeem(int q) {
            All ahead = all.stand();
            int paid = redeemIt(q);
            keep(paid >= 0, ahead);
            return paid;
        }

        boolean earn(int sum) {
            if (sum < 1 || sum > 999) {
                return false;
            }
            All ahead = all.stand();
            boolean done = earnIt(sum);
            keep(done, ahead);
            return done;
        }

        void keep(boolean done, All ahead) {
            if (done) {
                all.steps.add(ahead);
                while (all.steps.size() > 30) {
                    all.steps.remove(0);
                }
            }
        }

        int day(int n) {
            if (n < 1 || n > 60 || all.day + n > 9999) {
                return -1;
            }
            int sold = 0;
            for (int i = 0; i < n; i++) {
                step();
                sold += pass();
            }
            return sold;
        }

        int draw(int by) {
            int d = all.x % by;
            all.x = (all.x * 619 + 493) % 30871;
            return d;
        }

        int pass() {
            all.rain = draw(10) < 4 ? 1 : 0;
            int n = all.quarrels.size();
            if (n > 0) {
                Quarrel q = all.quarrels.get(draw(n));
                if (q.how == 0 && q.heat < 9) {
                    q.heat++;
                } else if (q.how == 1 && all.rain == 1 && q.heat > 0) {
                    q.heat--;
                }
            }
            int sold = 0;
            for (int i = 0; i < n; i++) {
                if (how(i, 1) && sells(i) > 0) {
                    all.quarrels.get(i).how = 3;
                    write(i, 2);
                    sold++;
                }
            }
            all.day++;
            return sold;
        }

        int played(int text) {
            if (text < 0 || text >= all.texts.size()) {
                return -2;
            }
            List<Clause> clauses = all.texts.get(text).clauses;
            for (int i = 0; i < clauses.size(); i++) {
                Clause c = clauses.get(i);
                boolean done = true;
                if (c.kind.equals("quarrel")) {
                    done = quarrel(c.numbers[0], c.numbers[1], c.numbers[2], 0) >= 0;
                } else if (c.kind.equals("pawn")) {
                    done = pawn(c.numbers[0]);
                } else if (c.kind.equals("redeem")) {
                    done = redeem(c.numbers[0]) >= 0;
                } else if (c.kind.equals("earn")) {
                    done = earn(c.numbers[0]);
                } else if (c.kind.equals("day")) {
                    for (int k = 0; k < c.numbers[0] && done; k++) {
                        done = day(1) >= 0;
                    }
                }
                if (!done) {
                    return i;
                }
            }
            return -1;
        }

        int years(int seed, int n) {
            if (seed < 0 || seed > 9999 || n < 1 || n > 40) {
                return -1;
            }
            step();
            all.x = seed * 2 + 373;
            int many = all.quarrels.size();
            for (int i = 0; i < n; i++) {
                int x = all.x;
                draw(2);
                if (x % 6 == 0 && many > 0) {
                    pawnIt(x / 6 % many);
                } else if ((x % 6 == 1 || x % 6 == 2) && many > 0) {
                    redeemIt(x / 6 % many);
                } else if (x % 6 == 3) {
                    earnIt(1 + x / 6 % 9);
                } else if (x % 6 > 3 && all.day < 9999) {
                    pass();
                }
            }
            return all.day;
        }

        int undo() {
            if (all.steps.isEmpty()) {
                return -1;
            }
            All ahead = all.steps.remove(all.steps.size() - 1);
            All copy = ahead.stand();
            for (int i = copy.quarrels.size(); i < all.quarrels.size(); i++) {
                Quarrel q = all.quarrels.get(i).copy();
                q.how = 0;
                q.heat = q.heatTold;
                copy.quarrels.add(q);
            }
            all.quarrels = copy.quarrels;
            all.purse = copy.purse;
            all.rain = copy.rain;
            all.day = copy.day;
            all.x = copy.x;
            all.book = copy.book;
            return all.steps.size();
        }

        int held(int q) {
            return how(q, 1) ? all.day - all.quarrels.get(q).since : 0;
        }

        Moment moment(int q, int later, int purse) {
            Moment m = new Moment();
            Quarrel it = all.quarrels.get(q);
            m.day = all.day + later;
            m.rain = all.rain;
            m.number = q;
            m.worth = it.worth;
            m.heat = it.heat;
            m.held = held(q) + later;
            m.purse = purse;
            m.pawned = all.quarrels.stream().filter(k -> k.how == 1).count();
            m.heats = all.quarrels.stream().mapToInt(k -> k.heat).toArray();
            return m;
        }

        int duesBy(int text, int q, int later, int purse) {
            Moment m = moment(q, later, purse);
            Value law = text < 0 ? null : all.texts.get(text).dues;
            long v = law == null ? m.worth + m.held * m.worth / 50 : law.ask(m);
            return (int) Math.min(9999, Math.max(0, v));
        }

        int dues(int q) {
            return duesBy(all.ruling, q, 0, all.purse);
        }

        int sells(int q) {
            Moment m = moment(q, 0, all.purse);
            Value law = all.ruling < 0 ? null : all.texts.get(all.ruling).sells;
            long v = law == null ? m.held - 30 : law.ask(m);
            return (int) Math.min(99, Math.max(-99, v));
        }

        int of(int q, int what) {
            if (!has(q) || what < 0 || what > 7) {
                return -10000;
            }
            Quarrel it = all.quarrels.get(q);
            int[] known = {it.a, it.b, it.worth, it.heat, it.how, held(q), dues(q), sells(q)};
            return known[what];
        }

        int is(int what) {
            if (what < 0 || what > 4) {
                return -2;
            }
            int sum = 0;
            for (int i = 0; i < all.quarrels.size(); i++) {
                sum += how(i, 1) ? dues(i) : 0;
            }
            return new int[] {all.day, all.x, all.purse, all.rain, sum}[what];
        }

        int book(int i, int what) {
            if (i == -1) {
                return all.book.size();
            }
            return i < 0 || i >= all.book.size() || what < 0 || what > 3 ? -2 : all.book.get(i)[what];
        }

        int foretold(int n, int q, int what) {
            if (n < 1 || n > 60 || !has(q) || what < 0 || what > 2) {
                return -2;
            }
            All now = all;
            all = now.copy();
            for (int i = 0; i < n; i++) {
                day(1);
            }
            int answer = of(q, what == 0 ? 4 : what == 1 ? 3 : 6);
            all = now;
            return answer;
        }

        boolean speak(int a, int b) {
            if (!two(a, b)) {
                return false;
            }
            for (Quarrel q : all.quarrels) {
                if ((q.a == a && q.b == b || q.a == b && q.b == a) && q.how != 2) {
                    return false;
                }
            }
            return true;
        }

        int spread(int from, int without) {
            int set = 1 << from;
            List<Integer> todo = new ArrayList<>(List.of(from));
            while (!todo.isEmpty()) {
                int a = todo.remove(0);
                for (int b = 0; b < 6; b++) {
                    if (b != without && (set & 1 << b) == 0 && speak(a, b)) {
                        set |= 1 << b;
                        todo.add(b);
                    }
                }
            }
            return set;
        }

        int group(int person) {
            return person(person) ? spread(person, -1) : -1;
        }

        int groups(boolean most) {
            List<Integer> seen = new ArrayList<>();
            int greatest = 0;
            for (int p = 0; p < 6; p++) {
                if (!seen.contains(group(p))) {
                    seen.add(group(p));
                }
                greatest = Math.max(greatest, Integer.bitCount(group(p)));
            }
            return most ? greatest : seen.size();
        }

        int cost(int a, int b) {
            if (!two(a, b)) {
                return -1;
            }
            int sum = 0;
            for (int i = 0; i < all.quarrels.size(); i++) {
                Quarrel q = all.quarrels.get(i);
                if (q.a == a && q.b == b || q.a == b && q.b == a) {
                    if (q.how == 0 || q.how == 3) {
                        return -1;
                    }
                    sum += q.how == 1 ? dues(i) : 0;
                }
            }
            return sum;
        }

        List<Integer> bestWay;
        int bestCost;

        void ways(List<Integer> way, int cost, int to, int[][] costs) {
            int last = way.get(way.size() - 1);
            if (last == to) {
                if (bestWay == null || cost < bestCost || cost == bestCost && lower(way, bestWay)) {
                    bestWay = new ArrayList<>(way);
                    bestCost = cost;
                }
                return;
            }
            for (int next = 0; next < 6; next++) {
                if (!way.contains(next) && costs[last][next] >= 0) {
                    way.add(next);
                    ways(way, cost + costs[last][next], to, costs);
                    way.remove(way.size() - 1);
                }
            }
        }

        static boolean lower(List<Integer> a, List<Integer> b) {
            if (a.size() != b.size()) {
                return a.size() < b.size();
            }
            for (int i = 0; i < a.size(); i++) {
                if (!a.get(i).equals(b.get(i))) {
                    return a.get(i) < b.get(i);
                }
            }
            return false;
        }

        int[][] costs() {
            int[][] costs = new int[6][6];
            for (int i = 0; i < 6; i++) {
                for (int k = 0; k < 6; k++) {
                    costs[i][k] = cost(i, k);
                }
            }
            return costs;
        }

        boolean findWay(int a, int b) {
            bestWay = null;
            if (person(a) && person(b)) {
                ways(new ArrayList<>(List.of(a)), 0, b, costs());
            }
            return bestWay != null;
        }

        int word(int a, int b) {
            return findWay(a, b) ? bestCost : -1;
        }

        int way(int a, int b, int i) {
            if (!findWay(a, b) || i < -1 || i >= bestWay.size()) {
                return -2;
            }
            return i == -1 ? bestWay.size() : bestWay.get(i);
        }

        int all() {
            List<int[]> pairs = new ArrayList<>();
            int[][] costs = costs();
            for (int a = 0; a < 6; a++) {
                for (int b = a + 1; b < 6; b++) {
                    if (costs[a][b] >= 0) {
                        pairs.add(new int[] {costs[a][b], a, b});
                    }
                }
            }
            pairs.sort((p, r) -> Integer.compare(p[0], r[0]));
            int[] leader = {0, 1, 2, 3, 4, 5};
            int sum = 0;
            int joined = 0;
            for (int[] p : pairs) {
                int from = leader[p[1]];
                int to = leader[p[2]];
                if (from != to) {
                    sum += p[0];
                    joined++;
                    for (int i = 0; i < 6; i++) {
                        if (leader[i] == from) {
                            leader[i] = to;
                        }
                    }
                }
            }
            return joined == 5 ? sum : -1;
        }

        /** By ways that share no pair (as many as must be cut). */
        int cut(int a, int b) {
            if (!two(a, b)) {
                return -1;
            }
            int[][] room = new int[6][6];
            for (int i = 0; i < 6; i++) {
                for (int k = 0; k < 6; k++) {
                    room[i][k] = speak(i, k) ? 1 : 0;
                }
            }
            int flow = 0;
            while (push(a, b, room, new boolean[6])) {
                flow++;
            }
            return flow;
        }

        boolean push(int at, int to, int[][] room, boolean[] seen) {
            if (at == to) {
                return true;
            }
            seen[at] = true;
            for (int next = 0; next < 6; next++) {
                if (!seen[next] && room[at][next] > 0) {
                    if (push(next, to, room, seen)) {
                        room[at][next]--;
                        room[next][at]++;
                        return true;
                    }
                }
            }
            return false;
        }

        int gossips() {
            int set = 0;
            for (int p = 0; p < 6; p++) {
                int others = group(p) & ~(1 << p);
                boolean parted = false;
                for (int k = 0; k < 6; k++) {
                    if ((others & 1 << k) != 0 && (spread(k, p) & others) != others) {
                        parted = true;
                    }
                }
                set |= parted ? 1 << p : 0;
            }
            return set;
        }

        int pawnedSet() {
            int set = 0;
            for (int i = 0; i < all.quarrels.size(); i++) {
                set |= how(i, 1) ? 1 << i : 0;
            }
            return set;
        }

        int cool(int what) {
            int[] best = null;
            for (int set = 0; set < 256; set++) {
                int heat = 0;
                int due = 0;
                boolean can = (set & ~pawnedSet()) == 0;
                for (int i = 0; i < 8 && can; i++) {
                    if ((set & 1 << i) != 0) {
                        heat += all.quarrels.get(i).heat;
                        due += dues(i);
                    }
                }
                if (can && due <= all.purse
                        && (best == null || heat > best[1] || heat == best[1] && due < best[2])) {
                    best = new int[] {set, heat, due};
                }
            }
            return what < 0 || what > 2 ? -1 : best[what];
        }

        boolean earns(int sum) {
            if (sum < 0 || sum > 99) {
                return false;
            }
            all.wage = sum;
            return true;
        }

        List<Integer> planned;
        int planDays;
        int planPaid;

        void orders(List<Integer> ahead, List<Integer> left) {
            if (left.isEmpty()) {
                tryOrder(ahead);
            }
            for (int i = 0; i < left.size(); i++) {
                List<Integer> order = new ArrayList<>(ahead);
                List<Integer> rest = new ArrayList<>(left);
                order.add(rest.remove(i));
                orders(order, rest);
            }
        }

        /** Day by day: the wage comes, then all that can be paid for in this order is. */
        void tryOrder(List<Integer> order) {
            int purse = all.purse;
            int paid = 0;
            int next = 0;
            for (int t = 0; t <= 60; t++) {
                purse += t > 0 ? all.wage : 0;
                while (next < order.size()) {
                    int due = duesBy(all.ruling, order.get(next), t, purse);
                    if (due > purse) {
                        break;
                    }
                    purse -= due;
                    paid += due;
                    next++;
                }
                if (next == order.size()) {
                    boolean better = planned == null || t < planDays || t == planDays && paid < planPaid
                            || t == planDays && paid == planPaid && lower(order, planned);
                    if (better) {
                        planned = order;
                        planDays = t;
                        planPaid = paid;
                    }
                    return;
                }
            }
        }

        int plan(int set, int what) {
            if (set < 0 || set > 255 || Integer.bitCount(set) > 5 || (set & ~pawnedSet()) != 0) {
                return -1;
            }
            List<Integer> left = new ArrayList<>();
            for (int i = 7; i >= 0; i--) {
                if ((set & 1 << i) != 0) {
                    left.add(i);
                }
            }
            planned = null;
            orders(new ArrayList<>(), left);
            if (planned == null || what < 0 || what - 2 >= planned.size()) {
                return -1;
            }
            return what == 0 ? planDays : what == 1 ? planPaid : planned.get(what - 2);
        }

        int best(int q, int n, boolean day) {
            if (!how(q, 1) || n < 0 || n > 60) {
                return -1;
            }
            int least = Integer.MAX_VALUE;
            int when = 0;
            for (int t = n; t >= 0; t--) {
                int due = duesBy(all.ruling, q, t, all.purse);
                if (due <= least) {
                    least = due;
                    when = t;
                }
            }
            return day ? when : least;
        }

        boolean digit(int place, int digit) {
            if (place < 0 || place > 3 || digit < -1 || digit > 9) {
                return false;
            }
            all.digits[place] = digit;
            return true;
        }

        int tickets(int i) {
            List<Integer> fit = new ArrayList<>();
            for (int n = 0; n < 10000; n++) {
                int[] d = {n / 1000, n / 100 % 10, n / 10 % 10, n % 10};
                boolean ok = (d[0] + 3 * d[1] + 7 * d[2] + 9 * d[3]) % 10 == 0;
                for (int k = 0; k < 4; k++) {
                    ok &= all.digits[k] == -1 || all.digits[k] == d[k];
                }
                if (ok) {
                    fit.add(n);
                }
            }
            return i == -1 ? fit.size() : i < 0 || i >= fit.size() ? -2 : fit.get(i);
        }

        int hook(int weight) {
            if (weight == -1) {
                all.hooks.clear();
                return 0;
            }
            if (weight < 1 || weight > 99 || all.hooks.size() == 6) {
                return -2;
            }
            all.hooks.add(weight);
            return all.hooks.size();
        }

        void hangings(int err, List<Integer> hung, List<List<Integer>> found) {
            if (hung.size() == all.hooks.size()) {
                found.add(new ArrayList<>(hung));
                return;
            }
            for (int q = 0; q < all.quarrels.size(); q++) {
                int out = Math.abs(all.quarrels.get(q).worth - all.hooks.get(hung.size()));
                if (how(q, 1) && !hung.contains(q) && out <= err) {
                    hung.add(q);
                    hangings(err, hung, found);
                    hung.remove(hung.size() - 1);
                }
            }
        }

        List<List<Integer>> hangings(int err) {
            List<List<Integer>> found = new ArrayList<>();
            hangings(err, new ArrayList<>(), found);
            return found;
        }

        int hung(int err, int hook) {
            if (err < 0 || err > 9 || hook < -1 || hook >= all.hooks.size()) {
                return -2;
            }
            List<List<Integer>> found = hangings(err);
            return hook == -1 ? found.size() : found.isEmpty() ? -2 : found.get(0).get(hook);
        }

        int look(int err) {
            if (err < 0 || err > 9) {
                return -1;
            }
            List<List<Integer>> found = hangings(err);
            int best = -1;
            int fewest = Integer.MAX_VALUE;
            for (int h = 0; h < all.hooks.size() && found.size() > 1; h++) {
                int[] left = new int[8];
                for (List<Integer> way : found) {
                    left[way.get(h)]++;
                }
                int most = Arrays.stream(left).max().getAsInt();
                if (most < fewest) {
                    fewest = most;
                    best = h;
                }
            }
            return best;
        }

        int bid(int price, boolean buys) {
            if (price == -1) {
                all.bids.clear();
                return 0;
            }
            if (price < 0 || price > 99 || all.bids.size() == 10) {
                return -2;
            }
            all.bids.add(new int[] {price, buys ? 1 : 0});
            return all.bids.size();
        }

        int[] trade() {
            List<Integer> buyers = new ArrayList<>();
            List<Integer> sellers = new ArrayList<>();
            for (int[] bid : all.bids) {
                (bid[1] == 1 ? buyers : sellers).add(bid[0]);
            }
            buyers.sort((p, r) -> Integer.compare(r, p));
            sellers.sort(Integer::compare);
            int trades = 0;
            int gain = 0;
            while (trades < buyers.size() && trades < sellers.size() && buyers.get(trades) >= sellers.get(trades)) {
                gain += buyers.get(trades) - sellers.get(trades);
                trades++;
            }
            int least = -1;
            int greatest = -1;
            for (int price = 0; price <= 99 && trades > 0; price++) {
                boolean fair = true;
                for (int i = 0; i < buyers.size(); i++) {
                    fair &= i < trades ? price <= buyers.get(i) : price >= buyers.get(i);
                }
                for (int i = 0; i < sellers.size(); i++) {
                    fair &= i < trades ? price >= sellers.get(i) : price <= sellers.get(i);
                }
                if (fair) {
                    least = least == -1 ? price : least;
                    greatest = price;
                }
            }
            return new int[] {trades, least, greatest, gain};
        }

        int market(int what) {
            return what < 0 || what > 2 ? -1 : trade()[what];
        }

        int gain() {
            return trade()[3];
        }

        int said(int q, int dues) {
            if (q == -1) {
                all.said.clear();
                return 0;
            }
            if (!has(q) || dues < 0 || dues > 9999 || all.said.size() == 8) {
                return -2;
            }
            all.said.add(new int[] {q, dues});
            return all.said.size();
        }

        int whose() {
            int set = 0;
            for (int t = 0; t < all.texts.size(); t++) {
                boolean so = true;
                for (int[] s : all.said) {
                    so &= duesBy(t, s[0], 0, all.purse) == s[1];
                }
                set |= so ? 1 << t : 0;
            }
            return set;
        }

        int hottest() {
            int best = -1;
            for (int i = all.quarrels.size() - 1; i >= 0; i--) {
                if (how(i, 0) && (best == -1 || all.quarrels.get(i).heat >= all.quarrels.get(best).heat)) {
                    best = i;
                }
            }
            return best;
        }

        int silent() {
            int set = 0;
            for (int p = 0; p < 6; p++) {
                set |= group(p) == 1 << p ? 1 << p : 0;
            }
            return set;
        }

        int ledger(int what) {
            return what < 0 || what > 2 ? -2 : (int) all.book.stream().filter(line -> line[2] == what).count();
        }

        int image() {
            image = all.copy();
            return all.day;
        }

        int back() {
            all = image.copy();
            return all.day;
        }

        int about(int what) {
            int[] known = {all.quarrels.size(), all.texts.size(), all.ruling, all.steps.size(), all.hooks.size(),
                all.bids.size(), all.said.size(), tape.length()};
            return what < 0 || what > 7 ? -2 : known[what];
        }
    }
}
