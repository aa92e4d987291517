import java.util.Arrays;

/**
 * A port where quarrels are pawned, redeemed and sold: see the document for its numbered promises.
 * The outer class is the face and looks at arguments; the classes inside do the work.
 */
public final class QuarrelsPawned {
    public static final int NONE = -1;

    private static final int NO_SUCH = -2;
    private static final int NOTHING_OF = -10000;

    private static final int PEOPLE = 6;
    private static final int EVERYBODY = 63;
    private static final int QUARRELS = 8;
    private static final int SETS = 256;
    private static final int MOST_WORTH = 99;
    private static final int MOST_HEAT = 9;
    private static final int MOST_PURSE = 9999;
    private static final int MOST_EARNED = 999;
    private static final int LAST_DAY = 9999;
    private static final int MOST_DAYS = 60;
    private static final int MOST_DUES = 9999;
    private static final int MOST_SELLS = 99;
    private static final int MOST_WAGE = 99;
    private static final int MOST_ERR = 9;
    private static final int MOST_PRICE = 99;
    private static final int MOST_SEED = 9999;
    private static final int MOST_YEARS = 40;
    private static final int FIRST_X = 373;

    private static final int STEPS = 30;
    private static final int BOOK = 30;
    private static final int LINE = 4;
    private static final int TEXTS = 4;
    private static final int TAPE = 300;
    private static final int CLAUSES = 24;
    private static final int CLAUSE = 4;
    private static final int PLACES = 4;
    private static final int HOOKS = 6;
    private static final int BIDS = 10;
    private static final int SAID = 8;
    private static final int PLANNED = 5;

    private static final int GOING_ON = 0;
    private static final int PAWNED = 1;
    private static final int REDEEMED = 2;
    private static final int SOLD = 3;

    private static final int WROTE_PAWNED = 0;
    private static final int WROTE_REDEEMED = 1;
    private static final int WROTE_SOLD = 2;

    private static final int SELLS = 0;
    private static final int BUYS = 1;

    // What code does; those that take nothing come first, then those of one, of two, of three.
    private static final int PUSH = 0;
    private static final int NAME = 1;
    private static final int NEGATE = 2;
    private static final int HOT = 3;
    private static final int NOT = 4;
    private static final int ADD = 5;
    private static final int SUBTRACT = 6;
    private static final int MULTIPLY = 7;
    private static final int DIVIDE = 8;
    private static final int REST = 9;
    private static final int LESS = 10;
    private static final int LESS_OR_SAME = 11;
    private static final int MORE = 12;
    private static final int MORE_OR_SAME = 13;
    private static final int SAME = 14;
    private static final int UNLIKE = 15;
    private static final int AND = 16;
    private static final int OR = 17;
    private static final int CHOOSE = 18;

    private static final int OPERATION = 16384;
    private static final int BOUND = 1000000;

    // What a TOKEN is; a sign of one byte is its own number, a word its place among WORDS.
    private static final int END_OF_TAPE = 0;
    private static final int STRANGE = 1;
    private static final int NUMBER = 2;
    private static final int SIGN_LESS_OR_SAME = 3;
    private static final int SIGN_MORE_OR_SAME = 4;
    private static final String SIGNS = "<>=#+-*/();";
    private static final String WORDS =
            "day rain number worth heat held purse pawned dues sells quarrel by pawn redeem earn rest hot if then else end not and or ";
    private static final int FIRST_WORD = 128;

    // The NAMES, as they come first among WORDS.
    private static final int NAMES = 8;
    private static final int NAME_DAY = 0;
    private static final int NAME_RAIN = 1;
    private static final int NAME_NUMBER = 2;
    private static final int NAME_WORTH = 3;
    private static final int NAME_HEAT = 4;
    private static final int NAME_HELD = 5;
    private static final int NAME_PURSE = 6;
    private static final int NAME_PAWNED = 7;

    private static final int WORD_DAY = 128;
    private static final int WORD_WORTH = 131;
    private static final int WORD_PURSE = 134;
    private static final int WORD_PAWNED = 135;
    private static final int WORD_DUES = 136;
    private static final int WORD_SELLS = 137;
    private static final int WORD_QUARREL = 138;
    private static final int WORD_BY = 139;
    private static final int WORD_PAWN = 140;
    private static final int WORD_REDEEM = 141;
    private static final int WORD_EARN = 142;
    private static final int WORD_REST = 143;
    private static final int WORD_HOT = 144;
    private static final int WORD_IF = 145;
    private static final int WORD_THEN = 146;
    private static final int WORD_ELSE = 147;
    private static final int WORD_END = 148;
    private static final int WORD_NOT = 149;
    private static final int WORD_AND = 150;
    private static final int WORD_OR = 151;

    private static final int MOST_NUMBER = 9999;
    private static final int MOST_OPEN = 8;

    private static final int CANT_STAND = 1;
    private static final int WRONG_NUMBER = 2;
    private static final int TOO_DEEP = 3;
    private static final int SECOND_LAW = 4;
    private static final int WRONG_NAME = 5;
    private static final int TOO_MANY = 6;

    private final World world = new World();
    private final World kept = new World();
    private final Laws laws = new Laws(world);
    private final Counter counter = new Counter(world, laws);
    private final Reader reader = new Reader();
    private final Talk talk = new Talk(world, laws);
    private final Planner planner = new Planner(world, laws);
    private final Hanger hanger = new Hanger(world);
    private final Dealer dealer = new Dealer(world.told);

    /** A port without quarrels; THE IMAGE is this. */
    public QuarrelsPawned() {
        kept.take(world);
    }

    /** Tells a QUARREL: its number, or NONE. */
    public int quarrel(int a, int b, int worth, int heat) {
        return world.tell(a, b, worth, heat);
    }

    /** Twenty bytes come behind the tape: how many it has, or NONE. */
    public int feed(int a, int b, int c, int d, int e) {
        if (reader.length + 20 > TAPE) {
            return NONE;
        }
        reader.append(a);
        reader.append(b);
        reader.append(c);
        reader.append(d);
        reader.append(e);
        return reader.length;
    }

    /** The tape keeps its first n bytes: n, or NONE. */
    public int end(int n) {
        if (n < 0 || n > reader.length) {
            return NONE;
        }
        reader.length = n;
        return n;
    }

    /** The tape becomes a TEXT: its number, or NONE. */
    public int text() {
        if (world.textCount >= TEXTS) {
            return NONE;
        }
        Text read = reader.read();
        reader.length = 0;
        if (read == null) {
            return NONE;
        }
        world.texts[world.textCount] = read;
        world.textCount++;
        return world.textCount - 1;
    }

    /** The latest FAULT or its place. */
    public int fault(int what) {
        if (what == 0) {
            return reader.latestFault;
        }
        return what == 1 ? reader.latestPlace : NONE;
    }

    /** THE TEXT is this one from now on (NONE: none). */
    public boolean by(int text) {
        if (text != NONE && !world.hasText(text)) {
            return false;
        }
        world.ruling = text;
        return true;
    }

    /** A QUARREL is PAWNED. */
    public boolean pawn(int quarrel) {
        return counter.pawnByHand(quarrel);
    }

    /** A QUARREL is REDEEMED: what was paid, or NONE. */
    public int redeem(int quarrel) {
        return counter.redeemByHand(quarrel);
    }

    /** A sum is EARNED. */
    public boolean earn(int sum) {
        return counter.earnByHand(sum);
    }

    /** DAYS pass: how many QUARRELS are sold in them, or NONE. */
    public int day(int n) {
        if (n < 1 || n > MOST_DAYS || world.now.day + n > LAST_DAY) {
            return NONE;
        }
        int sold = 0;
        for (int i = 0; i < n; i++) {
            sold += counter.dayByHand();
        }
        return sold;
    }

    /** PLAYED by a TEXT: NONE if all is done, else the number of the CLAUSE that can't be. */
    public int played(int text) {
        if (!world.hasText(text)) {
            return NO_SUCH;
        }
        Text script = world.texts[text];
        for (int i = 0; i < script.clauseCount; i++) {
            if (!counter.playClause(script, i)) {
                return i;
            }
        }
        return NONE;
    }

    /** YEARS by a SEED: DAY, or NONE. */
    public int years(int seed, int n) {
        if (seed < 0 || seed > MOST_SEED || n < 1 || n > MOST_YEARS) {
            return NONE;
        }
        world.keepStep();
        world.now.x = seed * 2 + FIRST_X;
        for (int i = 0; i < n; i++) {
            counter.liveByDraw();
        }
        return world.now.day;
    }

    /** The latest STEP is taken back: how many can be yet, or NONE. */
    public int undo() {
        return world.takeStepBack() ? world.stepCount : NONE;
    }

    /** What is known of a QUARREL. */
    public int of(int quarrel, int what) {
        Stand now = world.now;
        if (!now.has(quarrel)) {
            return NOTHING_OF;
        }
        switch (what) {
            case 0: return world.first[quarrel];
            case 1: return world.second[quarrel];
            case 2: return world.worth[quarrel];
            case 3: return now.heat[quarrel];
            case 4: return now.how[quarrel];
            case 5: return now.held(quarrel);
            case 6: return laws.dues(quarrel);
            case 7: return laws.sells(quarrel);
            default: return NOTHING_OF;
        }
    }

    /** What is known of the port. */
    public int is(int what) {
        switch (what) {
            case 0: return world.now.day;
            case 1: return world.now.x;
            case 2: return world.now.purse;
            case 3: return world.now.rain;
            case 4: return laws.duesOfPawned();
            default: return NO_SUCH;
        }
    }

    /** The BOOK: how many lines (i NONE), or what stands in the i-th. */
    public int book(int i, int what) {
        if (i == NONE) {
            return world.now.lines;
        }
        if (i < 0 || i >= world.now.lines || what < 0 || what >= LINE) {
            return NO_SUCH;
        }
        return world.book[i * LINE + what];
    }

    /** FORETOLD behind n DAYS: how a QUARREL is, its HEAT, its dues. */
    public int foretold(int n, int quarrel, int what) {
        if (n < 1 || n > MOST_DAYS || !world.now.has(quarrel) || what < 0 || what > 2) {
            return NO_SUCH;
        }
        return counter.foretell(n, quarrel, what);
    }

    /** Whether two SPEAK. */
    public boolean speak(int a, int b) {
        return areTwo(a, b) && talk.doSpeak(a, b);
    }

    /** The GROUP of a PERSON (bits), or NONE. */
    public int group(int person) {
        return isPerson(person) ? talk.groupOf(person) : NONE;
    }

    /** How many GROUPS there are, or how many PEOPLE the greatest has. */
    public int groups(boolean most) {
        return talk.countGroups(most);
    }

    /** THE COST of two, or NONE. */
    public int cost(int a, int b) {
        return areTwo(a, b) ? talk.costOf(a, b) : NONE;
    }

    /** What it costs that A WORD gets from one to another, or NONE. */
    public int word(int a, int b) {
        return isPerson(a) && isPerson(b) ? talk.wordCost(a, b) : NONE;
    }

    /** A WAY of a word: how many PEOPLE (i NONE), or the i-th. */
    public int way(int a, int b, int i) {
        if (!isPerson(a) || !isPerson(b)) {
            return NO_SUCH;
        }
        return talk.wayOf(a, b, i);
    }

    /** What it costs FOR ALL to be one GROUP, or NONE. */
    public int all() {
        return talk.costForAll();
    }

    /** A CUT of two, or NONE. */
    public int cut(int a, int b) {
        return areTwo(a, b) ? talk.fewestCut(a, b) : NONE;
    }

    /** GOSSIPS (bits). */
    public int gossips() {
        return talk.findGossips();
    }

    /** COOLEST: QUARRELS (bits), HEAT together, dues together. */
    public int cool(int what) {
        if (what < 0 || what > 2) {
            return NONE;
        }
        int set = planner.coolestSet();
        if (what == 0) {
            return set;
        }
        return what == 1 ? planner.heatOf(set) : planner.duesOf(set);
    }

    /** The WAGE of a PLAN is told. */
    public boolean earns(int sum) {
        if (sum < 0 || sum > MOST_WAGE) {
            return false;
        }
        world.told.wage = sum;
        return true;
    }

    /** A PLAN: behind how many DAYS, what is paid, the QUARRELS in their order. */
    public int plan(int quarrels, int what) {
        if (what < 0 || !planner.canBePlanned(quarrels) || !planner.findPlan(quarrels)) {
            return NONE;
        }
        if (what == 0) {
            return planner.bestDays;
        }
        if (what == 1) {
            return planner.bestPaid;
        }
        int i = what - 2;
        return i < Integer.bitCount(quarrels) && i < PLANNED ? planner.bestOrder[i] : NONE;
    }

    /** BEST of a pawned QUARREL: the least dues, or behind how many DAYS. */
    public int best(int quarrel, int n, boolean day) {
        if (!world.now.isHow(quarrel, PAWNED) || n < 0 || n > MOST_DAYS) {
            return NONE;
        }
        int when = planner.cheapestDay(quarrel, n);
        return day ? when : laws.duesBy(world.ruling, quarrel, when, world.now.purse);
    }

    /** A DIGIT of the TICKETS is told (NONE: not to be read). */
    public boolean digit(int place, int digit) {
        if (place < 0 || place >= PLACES || digit < NONE || digit > 9) {
            return false;
        }
        world.told.digits[place] = digit;
        return true;
    }

    /** TICKETS: how many (i NONE), or the i-th. */
    public int tickets(int i) {
        return i < NONE ? NO_SUCH : world.told.findTicket(i);
    }

    /** A HOOK: how many there are (weight NONE: none any more). */
    public int hook(int weight) {
        Told told = world.told;
        if (weight == NONE) {
            told.hookCount = 0;
            return 0;
        }
        if (weight < 1 || weight > MOST_WORTH || told.hookCount >= HOOKS) {
            return NO_SUCH;
        }
        told.hooks[told.hookCount] = weight;
        told.hookCount++;
        return told.hookCount;
    }

    /** HUNG: in how many ways (hook NONE), or the QUARREL of a HOOK by the lowest. */
    public int hung(int err, int hook) {
        if (err < 0 || err > MOST_ERR || hook < NONE || hook >= world.told.hookCount) {
            return NO_SUCH;
        }
        return hook == NONE ? hanger.countWays(err) : hanger.lowestOn(err, hook);
    }

    /** WHERE TO LOOK: the HOOK, or NONE. */
    public int look(int err) {
        return err < 0 || err > MOST_ERR ? NONE : hanger.whereToLook(err);
    }

    /** A BID: how many there are (price NONE: none any more). */
    public int bid(int price, boolean buys) {
        Told told = world.told;
        if (price == NONE) {
            told.bidCount = 0;
            return 0;
        }
        if (price < 0 || price > MOST_PRICE || told.bidCount >= BIDS) {
            return NO_SUCH;
        }
        told.prices[told.bidCount] = price;
        told.sides[told.bidCount] = buys ? BUYS : SELLS;
        told.bidCount++;
        return told.bidCount;
    }

    /** A MARKET: how many trades, the least, the greatest price. */
    public int market(int what) {
        int trades = dealer.findTrades();
        switch (what) {
            case 0: return trades;
            case 1: return dealer.leastPrice(trades);
            case 2: return dealer.greatestPrice(trades);
            default: return NONE;
        }
    }

    /** GAIN of all trades together. */
    public int gain() {
        return dealer.gainOf(dealer.findTrades());
    }

    /** SAID: how many there are (quarrel NONE: none any more). */
    public int said(int quarrel, int dues) {
        Told told = world.told;
        if (quarrel == NONE) {
            told.saidCount = 0;
            return 0;
        }
        if (!world.now.has(quarrel) || dues < 0 || dues > MOST_DUES || told.saidCount >= SAID) {
            return NO_SUCH;
        }
        told.saidQuarrel[told.saidCount] = quarrel;
        told.saidDues[told.saidCount] = dues;
        told.saidCount++;
        return told.saidCount;
    }

    /** WHOSE LAW it was: TEXTS (bits). */
    public int whose() {
        int set = 0;
        for (int text = 0; text < world.textCount; text++) {
            if (laws.agrees(text)) {
                set |= 1 << text;
            }
        }
        return set;
    }

    /** HOTTEST of those that are going on, or NONE. */
    public int hottest() {
        Stand now = world.now;
        int hottest = NONE;
        int most = NONE;
        for (int i = 0; i < now.quarrels; i++) {
            if (now.how[i] == GOING_ON && now.heat[i] > most) {
                most = now.heat[i];
                hottest = i;
            }
        }
        return hottest;
    }

    /** SILENT (bits): who SPEAK with nobody. */
    public int silent() {
        return talk.findSilent();
    }

    /** BY THE BOOK: how many lines there are of a kind. */
    public int ledger(int what) {
        return what < WROTE_PAWNED || what > WROTE_SOLD ? NO_SUCH : world.countLines(what);
    }

    /** THE IMAGE is as all is now: DAY. */
    public int image() {
        kept.take(world);
        return world.now.day;
    }

    /** BACK to THE IMAGE: DAY. */
    public int back() {
        world.take(kept);
        return world.now.day;
    }

    /** How many there are of what is told or kept. */
    public int about(int what) {
        switch (what) {
            case 0: return world.now.quarrels;
            case 1: return world.textCount;
            case 2: return world.ruling;
            case 3: return world.stepCount;
            case 4: return world.told.hookCount;
            case 5: return world.told.bidCount;
            case 6: return world.told.saidCount;
            case 7: return reader.length;
            default: return NO_SUCH;
        }
    }

    private static boolean isPerson(int person) {
        return person >= 0 && person < PEOPLE;
    }

    private static boolean areTwo(int a, int b) {
        return isPerson(a) && isPerson(b) && a != b;
    }

    /** What a STEP takes back. */
    private static final class Stand {
        final int[] how = new int[QUARRELS];
        final int[] since = new int[QUARRELS];
        final int[] heat = new int[QUARRELS];
        int quarrels;
        int purse;
        int rain;
        int day;
        int x = FIRST_X;
        int lines;

        void take(Stand other) {
            System.arraycopy(other.how, 0, how, 0, QUARRELS);
            System.arraycopy(other.since, 0, since, 0, QUARRELS);
            System.arraycopy(other.heat, 0, heat, 0, QUARRELS);
            quarrels = other.quarrels;
            purse = other.purse;
            rain = other.rain;
            day = other.day;
            x = other.x;
            lines = other.lines;
        }

        boolean has(int quarrel) {
            return quarrel >= 0 && quarrel < quarrels;
        }

        boolean isHow(int quarrel, int wanted) {
            return has(quarrel) && how[quarrel] == wanted;
        }

        int held(int quarrel) {
            return isHow(quarrel, PAWNED) ? day - since[quarrel] : 0;
        }

        void goOn(int quarrel, int heatTold) {
            how[quarrel] = GOING_ON;
            since[quarrel] = 0;
            heat[quarrel] = heatTold;
        }

        int countPawned() {
            int pawned = 0;
            for (int i = 0; i < quarrels; i++) {
                if (how[i] == PAWNED) {
                    pawned++;
                }
            }
            return pawned;
        }

        /** A draw is of X as it was; X is anew behind it. */
        int draw(int sides) {
            int drawn = sides > 0 ? x % sides : 0;
            x = (x * 619 + 493) % 30871;
            return drawn;
        }
    }

    /** What is told for questions alone: a WAGE, DIGITS, HOOKS, BIDS, SAID. */
    private static final class Told {
        final int[] digits = {NONE, NONE, NONE, NONE};
        final int[] hooks = new int[HOOKS];
        final int[] prices = new int[BIDS];
        final int[] sides = new int[BIDS];
        final int[] saidQuarrel = new int[SAID];
        final int[] saidDues = new int[SAID];
        int wage;
        int hookCount;
        int bidCount;
        int saidCount;

        void take(Told other) {
            System.arraycopy(other.digits, 0, digits, 0, PLACES);
            System.arraycopy(other.hooks, 0, hooks, 0, HOOKS);
            System.arraycopy(other.prices, 0, prices, 0, BIDS);
            System.arraycopy(other.sides, 0, sides, 0, BIDS);
            System.arraycopy(other.saidQuarrel, 0, saidQuarrel, 0, SAID);
            System.arraycopy(other.saidDues, 0, saidDues, 0, SAID);
            wage = other.wage;
            hookCount = other.hookCount;
            bidCount = other.bidCount;
            saidCount = other.saidCount;
        }

        /** The first three digits settle the fourth: 9 times it must undo the others' sum by 10. */
        int findTicket(int wanted) {
            int found = 0;
            for (int three = 0; three < 1000; three++) {
                int fourth = (three / 100 + 3 * (three / 10 % 10) + 7 * (three % 10)) % 10;
                int ticket = three * 10 + fourth;
                if (fits(ticket)) {
                    if (found == wanted) {
                        return ticket;
                    }
                    found++;
                }
            }
            return wanted == NONE ? found : NO_SUCH;
        }

        private boolean fits(int ticket) {
            int rest = ticket;
            for (int place = PLACES - 1; place >= 0; place--) {
                if (digits[place] != NONE && digits[place] != rest % 10) {
                    return false;
                }
                rest /= 10;
            }
            return true;
        }
    }

    /** All that an IMAGE keeps. */
    private static final class World {
        final int[] first = new int[QUARRELS];
        final int[] second = new int[QUARRELS];
        final int[] worth = new int[QUARRELS];
        final int[] heatTold = new int[QUARRELS];
        final Stand now = new Stand();
        final Stand[] steps = new Stand[STEPS];
        final int[] book = new int[BOOK * LINE];
        final Text[] texts = new Text[TEXTS];
        final Told told = new Told();
        int stepCount;
        int nextStep;
        int textCount;
        int ruling = NONE;

        World() {
            for (int i = 0; i < STEPS; i++) {
                steps[i] = new Stand();
            }
        }

        void take(World other) {
            System.arraycopy(other.first, 0, first, 0, QUARRELS);
            System.arraycopy(other.second, 0, second, 0, QUARRELS);
            System.arraycopy(other.worth, 0, worth, 0, QUARRELS);
            System.arraycopy(other.heatTold, 0, heatTold, 0, QUARRELS);
            System.arraycopy(other.book, 0, book, 0, BOOK * LINE);
            for (int i = 0; i < TEXTS; i++) {
                texts[i] = other.texts[i];
            }
            for (int i = 0; i < STEPS; i++) {
                steps[i].take(other.steps[i]);
            }
            now.take(other.now);
            told.take(other.told);
            stepCount = other.stepCount;
            nextStep = other.nextStep;
            textCount = other.textCount;
            ruling = other.ruling;
        }

        int tell(int a, int b, int worthTold, int heat) {
            int number = now.quarrels;
            if (!areTwo(a, b) || worthTold < 1 || worthTold > MOST_WORTH
                    || heat < 0 || heat > MOST_HEAT || number >= QUARRELS) {
                return NONE;
            }
            first[number] = a;
            second[number] = b;
            worth[number] = worthTold;
            heatTold[number] = heat;
            now.goOn(number, heat);
            now.quarrels++;
            return number;
        }

        boolean hasText(int text) {
            return text >= 0 && text < textCount && texts[text] != null;
        }

        /** Each QUARREL is pawned once and leaves once: sixteen lines at most, so none falls out of thirty. */
        void write(int quarrel, int what) {
            if (now.lines >= BOOK) {
                return;
            }
            int at = now.lines * LINE;
            book[at] = now.day;
            book[at + 1] = quarrel;
            book[at + 2] = what;
            book[at + 3] = now.purse;
            now.lines++;
        }

        int countLines(int what) {
            int count = 0;
            for (int i = 0; i < now.lines; i++) {
                if (book[i * LINE + 2] == what) {
                    count++;
                }
            }
            return count;
        }

        void keepStep() {
            steps[nextStep].take(now);
            nextStep = (nextStep + 1) % STEPS;
            stepCount = Math.min(STEPS, stepCount + 1);
        }

        boolean takeStepBack() {
            if (stepCount == 0) {
                return false;
            }
            int quarrels = now.quarrels;
            nextStep = (nextStep + STEPS - 1) % STEPS;
            stepCount--;
            now.take(steps[nextStep]);
            for (int i = now.quarrels; i < quarrels; i++) {
                now.goOn(i, heatTold[i]);
            }
            now.quarrels = quarrels;
            return true;
        }
    }

    /** A TEXT that was read: its CLAUSES, and the laws among them as code. */
    private static final class Text {
        final int[] code;
        final int[] clauses;
        final int clauseCount;
        final int duesFrom;
        final int duesTo;
        final int sellsFrom;
        final int sellsTo;

        Text(Reader reader) {
            code = Arrays.copyOf(reader.code, reader.codeSize);
            clauses = Arrays.copyOf(reader.clauses, reader.clauseCount * CLAUSE);
            clauseCount = reader.clauseCount;
            duesFrom = reader.duesFrom;
            duesTo = reader.duesTo;
            sellsFrom = reader.sellsFrom;
            sellsTo = reader.sellsTo;
        }

        boolean hasDues() {
            return duesTo > duesFrom;
        }

        boolean hasSells() {
            return sellsTo > sellsFrom;
        }

        int clausePart(int clause, int part) {
            return clauses[clause * CLAUSE + part];
        }
    }

    /** Says what is due and when one is sold, by THE TEXT or without. */
    private static final class Laws {
        private final World world;
        private final int[] names = new int[NAMES];
        private final int[] stack = new int[TAPE + 3];

        Laws(World world) {
            this.world = world;
        }

        int dues(int quarrel) {
            return duesBy(world.ruling, quarrel, 0, world.now.purse);
        }

        /** By a TEXT (or none), so many DAYS later, PURSE being so much. */
        int duesBy(int ruling, int quarrel, int later, int purse) {
            nameAll(quarrel, later, purse);
            int worth = names[NAME_WORTH];
            int due = worth + names[NAME_HELD] * worth / 50;
            if (world.hasText(ruling) && world.texts[ruling].hasDues()) {
                Text text = world.texts[ruling];
                due = valueOf(text.code, text.duesFrom, text.duesTo);
            }
            return Math.max(0, Math.min(MOST_DUES, due));
        }

        int duesOfPawned() {
            int sum = 0;
            for (int i = 0; i < world.now.quarrels; i++) {
                if (world.now.how[i] == PAWNED) {
                    sum += dues(i);
                }
            }
            return sum;
        }

        int sells(int quarrel) {
            nameAll(quarrel, 0, 0);
            int said = names[NAME_HELD] - 30;
            if (world.hasText(world.ruling) && world.texts[world.ruling].hasSells()) {
                Text text = world.texts[world.ruling];
                said = valueOf(text.code, text.sellsFrom, text.sellsTo);
            }
            return Math.max(-MOST_SELLS, Math.min(MOST_SELLS, said));
        }

        /** Whether by this TEXT all SAID are so. */
        boolean agrees(int text) {
            Told told = world.told;
            for (int i = 0; i < told.saidCount; i++) {
                if (duesBy(text, told.saidQuarrel[i], 0, world.now.purse) != told.saidDues[i]) {
                    return false;
                }
            }
            return true;
        }

        private void nameAll(int quarrel, int later, int purse) {
            Stand now = world.now;
            names[NAME_DAY] = now.day + later;
            names[NAME_RAIN] = now.rain;
            names[NAME_NUMBER] = quarrel;
            names[NAME_WORTH] = world.worth[quarrel];
            names[NAME_HEAT] = now.heat[quarrel];
            names[NAME_HELD] = now.how[quarrel] == PAWNED ? now.day - now.since[quarrel] + later : 0;
            names[NAME_PURSE] = purse;
            names[NAME_PAWNED] = now.countPawned();
        }

        /** The code was read without FAULT, so the stack always holds what an operation takes. */
        private int valueOf(int[] code, int from, int to) {
            int top = 0;
            for (int i = from; i < to && i < code.length; i++) {
                int operation = code[i] / OPERATION;
                int takes = takenBy(operation);
                if (top < takes || top >= TAPE) {
                    return 0;
                }
                top -= takes;
                int told = code[i] % OPERATION;
                long value = takes == 0 ? fetched(operation, told) : workedOut(operation, top);
                stack[top] = (int) Math.max(-BOUND, Math.min(BOUND, value));
                top++;
            }
            return stack[0];
        }

        private static int takenBy(int operation) {
            if (operation <= NAME) {
                return 0;
            }
            if (operation <= NOT) {
                return 1;
            }
            return operation <= OR ? 2 : 3;
        }

        private int fetched(int operation, int told) {
            return operation == NAME && told < NAMES ? names[told] : told;
        }

        /** Of if both SUMs are worked out and one is taken: none does anything else, and none can fail. */
        private long workedOut(int operation, int top) {
            long a = stack[top];
            long b = stack[top + 1];
            switch (operation) {
                case NEGATE: return -a;
                case HOT: return a >= 0 && a < world.now.quarrels ? world.now.heat[(int) a] : 0;
                case NOT: return 1 - a;
                case ADD: return a + b;
                case SUBTRACT: return a - b;
                case MULTIPLY: return a * b;
                case DIVIDE: return b == 0 ? 0 : a / b;
                case REST: return b == 0 ? 0 : Math.abs(a) % Math.abs(b);
                case LESS: return a < b ? 1 : 0;
                case LESS_OR_SAME: return a <= b ? 1 : 0;
                case MORE: return a > b ? 1 : 0;
                case MORE_OR_SAME: return a >= b ? 1 : 0;
                case SAME: return a == b ? 1 : 0;
                case UNLIKE: return a != b ? 1 : 0;
                case AND: return a * b;
                case OR: return Math.max(a, b);
                default: return a != 0 ? b : stack[top + 2];
            }
        }
    }

    /** The tape, and how it is read: TOKENS one by one, laws to code. */
    private static final class Reader {
        final int[] tape = new int[TAPE];
        final int[] code = new int[TAPE];
        final int[] clauses = new int[CLAUSES * CLAUSE];
        int length;
        int latestFault = NONE;
        int latestPlace = NONE;
        int codeSize;
        int clauseCount;
        int duesFrom;
        int duesTo;
        int sellsFrom;
        int sellsTo;
        private boolean inSells;
        private int at;
        private int start;
        private int kind;
        private int number;

        void append(int four) {
            for (int shift = 24; shift >= 0 && length < TAPE; shift -= 8) {
                tape[length] = four >>> shift & 255;
                length++;
            }
        }

        /** The TEXT of the tape, or null behind a FAULT. */
        Text read() {
            startAnew();
            advance();
            for (int i = 0; i <= CLAUSES && goesOn() && kind != END_OF_TAPE; i++) {
                readClause(i);
            }
            return goesOn() ? new Text(this) : null;
        }

        private void startAnew() {
            latestFault = 0;
            latestPlace = NONE;
            codeSize = 0;
            clauseCount = 0;
            duesFrom = 0;
            duesTo = 0;
            sellsFrom = 0;
            sellsTo = 0;
            at = 0;
        }

        private boolean goesOn() {
            return latestFault == 0;
        }

        private void refuse(int why) {
            if (goesOn()) {
                latestFault = why;
                latestPlace = start;
            }
        }

        private void advance() {
            while (at < length && (tape[at] == ' ' || tape[at] == 10)) {
                at++;
            }
            start = at;
            if (at >= length) {
                kind = END_OF_TAPE;
            } else if (isLetter(tape[at])) {
                while (at < length && isLetter(tape[at])) {
                    at++;
                }
                kind = kindOfWord(at - start);
            } else if (isDigit(tape[at])) {
                advanceNumber();
            } else {
                advanceSign(tape[at]);
            }
        }

        private static boolean isLetter(int sign) {
            return sign >= 'a' && sign <= 'z' || sign >= 'A' && sign <= 'Z';
        }

        private static boolean isDigit(int sign) {
            return sign >= '0' && sign <= '9';
        }

        /** Goes along WORDS; alike is how much of the word there is as on the tape, NONE if it is another. */
        private int kindOfWord(int size) {
            int word = FIRST_WORD;
            int alike = 0;
            for (int i = 0; i < WORDS.length(); i++) {
                char sign = WORDS.charAt(i);
                if (sign != ' ') {
                    alike = alike >= 0 && alike < size && tape[start + alike] == sign ? alike + 1 : NONE;
                } else if (alike == size) {
                    return word;
                } else {
                    alike = 0;
                    word++;
                }
            }
            return STRANGE;
        }

        private void advanceNumber() {
            kind = NUMBER;
            number = 0;
            while (at < length && isDigit(tape[at])) {
                number = Math.min(MOST_NUMBER + 1, number * 10 + tape[at] - '0');
                at++;
            }
        }

        private void advanceSign(int sign) {
            boolean alsoSame = at + 1 < length && tape[at + 1] == '=';
            if (alsoSame && (sign == '<' || sign == '>')) {
                kind = sign == '<' ? SIGN_LESS_OR_SAME : SIGN_MORE_OR_SAME;
                at += 2;
                return;
            }
            kind = SIGNS.indexOf((char) sign) >= 0 ? sign : STRANGE;
            at++;
        }

        private void readClause(int i) {
            int word = kind;
            if (!beginsClause(word)) {
                refuse(CANT_STAND);
            } else if (word == WORD_DUES && duesTo > 0 || word == WORD_SELLS && sellsTo > 0) {
                refuse(SECOND_LAW);
            } else if (i >= CLAUSES) {
                refuse(TOO_MANY);
            } else {
                clauses[i * CLAUSE] = word;
                clauseCount = i + 1;
                advance();
                if (word == WORD_DUES) {
                    inSells = false;
                    duesFrom = codeSize;
                    readSum(0);
                    duesTo = codeSize;
                } else if (word == WORD_SELLS) {
                    inSells = true;
                    sellsFrom = codeSize;
                    readSum(0);
                    sellsTo = codeSize;
                } else {
                    readDeed(word, i * CLAUSE);
                }
                expect(';');
            }
        }

        private static boolean beginsClause(int word) {
            switch (word) {
                case WORD_DUES:
                case WORD_SELLS:
                case WORD_QUARREL:
                case WORD_PAWN:
                case WORD_REDEEM:
                case WORD_EARN:
                case WORD_DAY:
                    return true;
                default:
                    return false;
            }
        }

        private void readDeed(int word, int place) {
            switch (word) {
                case WORD_QUARREL:
                    clauses[place + 1] = takeNumber(0, PEOPLE - 1);
                    expect(WORD_BY);
                    clauses[place + 2] = takeNumber(0, PEOPLE - 1);
                    expect(WORD_WORTH);
                    clauses[place + 3] = takeNumber(1, MOST_WORTH);
                    break;
                case WORD_EARN:
                    clauses[place + 1] = takeNumber(1, MOST_EARNED);
                    break;
                case WORD_DAY:
                    clauses[place + 1] = takeNumber(1, MOST_DAYS);
                    break;
                default:
                    clauses[place + 1] = takeNumber(0, QUARRELS - 1);
                    break;
            }
        }

        private void expect(int wanted) {
            if (!goesOn()) {
                return;
            }
            if (kind == wanted) {
                advance();
            } else {
                refuse(CANT_STAND);
            }
        }

        private int takeNumber(int least, int most) {
            if (!goesOn()) {
                return least;
            }
            if (kind != NUMBER) {
                refuse(CANT_STAND);
                return least;
            }
            if (number < least || number > most) {
                refuse(WRONG_NUMBER);
                return least;
            }
            int taken = number;
            advance();
            return taken;
        }

        private void emit(int operation, int told) {
            if (goesOn() && codeSize < TAPE) {
                code[codeSize] = operation * OPERATION + told;
                codeSize++;
            }
        }

        /** Depth is how many are open around; the ninth is refused, so the reading never goes deep. */
        private boolean opens(int depth) {
            if (depth >= MOST_OPEN) {
                refuse(TOO_DEEP);
                return false;
            }
            advance();
            return true;
        }

        private void readSum(int depth) {
            readProduct(depth);
            for (int i = 0; i < TAPE && goesOn() && (kind == '+' || kind == '-'); i++) {
                int operation = kind == '+' ? ADD : SUBTRACT;
                advance();
                readProduct(depth);
                emit(operation, 0);
            }
        }

        private void readProduct(int depth) {
            readOne(depth);
            for (int i = 0; i < TAPE && goesOn() && (kind == '*' || kind == '/'); i++) {
                int operation = kind == '*' ? MULTIPLY : DIVIDE;
                advance();
                readOne(depth);
                emit(operation, 0);
            }
        }

        private void readOne(int depth) {
            if (!goesOn()) {
                return;
            }
            if (kind == NUMBER) {
                emit(PUSH, takeNumber(0, MOST_NUMBER));
            } else if (kind >= FIRST_WORD && kind < FIRST_WORD + NAMES) {
                readName();
            } else if (!beginsOpenOne(kind)) {
                refuse(CANT_STAND);
            } else {
                int opener = kind;
                if (opens(depth)) {
                    readOpenOne(opener, depth + 1);
                }
            }
        }

        private void readName() {
            if (kind == WORD_PURSE && inSells || kind == WORD_PAWNED && !inSells) {
                refuse(WRONG_NAME);
                return;
            }
            emit(NAME, kind - FIRST_WORD);
            advance();
        }

        private static boolean beginsOpenOne(int token) {
            return token == '(' || token == '-' || token == WORD_REST || token == WORD_HOT || token == WORD_IF;
        }

        private void readOpenOne(int opener, int depth) {
            switch (opener) {
                case '(':
                    readSum(depth);
                    expect(')');
                    break;
                case '-':
                    readOne(depth);
                    emit(NEGATE, 0);
                    break;
                case WORD_REST:
                    readOne(depth);
                    expect(WORD_BY);
                    readOne(depth);
                    emit(REST, 0);
                    break;
                case WORD_HOT:
                    readOne(depth);
                    emit(HOT, 0);
                    break;
                default:
                    readChoice(depth);
                    break;
            }
        }

        private void readChoice(int depth) {
            readEither(depth);
            expect(WORD_THEN);
            readSum(depth);
            expect(WORD_ELSE);
            readSum(depth);
            expect(WORD_END);
            emit(CHOOSE, 0);
        }

        private void readEither(int depth) {
            readBoth(depth);
            for (int i = 0; i < TAPE && goesOn() && kind == WORD_OR; i++) {
                advance();
                readBoth(depth);
                emit(OR, 0);
            }
        }

        private void readBoth(int depth) {
            readAsk(depth);
            for (int i = 0; i < TAPE && goesOn() && kind == WORD_AND; i++) {
                advance();
                readAsk(depth);
                emit(AND, 0);
            }
        }

        private void readAsk(int depth) {
            if (!goesOn()) {
                return;
            }
            if (kind == WORD_NOT) {
                if (opens(depth)) {
                    readAsk(depth + 1);
                    emit(NOT, 0);
                }
                return;
            }
            readSum(depth);
            int operation = comparison();
            if (operation == NONE) {
                refuse(CANT_STAND);
                return;
            }
            advance();
            readSum(depth);
            emit(operation, 0);
        }

        private int comparison() {
            switch (kind) {
                case '<': return LESS;
                case '>': return MORE;
                case '=': return SAME;
                case '#': return UNLIKE;
                case SIGN_LESS_OR_SAME: return LESS_OR_SAME;
                case SIGN_MORE_OR_SAME: return MORE_OR_SAME;
                default: return NONE;
            }
        }
    }

    /** What is done over the counter: by hand (a STEP each), by scripts and by years, and what comes. */
    private static final class Counter {
        private final World world;
        private final Laws laws;
        private final Stand saved = new Stand();

        Counter(World world, Laws laws) {
            this.world = world;
            this.laws = laws;
        }

        boolean pawnByHand(int quarrel) {
            if (!world.now.isHow(quarrel, GOING_ON)) {
                return false;
            }
            world.keepStep();
            takeIn(quarrel);
            return true;
        }

        int redeemByHand(int quarrel) {
            int price = priceNow(quarrel);
            if (price != NONE) {
                world.keepStep();
                giveBack(quarrel, price);
            }
            return price;
        }

        boolean earnByHand(int sum) {
            if (!canPayOut(sum)) {
                return false;
            }
            world.keepStep();
            world.now.purse += sum;
            return true;
        }

        int dayByHand() {
            world.keepStep();
            return passDay();
        }

        /** Whether it could be done; a law is nothing to do. */
        boolean playClause(Text text, int clause) {
            int told = text.clausePart(clause, 1);
            switch (text.clausePart(clause, 0)) {
                case WORD_QUARREL:
                    return world.tell(told, text.clausePart(clause, 2), text.clausePart(clause, 3), 0) != NONE;
                case WORD_PAWN:
                    return pawnByHand(told);
                case WORD_REDEEM:
                    return redeemByHand(told) != NONE;
                case WORD_EARN:
                    return earnByHand(told);
                case WORD_DAY:
                    return playDays(told);
                default:
                    return true;
            }
        }

        private boolean playDays(int n) {
            for (int i = 0; i < n; i++) {
                if (world.now.day >= LAST_DAY) {
                    return false;
                }
                world.keepStep();
                passDay();
            }
            return true;
        }

        /** One draw of YEARS: what it says is done if it can be. */
        void liveByDraw() {
            Stand now = world.now;
            int kind = now.x % 6;
            int drawn = now.x / 6;
            now.draw(2);
            if (kind >= 4) {
                if (now.day < LAST_DAY) {
                    passDay();
                }
            } else if (kind == 3) {
                int sum = 1 + drawn % 9;
                if (canPayOut(sum)) {
                    now.purse += sum;
                }
            } else if (now.quarrels > 0) {
                int quarrel = drawn % now.quarrels;
                int price = kind == 0 ? NONE : priceNow(quarrel);
                if (kind == 0 && now.how[quarrel] == GOING_ON) {
                    takeIn(quarrel);
                } else if (price != NONE) {
                    giveBack(quarrel, price);
                }
            }
        }

        int foretell(int n, int quarrel, int what) {
            Stand now = world.now;
            saved.take(now);
            for (int i = 0; i < n && now.day < LAST_DAY; i++) {
                passDay();
            }
            int answer = what == 0 ? now.how[quarrel] : what == 1 ? now.heat[quarrel] : laws.dues(quarrel);
            now.take(saved);
            return answer;
        }

        private void takeIn(int quarrel) {
            Stand now = world.now;
            now.how[quarrel] = PAWNED;
            now.since[quarrel] = now.day;
            now.purse = Math.min(MOST_PURSE, now.purse + world.worth[quarrel] / 2);
            world.write(quarrel, WROTE_PAWNED);
        }

        /** What it takes to redeem a QUARREL, or NONE if it can't be. */
        private int priceNow(int quarrel) {
            Stand now = world.now;
            if (!now.isHow(quarrel, PAWNED)) {
                return NONE;
            }
            int due = laws.duesBy(world.ruling, quarrel, 0, now.purse);
            return due <= now.purse ? due : NONE;
        }

        private void giveBack(int quarrel, int price) {
            world.now.purse -= price;
            world.now.how[quarrel] = REDEEMED;
            world.write(quarrel, WROTE_REDEEMED);
        }

        private boolean canPayOut(int sum) {
            return sum >= 1 && sum <= MOST_EARNED && world.now.purse + sum <= MOST_PURSE;
        }

        /** How many QUARRELS are sold on it. */
        private int passDay() {
            Stand now = world.now;
            now.rain = now.draw(10) < 4 ? 1 : 0;
            if (now.quarrels > 0) {
                changeHeat(now.draw(now.quarrels));
            }
            int sold = 0;
            for (int i = 0; i < now.quarrels; i++) {
                if (now.how[i] == PAWNED && laws.sells(i) > 0) {
                    now.how[i] = SOLD;
                    world.write(i, WROTE_SOLD);
                    sold++;
                }
            }
            now.day++;
            return sold;
        }

        private void changeHeat(int quarrel) {
            Stand now = world.now;
            if (now.how[quarrel] == GOING_ON) {
                now.heat[quarrel] = Math.min(MOST_HEAT, now.heat[quarrel] + 1);
            } else if (now.how[quarrel] == PAWNED && now.rain == 1) {
                now.heat[quarrel] = Math.max(0, now.heat[quarrel] - 1);
            }
        }
    }

    /** Who speaks with whom, and what it costs that they do. */
    private static final class Talk {
        private static final int FAR = 10000000;
        private static final int COST = 8;

        private final World world;
        private final Laws laws;
        private final int[] costs = new int[PEOPLE * PEOPLE];
        private final int[] speaks = new int[PEOPLE];
        private final int[] far = new int[PEOPLE];

        Talk(World world, Laws laws) {
            this.world = world;
            this.laws = laws;
        }

        boolean doSpeak(int a, int b) {
            listen();
            return (speaks[a] >> b & 1) == 1;
        }

        int groupOf(int person) {
            listen();
            return reached(person, EVERYBODY);
        }

        int countGroups(boolean most) {
            listen();
            int left = EVERYBODY;
            int count = 0;
            int greatest = 0;
            for (int person = 0; person < PEOPLE; person++) {
                if ((left >> person & 1) == 1) {
                    int found = reached(person, EVERYBODY);
                    left &= ~found;
                    count++;
                    greatest = Math.max(greatest, Integer.bitCount(found));
                }
            }
            return most ? greatest : count;
        }

        int costOf(int a, int b) {
            listen();
            return costs[a * PEOPLE + b];
        }

        int wordCost(int a, int b) {
            listen();
            measure(b);
            return far[a] >= FAR ? NONE : far[a] / COST;
        }

        /** Along the least costs and fewest people from a on, always by the lowest next one. */
        int wayOf(int a, int b, int i) {
            listen();
            measure(b);
            if (far[a] >= FAR) {
                return NO_SUCH;
            }
            int people = far[a] % COST + 1;
            if (i == NONE) {
                return people;
            }
            if (i < 0 || i >= people) {
                return NO_SUCH;
            }
            int person = a;
            for (int k = 0; k < i; k++) {
                person = nextOnWay(person);
            }
            return person;
        }

        int costForAll() {
            listen();
            int joined = 1;
            int sum = 0;
            for (int i = 1; i < PEOPLE; i++) {
                int next = cheapestOutside(joined);
                if (next == NONE) {
                    return NONE;
                }
                sum += cheapestJoin(joined, next);
                joined |= 1 << next;
            }
            return sum;
        }

        /** Six people part in few ways: the fewest pairs between any part with a and one with b. */
        int fewestCut(int a, int b) {
            listen();
            int fewest = PEOPLE * PEOPLE;
            for (int part = 0; part <= EVERYBODY; part++) {
                if ((part >> a & 1) == 1 && (part >> b & 1) == 0) {
                    fewest = Math.min(fewest, pairsOutOf(part));
                }
            }
            return fewest;
        }

        int findGossips() {
            listen();
            int gossips = 0;
            for (int person = 0; person < PEOPLE; person++) {
                int others = reached(person, EVERYBODY) & ~(1 << person);
                if (others != 0 && reached(Integer.numberOfTrailingZeros(others), others) != others) {
                    gossips |= 1 << person;
                }
            }
            return gossips;
        }

        int findSilent() {
            listen();
            int silent = 0;
            for (int person = 0; person < PEOPLE; person++) {
                if (speaks[person] == 0) {
                    silent |= 1 << person;
                }
            }
            return silent;
        }

        /** Works out anew who speaks, and all costs, from how the QUARRELS are. */
        private void listen() {
            Arrays.fill(costs, 0);
            for (int person = 0; person < PEOPLE; person++) {
                speaks[person] = EVERYBODY & ~(1 << person);
            }
            for (int i = 0; i < PEOPLE; i++) {
                costs[i * PEOPLE + i] = NONE;
            }
            for (int i = 0; i < world.now.quarrels; i++) {
                if (world.now.how[i] != REDEEMED) {
                    int due = world.now.how[i] == PAWNED ? laws.dues(i) : NONE;
                    part(world.first[i], world.second[i], due);
                    part(world.second[i], world.first[i], due);
                }
            }
        }

        private void part(int a, int b, int due) {
            speaks[a] &= ~(1 << b);
            int at = a * PEOPLE + b;
            costs[at] = costs[at] == NONE || due == NONE ? NONE : costs[at] + due;
        }

        /** Who can be come to from one, all being among these. */
        private int reached(int person, int among) {
            int found = 1 << person;
            for (int round = 0; round < PEOPLE; round++) {
                for (int i = 0; i < PEOPLE; i++) {
                    if ((found >> i & 1) == 1) {
                        found |= speaks[i] & among;
                    }
                }
            }
            return found;
        }

        /** How far all are from one: costs first, then people, in one number. */
        private void measure(int person) {
            Arrays.fill(far, FAR);
            far[person] = 0;
            for (int round = 1; round < PEOPLE; round++) {
                for (int i = 0; i < PEOPLE; i++) {
                    for (int k = 0; k < PEOPLE; k++) {
                        far[i] = Math.min(far[i], farBy(i, k));
                    }
                }
            }
        }

        private int farBy(int person, int next) {
            int step = costs[person * PEOPLE + next];
            return step == NONE || far[next] >= FAR ? FAR : far[next] + step * COST + 1;
        }

        private int nextOnWay(int person) {
            for (int next = 0; next < PEOPLE; next++) {
                if (farBy(person, next) == far[person]) {
                    return next;
                }
            }
            return person;
        }

        private int cheapestOutside(int joined) {
            int cheapest = NONE;
            int least = FAR;
            for (int person = 0; person < PEOPLE; person++) {
                int join = (joined >> person & 1) == 1 ? FAR : cheapestJoin(joined, person);
                if (join < least) {
                    least = join;
                    cheapest = person;
                }
            }
            return cheapest;
        }

        private int cheapestJoin(int joined, int person) {
            int least = FAR;
            for (int i = 0; i < PEOPLE; i++) {
                int join = costs[i * PEOPLE + person];
                if ((joined >> i & 1) == 1 && join != NONE) {
                    least = Math.min(least, join);
                }
            }
            return least;
        }

        private int pairsOutOf(int part) {
            int pairs = 0;
            for (int i = 0; i < PEOPLE; i++) {
                if ((part >> i & 1) == 1) {
                    pairs += Integer.bitCount(speaks[i] & ~part);
                }
            }
            return pairs;
        }
    }

    /** What to redeem, in which order, and when. */
    private static final class Planner {
        final int[] bestOrder = new int[PLANNED];
        int bestDays;
        int bestPaid;

        private final World world;
        private final Laws laws;
        private final int[] order = new int[PLANNED];
        private final int[] dues = new int[QUARRELS];

        Planner(World world, Laws laws) {
            this.world = world;
            this.laws = laws;
        }

        /** Sets are gone through from the lowest on, so of like ones the lowest is kept. */
        int coolestSet() {
            int pawned = pawnedSet();
            for (int i = 0; i < world.now.quarrels; i++) {
                dues[i] = laws.dues(i);
            }
            int coolest = 0;
            for (int set = 1; set < SETS; set++) {
                if ((set & ~pawned) == 0 && duesOf(set) <= world.now.purse && isCooler(set, coolest)) {
                    coolest = set;
                }
            }
            return coolest;
        }

        private boolean isCooler(int set, int than) {
            int heat = heatOf(set);
            int other = heatOf(than);
            return heat > other || heat == other && duesOf(set) < duesOf(than);
        }

        int heatOf(int set) {
            return sumOver(set, world.now.heat);
        }

        /** Of the dues that coolestSet asked for last. */
        int duesOf(int set) {
            return sumOver(set, dues);
        }

        private static int sumOver(int set, int[] row) {
            int sum = 0;
            for (int i = 0; i < QUARRELS; i++) {
                if ((set >> i & 1) == 1) {
                    sum += row[i];
                }
            }
            return sum;
        }

        private int pawnedSet() {
            int set = 0;
            for (int i = 0; i < world.now.quarrels; i++) {
                if (world.now.how[i] == PAWNED) {
                    set |= 1 << i;
                }
            }
            return set;
        }

        boolean canBePlanned(int set) {
            return set >= 0 && set < SETS && (set & ~pawnedSet()) == 0 && Integer.bitCount(set) <= PLANNED;
        }

        boolean findPlan(int set) {
            bestDays = MOST_DAYS + 1;
            bestPaid = 0;
            tryNext(0, set, 0, 0);
            return bestDays <= MOST_DAYS;
        }

        /** Orders are tried from the lowest on, so of like ones the lowest is kept. */
        private void tryNext(int depth, int left, int days, int paid) {
            if (left == 0) {
                keepIfBetter(depth, days, paid);
                return;
            }
            if (depth >= PLANNED) {
                return;
            }
            for (int i = 0; i < QUARRELS; i++) {
                int when = (left >> i & 1) == 1 ? firstDay(i, days, paid) : NONE;
                if (when != NONE) {
                    int due = laws.duesBy(world.ruling, i, when, purseOn(when, paid));
                    order[depth] = i;
                    tryNext(depth + 1, left & ~(1 << i), when, paid + due);
                }
            }
        }

        private void keepIfBetter(int count, int days, int paid) {
            if (days < bestDays || days == bestDays && paid < bestPaid) {
                bestDays = days;
                bestPaid = paid;
                System.arraycopy(order, 0, bestOrder, 0, count);
            }
        }

        /** The first day from one on by which there is enough; none that would come behind the best plan yet. */
        private int firstDay(int quarrel, int from, int paid) {
            for (int days = from; days <= MOST_DAYS && days <= bestDays; days++) {
                int purse = purseOn(days, paid);
                if (purse >= laws.duesBy(world.ruling, quarrel, days, purse)) {
                    return days;
                }
            }
            return NONE;
        }

        private int purseOn(int days, int paid) {
            return world.now.purse + world.told.wage * days - paid;
        }

        int cheapestDay(int quarrel, int n) {
            int cheapest = 0;
            int least = MOST_DUES + 1;
            for (int days = 0; days <= n; days++) {
                int then = laws.duesBy(world.ruling, quarrel, days, world.now.purse);
                if (then < least) {
                    least = then;
                    cheapest = days;
                }
            }
            return cheapest;
        }
    }

    /** In how many ways pawned QUARRELS hang on the HOOKS; a set of those that hang tells which HOOK is next. */
    private static final class Hanger {
        private final World world;
        private final int[] fitting = new int[HOOKS];
        private final int[] waysUpTo = new int[SETS];
        private final int[] waysBeyond = new int[SETS];

        Hanger(World world) {
            this.world = world;
        }

        int countWays(int err) {
            findFitting(err);
            countBeyond();
            return waysBeyond[0];
        }

        int lowestOn(int err, int hook) {
            if (countWays(err) == 0) {
                return NO_SUCH;
            }
            int hung = 0;
            int lowest = NO_SUCH;
            for (int k = 0; k <= hook; k++) {
                lowest = lowestNext(k, hung);
                if (lowest == NO_SUCH) {
                    return NO_SUCH;
                }
                hung |= 1 << lowest;
            }
            return lowest;
        }

        private int lowestNext(int hook, int hung) {
            for (int i = 0; i < QUARRELS; i++) {
                if (canHang(hook, i, hung) && waysBeyond[hung | 1 << i] > 0) {
                    return i;
                }
            }
            return NO_SUCH;
        }

        int whereToLook(int err) {
            if (countWays(err) <= 1) {
                return NONE;
            }
            countUpTo();
            int best = NONE;
            int fewest = 0;
            for (int hook = 0; hook < world.told.hookCount; hook++) {
                int left = mostLeft(hook);
                if (best == NONE || left < fewest) {
                    best = hook;
                    fewest = left;
                }
            }
            return best;
        }

        private int mostLeft(int hook) {
            int most = 0;
            for (int i = 0; i < QUARRELS; i++) {
                most = Math.max(most, waysWith(hook, i));
            }
            return most;
        }

        private int waysWith(int hook, int quarrel) {
            int ways = 0;
            for (int hung = 0; hung < SETS; hung++) {
                if (Integer.bitCount(hung) == hook && canHang(hook, quarrel, hung)) {
                    ways += waysUpTo[hung] * waysBeyond[hung | 1 << quarrel];
                }
            }
            return ways;
        }

        private boolean canHang(int hook, int quarrel, int hung) {
            return ((fitting[hook] & ~hung) >> quarrel & 1) == 1;
        }

        private void findFitting(int err) {
            for (int hook = 0; hook < world.told.hookCount; hook++) {
                fitting[hook] = 0;
                for (int i = 0; i < world.now.quarrels; i++) {
                    int out = Math.abs(world.worth[i] - world.told.hooks[hook]);
                    if (world.now.how[i] == PAWNED && out <= err) {
                        fitting[hook] |= 1 << i;
                    }
                }
            }
        }

        private void countBeyond() {
            for (int hung = SETS - 1; hung >= 0; hung--) {
                int hook = Integer.bitCount(hung);
                int ways = hook == world.told.hookCount ? 1 : 0;
                for (int i = 0; i < QUARRELS && hook < world.told.hookCount; i++) {
                    if (canHang(hook, i, hung)) {
                        ways += waysBeyond[hung | 1 << i];
                    }
                }
                waysBeyond[hung] = ways;
            }
        }

        private void countUpTo() {
            Arrays.fill(waysUpTo, 0);
            waysUpTo[0] = 1;
            for (int hung = 0; hung < SETS; hung++) {
                int hook = Integer.bitCount(hung);
                for (int i = 0; i < QUARRELS && hook < world.told.hookCount; i++) {
                    if (canHang(hook, i, hung)) {
                        waysUpTo[hung | 1 << i] += waysUpTo[hung];
                    }
                }
            }
        }
    }

    /** A MARKET of the BIDS told. */
    private static final class Dealer {
        private final Told told;
        private final int[] buyers = new int[BIDS];
        private final int[] sellers = new int[BIDS];
        private int buyerCount;
        private int sellerCount;

        Dealer(Told told) {
            this.told = told;
        }

        /** Puts buyers from the highest on, sellers from the lowest on: how many pairs trade. */
        int findTrades() {
            buyerCount = 0;
            sellerCount = 0;
            for (int i = 0; i < told.bidCount; i++) {
                if (told.sides[i] == BUYS) {
                    putIn(buyers, buyerCount, told.prices[i], true);
                    buyerCount++;
                } else {
                    putIn(sellers, sellerCount, told.prices[i], false);
                    sellerCount++;
                }
            }
            int trades = 0;
            while (trades < buyerCount && trades < sellerCount && buyers[trades] >= sellers[trades]) {
                trades++;
            }
            return trades;
        }

        private static void putIn(int[] row, int count, int price, boolean falling) {
            int at = count;
            while (at > 0 && (falling ? row[at - 1] < price : row[at - 1] > price)) {
                row[at] = row[at - 1];
                at--;
            }
            row[at] = price;
        }

        int leastPrice(int trades) {
            if (trades <= 0) {
                return NONE;
            }
            int price = sellers[trades - 1];
            return trades < buyerCount ? Math.max(price, buyers[trades]) : price;
        }

        int greatestPrice(int trades) {
            if (trades <= 0) {
                return NONE;
            }
            int price = buyers[trades - 1];
            return trades < sellerCount ? Math.min(price, sellers[trades]) : price;
        }

        int gainOf(int trades) {
            int sum = 0;
            for (int i = 0; i < trades; i++) {
                sum += buyers[i] - sellers[i];
            }
            return sum;
        }
    }
}
