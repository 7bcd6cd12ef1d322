import java.util.ArrayList;

/** Stand-ins for four objects, with rules for what their methods answer and a book of the calls made. */
public final class MockBook {
    public static final int REFUSED = -1;
    public static final int FULL = -2;
    public static final long UNEXPECTED = 20000000000L;
    public static final long TOO_DEEP = 20000000001L;
    public static final long FAILED = 40000000000L;
    public static final long NONE = 60000000000L;

    private static final int MOCKS = 4;
    private static final int METHODS = 8;
    private static final int MOST_ARGUMENTS = 3;
    private static final int MOST_RULES = 24;
    private static final int MOST_ACTIONS = 4;
    private static final int MOST_INTERACTIONS = 160;
    private static final int DEEPEST = 3;

    private static final int NO_NUMBER = -1;
    private static final int NOT_FOUND = -10;

    private static final int FITS_ALL = 0;
    private static final int FITS_SAME = 1;
    private static final int FITS_OTHER = 2;
    private static final int FITS_LESS = 3;
    private static final int FITS_GREATER = 4;
    private static final int FITS_REMAINDER = 5;

    private static final int GIVE = 0;
    private static final int ARGUMENT = 1;
    private static final int USES = 2;
    private static final int FAIL = 3;
    private static final int PASS = 4;

    private static final int EXACTLY = 0;
    private static final int AT_LEAST = 1;
    private static final int AT_MOST = 2;

    private final ArrayList<Rule> rules;
    private final ArrayList<Interaction> interactions;
    private final boolean[] strictMocks;
    private Matchers buffer;
    private int mark;

    public MockBook() {
        rules = new ArrayList<Rule>();
        interactions = new ArrayList<Interaction>();
        strictMocks = new boolean[MOCKS];
        buffer = new Matchers();
        mark = NO_NUMBER;
    }

    public int matcher(int kind, int value) {
        if (!isWithin(kind, FITS_ALL, FITS_REMAINDER)) {
            return REFUSED;
        }
        if (buffer.size >= MOST_ARGUMENTS) {
            return FULL;
        }
        buffer.add(kind, value);
        return buffer.size;
    }

    public void drop() {
        buffer.clear();
    }

    public int rule(int mock, int method) {
        if (!isMethod(mock, method) || !buffer.suits(method)) {
            return REFUSED;
        }
        if (rules.size() >= MOST_RULES) {
            return FULL;
        }
        rules.add(new Rule(mock, method, buffer));
        // The rule keeps the old buffer as its own, so the new one must be another object.
        buffer = new Matchers();
        return rules.size() - 1;
    }

    public int then(int rule, int kind, int value) {
        if (!isRule(rule)) {
            return REFUSED;
        }
        Rule changed = rules.get(rule);
        if (!changed.live || !changed.allows(kind, value)) {
            return REFUSED;
        }
        if (changed.actions >= MOST_ACTIONS) {
            return FULL;
        }
        changed.addAction(kind, value);
        return changed.actions;
    }

    public int strict(int mock, boolean on) {
        if (!isMock(mock)) {
            return REFUSED;
        }
        boolean before = strictMocks[mock];
        strictMocks[mock] = on;
        return asNumber(before);
    }

    public long call(int mock, int method, int a, int b, int c) {
        if (!isMethod(mock, method) || interactions.size() >= MOST_INTERACTIONS) {
            return NONE;
        }
        return noteAndRespond(mock, method, a, b, c, 0, NO_NUMBER);
    }

    public int verify(int mock, int method, int mode, int n) {
        if (!isMethod(mock, method) || !isWithin(mode, EXACTLY, AT_MOST) || !buffer.suits(method)) {
            return REFUSED;
        }
        int found = countSought(mock, method);
        boolean holds = isWanted(found, mode, n);
        if (holds) {
            verifySought(mock, method);
        }
        buffer.clear();
        return holds ? found : NOT_FOUND - found;
    }

    public int inOrder(int mock, int method) {
        if (!isMethod(mock, method) || !buffer.suits(method)) {
            return REFUSED;
        }
        int found = firstSoughtAfterMark(mock, method);
        buffer.clear();
        if (found == NOT_FOUND) {
            return NOT_FOUND;
        }
        interactions.get(found).verified = true;
        mark = found;
        return found;
    }

    public int rewind() {
        int before = mark;
        mark = NO_NUMBER;
        return before;
    }

    public int open(int mock) {
        if (!isMock(mock)) {
            return REFUSED;
        }
        for (int i = 0; i < interactions.size(); i++) {
            Interaction seen = interactions.get(i);
            if (seen.live && seen.mock == mock && !seen.verified) {
                return i;
            }
        }
        return NOT_FOUND;
    }

    public int unused() {
        for (int i = 0; i < rules.size(); i++) {
            Rule seen = rules.get(i);
            if (seen.live && seen.uses == 0) {
                return i;
            }
        }
        return NOT_FOUND;
    }

    public int reset(int mock) {
        if (!isMock(mock)) {
            return REFUSED;
        }
        endRules(mock);
        return endInteractions(mock);
    }

    public long noted(int number, int what) {
        if (!isInteraction(number)) {
            return NONE;
        }
        Interaction seen = interactions.get(number);
        switch (what) {
            case 0: return seen.mock;
            case 1: return seen.method;
            case 2: return seen.a;
            case 3: return seen.b;
            case 4: return seen.c;
            case 5: return seen.depth;
            case 6: return seen.from;
            case 7: return asNumber(seen.verified);
            case 8: return seen.ruleNumber;
            case 9: return asNumber(seen.live);
            default: return NONE;
        }
    }

    public long answer(int number) {
        return isInteraction(number) ? interactions.get(number).response : NONE;
    }

    public int about(int rule, int what) {
        if (!isRule(rule)) {
            return REFUSED;
        }
        Rule seen = rules.get(rule);
        switch (what) {
            case 0: return seen.actions;
            case 1: return seen.uses;
            case 2: return asNumber(seen.live);
            default: return REFUSED;
        }
    }

    public int count(int what) {
        switch (what) {
            case 0: return interactions.size();
            case 1: return countLiveInteractions(false);
            case 2: return countLiveInteractions(true);
            case 3: return rules.size();
            case 4: return countLiveRules();
            case 5: return buffer.size;
            default: return REFUSED;
        }
    }

    private static boolean isWithin(int number, int least, int greatest) {
        return number >= least && number <= greatest;
    }

    private static boolean isMock(int mock) {
        return isWithin(mock, 0, MOCKS - 1);
    }

    private static boolean isMethod(int mock, int method) {
        return isMock(mock) && isWithin(method, 0, METHODS - 1);
    }

    private boolean isRule(int number) {
        return isWithin(number, 0, rules.size() - 1);
    }

    private boolean isInteraction(int number) {
        return isWithin(number, 0, interactions.size() - 1);
    }

    private static int argumentsOf(int method) {
        return method % (MOST_ARGUMENTS + 1);
    }

    private static int asNumber(boolean truth) {
        return truth ? 1 : 0;
    }

    /** The one way into a call, from outside or by PASS: both limits are kept here, so no PASS can get around them. */
    private long noteAndRespond(int mock, int method, int a, int b, int c, int depth, int from) {
        if (depth > DEEPEST || interactions.size() >= MOST_INTERACTIONS) {
            return TOO_DEEP;
        }
        int number = interactions.size();
        Interaction made = new Interaction(mock, method, a, b, c, depth, from);
        interactions.add(made);
        made.ruleNumber = ruleNumberFor(made);
        made.response = respond(made, number, depth);
        return made.response;
    }

    private long respond(Interaction made, int number, int depth) {
        if (!isRule(made.ruleNumber)) {
            return strictMocks[made.mock] ? UNEXPECTED : 0;
        }
        Rule used = rules.get(made.ruleNumber);
        int usesBefore = used.uses;
        int place = used.placeInTurn();
        // Counted before the action is done: a PASS that comes back to this rule finds the next action.
        used.uses++;
        int value = used.actionValues[place];
        switch (used.actionKinds[place]) {
            case ARGUMENT: return made.argument(value);
            case USES: return usesBefore;
            case FAIL: return FAILED + value;
            case PASS: return pass(made, number, value, depth);
            default: return value;
        }
    }

    private long pass(Interaction made, int number, int target, int depth) {
        int mock = target / METHODS;
        int method = target % METHODS;
        return noteAndRespond(mock, method, made.a, made.b, made.c, depth + 1, number);
    }

    private int ruleNumberFor(Interaction made) {
        for (int i = rules.size() - 1; i >= 0; i--) {
            if (rules.get(i).answersTo(made)) {
                return i;
            }
        }
        return NO_NUMBER;
    }

    private boolean isSought(Interaction seen, int mock, int method) {
        return seen.live && seen.mock == mock && seen.method == method && buffer.fit(seen);
    }

    private int countSought(int mock, int method) {
        int found = 0;
        for (int i = 0; i < interactions.size(); i++) {
            if (isSought(interactions.get(i), mock, method)) {
                found++;
            }
        }
        return found;
    }

    private void verifySought(int mock, int method) {
        for (int i = 0; i < interactions.size(); i++) {
            Interaction seen = interactions.get(i);
            if (isSought(seen, mock, method)) {
                seen.verified = true;
            }
        }
    }

    private int firstSoughtAfterMark(int mock, int method) {
        for (int i = mark + 1; i < interactions.size(); i++) {
            if (isSought(interactions.get(i), mock, method)) {
                return i;
            }
        }
        return NOT_FOUND;
    }

    private static boolean isWanted(int found, int mode, int n) {
        switch (mode) {
            case EXACTLY: return found == n;
            case AT_LEAST: return found >= n;
            default: return found <= n;
        }
    }

    private void endRules(int mock) {
        for (int i = 0; i < rules.size(); i++) {
            Rule seen = rules.get(i);
            if (seen.mock == mock) {
                seen.live = false;
            }
        }
    }

    private int endInteractions(int mock) {
        int ended = 0;
        for (int i = 0; i < interactions.size(); i++) {
            Interaction seen = interactions.get(i);
            if (seen.live && seen.mock == mock) {
                seen.live = false;
                ended++;
            }
        }
        return ended;
    }

    private int countLiveInteractions(boolean verifiedOnly) {
        int found = 0;
        for (int i = 0; i < interactions.size(); i++) {
            Interaction seen = interactions.get(i);
            if (seen.live && (seen.verified || !verifiedOnly)) {
                found++;
            }
        }
        return found;
    }

    private int countLiveRules() {
        int found = 0;
        for (int i = 0; i < rules.size(); i++) {
            if (rules.get(i).live) {
                found++;
            }
        }
        return found;
    }

    /** The matchers of the buffer or of a rule: one for each argument, from the first on. */
    private static final class Matchers {
        final int[] kinds = new int[MOST_ARGUMENTS];
        final int[] values = new int[MOST_ARGUMENTS];
        int size = 0;

        void add(int kind, int value) {
            if (size < MOST_ARGUMENTS) {
                kinds[size] = kind;
                values[size] = value;
                size++;
            }
        }

        void clear() {
            size = 0;
        }

        boolean suits(int method) {
            return size == argumentsOf(method);
        }

        boolean fit(Interaction seen) {
            for (int i = 0; i < size; i++) {
                if (!fitsOne(kinds[i], values[i], seen.argument(i))) {
                    return false;
                }
            }
            return true;
        }

        private static boolean fitsOne(int kind, int value, int argument) {
            switch (kind) {
                case FITS_SAME: return argument == value;
                case FITS_OTHER: return argument != value;
                case FITS_LESS: return argument < value;
                case FITS_GREATER: return argument > value;
                case FITS_REMAINDER: return Math.floorMod(argument, 4) == Math.floorMod(value, 4);
                default: return true;
            }
        }
    }

    private static final class Rule {
        final int mock;
        final int method;
        final Matchers matchers;
        final int[] actionKinds = new int[MOST_ACTIONS];
        final int[] actionValues = new int[MOST_ACTIONS];
        int actions = 0;
        int uses = 0;
        boolean live = true;

        Rule(int mock, int method, Matchers matchers) {
            this.mock = mock;
            this.method = method;
            this.matchers = matchers;
        }

        boolean answersTo(Interaction made) {
            return live && mock == made.mock && method == made.method && matchers.fit(made);
        }

        boolean allows(int kind, int value) {
            switch (kind) {
                case GIVE:
                case USES:
                case FAIL:
                    return true;
                case ARGUMENT:
                    return isWithin(value, 0, argumentsOf(method) - 1);
                case PASS:
                    return isWithin(value, 0, MOCKS * METHODS - 1)
                        && argumentsOf(value % METHODS) <= argumentsOf(method);
                default:
                    return false;
            }
        }

        void addAction(int kind, int value) {
            if (actions < MOST_ACTIONS) {
                actionKinds[actions] = kind;
                actionValues[actions] = value;
                actions++;
            }
        }

        /** Without actions this is place 0 too: what stands there from the start, kind 0 and value 0, is GIVE 0. */
        int placeInTurn() {
            return Math.max(0, Math.min(uses, actions - 1));
        }
    }

    private static final class Interaction {
        final int mock;
        final int method;
        final int a;
        final int b;
        final int c;
        final int depth;
        final int from;
        int ruleNumber = NO_NUMBER;
        long response = NONE;
        boolean verified = false;
        boolean live = true;

        Interaction(int mock, int method, int a, int b, int c, int depth, int from) {
            int taken = argumentsOf(method);
            this.mock = mock;
            this.method = method;
            this.a = taken > 0 ? a : 0;
            this.b = taken > 1 ? b : 0;
            this.c = taken > 2 ? c : 0;
            this.depth = depth;
            this.from = from;
        }

        int argument(int place) {
            switch (place) {
                case 0: return a;
                case 1: return b;
                default: return c;
            }
        }
    }
}
