/**
 * A splicing room: reels hang on hooks, one knife cuts frames off one of them and lays them over
 * another's, and a sheet of cuts is played forwards and backwards.
 */
public final class SpliceRoom {
    private static final int NOTHING = 0;
    private static final int MARKS = 1;
    private static final int HOURS = 2;
    private static final int CARDS = 3;
    private static final int SEALS = 4;
    private static final int CORE = 5;

    private static final int HOOKS = 6;
    private static final int MOST_FRAMES = 40;
    private static final int MOST_STEPS = 24;
    private static final int CARD_NUMBERS = 1000;
    private static final int JAMS_TO_BLUNT = 3;

    private static final long EMPTY = -1;
    private static final long SUM_AT_FIRST = 7;
    private static final long SUM_FACTOR = 31;

    private static final int JAM_NOTHING = -1;
    private static final int JAM_UNLIKE = -2;
    private static final int JAM_BEYOND = -3;
    private static final int JAM_PLAIN = -4;

    // A hook without a reel is null here.
    private final Reel[] hooks;
    private final Knife knife;

    // The sheet: step k stands at index k of each row, for k below steps.
    private final int[] stepFrom;
    private final int[] stepP;
    private final int[] stepTo;
    private final int[] stepQ;
    private final int[] stepN;
    private int steps;

    public SpliceRoom() {
        hooks = new Reel[HOOKS];
        knife = new Knife();
        stepFrom = new int[MOST_STEPS];
        stepP = new int[MOST_STEPS];
        stepTo = new int[MOST_STEPS];
        stepQ = new int[MOST_STEPS];
        stepN = new int[MOST_STEPS];
        steps = 0;
    }

    public int wind(int hook, int kind, int frames) throws IllegalArgumentException {
        requireHook(hook);
        if (kind < NOTHING || kind > CORE) {
            throw new IllegalArgumentException("no such kind");
        }
        if (kind == NOTHING) {
            hooks[hook] = null;
        } else if (kind == CORE) {
            hooks[hook] = new Reel(CORE, 0);
        } else if (frames >= 0 && frames <= MOST_FRAMES) {
            hooks[hook] = new Reel(kind, frames);
        } else {
            throw new IllegalArgumentException("no such number of frames");
        }
        return kind;
    }

    public int hang(int hook, int other) throws IllegalArgumentException {
        requireHook(hook);
        requireHook(other);
        hooks[hook] = hooks[other];
        return kindOn(hook);
    }

    public int twin(int hook, int other) throws IllegalArgumentException, IllegalStateException {
        requireHook(hook);
        requireHook(other);
        Reel model = hooks[other];
        if (model == null || model.kind == CORE) {
            throw new IllegalStateException("no row to make a twin of");
        }
        Reel copy = new Reel(model.kind, model.row.length);
        System.arraycopy(model.row, 0, copy.row, 0, copy.row.length);
        hooks[hook] = copy;
        return copy.kind;
    }

    public void mark(int hook, int i, long v)
            throws IllegalArgumentException, IllegalStateException, IndexOutOfBoundsException {
        requireHook(hook);
        Reel reel = hooks[hook];
        if (reel == null || !reel.holdsNumbers()) {
            throw new IllegalStateException("neither marks nor hours");
        }
        requireFrame(reel, i);
        reel.row[i] = reel.kind == MARKS ? (int) v : v;
    }

    public boolean paste(int hook, int i, int number, boolean sealed)
            throws IllegalArgumentException, IllegalStateException, IndexOutOfBoundsException {
        requireHook(hook);
        if (number < 0 || number >= CARD_NUMBERS) {
            throw new IllegalArgumentException("no such number");
        }
        Reel reel = hooks[hook];
        if (reel == null || !reel.holdsCards()) {
            throw new IllegalStateException("neither cards nor seals");
        }
        requireFrame(reel, i);
        long card = sealed ? CARD_NUMBERS + number : number;
        if (!reel.takes(card)) {
            return false;
        }
        reel.row[i] = card;
        return true;
    }

    public boolean pull(int hook, int i)
            throws IllegalArgumentException, IllegalStateException, IndexOutOfBoundsException {
        requireHook(hook);
        Reel reel = hooks[hook];
        if (reel == null || !reel.holdsCards()) {
            throw new IllegalStateException("neither cards nor seals");
        }
        requireFrame(reel, i);
        boolean wasCard = reel.row[i] != EMPTY;
        reel.row[i] = EMPTY;
        return wasCard;
    }

    public int splice(int from, int p, int to, int q, int n)
            throws IllegalArgumentException, IllegalStateException {
        requireHook(from);
        requireHook(to);
        requireSharpKnife();
        return knife.cut(hooks[from], p, hooks[to], q, n);
    }

    public int step(int from, int p, int to, int q, int n)
            throws IllegalArgumentException, IllegalStateException {
        requireHook(from);
        requireHook(to);
        if (steps >= MOST_STEPS) {
            throw new IllegalStateException("the sheet is full");
        }
        stepFrom[steps] = from;
        stepP[steps] = p;
        stepTo[steps] = to;
        stepQ[steps] = q;
        stepN[steps] = n;
        steps++;
        return steps;
    }

    public int play(boolean backwards) throws IllegalStateException {
        requireSharpKnife();
        for (int done = 0; done < steps; done++) {
            int told = backwards ? cutTurned(steps - 1 - done) : cutAsWritten(done);
            if (told < 0) {
                return done;
            }
        }
        return steps;
    }

    public int sweep() {
        int had = steps;
        steps = 0;
        return had;
    }

    public int grind() throws IllegalStateException {
        if (!knife.isBlunt()) {
            throw new IllegalStateException("the knife isn't blunt");
        }
        knife.sharpen();
        return knife.grindings;
    }

    public long frame(int hook, int i)
            throws IllegalArgumentException, IllegalStateException, IndexOutOfBoundsException {
        requireHook(hook);
        Reel reel = hooks[hook];
        if (reel == null || reel.kind == CORE) {
            throw new IllegalStateException("nothing, or a core");
        }
        requireFrame(reel, i);
        return reel.row[i];
    }

    public int look(int hook, int what) throws IllegalArgumentException {
        requireHook(hook);
        switch (what) {
            case 0:
                return kindOn(hook);
            case 1:
                return framesOn(hook);
            case 2:
                return holdersOf(hooks[hook]);
            default:
                throw new IllegalArgumentException("no such what");
        }
    }

    public long sum(int hook) throws IllegalArgumentException {
        requireHook(hook);
        Reel reel = hooks[hook];
        long total = SUM_AT_FIRST;
        if (reel != null) {
            for (int i = 0; i < reel.row.length; i++) {
                total = SUM_FACTOR * total + reel.row[i];
            }
        }
        return total;
    }

    public int count(int what) throws IllegalArgumentException {
        switch (what) {
            case 0:
                return knife.wentWell;
            case 1:
                return knife.laid;
            case 2:
                return knife.jams;
            case 3:
                return knife.jamsInRow;
            case 4:
                return steps;
            case 5:
                return knife.far;
            case 6:
                return knife.told;
            case 7:
                return knife.grindings;
            default:
                throw new IllegalArgumentException("no such what");
        }
    }

    private static void requireHook(int hook) {
        if (hook < 0 || hook >= HOOKS) {
            throw new IllegalArgumentException("no such hook");
        }
    }

    private static void requireFrame(Reel reel, int i) {
        if (i < 0 || i >= reel.row.length) {
            throw new IndexOutOfBoundsException("no such frame");
        }
    }

    private void requireSharpKnife() {
        if (knife.isBlunt()) {
            throw new IllegalStateException("the knife is blunt");
        }
    }

    private int kindOn(int hook) {
        Reel reel = hooks[hook];
        return reel == null ? NOTHING : reel.kind;
    }

    private int framesOn(int hook) {
        Reel reel = hooks[hook];
        return reel == null || reel.kind == CORE ? -1 : reel.row.length;
    }

    private int holdersOf(Reel reel) {
        int holders = 0;
        for (int hook = 0; hook < HOOKS; hook++) {
            if (reel != null && hooks[hook] == reel) {
                holders++;
            }
        }
        return holders;
    }

    private int cutAsWritten(int k) {
        return knife.cut(hooks[stepFrom[k]], stepP[k], hooks[stepTo[k]], stepQ[k], stepN[k]);
    }

    private int cutTurned(int k) {
        return knife.cut(hooks[stepTo[k]], stepQ[k], hooks[stepFrom[k]], stepP[k], stepN[k]);
    }

    /**
     * A reel. Its row holds each frame as frame() tells it: nothing can tell two cards of the same
     * number and seal apart, so a row of numbers serves for every kind.
     */
    private static final class Reel {
        private final int kind;
        private final long[] row;

        /** The length is one that has been looked at: 0 .. MOST_FRAMES. */
        Reel(int kind, int frames) {
            this.kind = kind;
            row = new long[frames];
            if (kind == CARDS || kind == SEALS) {
                for (int i = 0; i < frames; i++) {
                    row[i] = EMPTY;
                }
            }
        }

        boolean holdsNumbers() {
            return kind == MARKS || kind == HOURS;
        }

        boolean holdsCards() {
            return kind == CARDS || kind == SEALS;
        }

        boolean isLike(Reel other) {
            return holdsCards() ? other.holdsCards() : holdsNumbers() && kind == other.kind;
        }

        /** Compares by a difference: start and n together may be more than an int holds. */
        boolean hasFrames(int start, int n) {
            return start >= 0 && n >= 0 && start <= row.length - n;
        }

        boolean takes(long card) {
            return kind != SEALS || card == EMPTY || card >= CARD_NUMBERS;
        }
    }

    /** The knife, and what is counted of its cuts. */
    private static final class Knife {
        private int wentWell;
        private int laid;
        private int jams;
        private int jamsInRow;
        private int far;
        private int told;
        private int grindings;

        boolean isBlunt() {
            return jamsInRow >= JAMS_TO_BLUNT;
        }

        void sharpen() {
            jamsInRow = 0;
            grindings++;
        }

        /** Tells n, or by what the cut jammed. Either reel may be null. */
        int cut(Reel from, int p, Reel to, int q, int n) {
            far = 0;
            told = lay(from, p, to, q, n);
            laid += far;
            if (told < 0) {
                jams++;
                jamsInRow++;
            } else {
                wentWell++;
                jamsInRow = 0;
            }
            return told;
        }

        private int lay(Reel from, int p, Reel to, int q, int n) {
            if (from == null || to == null) {
                return JAM_NOTHING;
            }
            if (!from.isLike(to)) {
                return JAM_UNLIKE;
            }
            if (!from.hasFrames(p, n) || !to.hasFrames(q, n)) {
                return JAM_BEYOND;
            }
            while (far < n && to.takes(from.row[p + far])) {
                far++;
            }
            // arraycopy lifts all frames before it lays one, also within one row.
            System.arraycopy(from.row, p, to.row, q, far);
            return far < n ? JAM_PLAIN : n;
        }
    }
}
