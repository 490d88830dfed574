/** Each sentence of the document's "Terms" that names a boundary case, with a test of its own. */
public final class TermsEdgesTest {
    private static final Class<IllegalArgumentException> ARG = IllegalArgumentException.class;
    private static final Class<IllegalStateException> STATE = IllegalStateException.class;
    private static final int MIN = Integer.MIN_VALUE;
    private static final int MAX = Integer.MAX_VALUE;

    private final Due due = new Due();

    public static void main(String[] args) {
        TermsEdgesTest t = new TermsEdgesTest();
        t.hooks();
        t.core();
        t.framesAtFirst();
        t.cardNumbers();
        t.sealsTakeSealedAndEmptyAlone();
        t.oneReelOnSeveralHooks();
        t.liftedAllAtOnce();
        t.laidOverTheSameOneByTwoHooks();
        t.theFirstStaysAsItIs();
        t.jamsByTheFirst();
        t.jamsByNothing();
        t.jamsByACore();
        t.jamsByUnlikeReels();
        t.jamsBelowZero();
        t.jamsBeyondTheEnd();
        t.jamsBeyondWhatAnIntHolds();
        t.jamsByAPlainCard();
        t.laysThoseAheadOfTheFirstPlainOne();
        t.laysNoOthers();
        t.plainCardsThatDoNotJam();
        t.far();
        t.thirdJamInARow();
        t.bluntTillGround();
        t.rowOfJamsEnds();
        t.atMost24Steps();
        t.playedForwards();
        t.playedBackwards();
        t.playingEnds();
        t.due.end("TermsEdgesTest");
    }

    private void hooks() {
        due.sentence("HOOKS 0 .. 5 hold nothing (0, at first)");
        SpliceRoom room = new SpliceRoom();
        for (int hook = 0; hook < 6; hook++) {
            due.is("kind on hook " + hook, 0, room.look(hook, 0));
        }
        due.is("wind on the first hook", 1, room.wind(0, 1, 1));
        due.is("wind on the last hook", 2, room.wind(5, 2, 1));
        due.fails("wind on hook -1", ARG, () -> room.wind(-1, 1, 1));
        due.fails("wind on hook 6", ARG, () -> room.wind(6, 1, 1));
    }

    private void core() {
        due.sentence("5 a CORE, which has no row");
        SpliceRoom room = new SpliceRoom();
        room.wind(0, 5, 3);
        due.is("kind", 5, room.look(0, 0));
        due.is("frames", -1, room.look(0, 1));
        due.is("sum", 7, room.sum(0));
        due.fails("frame", STATE, () -> room.frame(0, 0));
        due.fails("twin", STATE, () -> room.twin(1, 0));
    }

    private void framesAtFirst() {
        due.sentence("The FRAMES of a row are 0 at first, of cards EMPTY.");
        for (int kind = 1; kind < 5; kind++) {
            SpliceRoom room = new SpliceRoom();
            room.wind(0, kind, 40);
            for (int i = 0; i < 40; i++) {
                due.is("kind " + kind + ", frame " + i, kind < 3 ? 0 : -1, room.frame(0, i));
            }
        }
    }

    private void cardNumbers() {
        due.sentence("CARDS have a number 0 .. 999 and are PLAIN or SEALED");
        SpliceRoom room = new SpliceRoom();
        room.wind(0, 3, 4);
        due.is("plain 0", true, room.paste(0, 0, 0, false));
        due.is("plain 999", true, room.paste(0, 1, 999, false));
        due.is("sealed 0", true, room.paste(0, 2, 0, true));
        due.is("sealed 999", true, room.paste(0, 3, 999, true));
        due.frames("cards", room, 0, 0, 999, 1000, 1999);
        due.fails("number -1", ARG, () -> room.paste(0, 0, -1, true));
        due.fails("number 1000", ARG, () -> room.paste(0, 0, 1000, false));
    }

    private void sealsTakeSealedAndEmptyAlone() {
        due.sentence("a reel of SEALS takes sealed ones and empty frames alone");
        SpliceRoom room = Rooms.cardsAndSeals();
        due.is("paste of a sealed one", true, room.paste(1, 0, 0, true));
        due.is("paste of a plain one", false, room.paste(1, 1, 999, false));
        due.is("an empty frame by pull", true, room.pull(1, 2));
        due.is("a sealed and an empty one by a cut", 2, room.splice(0, 0, 1, 3, 2));
        due.frames("seals", room, 1, 1000, 1071, -1, 1001, -1);
        due.is("a plain one by a cut", -4, room.splice(0, 3, 1, 0, 1));
        due.frames("seals", room, 1, 1000, 1071, -1, 1001, -1);
        room.twin(2, 1);
        due.is("a plain one in a twin of seals", false, room.paste(2, 0, 1, false));
        room.hang(3, 1);
        due.is("a plain one by another hook", false, room.paste(3, 0, 1, false));
    }

    private void oneReelOnSeveralHooks() {
        due.sentence("Several hooks may hold the very same reel:"
                + " what comes to it through one is there through all.");
        SpliceRoom numbers = onAllHooks(2);
        for (int hook = 0; hook < 6; hook++) {
            numbers.mark(hook, hook, 90 + hook);
        }
        numbers.splice(4, 0, 3, 6, 2);
        numbers.step(1, 7, 2, 0, 1);
        numbers.play(false);
        for (int hook = 0; hook < 6; hook++) {
            due.frames("hours", numbers, hook, 91, 91, 92, 93, 94, 95, 90, 91);
        }
        SpliceRoom cards = onAllHooks(4);
        for (int hook = 0; hook < 6; hook++) {
            cards.paste(hook, hook, hook, true);
        }
        cards.pull(5, 0);
        for (int hook = 0; hook < 6; hook++) {
            due.frames("seals", cards, hook, -1, 1001, 1002, 1003, 1004, 1005, -1, -1);
        }
    }

    private static SpliceRoom onAllHooks(int kind) {
        SpliceRoom room = new SpliceRoom();
        room.wind(0, kind, 8);
        for (int hook = 1; hook < 6; hook++) {
            room.hang(hook, hook - 1);
        }
        return room;
    }

    private void liftedAllAtOnce() {
        due.sentence("n frames of a reel from frame p on are lifted, all at once,"
                + " and laid over the frames from q on of another reel, or of the same one");
        for (int kind = 1; kind < 5; kind++) {
            long first = kind < 3 ? 0 : 1000;
            SpliceRoom room = rising(kind);
            due.is("one frame on", 5, room.splice(0, 0, 0, 1, 5));
            due.frames("one frame on", room, 0,
                    first + 1, first + 1, first + 2, first + 3, first + 4, first + 5);
            room = rising(kind);
            due.is("one frame back", 5, room.splice(0, 1, 0, 0, 5));
            due.frames("one frame back", room, 0,
                    first + 2, first + 3, first + 4, first + 5, first + 6, first + 6);
            room = rising(kind);
            due.is("half over half", 3, room.splice(0, 3, 0, 0, 3));
            due.frames("half over half", room, 0,
                    first + 4, first + 5, first + 6, first + 4, first + 5, first + 6);
            due.is("over themselves", 6, room.splice(0, 0, 0, 0, 6));
            due.frames("over themselves", room, 0,
                    first + 4, first + 5, first + 6, first + 4, first + 5, first + 6);
        }
    }

    /** A reel of 1 .. 6 on hook 0, of sealed cards where the kind has cards. */
    private static SpliceRoom rising(int kind) {
        SpliceRoom room = new SpliceRoom();
        room.wind(0, kind, 6);
        for (int i = 0; i < 6; i++) {
            if (kind < 3) {
                room.mark(0, i, i + 1);
            } else {
                room.paste(0, i, i + 1, true);
            }
        }
        return room;
    }

    private void laidOverTheSameOneByTwoHooks() {
        due.sentence("or of the same one");
        SpliceRoom room = rising(1);
        room.hang(5, 0);
        due.is("two frames on, by two hooks", 4, room.splice(0, 0, 5, 2, 4));
        due.frames("two frames on", room, 0, 1, 2, 1, 2, 3, 4);
        due.is("two frames back, by two hooks", 4, room.splice(5, 2, 0, 0, 4));
        due.frames("two frames back", room, 5, 1, 2, 3, 4, 3, 4);
    }

    private void theFirstStaysAsItIs() {
        due.sentence("those of the first stay as they are (but where they are laid over)");
        SpliceRoom room = Rooms.twoReelsOfMarks();
        room.splice(0, 0, 1, 0, 6);
        due.frames("the first reel", room, 0, 1, 2, 3, 4, 5, 6);
        due.frames("the second reel", room, 1, 1, 2, 3, 4, 5, 6);
        room.mark(1, 0, 50);
        room.mark(0, 1, 60);
        due.is("frames are no longer shared", 1, room.frame(0, 0));
        due.is("either way", 2, room.frame(1, 1));
        room.splice(0, 0, 0, 3, 2);
        due.frames("laid over in part", room, 0, 1, 60, 3, 1, 60, 6);
    }

    /** A cut that is due to jam and to lay nothing; the knife is kept sharp for the next one. */
    private void jams(SpliceRoom room, int want, int from, int p, int to, int q, int n) {
        String call = "splice(" + from + ", " + p + ", " + to + ", " + q + ", " + n + ")";
        int laid = room.count(1);
        int jams = room.count(2);
        due.is(call, want, room.splice(from, p, to, q, n));
        due.is(call + ": told", want, room.count(6));
        due.is(call + ": jams", jams + 1, room.count(2));
        due.is(call + ": FAR", 0, room.count(5));
        due.is(call + ": frames laid", laid, room.count(1));
        if (room.count(3) == 3) {
            room.grind();
        }
    }

    private void jamsByTheFirst() {
        due.sentence("It JAMS by the first of these");
        SpliceRoom room = Rooms.oneOfEach();
        room.paste(3, 0, 1, false);
        jams(room, -1, 0, -1, 5, -1, -1);
        jams(room, -1, 5, -1, 0, -1, -1);
        jams(room, -1, 0, 5, 1, 5, 5);
        jams(room, -2, 1, -1, 5, -1, -1);
        jams(room, -2, 1, 5, 2, 5, 5);
        jams(room, -2, 3, 0, 2, 0, 5);
        jams(room, -3, 3, 0, 4, 0, 5);
        jams(room, -3, 3, 0, 4, 4, 1);
        jams(room, -4, 3, 0, 4, 3, 1);
    }

    private void jamsByNothing() {
        due.sentence("-1 one of both hooks holds nothing");
        for (int kind = 1; kind < 6; kind++) {
            SpliceRoom room = new SpliceRoom();
            room.wind(0, kind, 2);
            jams(room, -1, 1, 0, 0, 0, 1);
            jams(room, -1, 0, 0, 1, 0, 1);
            jams(room, -1, 0, 0, 1, 0, 0);
            jams(room, -1, 1, 0, 2, 0, 0);
            jams(room, -1, 3, 0, 3, 0, 1);
            room.wind(0, 0, 2);
            jams(room, -1, 0, 0, 0, 0, 0);
        }
    }

    private void jamsByACore() {
        due.sentence("-2 one holds a core");
        SpliceRoom room = Rooms.oneOfEach();
        for (int hook = 1; hook < 6; hook++) {
            jams(room, -2, hook, 0, 5, 0, 1);
            jams(room, -2, 5, 0, hook, 0, 1);
            jams(room, -2, hook, 0, 5, 0, 0);
            jams(room, -2, 5, 0, hook, 0, 0);
        }
        room.wind(4, 5, 0);
        jams(room, -2, 4, 0, 5, 0, 0);
    }

    private void jamsByUnlikeReels() {
        due.sentence("or the two reels are unlike"
                + " (marks and hours; one of these and cards or seals)");
        SpliceRoom room = Rooms.oneOfEach();
        int[][] unlike = {{1, 2}, {1, 3}, {1, 4}, {2, 3}, {2, 4}};
        for (int[] two : unlike) {
            jams(room, -2, two[0], 0, two[1], 0, 1);
            jams(room, -2, two[1], 0, two[0], 0, 1);
            jams(room, -2, two[0], 4, two[1], 4, 0);
            jams(room, -2, two[1], 4, two[0], 4, 0);
        }
        int[][] alike = {{1, 1}, {2, 2}, {3, 3}, {4, 4}, {3, 4}, {4, 3}};
        for (int[] two : alike) {
            due.is("alike: " + two[0] + " and " + two[1], 4,
                    room.splice(two[0], 0, two[1], 0, 4));
        }
        room.wind(0, 1, 0);
        room.wind(5, 2, 0);
        jams(room, -2, 0, 0, 5, 0, 0);
    }

    private void jamsBelowZero() {
        due.sentence("-3 p, q or n is below 0");
        for (int below : new int[] {-1, -2, -6, MIN, MIN + 1}) {
            SpliceRoom room = Rooms.twoReelsOfMarks();
            jams(room, -3, 0, below, 1, 0, 1);
            jams(room, -3, 0, 0, 1, below, 1);
            jams(room, -3, 0, 0, 1, 0, below);
            jams(room, -3, 0, below, 1, 0, 0);
            jams(room, -3, 0, 0, 1, below, 0);
            jams(room, -3, 0, 6, 1, 6, below);
            jams(room, -3, 0, below, 1, below, below);
            jams(room, -3, 0, 0, 0, below, 1);
            due.frames("laid over none", room, 1, 0, 0, 0, 0, 0, 0);
        }
    }

    private void jamsBeyondTheEnd() {
        due.sentence("or p and n, q and n together are beyond the end of their reel");
        SpliceRoom room = Rooms.twoReelsOfMarks();
        room.wind(1, 1, 4);
        for (int n = 0; n <= 4; n++) {
            due.is("p and n at the end", n, room.splice(0, 6 - n, 1, 0, n));
            due.is("q and n at the end", n, room.splice(0, 0, 1, 4 - n, n));
            jams(room, -3, 0, 7 - n, 1, 0, n);
            jams(room, -3, 0, 0, 1, 5 - n, n);
        }
        jams(room, -3, 0, 0, 1, 0, 5);
        jams(room, -3, 1, 0, 0, 0, 5);
        jams(room, -3, 0, 0, 0, 0, 7);
        room.wind(2, 1, 0);
        due.is("none of a reel without frames", 0, room.splice(2, 0, 1, 4, 0));
        due.is("none over a reel without frames", 0, room.splice(1, 4, 2, 0, 0));
        jams(room, -3, 2, 0, 1, 0, 1);
        jams(room, -3, 1, 0, 2, 0, 1);
        jams(room, -3, 2, 1, 1, 0, 0);
    }

    private void jamsBeyondWhatAnIntHolds() {
        due.sentence("together are beyond the end");
        SpliceRoom room = Rooms.twoReelsOfMarks();
        jams(room, -3, 0, MAX, 1, 0, 1);
        jams(room, -3, 0, 0, 1, MAX, 1);
        jams(room, -3, 0, 0, 1, 0, MAX);
        jams(room, -3, 0, 1, 1, 1, MAX);
        jams(room, -3, 0, MAX, 1, MAX, MAX);
        jams(room, -3, 0, MAX, 1, 0, 0);
        jams(room, -3, 0, 0, 1, MAX, 0);
        jams(room, -3, 0, 6, 1, 6, MAX - 5);
        due.frames("laid over none", room, 1, 0, 0, 0, 0, 0, 0);
    }

    private void jamsByAPlainCard() {
        due.sentence("-4 a plain card would come to seals");
        SpliceRoom room = Rooms.cardsAndSeals();
        due.is("the plain card alone", -4, room.splice(0, 3, 1, 0, 1));
        due.is("the plain card first", -4, room.splice(0, 3, 1, 3, 2));
        due.counts("the plain card first", room, 0, 0, 2, 2, 0, 0, -4, 0);
        due.frames("the plain card first", room, 1, 1070, 1071, 1072, 1073, 1074);
        room.paste(0, 3, 0, false);
        due.is("a plain card of number 0", -4, room.splice(0, 3, 1, 0, 1));
    }

    private void laysThoseAheadOfTheFirstPlainOne() {
        due.sentence("those ahead of the first one (sealed, empty) are laid all the same");
        SpliceRoom room = Rooms.cardsAndSeals();
        due.is("three ahead", -4, room.splice(0, 0, 1, 0, 5));
        due.frames("three ahead", room, 1, 1001, -1, 1000, 1073, 1074);
        due.counts("three ahead", room, 0, 3, 1, 1, 0, 3, -4, 0);
        due.is("one ahead, an other q", -4, room.splice(0, 2, 1, 3, 2));
        due.frames("one ahead", room, 1, 1001, -1, 1000, 1000, 1074);
        due.counts("one ahead", room, 0, 4, 2, 2, 0, 1, -4, 0);
        SpliceRoom long40 = new SpliceRoom();
        long40.wind(0, 3, 40);
        long40.wind(1, 4, 40);
        long40.paste(0, 0, 8, true);
        long40.paste(0, 39, 9, false);
        long40.paste(1, 38, 7, true);
        long40.paste(1, 39, 7, true);
        due.is("the plain card last", -4, long40.splice(0, 0, 1, 0, 40));
        due.counts("the plain card last", long40, 0, 39, 1, 1, 0, 39, -4, 0);
        due.is("the first is laid", 1008, long40.frame(1, 0));
        due.is("the last but one is laid", -1, long40.frame(1, 38));
        due.is("the last is not", 1007, long40.frame(1, 39));
    }

    private void laysNoOthers() {
        due.sentence("no others");
        SpliceRoom room = Rooms.cardsAndSeals();
        room.paste(0, 1, 4, false);
        due.is("two plain cards", -4, room.splice(0, 0, 1, 0, 5));
        due.frames("two plain cards", room, 1, 1001, 1071, 1072, 1073, 1074);
        due.frames("those of the first stay", room, 0, 1001, 4, 1000, 999, 1005);
        due.is("FAR", 1, room.count(5));
    }

    private void plainCardsThatDoNotJam() {
        due.sentence("a plain card would come to seals");
        SpliceRoom room = Rooms.cardsAndSeals();
        due.is("it stands behind those lifted", 3, room.splice(0, 0, 1, 0, 3));
        due.is("it stands ahead of those lifted", 1, room.splice(0, 4, 1, 4, 1));
        due.is("none is lifted", 0, room.splice(0, 3, 1, 0, 0));
        room.wind(2, 3, 5);
        due.is("it comes to cards", 5, room.splice(0, 0, 2, 0, 5));
        due.frames("it comes to cards", room, 2, 1001, -1, 1000, 999, 1005);
        due.is("it is laid over by seals", 5, room.splice(1, 0, 0, 0, 5));
        due.frames("it is laid over by seals", room, 0, 1001, -1, 1000, 1073, 1005);
        due.is("it is gone", 5, room.splice(0, 0, 1, 0, 5));
        room.splice(2, 0, 0, 0, 5);
        room.pull(0, 3);
        due.is("it was pulled", 5, room.splice(0, 0, 1, 0, 5));
        due.counts("no jam", room, 8, 29, 0, 0, 0, 5, 5, 0);
    }

    private void far() {
        due.sentence("FAR is how many frames the latest cut laid (0 when it jammed by -1 to -3).");
        int[][] jams = {{0, 0, 5, 0, 1}, {0, 0, 4, 0, 1}, {0, 0, 1, 5, 1}};
        for (int[] jam : jams) {
            SpliceRoom room = Rooms.cardsAndSeals();
            room.wind(4, 5, 0);
            due.is("before", 0, room.count(5));
            room.splice(0, 0, 1, 0, 3);
            due.is("behind three", 3, room.count(5));
            due.fails("a cut that throws", ARG, () -> room.splice(0, 0, 6, 0, 1));
            room.step(0, 0, 1, 0, 1);
            due.is("till the next cut", 3, room.count(5));
            due.is("a jam", true, room.splice(jam[0], jam[1], jam[2], jam[3], jam[4]) < 0);
            due.is("behind a jam", 0, room.count(5));
            room.splice(0, 1, 1, 0, 4);
            due.is("behind a jam by -4", 2, room.count(5));
            room.splice(0, 0, 1, 0, 0);
            due.is("behind none", 0, room.count(5));
            room.play(false);
            due.is("behind a step", 1, room.count(5));
        }
    }

    private void thirdJamInARow() {
        due.sentence("The third jam in a row makes the knife BLUNT");
        int[][] jams = {{0, 0, 5, 0, 1}, {0, 0, 4, 0, 1}, {0, 0, 1, 5, 1}, {0, 1, 1, 0, 4}};
        for (int[] jam : jams) {
            SpliceRoom room = Rooms.cardsAndSeals();
            room.wind(4, 5, 0);
            for (int k = 1; k <= 3; k++) {
                due.fails("sharp before jam " + k, STATE, room::grind);
                due.is("jam " + k, true, room.splice(jam[0], jam[1], jam[2], jam[3], jam[4]) < 0);
                due.is("jams in a row", k, room.count(3));
            }
            due.fails("a cut behind the third", STATE, () -> room.splice(0, 0, 0, 0, 1));
            due.is("it can be ground", 1, room.grind());
        }
        SpliceRoom mixed = Rooms.cardsAndSeals();
        mixed.step(0, 3, 1, 0, 1);
        mixed.splice(0, 0, 5, 0, 1);
        mixed.splice(0, 0, 1, 5, 1);
        due.is("the third by a step", 0, mixed.play(false));
        due.fails("a cut behind that step", STATE, () -> mixed.splice(0, 0, 0, 0, 1));
    }

    private void bluntTillGround() {
        due.sentence("BLUNT till it is ground");
        SpliceRoom room = Rooms.blunt();
        room.wind(5, 1, 6);
        room.step(0, 0, 1, 0, 1);
        room.mark(0, 0, 8);
        room.sweep();
        due.fails("a cut that would go well", STATE, () -> room.splice(0, 0, 1, 0, 1));
        due.fails("a cut of none", STATE, () -> room.splice(0, 0, 1, 0, 0));
        due.is("jams in a row", 3, room.count(3));
        room.grind();
        due.is("a cut with a ground knife", 1, room.splice(0, 0, 1, 0, 1));
        due.is("frame", 8, room.frame(1, 0));
    }

    private void rowOfJamsEnds() {
        due.sentence("A cut that goes well, and a grinding, end a row of jams.");
        SpliceRoom room = Rooms.twoReelsOfMarks();
        room.step(0, 6, 1, 6, 0);
        for (int k = 0; k < 3; k++) {
            room.splice(0, 0, 5, 0, 1);
            room.splice(0, 0, 5, 0, 1);
            due.is("two jams", 2, room.count(3));
            int well = k == 0 ? room.splice(0, 0, 1, 0, 1)
                    : k == 1 ? room.splice(0, 0, 1, 0, 0) : room.play(false) - 1;
            due.is("a cut that goes well", k == 0 ? 1 : 0, well);
            due.is("it ends the row", 0, room.count(3));
        }
        for (int k = 1; k <= 3; k++) {
            room.splice(0, 0, 5, 0, 1);
        }
        room.grind();
        due.is("a grinding ends the row", 0, room.count(3));
        room.splice(0, 0, 5, 0, 1);
        room.splice(0, 0, 5, 0, 1);
        due.is("a new row", 2, room.count(3));
        due.fails("it isn't blunt yet", STATE, room::grind);
        due.is("all jams", 11, room.count(2));
    }

    private void atMost24Steps() {
        due.sentence("THE SHEET has at most 24 STEPS: cuts that are written down.");
        SpliceRoom room = Rooms.twoReelsOfMarks();
        for (int k = 1; k <= 24; k++) {
            due.is("step", k, room.step(0, 0, 1, k % 6, 1));
        }
        due.fails("step 25", STATE, () -> room.step(0, 0, 1, 0, 1));
        due.is("steps", 24, room.count(4));
        due.counts("no cut was done", room, 0, 0, 0, 0, 24, 0, 0, 0);
        due.frames("no cut was done", room, 1, 0, 0, 0, 0, 0, 0);
        due.is("all 24 played", 24, room.play(true));
        due.is("steps behind playing", 24, room.count(4));
    }

    private void playedForwards() {
        due.sentence("Played FORWARDS they are done from the first on");
        SpliceRoom room = chain();
        due.is("forwards", 3, room.play(false));
        due.frames("forwards", room, 0, 1, 1, 1, 1, 5, 6);
        SpliceRoom one = Rooms.twoReelsOfMarks();
        one.step(0, 4, 1, 1, 2);
        due.is("one step", 1, one.play(false));
        due.frames("one step", one, 1, 0, 5, 6, 0, 0, 0);
    }

    private void playedBackwards() {
        due.sentence("BACKWARDS from the last on, each the other way round:"
                + " its frames from q on of its second hook are laid over those"
                + " from p on of its first one");
        SpliceRoom room = chain();
        due.is("backwards", 3, room.play(true));
        due.frames("backwards", room, 0, 4, 4, 4, 4, 5, 6);
        SpliceRoom one = Rooms.twoReelsOfMarks();
        one.step(1, 1, 0, 4, 2);
        due.is("one step", 1, one.play(true));
        due.frames("one step", one, 1, 0, 5, 6, 0, 0, 0);
        due.frames("one step", one, 0, 1, 2, 3, 4, 5, 6);
        SpliceRoom cards = Rooms.cardsAndSeals();
        cards.step(1, 0, 0, 2, 2);
        due.is("a plain card comes to seals", 0, cards.play(true));
        due.frames("one ahead of it", cards, 1, 1000, 1071, 1072, 1073, 1074);
        due.counts("one ahead of it", cards, 0, 1, 1, 1, 1, 1, -4, 0);
    }

    /** Hook 0 holds 1 .. 6; step k lays frame k over frame k + 1. */
    private static SpliceRoom chain() {
        SpliceRoom room = Rooms.twoReelsOfMarks();
        room.step(0, 0, 0, 1, 1);
        room.step(0, 1, 0, 2, 1);
        room.step(0, 2, 0, 3, 1);
        return room;
    }

    private void playingEnds() {
        due.sentence("Playing ends behind the last, or with the first that jams.");
        for (int jam = 0; jam < 5; jam++) {
            SpliceRoom room = Rooms.twoReelsOfMarks();
            for (int k = 0; k < 5; k++) {
                room.step(0, k, k == jam ? 5 : 1, k, 1);
            }
            due.is("forwards, step " + jam + " jams", jam, room.play(false));
            due.counts("forwards", room, jam, jam, 1, 1, 5, 0, -1, 0);
            for (int k = 0; k < 5; k++) {
                due.is("frame " + k, k < jam ? k + 1 : 0, room.frame(1, k));
            }
            due.is("backwards", 4 - jam, room.play(true));
            due.counts("backwards", room, 4, 4, 2, jam == 4 ? 2 : 1, 5, 0, -1, 0);
        }
        SpliceRoom none = Rooms.twoReelsOfMarks();
        due.is("no steps, forwards", 0, none.play(false));
        due.is("no steps, backwards", 0, none.play(true));
        due.counts("no steps", none, 0, 0, 0, 0, 0, 0, 0, 0);
    }
}
