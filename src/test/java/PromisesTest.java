/** Each promise of the document: ordinary inputs, the edges it names, and wrong inputs. */
public final class PromisesTest {
    private static final Class<IllegalArgumentException> ARG = IllegalArgumentException.class;
    private static final Class<IllegalStateException> STATE = IllegalStateException.class;
    private static final Class<IndexOutOfBoundsException> INDEX = IndexOutOfBoundsException.class;
    private static final int[] NO_HOOKS = {-1, 6, Integer.MIN_VALUE, Integer.MAX_VALUE};
    private static final int MIN = Integer.MIN_VALUE;
    private static final int MAX = Integer.MAX_VALUE;

    private final Due due = new Due();

    public static void main(String[] args) {
        PromisesTest t = new PromisesTest();
        t.newObject();
        t.wind();
        t.hang();
        t.twin();
        t.mark();
        t.paste();
        t.pull();
        t.spliceGoesWell();
        t.spliceWithinOneReel();
        t.spliceJamsByNothingAndUnlike();
        t.spliceJamsBeyondTheEnd();
        t.spliceJamsByPlainCards();
        t.spliceThrows();
        t.step();
        t.playForwards();
        t.playBackwards();
        t.playEndsWithAJam();
        t.playFindsWhatHangsThere();
        t.sweep();
        t.grind();
        t.frame();
        t.look();
        t.sum();
        t.count();
        t.due.end("PromisesTest");
    }

    private void newObject() {
        SpliceRoom room = new SpliceRoom();
        for (int hook = 0; hook < 6; hook++) {
            due.is("new: look 0", 0, room.look(hook, 0));
            due.is("new: look 1", -1, room.look(hook, 1));
            due.is("new: look 2", 0, room.look(hook, 2));
            due.is("new: sum", 7, room.sum(hook));
        }
        due.counts("new", room, 0, 0, 0, 0, 0, 0, 0, 0);
        due.is("new: play", 0, room.play(false));
        due.is("new: sweep", 0, room.sweep());
        due.fails("new: grind", STATE, room::grind);
        SpliceRoom other = new SpliceRoom();
        room.wind(0, 1, 3);
        due.is("rooms share nothing", 0, other.look(0, 0));
    }

    private void wind() {
        SpliceRoom room = new SpliceRoom();
        for (int kind = 0; kind < 6; kind++) {
            due.is("wind of kind " + kind, kind, room.wind(kind, kind, 2));
            due.is("kind behind wind", kind, room.look(kind, 0));
        }
        due.frames("wind", room, 1, 0, 0);
        due.frames("wind", room, 2, 0, 0);
        due.frames("wind", room, 3, -1, -1);
        due.frames("wind", room, 4, -1, -1);
        due.is("wind of 0 frames", 3, room.wind(0, 3, 0));
        due.is("0 frames", 0, room.look(0, 1));
        due.is("wind of 40 frames", 4, room.wind(0, 4, 40));
        due.is("40 frames", 40, room.look(0, 1));
        due.is("wind of nothing with other frames", 0, room.wind(0, 0, -1));
        due.is("nothing behind wind", 0, room.look(0, 2));
        due.is("wind of a core with other frames", 5, room.wind(0, 5, MAX));
        due.is("a core's frames", -1, room.look(0, 1));
        room.mark(1, 0, 9);
        room.hang(0, 1);
        room.wind(1, 1, 2);
        due.is("wind makes a new reel", 0, room.frame(1, 0));
        due.is("wind leaves the old reel", 9, room.frame(0, 0));
        windThrows(room);
    }

    private void windThrows(SpliceRoom room) {
        for (int hook : NO_HOOKS) {
            due.fails("wind, no hook", ARG, () -> room.wind(hook, 1, 1));
        }
        for (int kind : new int[] {-1, 6, MIN, MAX}) {
            due.fails("wind, no kind", ARG, () -> room.wind(0, kind, 1));
        }
        for (int kind = 1; kind < 5; kind++) {
            int k = kind;
            due.fails("wind, -1 frames", ARG, () -> room.wind(0, k, -1));
            due.fails("wind, 41 frames", ARG, () -> room.wind(0, k, 41));
            due.fails("wind, MIN frames", ARG, () -> room.wind(0, k, MIN));
            due.fails("wind, MAX frames", ARG, () -> room.wind(0, k, MAX));
        }
        due.failsAndChangesNothing("wind(1, 2, 41)", ARG, room, () -> room.wind(1, 2, 41));
    }

    private void hang() {
        SpliceRoom room = Rooms.oneOfEach();
        for (int kind = 1; kind < 6; kind++) {
            due.is("hang of kind " + kind, kind, room.hang(0, kind));
            due.is("holders behind hang", 2, room.look(kind, 2));
        }
        room.hang(0, 1);
        room.mark(0, 2, 55);
        due.is("what comes through one hook", 55, room.frame(1, 2));
        due.is("hang on itself", 1, room.hang(1, 1));
        due.is("holders behind hang on itself", 2, room.look(1, 2));
        room.wind(0, 0, 0);
        due.is("hang of nothing", 0, room.hang(2, 0));
        due.is("kind behind hang of nothing", 0, room.look(2, 0));
        for (int hook : NO_HOOKS) {
            due.fails("hang, no hook", ARG, () -> room.hang(hook, 1));
            due.fails("hang, no other", ARG, () -> room.hang(1, hook));
        }
        due.failsAndChangesNothing("hang(1, 6)", ARG, room, () -> room.hang(1, 6));
    }

    private void twin() {
        SpliceRoom room = Rooms.oneOfEach();
        room.mark(1, 1, -3);
        room.mark(2, 1, Long.MIN_VALUE);
        room.paste(3, 1, 5, false);
        room.paste(4, 1, 6, true);
        for (int kind = 1; kind < 5; kind++) {
            due.is("twin of kind " + kind, kind, room.twin(0, kind));
            due.is("sum of the twin", room.sum(kind), room.sum(0));
            due.is("holders of the twin", 1, room.look(0, 2));
            due.is("holders of its model", 1, room.look(kind, 2));
        }
        due.is("a twin of seals takes seals alone", false, room.paste(0, 0, 1, false));
        room.pull(0, 1);
        due.is("a twin is a reel of its own", 1006, room.frame(4, 1));
        room.hang(0, 1);
        due.is("twin of itself", 1, room.twin(1, 1));
        due.is("holders behind twin of itself", 1, room.look(1, 2));
        due.is("the frames are the same", -3, room.frame(1, 1));
        room.mark(1, 1, 4);
        due.is("the old reel hangs on", -3, room.frame(0, 1));
        for (int hook : NO_HOOKS) {
            due.fails("twin, no hook", ARG, () -> room.twin(hook, 5));
            due.fails("twin, no other", ARG, () -> room.twin(1, hook));
        }
        due.failsAndChangesNothing("twin of a core", STATE, room, () -> room.twin(1, 5));
        room.wind(5, 0, 0);
        due.fails("twin of nothing", STATE, () -> room.twin(1, 5));
        room.wind(2, 3, 0);
        due.is("twin of no frames", 3, room.twin(1, 2));
        due.is("frames of that twin", 0, room.look(1, 1));
    }

    private void mark() {
        SpliceRoom room = Rooms.oneOfEach();
        room.mark(1, 0, 0x1_0000_0005L);
        room.mark(1, 1, 0x8000_0000L);
        room.mark(1, 2, -1);
        room.mark(1, 3, Long.MIN_VALUE + 7);
        due.frames("mark", room, 1, 5, MIN, -1, 7);
        room.mark(2, 0, 0x1_0000_0005L);
        room.mark(2, 1, 0x8000_0000L);
        room.mark(2, 2, Long.MIN_VALUE);
        room.mark(2, 3, Long.MAX_VALUE);
        due.frames("mark", room, 2, 0x1_0000_0005L, 0x8000_0000L, Long.MIN_VALUE, Long.MAX_VALUE);
        for (int hook : NO_HOOKS) {
            due.fails("mark, no hook", ARG, () -> marked(room, hook, -1));
        }
        for (int hook : new int[] {0, 3, 4, 5}) {
            due.fails("mark, no row of numbers", STATE, () -> marked(room, hook, -1));
        }
        for (int i : new int[] {-1, 4, MIN, MAX}) {
            due.fails("mark, no frame of marks", INDEX, () -> marked(room, 1, i));
            due.fails("mark, no frame of hours", INDEX, () -> marked(room, 2, i));
        }
        room.wind(0, 1, 0);
        due.failsAndChangesNothing("mark of no frames", INDEX, room, () -> marked(room, 0, 0));
    }

    private static Object marked(SpliceRoom room, int hook, int i) {
        room.mark(hook, i, 1);
        return "nothing";
    }

    private void paste() {
        SpliceRoom room = Rooms.oneOfEach();
        due.is("plain card", true, room.paste(3, 0, 0, false));
        due.is("sealed card", true, room.paste(3, 1, 0, true));
        due.is("last plain card", true, room.paste(3, 2, 999, false));
        due.is("last sealed card", true, room.paste(3, 3, 999, true));
        due.frames("paste", room, 3, 0, 1000, 999, 1999);
        due.is("over another card", true, room.paste(3, 0, 8, true));
        due.is("frame behind that", 1008, room.frame(3, 0));
        due.is("sealed in seals", true, room.paste(4, 0, 0, true));
        due.is("plain over sealed in seals", false, room.paste(4, 0, 5, false));
        due.is("plain over empty in seals", false, room.paste(4, 1, 999, false));
        due.frames("paste", room, 4, 1000, -1, -1, -1);
        for (int hook : NO_HOOKS) {
            due.fails("paste, no hook", ARG, () -> room.paste(hook, -1, 1, true));
        }
        for (int number : new int[] {-1, 1000, MIN, MAX}) {
            due.fails("paste, no number", ARG, () -> room.paste(3, 0, number, true));
            due.fails("paste, no number, no cards", ARG, () -> room.paste(1, 0, number, true));
        }
        for (int hook : new int[] {0, 1, 2, 5}) {
            due.fails("paste, no cards", STATE, () -> room.paste(hook, -1, 1, true));
        }
        for (int i : new int[] {-1, 4, MIN, MAX}) {
            due.fails("paste, no frame of cards", INDEX, () -> room.paste(3, i, 1, true));
            due.fails("paste, no frame of seals", INDEX, () -> room.paste(4, i, 1, false));
        }
        due.failsAndChangesNothing("paste(3, 4, ..)", INDEX, room, () -> room.paste(3, 4, 1, true));
    }

    private void pull() {
        SpliceRoom room = Rooms.oneOfEach();
        room.paste(3, 0, 0, false);
        room.paste(3, 1, 2, true);
        room.paste(4, 3, 0, true);
        due.is("plain card", true, room.pull(3, 0));
        due.is("the same frame again", false, room.pull(3, 0));
        due.is("an empty frame", false, room.pull(3, 3));
        due.frames("pull", room, 3, -1, 1002, -1, -1);
        due.is("sealed card", true, room.pull(4, 3));
        due.is("an empty frame of seals", false, room.pull(4, 3));
        due.frames("pull", room, 4, -1, -1, -1, -1);
        for (int hook : NO_HOOKS) {
            due.fails("pull, no hook", ARG, () -> room.pull(hook, -1));
        }
        for (int hook : new int[] {0, 1, 2, 5}) {
            due.fails("pull, no cards", STATE, () -> room.pull(hook, -1));
        }
        for (int i : new int[] {-1, 4, MIN, MAX}) {
            due.fails("pull, no frame of cards", INDEX, () -> room.pull(3, i));
            due.fails("pull, no frame of seals", INDEX, () -> room.pull(4, i));
        }
        due.failsAndChangesNothing("pull(3, 4)", INDEX, room, () -> room.pull(3, 4));
    }

    private void spliceGoesWell() {
        SpliceRoom room = Rooms.twoReelsOfMarks();
        due.is("splice of marks", 3, room.splice(0, 1, 1, 3, 3));
        due.frames("splice", room, 1, 0, 0, 0, 2, 3, 4);
        due.frames("splice", room, 0, 1, 2, 3, 4, 5, 6);
        due.counts("splice", room, 1, 3, 0, 0, 0, 3, 3, 0);
        due.is("splice of none at both ends", 0, room.splice(0, 6, 1, 6, 0));
        due.counts("splice of none", room, 2, 3, 0, 0, 0, 0, 0, 0);
        due.is("splice of all", 6, room.splice(0, 0, 1, 0, 6));
        due.is("sum behind that", room.sum(0), room.sum(1));
        room.mark(0, 0, 99);
        due.is("frames are copied", 1, room.frame(1, 0));
        room.wind(2, 2, 2);
        room.wind(3, 2, 3);
        room.mark(2, 1, Long.MAX_VALUE);
        due.is("splice of hours", 1, room.splice(2, 1, 3, 2, 1));
        due.frames("splice", room, 3, 0, 0, Long.MAX_VALUE);
        room.wind(4, 3, 0);
        room.wind(5, 4, 0);
        due.is("splice of reels without frames", 0, room.splice(4, 0, 5, 0, 0));
        due.is("and the other way", 0, room.splice(5, 0, 4, 0, 0));
    }

    private void spliceWithinOneReel() {
        SpliceRoom room = Rooms.twoReelsOfMarks();
        due.is("to the right", 4, room.splice(0, 0, 0, 2, 4));
        due.frames("to the right", room, 0, 1, 2, 1, 2, 3, 4);
        due.is("to the left", 5, room.splice(0, 1, 0, 0, 5));
        due.frames("to the left", room, 0, 2, 1, 2, 3, 4, 4);
        room.hang(2, 0);
        due.is("by another hook", 5, room.splice(2, 0, 0, 1, 5));
        due.frames("by another hook", room, 0, 2, 2, 1, 2, 3, 4);
        due.is("onto itself", 6, room.splice(0, 0, 2, 0, 6));
        due.frames("onto itself", room, 0, 2, 2, 1, 2, 3, 4);
        room.wind(3, 4, 3);
        room.paste(3, 0, 1, true);
        due.is("within seals", 2, room.splice(3, 0, 3, 1, 2));
        due.frames("within seals", room, 3, 1001, 1001, -1);
    }

    private void jams(String where, SpliceRoom room, int want, int[] cut) {
        due.is(where, want, room.splice(cut[0], cut[1], cut[2], cut[3], cut[4]));
        due.is(where + ": told", want, room.count(6));
        due.is(where + ": FAR", 0, room.count(5));
        if (room.count(3) == 3) {
            room.grind();
        }
    }

    private void spliceJamsByNothingAndUnlike() {
        SpliceRoom room = Rooms.oneOfEach();
        String before = View.of(room).split(" counts")[0];
        for (int from = 0; from < 6; from++) {
            for (int to = 0; to < 6; to++) {
                boolean alike = from == to || from + to == 7 && from > 2 && to > 2;
                int want = from == 0 || to == 0 ? -1 : from == 5 || to == 5 || !alike ? -2 : -3;
                jams("cut of " + from + " to " + to, room, want, new int[] {from, -1, to, 9, 1});
            }
        }
        due.is("jams", 36, room.count(2));
        due.is("frames laid", 0, room.count(1));
        due.same("the reels behind jams", before, View.of(room).split(" counts")[0]);
    }

    private void spliceJamsBeyondTheEnd() {
        SpliceRoom room = Rooms.twoReelsOfMarks();
        room.wind(1, 1, 3);
        int[][] cuts = {
            {0, -1, 1, 0, 1}, {0, 0, 1, -1, 1}, {0, 0, 1, 0, -1}, {0, 6, 1, 3, -1},
            {0, 4, 1, 0, 3}, {0, 0, 1, 1, 3}, {0, 0, 1, 0, 4}, {0, 7, 1, 0, 0}, {0, 0, 1, 4, 0},
            {0, MAX, 1, 0, 1}, {0, 0, 1, MAX, 1}, {0, 0, 1, 0, MAX}, {0, MAX, 1, MAX, MAX},
            {0, 1, 1, 1, MAX}, {0, MIN, 1, 0, 1}, {0, 0, 1, MIN, 1}, {0, 0, 1, 0, MIN},
            {0, MIN, 1, MIN, MIN}, {0, MAX, 1, 0, MIN}, {0, -1, 1, 0, 0}, {0, 0, 1, -1, 0},
            {1, 0, 0, 0, 4}, {0, 1, 0, 0, 6}, {0, 0, 0, 1, 6},
        };
        for (int[] cut : cuts) {
            jams("cut beyond the end", room, -3, cut);
        }
        due.frames("beyond the end", room, 0, 1, 2, 3, 4, 5, 6);
        due.frames("beyond the end", room, 1, 0, 0, 0);
        due.is("jams", cuts.length, room.count(2));
    }

    private void spliceJamsByPlainCards() {
        SpliceRoom room = Rooms.cardsAndSeals();
        due.is("a plain card to seals", -4, room.splice(0, 0, 1, 0, 5));
        due.frames("those ahead are laid", room, 1, 1001, -1, 1000, 1073, 1074);
        due.counts("those ahead are laid", room, 0, 3, 1, 1, 0, 3, -4, 0);
        due.is("ahead of the plain card", 3, room.splice(0, 0, 1, 2, 3));
        due.frames("ahead of the plain card", room, 1, 1001, -1, 1001, -1, 1000);
        due.counts("ahead of the plain card", room, 1, 6, 1, 0, 0, 3, 3, 0);
        due.is("the plain card first", -4, room.splice(0, 3, 1, 0, 2));
        due.counts("the plain card first", room, 1, 6, 2, 1, 0, 0, -4, 0);
        due.is("beyond the end goes first", -3, room.splice(0, 3, 1, 0, 3));
        due.is("none of it", 0, room.splice(0, 3, 1, 0, 0));
        due.is("behind the plain card", 1, room.splice(0, 4, 1, 0, 1));
        due.is("seals to cards", 5, room.splice(1, 0, 0, 0, 5));
        due.is("sum behind that", room.sum(1), room.sum(0));
        room.wind(2, 3, 2);
        room.paste(2, 0, 0, false);
        due.is("plain to cards", 2, room.splice(2, 0, 0, 3, 2));
        due.frames("plain to cards", room, 0, 1005, -1, 1001, 0, -1);
        due.is("number 0 is a card", -4, room.splice(0, 3, 1, 0, 1));
    }

    private void spliceThrows() {
        SpliceRoom room = Rooms.blunt();
        for (int hook : NO_HOOKS) {
            due.fails("splice, no hook", ARG, () -> room.splice(hook, 0, 0, 0, 0));
            due.fails("splice, no other", ARG, () -> room.splice(0, 0, hook, 0, 0));
        }
        due.failsAndChangesNothing("blunt", STATE, room, () -> room.splice(0, 0, 1, 0, 1));
        due.fails("blunt, and it would jam", STATE, () -> room.splice(5, 0, 1, 0, 1));
        SpliceRoom sharp = Rooms.twoReelsOfMarks();
        due.failsAndChangesNothing("splice(0, .. 6, ..)", ARG, sharp,
                () -> sharp.splice(0, 0, 6, 0, 1));
    }

    private void step() {
        SpliceRoom room = Rooms.blunt();
        for (int k = 1; k <= 24; k++) {
            due.is("step", k, room.step(5, MIN, 0, MAX, -k));
            due.is("steps", k, room.count(4));
        }
        due.failsAndChangesNothing("step 25", STATE, room, () -> room.step(0, 0, 1, 0, 1));
        for (int hook : NO_HOOKS) {
            due.fails("step, no hook, full", ARG, () -> room.step(hook, 0, 0, 0, 0));
            due.fails("step, no other, full", ARG, () -> room.step(0, 0, hook, 0, 0));
        }
        room.sweep();
        due.failsAndChangesNothing("step(6, ..)", ARG, room, () -> room.step(6, 0, 0, 0, 0));
        due.is("step behind sweep", 1, room.step(0, 0, 1, 0, 1));
        due.counts("steps cut nothing", room, 0, 0, 3, 3, 1, 0, -1, 0);
    }

    private void playForwards() {
        SpliceRoom room = Rooms.twoReelsOfMarks();
        room.step(0, 0, 1, 0, 2);
        room.step(1, 0, 1, 2, 2);
        room.step(1, 3, 0, 4, 2);
        due.is("play", 3, room.play(false));
        due.frames("play", room, 1, 1, 2, 1, 2, 0, 0);
        due.frames("play", room, 0, 1, 2, 3, 4, 2, 0);
        due.counts("play", room, 3, 6, 0, 0, 3, 2, 2, 0);
        due.is("the sheet is still there", 3, room.play(false));
        due.counts("play again", room, 6, 12, 0, 0, 3, 2, 2, 0);
        SpliceRoom full = Rooms.twoReelsOfMarks();
        for (int k = 0; k < 24; k++) {
            full.step(0, 0, 0, 1, 5);
        }
        due.is("play of 24", 24, full.play(false));
        due.is("cuts of 24", 24, full.count(0));
        due.frames("play of 24", full, 0, 1, 1, 1, 1, 1, 1);
        SpliceRoom none = Rooms.twoReelsOfMarks();
        none.step(0, 6, 1, 6, 0);
        none.step(0, 0, 1, 0, 1);
        due.is("a step of no frames goes well", 2, none.play(false));
        due.is("and so backwards", 2, none.play(true));
        SpliceRoom blunt = Rooms.blunt();
        due.failsAndChangesNothing("blunt", STATE, blunt, () -> blunt.play(false));
        due.fails("blunt, backwards", STATE, () -> blunt.play(true));
    }

    private void playBackwards() {
        SpliceRoom room = Rooms.twoReelsOfMarks();
        room.wind(2, 1, 6);
        room.step(2, 4, 1, 1, 2);
        room.step(1, 0, 0, 2, 3);
        due.is("backwards", 2, room.play(true));
        due.frames("backwards", room, 1, 3, 4, 5, 0, 0, 0);
        due.frames("backwards", room, 2, 0, 0, 0, 0, 4, 5);
        due.frames("backwards", room, 0, 1, 2, 3, 4, 5, 6);
        due.counts("backwards", room, 2, 5, 0, 0, 2, 2, 2, 0);
        due.is("forwards", 2, room.play(false));
        due.frames("forwards", room, 0, 1, 2, 3, 4, 5, 6);
        SpliceRoom seals = new SpliceRoom();
        seals.wind(0, 4, 2);
        seals.wind(1, 3, 2);
        seals.paste(1, 1, 4, false);
        seals.step(0, 0, 1, 0, 1);
        seals.step(0, 0, 1, 0, 2);
        due.is("a plain card, backwards", 0, seals.play(true));
        due.counts("a plain card, backwards", seals, 0, 1, 1, 1, 2, 1, -4, 0);
        due.is("seals to cards, forwards", 2, seals.play(false));
        due.is("backwards, the plain card is gone", 2, seals.play(true));
    }

    private void playEndsWithAJam() {
        SpliceRoom room = Rooms.twoReelsOfMarks();
        room.step(0, 0, 1, 0, 1);
        room.step(0, 0, 1, 6, 1);
        room.step(0, 0, 1, 5, 1);
        due.is("forwards", 1, room.play(false));
        due.counts("forwards", room, 1, 1, 1, 1, 3, 0, -3, 0);
        due.frames("forwards", room, 1, 1, 0, 0, 0, 0, 0);
        due.is("backwards", 1, room.play(true));
        due.counts("backwards", room, 2, 2, 2, 1, 3, 0, -3, 0);
        room.splice(0, 0, 5, 0, 1);
        due.is("two jams in a row", 2, room.count(3));
        due.is("a step that goes well ends the row", 1, room.play(false));
        due.is("jams in a row", 1, room.count(3));
        room.sweep();
        room.step(5, 0, 0, 0, 0);
        due.is("a jam at once", 0, room.play(false));
        due.is("sharp still", 0, room.play(true));
        due.is("blunt now", 3, room.count(3));
        due.fails("blunt", STATE, () -> room.play(false));
        room.sweep();
        due.fails("blunt, an empty sheet", STATE, () -> room.play(false));
        room.grind();
        due.is("an empty sheet", 0, room.play(true));
        due.counts("an empty sheet changes nothing", room, 3, 3, 6, 0, 0, 0, -1, 1);
    }

    private void playFindsWhatHangsThere() {
        SpliceRoom room = new SpliceRoom();
        room.step(0, 0, 1, 0, 1);
        due.is("nothing there", 0, room.play(false));
        room.wind(0, 2, 1);
        room.mark(0, 0, 12);
        room.wind(1, 2, 1);
        due.is("hours there", 1, room.play(false));
        due.is("frame behind that", 12, room.frame(1, 0));
    }

    private void sweep() {
        SpliceRoom room = Rooms.twoReelsOfMarks();
        due.is("sweep of none", 0, room.sweep());
        room.step(0, 0, 1, 0, 1);
        room.step(0, 0, 1, 1, 1);
        due.is("sweep", 2, room.sweep());
        due.is("steps behind sweep", 0, room.count(4));
        due.is("sweep again", 0, room.sweep());
        due.is("play behind sweep", 0, room.play(false));
        due.frames("sweep", room, 1, 0, 0, 0, 0, 0, 0);
        SpliceRoom blunt = Rooms.blunt();
        blunt.step(0, 0, 0, 0, 0);
        due.is("sweep with a blunt knife", 1, blunt.sweep());
    }

    private void grind() {
        SpliceRoom room = Rooms.twoReelsOfMarks();
        for (int times = 1; times <= 3; times++) {
            room.splice(0, 0, 5, 0, 1);
            due.failsAndChangesNothing("one jam", STATE, room, room::grind);
            room.splice(0, 0, 1, 0, 1);
            room.splice(0, 0, 5, 0, 1);
            room.splice(0, 0, 5, 0, 1);
            due.fails("two jams in a row", STATE, room::grind);
            room.splice(0, 0, 5, 0, 1);
            due.is("three in a row", 3, room.count(3));
            due.is("grind", times, room.grind());
            due.is("grindings", times, room.count(7));
            due.is("a grinding ends the row", 0, room.count(3));
            due.is("jams stay counted", 4 * times, room.count(2));
            due.is("told stays", -1, room.count(6));
            due.fails("grind again", STATE, room::grind);
        }
        due.is("sharp again", 1, room.splice(0, 0, 1, 0, 1));
    }

    private void frame() {
        SpliceRoom room = Rooms.oneOfEach();
        room.mark(1, 3, -2);
        room.mark(2, 0, 1L << 40);
        room.paste(3, 0, 12, false);
        room.paste(4, 3, 12, true);
        due.is("of marks", -2, room.frame(1, 3));
        due.is("of hours", 1L << 40, room.frame(2, 0));
        due.is("a plain card", 12, room.frame(3, 0));
        due.is("an empty frame", -1, room.frame(3, 3));
        due.is("a sealed card", 1012, room.frame(4, 3));
        due.is("an empty frame of seals", -1, room.frame(4, 0));
        for (int hook : NO_HOOKS) {
            due.fails("frame, no hook", ARG, () -> room.frame(hook, -1));
        }
        due.fails("frame of nothing", STATE, () -> room.frame(0, -1));
        due.fails("frame of a core", STATE, () -> room.frame(5, -1));
        due.fails("frame 0 of a core", STATE, () -> room.frame(5, 0));
        for (int hook = 1; hook < 5; hook++) {
            int h = hook;
            for (int i : new int[] {-1, 4, MIN, MAX}) {
                due.fails("frame, no such", INDEX, () -> room.frame(h, i));
            }
        }
        room.wind(0, 1, 0);
        due.fails("frame of none", INDEX, () -> room.frame(0, 0));
    }

    private void look() {
        SpliceRoom room = Rooms.oneOfEach();
        for (int kind = 0; kind < 6; kind++) {
            due.is("look 0", kind, room.look(kind, 0));
            due.is("look 1", kind == 0 || kind == 5 ? -1 : 4, room.look(kind, 1));
            due.is("look 2", kind == 0 ? 0 : 1, room.look(kind, 2));
        }
        room.hang(0, 5);
        room.hang(1, 5);
        due.is("holders of a core", 3, room.look(5, 2));
        room.wind(1, 5, 0);
        due.is("another core", 1, room.look(1, 2));
        due.is("holders of the first", 2, room.look(5, 2));
        for (int hook = 1; hook < 6; hook++) {
            room.hang(hook, 0);
        }
        due.is("all hold it", 6, room.look(3, 2));
        for (int hook : NO_HOOKS) {
            due.fails("look, no hook", ARG, () -> room.look(hook, 0));
        }
        for (int what : new int[] {-1, 3, MIN, MAX}) {
            due.fails("look, no what", ARG, () -> room.look(0, what));
        }
    }

    private void sum() {
        SpliceRoom room = Rooms.oneOfEach();
        due.is("of nothing", 7, room.sum(0));
        due.is("of a core", 7, room.sum(5));
        room.wind(0, 2, 0);
        due.is("of no frames", 7, room.sum(0));
        due.is("of zeros", 7L * 31 * 31 * 31 * 31, room.sum(1));
        room.wind(0, 1, 2);
        room.mark(0, 0, 3);
        room.mark(0, 1, -5);
        due.is("of marks", (7 * 31 + 3) * 31 - 5, room.sum(0));
        room.wind(0, 4, 2);
        room.paste(0, 1, 20, true);
        due.is("of seals", (7 * 31 - 1) * 31 + 1020, room.sum(0));
        room.wind(0, 2, 2);
        room.mark(0, 0, Long.MAX_VALUE);
        room.mark(0, 1, Long.MAX_VALUE);
        due.is("of 64 bits", (7 * 31 + Long.MAX_VALUE) * 31 + Long.MAX_VALUE, room.sum(0));
        for (int hook : NO_HOOKS) {
            due.fails("sum, no hook", ARG, () -> room.sum(hook));
        }
    }

    private void count() {
        SpliceRoom room = Rooms.twoReelsOfMarks();
        room.splice(0, 0, 1, 0, 4);
        room.splice(0, 0, 1, 0, 2);
        due.counts("two cuts", room, 2, 6, 0, 0, 0, 2, 2, 0);
        room.splice(0, 0, 1, 0, 7);
        room.step(0, 0, 1, 0, 1);
        due.counts("a jam", room, 2, 6, 1, 1, 1, 0, -3, 0);
        room.splice(0, 0, 4, 0, 1);
        room.splice(4, 0, 0, 0, 1);
        due.counts("blunt", room, 2, 6, 3, 3, 1, 0, -1, 0);
        room.grind();
        due.counts("ground", room, 2, 6, 3, 0, 1, 0, -1, 1);
        for (int what : new int[] {-1, 8, MIN, MAX}) {
            due.fails("count, no what", ARG, () -> room.count(what));
        }
    }
}
