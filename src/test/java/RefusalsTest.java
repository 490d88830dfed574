/**
 * "What throws changes nothing; of several exceptions the first one told.": every call that the
 * document refuses, in a sharp, a blunt and a full room, against a room that was not asked.
 */
public final class RefusalsTest {
    private static final Class<IllegalArgumentException> ARG = IllegalArgumentException.class;
    private static final Class<IllegalStateException> STATE = IllegalStateException.class;
    private static final Class<IndexOutOfBoundsException> INDEX = IndexOutOfBoundsException.class;
    private static final int MIN = Integer.MIN_VALUE;
    private static final int MAX = Integer.MAX_VALUE;
    private static final int[] NO_HOOKS = {-1, 6, MIN, MAX};
    // The rooms of this test have four frames on hooks 1 .. 4.
    private static final int[] NO_FRAMES = {-1, 4, MIN, MAX};

    private interface Maker {
        SpliceRoom make();
    }

    private interface Use {
        Object of(SpliceRoom room);
    }

    private final Due due = new Due();

    public static void main(String[] args) {
        RefusalsTest t = new RefusalsTest();
        t.noSuchHook();
        t.wind();
        t.twin();
        t.mark();
        t.paste();
        t.pull();
        t.splice();
        t.step();
        t.play();
        t.grind();
        t.frame();
        t.whats();
        t.due.end("RefusalsTest");
    }

    private void refused(String call, Class<? extends RuntimeException> want, Use use) {
        refusedIn(Rooms::used, call, want, use);
        refusedIn(Rooms::usedTillBlunt, call + ", blunt", want, use);
        refusedIn(Rooms::usedWithFullSheet, call + ", full", want, use);
    }

    private void refusedIn(
            Maker maker, String call, Class<? extends RuntimeException> want, Use use) {
        SpliceRoom asked = maker.make();
        SpliceRoom other = maker.make();
        due.fails(call, want, () -> use.of(asked));
        due.same("the room behind " + call, View.of(other), View.of(asked));
        due.same("playing behind " + call, played(other), played(asked));
    }

    /** The steps of a sheet show by playing alone. */
    private static String played(SpliceRoom room) {
        StringBuilder text = new StringBuilder();
        for (int k = 0; k < 2; k++) {
            if (room.count(3) == 3) {
                room.grind();
            }
            text.append(" played ").append(room.play(k == 1)).append(View.of(room));
        }
        return text.toString();
    }

    private void noSuchHook() {
        due.sentence("IllegalArgumentException: no such hook (either)");
        for (int hook : NO_HOOKS) {
            refused("wind, hook " + hook, ARG, r -> r.wind(hook, 1, 1));
            refused("hang, hook " + hook, ARG, r -> r.hang(hook, 1));
            refused("hang, other " + hook, ARG, r -> r.hang(1, hook));
            refused("hang, both " + hook, ARG, r -> r.hang(hook, hook));
            refused("twin, hook " + hook, ARG, r -> r.twin(hook, 1));
            refused("twin, other " + hook, ARG, r -> r.twin(1, hook));
            refused("mark, hook " + hook, ARG, r -> marked(r, hook, 0));
            refused("paste, hook " + hook, ARG, r -> r.paste(hook, 0, 1, true));
            refused("pull, hook " + hook, ARG, r -> r.pull(hook, 0));
            refused("splice, from " + hook, ARG, r -> r.splice(hook, 0, 1, 0, 1));
            refused("splice, to " + hook, ARG, r -> r.splice(1, 0, hook, 0, 1));
            refused("step, from " + hook, ARG, r -> r.step(hook, 0, 1, 0, 1));
            refused("step, to " + hook, ARG, r -> r.step(1, 0, hook, 0, 1));
            refused("frame, hook " + hook, ARG, r -> r.frame(hook, 0));
            refused("look, hook " + hook, ARG, r -> r.look(hook, 0));
            refused("sum, hook " + hook, ARG, r -> r.sum(hook));
        }
    }

    private static Object marked(SpliceRoom room, int hook, int i) {
        room.mark(hook, i, 1234);
        return "nothing";
    }

    private void wind() {
        due.sentence("IllegalArgumentException: no such hook, kind (0 .. 5), or other frames.");
        for (int kind : new int[] {-1, 6, MIN, MAX}) {
            refused("wind, kind " + kind, ARG, r -> r.wind(1, kind, 4));
        }
        for (int frames : new int[] {-1, 41, MIN, MAX}) {
            for (int kind = 1; kind < 5; kind++) {
                int k = kind;
                refused("wind, frames " + frames, ARG, r -> r.wind(1, k, frames));
            }
        }
    }

    private void twin() {
        due.sentence("IllegalStateException: the other one holds nothing, or a core.");
        for (int hook : new int[] {0, 1, 5}) {
            refused("twin of nothing", STATE, r -> r.twin(hook, 0));
            refused("twin of a core", STATE, r -> r.twin(hook, 5));
        }
        refused("twin on no hook, of nothing", ARG, r -> r.twin(6, 0));
        refused("twin on no hook, of a core", ARG, r -> r.twin(-1, 5));
    }

    private void mark() {
        due.sentence("IllegalStateException: neither of both."
                + " IndexOutOfBoundsException: no such frame.");
        for (int hook : new int[] {0, 3, 4, 5}) {
            refused("mark, hook " + hook, STATE, r -> marked(r, hook, 0));
        }
        for (int i : NO_FRAMES) {
            refused("mark of marks, frame " + i, INDEX, r -> marked(r, 1, i));
            refused("mark of hours, frame " + i, INDEX, r -> marked(r, 2, i));
            refused("mark of cards, frame " + i, STATE, r -> marked(r, 3, i));
            refused("mark of nothing, frame " + i, STATE, r -> marked(r, 0, i));
            refused("mark of a core, frame " + i, STATE, r -> marked(r, 5, i));
            refused("mark on no hook, frame " + i, ARG, r -> marked(r, 6, i));
        }
    }

    private void paste() {
        due.sentence("IllegalArgumentException: no such hook, or number."
                + " IllegalStateException: no cards, no seals."
                + " IndexOutOfBoundsException: no such frame.");
        for (int number : new int[] {-1, 1000, MIN, MAX}) {
            refused("paste, number " + number, ARG, r -> r.paste(3, 0, number, true));
            refused("paste, plain number " + number, ARG, r -> r.paste(4, 0, number, false));
            refused("paste on marks, number " + number, ARG, r -> r.paste(1, 0, number, true));
            refused("paste on no frame, number " + number, ARG, r -> r.paste(3, 4, number, true));
        }
        for (int hook : new int[] {0, 1, 2, 5}) {
            refused("paste, hook " + hook, STATE, r -> r.paste(hook, 0, 1, true));
            refused("paste, hook " + hook + ", no frame", STATE, r -> r.paste(hook, 4, 1, false));
        }
        for (int i : NO_FRAMES) {
            refused("paste on cards, frame " + i, INDEX, r -> r.paste(3, i, 1, false));
            refused("paste on seals, frame " + i, INDEX, r -> r.paste(4, i, 1, true));
            refused("paste of plain on seals, frame " + i, INDEX, r -> r.paste(4, i, 1, false));
            refused("paste on no hook, frame " + i, ARG, r -> r.paste(6, i, 1, false));
        }
    }

    private void pull() {
        due.sentence("Exceptions as for paste().");
        for (int hook : new int[] {0, 1, 2, 5}) {
            refused("pull, hook " + hook, STATE, r -> r.pull(hook, 0));
            refused("pull, hook " + hook + ", no frame", STATE, r -> r.pull(hook, -1));
        }
        for (int i : NO_FRAMES) {
            refused("pull of cards, frame " + i, INDEX, r -> r.pull(3, i));
            refused("pull of seals, frame " + i, INDEX, r -> r.pull(4, i));
            refused("pull on no hook, frame " + i, ARG, r -> r.pull(-1, i));
        }
    }

    private void splice() {
        due.sentence("IllegalStateException: the knife is blunt.");
        Maker blunt = Rooms::usedTillBlunt;
        refusedIn(blunt, "a cut that would go well", STATE, r -> r.splice(1, 0, 1, 1, 2));
        refusedIn(blunt, "a cut of none", STATE, r -> r.splice(1, 0, 1, 1, 0));
        refusedIn(blunt, "a jam by nothing", STATE, r -> r.splice(0, 0, 1, 0, 1));
        refusedIn(blunt, "a jam by a core", STATE, r -> r.splice(1, 0, 5, 0, 1));
        refusedIn(blunt, "a jam beyond the end", STATE, r -> r.splice(1, MAX, 1, MIN, -1));
        refusedIn(blunt, "a jam by a plain card", STATE, r -> r.splice(3, 1, 4, 0, 3));
        refusedIn(blunt, "no hook goes first", ARG, r -> r.splice(6, 0, 1, 0, 1));
    }

    private void step() {
        due.sentence("IllegalStateException: there are 24.");
        Maker full = Rooms::usedWithFullSheet;
        refusedIn(full, "step 25", STATE, r -> r.step(1, 0, 1, 1, 2));
        refusedIn(full, "step 25, wild", STATE, r -> r.step(0, MAX, 5, MIN, -1));
        refusedIn(full, "no hook goes first", ARG, r -> r.step(1, 0, 6, 0, 1));
    }

    private void play() {
        due.sentence("play: IllegalStateException: the knife is blunt.");
        Maker blunt = Rooms::usedTillBlunt;
        refusedIn(blunt, "play(false)", STATE, r -> r.play(false));
        refusedIn(blunt, "play(true)", STATE, r -> r.play(true));
        Maker swept = () -> {
            SpliceRoom room = Rooms.usedTillBlunt();
            room.sweep();
            return room;
        };
        refusedIn(swept, "play(false), no steps", STATE, r -> r.play(false));
        refusedIn(swept, "play(true), no steps", STATE, r -> r.play(true));
    }

    private void grind() {
        due.sentence("grind: IllegalStateException: it isn't blunt.");
        refusedIn(SpliceRoom::new, "grind, new", STATE, SpliceRoom::grind);
        refusedIn(Rooms::used, "grind, two jams", STATE, SpliceRoom::grind);
        refusedIn(() -> {
            SpliceRoom room = Rooms.usedTillBlunt();
            room.grind();
            return room;
        }, "grind, just ground", STATE, SpliceRoom::grind);
    }

    private void frame() {
        due.sentence("IllegalStateException: nothing, or a core."
                + " IndexOutOfBoundsException: no such frame.");
        for (int i : new int[] {-1, 0, 4, MIN, MAX}) {
            refused("frame of nothing, " + i, STATE, r -> r.frame(0, i));
            refused("frame of a core, " + i, STATE, r -> r.frame(5, i));
        }
        for (int i : NO_FRAMES) {
            for (int hook = 1; hook < 5; hook++) {
                int h = hook;
                refused("frame of hook " + h + ", " + i, INDEX, r -> r.frame(h, i));
            }
            refused("frame of no hook, " + i, ARG, r -> r.frame(-1, i));
        }
    }

    private void whats() {
        due.sentence("IllegalArgumentException: no such hook, or what. .. another what.");
        for (int what : new int[] {-1, 3, MIN, MAX}) {
            refused("look, what " + what, ARG, r -> r.look(1, what));
            refused("look of nothing, what " + what, ARG, r -> r.look(0, what));
        }
        for (int what : new int[] {-1, 8, MIN, MAX}) {
            refused("count, what " + what, ARG, r -> r.count(what));
        }
    }
}
