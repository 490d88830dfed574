/**
 * Each sentence of the sixteen promises that names a boundary case, with a test of its own. What
 * they refuse by an exception stands in RefusalsTest.
 */
public final class PromiseEdgesTest {
    private static final Class<IllegalStateException> STATE = IllegalStateException.class;
    private static final Class<IndexOutOfBoundsException> INDEX = IndexOutOfBoundsException.class;
    private static final int MIN = Integer.MIN_VALUE;
    private static final int MAX = Integer.MAX_VALUE;

    private final Due due = new Due();

    public static void main(String[] args) {
        PromiseEdgesTest t = new PromiseEdgesTest();
        t.newObject();
        t.windFewestAndMostFrames();
        t.windOfNothingAndCores();
        t.windMakesANewReel();
        t.hangOfNothing();
        t.hangOnItself();
        t.twinIsAReelOfItsOwn();
        t.twinOfItself();
        t.twinOfNoFrames();
        t.markKeeps32Bits();
        t.markKeepsAllOfHours();
        t.firstAndLastFrame();
        t.noFrameAtAll();
        t.pasteOfAPlainOneInSeals();
        t.pullTellsWhetherItWasNotEmpty();
        t.spliceTellsN();
        t.stepTakesAnyCut();
        t.playOfACutThatBlunts();
        t.playFindsTheReelsOfNow();
        t.sweepOfNoneAndOfAll();
        t.grindTellsHowOften();
        t.frameOfCards();
        t.lookAtFrames();
        t.lookAtHolders();
        t.sumOfNoFrames();
        t.sumWrapsAround();
        t.countsOfAllCuts();
        t.countOfJamsInARow();
        t.countOfWhatWasTold();
        t.longestRun();
        t.due.end("PromiseEdgesTest");
    }

    private void newObject() {
        due.sentence("Empty hooks, a sharp knife, no steps.");
        SpliceRoom room = new SpliceRoom();
        for (int hook = 0; hook < 6; hook++) {
            due.is("kind on hook " + hook, 0, room.look(hook, 0));
            due.is("holders on hook " + hook, 0, room.look(hook, 2));
        }
        due.counts("new", room, 0, 0, 0, 0, 0, 0, 0, 0);
        due.fails("grind", STATE, room::grind);
        due.is("sweep", 0, room.sweep());
        due.is("a first cut", -1, room.splice(0, 0, 5, 0, 0));
        SpliceRoom next = new SpliceRoom();
        due.counts("another new one", next, 0, 0, 0, 0, 0, 0, 0, 0);
    }

    private void windFewestAndMostFrames() {
        due.sentence("A hook comes to hold a new reel of so many frames (0 .. 40");
        SpliceRoom room = new SpliceRoom();
        for (int kind = 1; kind < 5; kind++) {
            for (int frames : new int[] {0, 1, 39, 40}) {
                due.is("wind", kind, room.wind(5, kind, frames));
                due.is("its kind", kind, room.look(5, 0));
                due.is("its frames", frames, room.look(5, 1));
                due.is("its holders", 1, room.look(5, 2));
            }
        }
    }

    private void windOfNothingAndCores() {
        due.sentence("with kind 0 and 5 they don't matter");
        SpliceRoom room = new SpliceRoom();
        for (int frames : new int[] {0, 7, 40, 41, -1, MIN, MAX}) {
            due.is("a core", 5, room.wind(0, 5, frames));
            due.is("a core's kind", 5, room.look(0, 0));
            due.is("a core's frames", -1, room.look(0, 1));
            due.is("nothing", 0, room.wind(0, 0, frames));
            due.is("nothing's kind", 0, room.look(0, 0));
            due.is("nothing's holders", 0, room.look(0, 2));
        }
    }

    private void windMakesANewReel() {
        due.sentence("a new reel");
        SpliceRoom room = new SpliceRoom();
        for (int kind = 1; kind < 6; kind++) {
            room.wind(0, kind, 2);
            room.wind(1, kind, 2);
            due.is("two reels of a kind", 1, room.look(0, 2));
            room.hang(1, 0);
            due.is("one reel on two hooks", 2, room.look(0, 2));
            room.wind(0, kind, 2);
            due.is("a new one on one of them", 1, room.look(0, 2));
            due.is("the old one on the other", 1, room.look(1, 2));
        }
        room.wind(0, 1, 2);
        room.mark(0, 1, 5);
        room.hang(1, 0);
        room.wind(0, 1, 2);
        due.frames("the new one", room, 0, 0, 0);
        due.frames("the old one", room, 1, 0, 5);
    }

    private void hangOfNothing() {
        due.sentence("A hook comes to hold the very reel of another one (nothing, too): its kind.");
        SpliceRoom room = Rooms.oneOfEach();
        for (int hook = 1; hook < 6; hook++) {
            due.is("nothing", 0, room.hang(hook, 0));
            due.is("kind behind that", 0, room.look(hook, 0));
            due.is("frames behind that", -1, room.look(hook, 1));
        }
        due.is("nothing over nothing", 0, room.hang(0, 5));
        room.wind(3, 5, 0);
        due.is("a core", 5, room.hang(0, 3));
        due.is("holders of the core", 2, room.look(3, 2));
        room.wind(4, 3, 0);
        due.is("a reel without frames", 3, room.hang(0, 4));
        due.is("holders of it", 2, room.look(4, 2));
        due.is("holders of the core", 1, room.look(3, 2));
    }

    private void hangOnItself() {
        due.sentence("the very reel of another one");
        SpliceRoom room = Rooms.used();
        String before = View.of(room);
        for (int hook = 0; hook < 6; hook++) {
            due.is("hang on itself", room.look(hook, 0), room.hang(hook, hook));
        }
        due.same("the room behind that", before, View.of(room));
    }

    private void twinIsAReelOfItsOwn() {
        due.sentence("A hook comes to hold a reel like that of another one,"
                + " with the same frames (the cards themselves): its kind.");
        SpliceRoom room = Rooms.used();
        for (int kind = 1; kind < 5; kind++) {
            due.is("twin", kind, room.twin(0, kind));
            due.is("its kind", kind, room.look(0, 0));
            due.is("its frames", 4, room.look(0, 1));
            due.is("its sum", room.sum(kind), room.sum(0));
            due.is("its holders", 1, room.look(0, 2));
            due.is("holders of the other", 1, room.look(kind, 2));
            long last = room.frame(kind, 3);
            if (kind < 3) {
                room.mark(0, 3, 77);
            } else {
                room.pull(0, 3);
            }
            due.is("the other stays", last, room.frame(kind, 3));
        }
        room.twin(0, 3);
        room.pull(3, 0);
        due.is("the twin stays", 1030, room.frame(0, 0));
        due.is("its plain cards are plain", -4, room.splice(0, 2, 4, 0, 1));
    }

    private void twinOfItself() {
        due.sentence("a reel like that of another one");
        SpliceRoom room = Rooms.used();
        room.hang(0, 1);
        due.is("twin of itself", 1, room.twin(1, 1));
        due.is("holders of the twin", 1, room.look(1, 2));
        due.is("holders of the old reel", 1, room.look(0, 2));
        due.is("the same frames", room.sum(0), room.sum(1));
        room.mark(1, 0, 500);
        due.is("the old reel stays", 10, room.frame(0, 0));
    }

    private void twinOfNoFrames() {
        due.sentence("with the same frames");
        SpliceRoom room = new SpliceRoom();
        for (int kind = 1; kind < 5; kind++) {
            room.wind(0, kind, 0);
            due.is("twin of no frames", kind, room.twin(1, 0));
            due.is("its frames", 0, room.look(1, 1));
            room.wind(0, kind, 40);
            due.is("twin of 40 frames", kind, room.twin(1, 0));
            due.is("its frames", 40, room.look(1, 1));
            due.is("its sum", room.sum(0), room.sum(1));
        }
    }

    private void markKeeps32Bits() {
        due.sentence("Frame i of marks becomes v's lowest 32 bits");
        SpliceRoom room = new SpliceRoom();
        room.wind(0, 1, 1);
        long[][] pairs = {
            {MAX, MAX}, {MAX + 1L, MIN}, {MIN, MIN}, {MIN - 1L, MAX}, {0xFFFF_FFFFL, -1},
            {0x1_0000_0000L, 0}, {0x1_0000_0001L, 1}, {Long.MAX_VALUE, -1}, {Long.MIN_VALUE, 0},
            {-1, -1}, {0, 0},
        };
        for (long[] pair : pairs) {
            room.mark(0, 0, 3);
            room.mark(0, 0, pair[0]);
            due.is("mark " + pair[0], pair[1], room.frame(0, 0));
        }
    }

    private void markKeepsAllOfHours() {
        due.sentence("of hours v");
        SpliceRoom room = new SpliceRoom();
        room.wind(0, 2, 1);
        room.wind(1, 2, 1);
        long[] all = {Long.MAX_VALUE, Long.MIN_VALUE, 0xFFFF_FFFFL, MAX + 1L, MIN - 1L, -1, 0};
        for (long v : all) {
            room.mark(0, 0, v);
            due.is("mark", v, room.frame(0, 0));
            due.is("a cut of it", 1, room.splice(0, 0, 1, 0, 1));
            due.is("what was laid", v, room.frame(1, 0));
        }
    }

    private void firstAndLastFrame() {
        due.sentence("IndexOutOfBoundsException: no such frame.");
        SpliceRoom room = new SpliceRoom();
        for (int kind = 1; kind < 5; kind++) {
            room.wind(0, kind, 40);
            for (int i : new int[] {0, 39}) {
                if (kind < 3) {
                    room.mark(0, i, 5);
                    due.is("frame", 5, room.frame(0, i));
                } else {
                    due.is("paste", true, room.paste(0, i, 5, true));
                    due.is("frame", 1005, room.frame(0, i));
                    due.is("pull", true, room.pull(0, i));
                }
            }
            due.fails("frame 40", INDEX, () -> room.frame(0, 40));
            due.fails("frame -1", INDEX, () -> room.frame(0, -1));
        }
    }

    private void noFrameAtAll() {
        due.sentence("IndexOutOfBoundsException: no such frame.");
        SpliceRoom room = new SpliceRoom();
        for (int kind = 1; kind < 5; kind++) {
            room.wind(kind, kind, 0);
            int hook = kind;
            due.fails("frame", INDEX, () -> room.frame(hook, 0));
        }
        due.fails("mark of marks", INDEX, () -> marked(room, 1));
        due.fails("mark of hours", INDEX, () -> marked(room, 2));
        due.fails("paste on cards", INDEX, () -> room.paste(3, 0, 1, false));
        due.fails("paste on seals", INDEX, () -> room.paste(4, 0, 1, true));
        due.fails("paste of plain on seals", INDEX, () -> room.paste(4, 0, 1, false));
        due.fails("pull of cards", INDEX, () -> room.pull(3, 0));
        due.fails("pull of seals", INDEX, () -> room.pull(4, 0));
    }

    private static Object marked(SpliceRoom room, int hook) {
        room.mark(hook, 0, 1);
        return "nothing";
    }

    private void pasteOfAPlainOneInSeals() {
        due.sentence("Frame i of cards or seals becomes a new card: true; false,"
                + " and it stays as it is, if that would be a plain one in seals.");
        SpliceRoom room = new SpliceRoom();
        room.wind(0, 4, 2);
        room.paste(0, 0, 6, true);
        due.is("over a sealed one", false, room.paste(0, 0, 0, false));
        due.is("over an empty frame", false, room.paste(0, 1, 999, false));
        due.frames("it stays", room, 0, 1006, -1);
        due.is("a sealed one over a sealed one", true, room.paste(0, 0, 7, true));
        room.wind(1, 3, 2);
        due.is("a plain one in cards", true, room.paste(1, 0, 8, false));
        due.is("a sealed one over it", true, room.paste(1, 0, 8, true));
        due.is("the frame", 1008, room.frame(1, 0));
        due.is("a plain one over that", true, room.paste(1, 0, 8, false));
        due.is("the frame", 8, room.frame(1, 0));
        due.counts("no cut, no jam", room, 0, 0, 0, 0, 0, 0, 0, 0);
    }

    private void pullTellsWhetherItWasNotEmpty() {
        due.sentence("Frame i of cards or seals becomes empty: whether it was not.");
        SpliceRoom room = new SpliceRoom();
        for (int kind = 3; kind < 5; kind++) {
            room.wind(0, kind, 1);
            due.is("at first", false, room.pull(0, 0));
            due.is("still empty", -1, room.frame(0, 0));
            room.paste(0, 0, 0, true);
            due.is("number 0, sealed", true, room.pull(0, 0));
            due.is("empty now", -1, room.frame(0, 0));
            due.is("again", false, room.pull(0, 0));
        }
        room.wind(0, 3, 1);
        room.paste(0, 0, 0, false);
        due.is("number 0, plain", true, room.pull(0, 0));
        due.is("again", false, room.pull(0, 0));
    }

    private void spliceTellsN() {
        due.sentence("A cut of n frames .. : n, or by what it jammed.");
        SpliceRoom room = new SpliceRoom();
        room.wind(0, 2, 40);
        room.wind(5, 2, 40);
        for (int n : new int[] {0, 1, 39, 40}) {
            due.is("from the first hook to the last", n, room.splice(0, 40 - n, 5, 0, n));
            due.is("from the last to the first", n, room.splice(5, 0, 0, 40 - n, n));
        }
        due.is("41", -3, room.splice(0, 0, 5, 0, 41));
    }

    private void stepTakesAnyCut() {
        due.sentence("A cut is written behind those on the sheet: how many there are.");
        SpliceRoom room = Rooms.blunt();
        due.is("beyond the end", 1, room.step(0, MAX, 1, MAX, MAX));
        due.is("below 0", 2, room.step(0, MIN, 1, -1, -1));
        due.is("hooks that hold nothing", 3, room.step(4, 0, 5, 0, 1));
        due.is("no frames", 4, room.step(0, 0, 1, 0, 0));
        due.is("a hook to itself", 5, room.step(0, 0, 0, 0, 1));
        due.counts("no cut was done", room, 0, 0, 3, 3, 5, 0, -1, 0);
        room.grind();
        due.is("beyond the end jams", 0, room.play(false));
        due.is("by -3", -3, room.count(6));
        due.is("backwards till nothing jams", 2, room.play(true));
        due.is("by -1", -1, room.count(6));
    }

    private void playOfACutThatBlunts() {
        due.sentence("(One that makes it blunt has jammed, so it ends there.)");
        SpliceRoom room = Rooms.twoReelsOfMarks();
        room.step(0, 0, 5, 0, 1);
        room.step(0, 0, 1, 0, 1);
        room.step(5, 0, 0, 0, 1);
        due.is("the first jam", 0, room.play(false));
        due.is("the second", 0, room.play(true));
        due.is("the third", 0, room.play(false));
        due.counts("blunt", room, 0, 0, 3, 3, 3, 0, -1, 0);
        due.frames("no step behind it was done", room, 1, 0, 0, 0, 0, 0, 0);
        due.fails("forwards", STATE, () -> room.play(false));
        due.fails("backwards", STATE, () -> room.play(true));
        room.grind();
        room.wind(5, 1, 1);
        due.is("it can be played again", 3, room.play(false));
    }

    private void playFindsTheReelsOfNow() {
        due.sentence("The sheet is played");
        SpliceRoom room = Rooms.twoReelsOfMarks();
        room.step(0, 5, 1, 5, 1);
        room.step(2, 0, 1, 0, 1);
        room.wind(2, 1, 1);
        room.mark(2, 0, 44);
        room.mark(0, 5, 66);
        due.is("reels that came later", 2, room.play(false));
        due.frames("reels that came later", room, 1, 44, 0, 0, 0, 0, 66);
        room.wind(1, 1, 5);
        due.is("a reel that became shorter", 0, room.play(false));
        due.is("by -3", -3, room.count(6));
        room.wind(1, 2, 6);
        due.is("a reel of another kind", 0, room.play(false));
        due.is("by -2", -2, room.count(6));
        room.wind(1, 0, 6);
        due.is("nothing", 0, room.play(true));
        due.is("by -1", -1, room.count(6));
    }

    private void sweepOfNoneAndOfAll() {
        due.sentence("The sheet is empty: how many steps it had.");
        SpliceRoom room = Rooms.twoReelsOfMarks();
        due.is("none", 0, room.sweep());
        for (int k = 0; k < 24; k++) {
            room.step(0, 0, 1, 0, 1);
        }
        due.is("24", 24, room.sweep());
        due.is("none again", 0, room.sweep());
        due.is("steps", 0, room.count(4));
        due.is("played", 0, room.play(false));
        due.is("played backwards", 0, room.play(true));
        due.is("a first step", 1, room.step(0, 2, 1, 3, 1));
        due.is("played", 1, room.play(false));
        due.frames("that step alone", room, 1, 0, 0, 0, 3, 0, 0);
        due.counts("that step alone", room, 1, 1, 0, 0, 1, 1, 1, 0);
    }

    private void grindTellsHowOften() {
        due.sentence("The knife is ground: how often by now.");
        SpliceRoom room = Rooms.twoReelsOfMarks();
        room.splice(0, 0, 1, 0, 4);
        for (int times = 1; times <= 100; times++) {
            room.splice(0, 0, 5, 0, 1);
            room.splice(0, 0, 5, 0, 1);
            room.splice(0, 7, 1, 0, 1);
            due.is("grind", times, room.grind());
        }
        due.counts("a grinding counts for nothing else", room, 1, 4, 300, 0, 0, 0, -3, 100);
    }

    private void frameOfCards() {
        due.sentence("of cards and seals the card's, and 1000 if it is sealed; -1 of an empty one");
        SpliceRoom room = new SpliceRoom();
        for (int kind = 3; kind < 5; kind++) {
            room.wind(0, kind, 1);
            due.is("empty", -1, room.frame(0, 0));
            for (int number : new int[] {0, 1, 998, 999}) {
                room.paste(0, 0, number, true);
                due.is("sealed", 1000 + number, room.frame(0, 0));
                if (kind == 3) {
                    room.paste(0, 0, number, false);
                    due.is("plain", number, room.frame(0, 0));
                }
            }
        }
    }

    private void lookAtFrames() {
        due.sentence("1 how many frames (-1 of nothing, of a core)");
        SpliceRoom room = new SpliceRoom();
        due.is("nothing", -1, room.look(5, 1));
        room.wind(5, 5, 9);
        due.is("a core", -1, room.look(5, 1));
        room.wind(5, 4, 0);
        due.is("none", 0, room.look(5, 1));
        room.wind(5, 4, 40);
        due.is("40", 40, room.look(5, 1));
        room.wind(5, 0, 9);
        due.is("nothing again", -1, room.look(5, 1));
    }

    private void lookAtHolders() {
        due.sentence("2 how many hooks hold this very reel (0 of nothing)");
        SpliceRoom room = new SpliceRoom();
        due.is("nothing", 0, room.look(0, 2));
        for (int kind = 1; kind < 6; kind++) {
            room.wind(0, kind, 0);
            for (int hook = 1; hook < 6; hook++) {
                room.hang(hook, hook - 1);
                due.is("the first", hook + 1, room.look(0, 2));
                due.is("the latest", hook + 1, room.look(hook, 2));
            }
            for (int hook = 0; hook < 5; hook++) {
                room.wind(hook, 0, 0);
                due.is("those left", 5 - hook, room.look(5, 2));
                due.is("nothing", 0, room.look(hook, 2));
            }
        }
    }

    private void sumOfNoFrames() {
        due.sentence("7 at first; 7 of nothing, of a core");
        SpliceRoom room = new SpliceRoom();
        for (int kind = 0; kind < 6; kind++) {
            room.wind(0, kind, 0);
            due.is("kind " + kind, 7, room.sum(0));
        }
        room.wind(0, 3, 1);
        due.is("an empty frame", 7 * 31 - 1, room.sum(0));
        room.wind(0, 1, 1);
        due.is("a frame of 0", 7 * 31, room.sum(0));
    }

    private void sumWrapsAround() {
        due.sentence("31 times the sum so far, and the frame as frame() tells it (64 bits)");
        java.math.BigInteger factor = java.math.BigInteger.valueOf(31);
        for (int kind = 1; kind < 5; kind++) {
            SpliceRoom room = new SpliceRoom();
            room.wind(0, kind, 40);
            java.math.BigInteger want = java.math.BigInteger.valueOf(7);
            for (int i = 0; i < 40; i++) {
                if (kind < 3) {
                    room.mark(0, i, Long.MAX_VALUE / (i + 1) * (i % 2 == 0 ? 1 : -1));
                } else if (i % 3 > 0) {
                    room.paste(0, i, 999 - i, kind == 4 || i % 3 == 1);
                }
                java.math.BigInteger frame = java.math.BigInteger.valueOf(room.frame(0, i));
                want = want.multiply(factor).add(frame);
            }
            due.is("kind " + kind, want.longValue(), room.sum(0));
        }
    }

    private void countsOfAllCuts() {
        due.sentence("0 cuts that went well, 1 frames that were laid by all cuts"
                + " (also jammed ones), 2 jams");
        SpliceRoom room = Rooms.cardsAndSeals();
        room.splice(0, 0, 1, 0, 3);
        due.counts("three", room, 1, 3, 0);
        room.splice(0, 0, 1, 0, 0);
        due.counts("none", room, 2, 3, 0);
        room.splice(0, 0, 1, 0, 5);
        due.counts("three, and a jam", room, 2, 6, 1);
        room.splice(0, 0, 1, 0, 6);
        due.counts("a jam by -3", room, 2, 6, 2);
        room.step(0, 1, 1, 1, 2);
        room.step(0, 2, 1, 2, 2);
        room.play(false);
        due.counts("two, one and a jam", room, 3, 9, 3);
    }

    private void countOfJamsInARow() {
        due.sentence("3 jams in a row (3 while it is blunt)");
        SpliceRoom room = Rooms.blunt();
        due.is("blunt", 3, room.count(3));
        Due.answerOf(() -> room.splice(0, 0, 5, 0, 1));
        Due.answerOf(() -> room.play(false));
        due.is("blunt, and cuts that throw", 3, room.count(3));
        due.is("all jams", 3, room.count(2));
        room.grind();
        due.is("ground", 0, room.count(3));
    }

    private void countOfWhatWasTold() {
        due.sentence("6 what the latest cut told (0 before), 7 grindings");
        SpliceRoom room = Rooms.cardsAndSeals();
        room.step(0, 0, 1, 0, 2);
        due.is("before", 0, room.count(6));
        room.splice(0, 0, 1, 0, 3);
        due.is("three", 3, room.count(6));
        room.splice(0, 0, 1, 0, 0);
        due.is("none", 0, room.count(6));
        room.splice(0, 3, 1, 0, 1);
        due.is("a plain card", -4, room.count(6));
        room.splice(0, 5, 1, 0, 1);
        room.splice(0, 0, 2, 0, 1);
        Due.answerOf(() -> room.splice(0, 0, 1, 0, 3));
        due.is("a cut that throws tells nothing", -1, room.count(6));
        room.grind();
        due.is("a grinding is no cut", -1, room.count(6));
        room.play(false);
        due.is("a step", 2, room.count(6));
        due.is("grindings", 1, room.count(7));
    }

    private void longestRun() {
        due.sentence("An object is used for at most 512 calls after it has been made");
        SpliceRoom room = new SpliceRoom();
        room.wind(0, 1, 40);
        room.mark(0, 39, 1);
        for (int k = 0; k < 24; k++) {
            room.step(0, 0, 0, 0, 40);
        }
        int calls = 26;
        for (int plays = 1; calls < 509; plays++) {
            calls++;
            due.is("play", 24, room.play(plays % 2 == 0));
        }
        due.is("cuts", 24 * (509 - 26), room.count(0));
        due.is("frames laid", 40 * 24 * (509 - 26), room.count(1));
        due.is("frame", 1, room.frame(0, 39));
    }
}
