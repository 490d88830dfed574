/** Long mixed runs of calls, the same in every run of the test, compared with ModelRoom. */
public final class ModelTest {
    private static final int RUNS = 4000;
    // With the view at the end a run stays within the 512 calls that the document promises.
    private static final int CALLS = 220;
    // Cards and seals lead: a jam by a plain card needs the most to come together.
    private static final int[] KINDS = {0, 1, 1, 2, 2, 3, 3, 3, 3, 3, 4, 4, 4, 4, 4, 5};

    private final Due due = new Due();
    private final int[] answered = new int[15];
    private final int[] threw = new int[15];
    private final int[] told = new int[5];
    private long seed;

    public static void main(String[] args) {
        ModelTest t = new ModelTest();
        // One wrong run tells enough: behind its first wrong answer the two rooms drift apart.
        for (int run = 0; run < RUNS && t.due.allRight(); run++) {
            t.seed = run;
            t.compareRun(run);
        }
        if (t.due.allRight()) {
            t.checkReach();
        }
        t.due.end("ModelTest");
    }

    private void compareRun(int run) {
        SpliceRoom room = new SpliceRoom();
        ModelRoom model = new ModelRoom();
        int limit = run % 3 == 0 ? 40 : 6;
        for (int hook = 0; hook < 6; hook++) {
            // Empty hooks would let most cuts jam by nothing alone.
            int kind = KINDS[pick(KINDS.length)];
            due.is("run " + run + ": wind",
                    model.wind(hook, kind, limit), room.wind(hook, kind, limit));
        }
        for (int k = 0; k < CALLS; k++) {
            compareCall("run " + run + ", call " + k, room, model, pick(40), limit);
        }
        for (int hook = 0; hook < 6; hook++) {
            due.is("run " + run + ": sum(" + hook + ") at the end",
                    model.sum(hook), room.sum(hook));
            int frames = model.look(hook, 1);
            for (int i = 0; i < frames; i++) {
                due.is("run " + run + ": frame(" + hook + ", " + i + ") at the end",
                        model.frame(hook, i), room.frame(hook, i));
            }
        }
        for (int what = 0; what < 8; what++) {
            due.is("run " + run + ": count(" + what + ") at the end",
                    model.count(what), room.count(what));
        }
    }

    private void compareCall(String where, SpliceRoom room, ModelRoom model, int which, int limit) {
        int a = hook();
        int b = hook();
        int i = index(limit);
        int j = index(limit);
        int n = pick(30) == 0 ? wild() : pick(limit / 2);
        int kind = pick(40) == 0 ? wild() : KINDS[pick(KINDS.length)];
        int number = pick(15) == 0 ? wild() : pick(1000);
        long v = pick(4) == 0 ? next() : pick(100);
        boolean yes = pick(3) != 0;
        int what = pick(20) == 0 ? wild() : pick(9);
        int frames = limit - n % 3;
        switch (which) {
            case 0, 1 -> compare(0, where, "wind " + a + " " + kind + " " + frames,
                    () -> room.wind(a, kind, frames), () -> model.wind(a, kind, frames));
            case 2 -> compare(1, where, "hang " + a + " " + b,
                    () -> room.hang(a, b), () -> model.hang(a, b));
            case 3 -> compare(2, where, "twin " + a + " " + b,
                    () -> room.twin(a, b), () -> model.twin(a, b));
            case 4, 5, 6, 7 -> compare(3, where, "mark " + a + " " + i + " " + v,
                    () -> { room.mark(a, i, v); return ""; },
                    () -> { model.mark(a, i, v); return ""; });
            case 8, 9, 10, 11, 12 -> compare(4, where, "paste " + a + " " + i + " " + number,
                    () -> room.paste(a, i, number, yes), () -> model.paste(a, i, number, yes));
            case 13 -> compare(5, where, "pull " + a + " " + i,
                    () -> room.pull(a, i), () -> model.pull(a, i));
            case 14, 15, 16, 17, 18, 19 -> {
                compare(6, where, "splice " + a + " " + i + " " + b + " " + j + " " + n,
                        () -> room.splice(a, i, b, j, n), () -> model.splice(a, i, b, j, n));
                told[Math.max(0, -model.count(6))]++;
            }
            case 20, 21, 22 -> compare(7, where,
                    "step " + a + " " + i + " " + b + " " + j + " " + n,
                    () -> room.step(a, i, b, j, n), () -> model.step(a, i, b, j, n));
            case 23, 24 -> compare(8, where, "play " + yes,
                    () -> room.play(yes), () -> model.play(yes));
            case 25 -> {
                if (pick(4) == 0) {
                    compare(9, where, "sweep", room::sweep, model::sweep);
                }
            }
            case 26, 27, 28, 29, 30 -> compare(10, where, "grind", room::grind, model::grind);
            case 31, 32 -> compare(11, where, "frame " + a + " " + i,
                    () -> room.frame(a, i), () -> model.frame(a, i));
            case 33, 34 -> compare(12, where, "look " + a + " " + what % 4,
                    () -> room.look(a, what % 4), () -> model.look(a, what % 4));
            case 35, 36 -> compare(13, where, "sum " + a, () -> room.sum(a), () -> model.sum(a));
            default -> compare(14, where, "count " + what,
                    () -> room.count(what), () -> model.count(what));
        }
    }

    private void compare(int method, String where, String call, Due.Call got, Due.Call want) {
        Object wanted = Due.answerOf(want);
        due.same(where + ": " + call, wanted, Due.answerOf(got));
        if (wanted.toString().startsWith("throws ")) {
            threw[method]++;
        } else {
            answered[method]++;
        }
    }

    /** A comparison that never came to some kind of answer would prove nothing of it. */
    private void checkReach() {
        for (int method = 0; method < 15; method++) {
            due.is("method " + method + " answered", true, answered[method] > 100);
            due.is("method " + method + " threw", method != 9, threw[method] > 100);
        }
        for (int jam = 0; jam < 5; jam++) {
            due.is("splice told -" + jam, true, told[jam] > 100);
        }
    }

    private int hook() {
        return pick(60) == 0 ? wild() : pick(6);
    }

    private int index(int limit) {
        return pick(30) == 0 ? wild() : pick(limit / 2 + pick(limit / 2 + 2));
    }

    private int wild() {
        int[] some = {-1, 6, 40, 41, 999, 1000, Integer.MIN_VALUE, Integer.MAX_VALUE, -7};
        return some[pick(some.length)];
    }

    private int pick(int below) {
        return (int) Math.floorMod(next() >>> 17, (long) Math.max(1, below));
    }

    private long next() {
        seed = seed * 6364136223846793005L + 1442695040888963407L;
        return seed ^ seed >>> 29;
    }
}
