/**
 * A second room for comparison, built another way: its reels are Java's own arrays, and a cut is
 * what System.arraycopy makes of them, with the machine's exceptions told as jams.
 */
final class ModelRoom {
    private static class Card {
        final int number;

        Card(int number) {
            this.number = number;
        }
    }

    private static final class SealedCard extends Card {
        SealedCard(int number) {
            super(number);
        }
    }

    private static final class Core {}

    private final Object[] hooks = new Object[6];
    private final java.util.ArrayList<int[]> sheet = new java.util.ArrayList<>();
    private final int[] counts = new int[8];

    int wind(int hook, int kind, int frames) {
        hookIs(hook);
        argument(kind >= 0 && kind <= 5);
        argument(kind == 0 || kind == 5 || frames >= 0 && frames <= 40);
        hooks[hook] = switch (kind) {
            case 1 -> new int[frames];
            case 2 -> new long[frames];
            case 3 -> new Card[frames];
            case 4 -> new SealedCard[frames];
            case 5 -> new Core();
            default -> null;
        };
        return kind;
    }

    int hang(int hook, int other) {
        hookIs(hook);
        hookIs(other);
        hooks[hook] = hooks[other];
        return look(hook, 0);
    }

    int twin(int hook, int other) {
        hookIs(hook);
        hookIs(other);
        int kind = look(other, 0);
        state(kind != 0 && kind != 5);
        Object reel = hooks[other];
        hooks[hook] = reel instanceof int[] marks ? marks.clone()
                : reel instanceof long[] hours ? hours.clone()
                : ((Card[]) reel).clone();
        return kind;
    }

    void mark(int hook, int i, long v) {
        hookIs(hook);
        Object reel = hooks[hook];
        state(reel instanceof int[] || reel instanceof long[]);
        frameIs(hook, i);
        if (reel instanceof int[] marks) {
            marks[i] = (int) v;
        } else {
            ((long[]) reel)[i] = v;
        }
    }

    boolean paste(int hook, int i, int number, boolean sealed) {
        hookIs(hook);
        argument(number >= 0 && number <= 999);
        state(hooks[hook] instanceof Card[]);
        frameIs(hook, i);
        try {
            ((Card[]) hooks[hook])[i] = sealed ? new SealedCard(number) : new Card(number);
            return true;
        } catch (ArrayStoreException e) {
            return false;
        }
    }

    boolean pull(int hook, int i) {
        hookIs(hook);
        state(hooks[hook] instanceof Card[]);
        frameIs(hook, i);
        Card[] row = (Card[]) hooks[hook];
        boolean was = row[i] != null;
        row[i] = null;
        return was;
    }

    int splice(int from, int p, int to, int q, int n) {
        hookIs(from);
        hookIs(to);
        state(counts[3] < 3);
        return cut(from, p, to, q, n);
    }

    int step(int from, int p, int to, int q, int n) {
        hookIs(from);
        hookIs(to);
        state(sheet.size() < 24);
        sheet.add(new int[] {from, p, to, q, n});
        return sheet.size();
    }

    int play(boolean backwards) {
        state(counts[3] < 3);
        java.util.ArrayList<int[]> order = new java.util.ArrayList<>(sheet);
        if (backwards) {
            order.replaceAll(s -> new int[] {s[2], s[3], s[0], s[1], s[4]});
            java.util.Collections.reverse(order);
        }
        int well = 0;
        for (int[] s : order) {
            if (cut(s[0], s[1], s[2], s[3], s[4]) < 0) {
                break;
            }
            well++;
        }
        return well;
    }

    int sweep() {
        int had = sheet.size();
        sheet.clear();
        return had;
    }

    int grind() {
        state(counts[3] == 3);
        counts[3] = 0;
        return ++counts[7];
    }

    long frame(int hook, int i) {
        hookIs(hook);
        Object reel = hooks[hook];
        state(reel != null && !(reel instanceof Core));
        frameIs(hook, i);
        if (reel instanceof int[] marks) {
            return marks[i];
        }
        if (reel instanceof long[] hours) {
            return hours[i];
        }
        Card card = ((Card[]) reel)[i];
        return card == null ? -1 : card instanceof SealedCard ? card.number + 1000 : card.number;
    }

    int look(int hook, int what) {
        hookIs(hook);
        argument(what >= 0 && what <= 2);
        Object reel = hooks[hook];
        if (what == 0) {
            return reel == null ? 0 : reel instanceof int[] ? 1 : reel instanceof long[] ? 2
                    : reel instanceof SealedCard[] ? 4 : reel instanceof Card[] ? 3 : 5;
        }
        if (what == 1) {
            boolean row = reel != null && reel.getClass().isArray();
            return row ? java.lang.reflect.Array.getLength(reel) : -1;
        }
        int holders = 0;
        for (Object other : hooks) {
            holders += reel != null && other == reel ? 1 : 0;
        }
        return holders;
    }

    long sum(int hook) {
        long sum = 7;
        for (int i = 0; i < look(hook, 1); i++) {
            sum = 31 * sum + frame(hook, i);
        }
        return sum;
    }

    int count(int what) {
        argument(what >= 0 && what <= 7);
        return what == 4 ? sheet.size() : counts[what];
    }

    private int cut(int from, int p, int to, int q, int n) {
        int told = copied(hooks[from], p, hooks[to], q, n);
        int far = told >= 0 ? n : 0;
        if (told == -4) {
            Card[] row = (Card[]) hooks[from];
            while (row[p + far] == null || row[p + far] instanceof SealedCard) {
                far++;
            }
        }
        counts[1] += far;
        counts[5] = far;
        counts[6] = told;
        counts[told < 0 ? 2 : 0]++;
        counts[3] = told < 0 ? counts[3] + 1 : 0;
        return told;
    }

    private static int copied(Object from, int p, Object to, int q, int n) {
        try {
            System.arraycopy(from, p, to, q, n);
            return n;
        } catch (NullPointerException e) {
            return -1;
        } catch (IndexOutOfBoundsException e) {
            return -3;
        } catch (ArrayStoreException e) {
            return from instanceof Card[] && to instanceof Card[] ? -4 : -2;
        }
    }

    private static void hookIs(int hook) {
        argument(hook >= 0 && hook <= 5);
    }

    private void frameIs(int hook, int i) {
        if (i < 0 || i >= look(hook, 1)) {
            throw new IndexOutOfBoundsException();
        }
    }

    private static void argument(boolean good) {
        if (!good) {
            throw new IllegalArgumentException();
        }
    }

    private static void state(boolean good) {
        if (!good) {
            throw new IllegalStateException();
        }
    }
}
