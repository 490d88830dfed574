/** All that the reading calls tell of a room, as one text. It takes up to 272 calls. */
final class View {
    private View() {}

    static String of(SpliceRoom room) {
        StringBuilder text = new StringBuilder();
        for (int hook = 0; hook < 6; hook++) {
            text.append(" hook ").append(hook).append(':');
            int frames = room.look(hook, 1);
            text.append(' ').append(room.look(hook, 0)).append(' ').append(frames);
            text.append(' ').append(room.look(hook, 2));
            text.append(" sum ").append(room.sum(hook)).append(" [");
            for (int i = 0; i < frames; i++) {
                text.append(' ').append(room.frame(hook, i));
            }
            text.append(" ]");
        }
        text.append(" counts:");
        for (int what = 0; what < 8; what++) {
            text.append(' ').append(room.count(what));
        }
        return text.toString();
    }
}
