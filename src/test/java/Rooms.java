/** Rooms that several tests begin with. */
final class Rooms {
    private Rooms() {}

    /** Hook k holds a reel of kind k with four frames, for all six kinds. */
    static SpliceRoom oneOfEach() {
        SpliceRoom room = new SpliceRoom();
        for (int kind = 0; kind < 6; kind++) {
            room.wind(kind, kind, 4);
        }
        return room;
    }

    /** Hook 0 holds marks 1 .. 6, hook 1 marks of 0. */
    static SpliceRoom twoReelsOfMarks() {
        SpliceRoom room = new SpliceRoom();
        room.wind(0, 1, 6);
        room.wind(1, 1, 6);
        for (int i = 0; i < 6; i++) {
            room.mark(0, i, i + 1);
        }
        return room;
    }

    static SpliceRoom blunt() {
        SpliceRoom room = twoReelsOfMarks();
        for (int i = 0; i < 3; i++) {
            room.splice(0, 0, 5, 0, 1);
        }
        return room;
    }

    /** Hook 0: cards, sealed 1, empty, sealed 0, plain 999, sealed 5; hook 1: seals 70 .. 74. */
    static SpliceRoom cardsAndSeals() {
        SpliceRoom room = new SpliceRoom();
        room.wind(0, 3, 5);
        room.wind(1, 4, 5);
        room.paste(0, 0, 1, true);
        room.paste(0, 2, 0, true);
        room.paste(0, 3, 999, false);
        room.paste(0, 4, 5, true);
        for (int i = 0; i < 5; i++) {
            room.paste(1, i, 70 + i, true);
        }
        return room;
    }

    /** One of each kind; frames and counts are other than at first, and the knife is sharp. */
    static SpliceRoom used() {
        SpliceRoom room = oneOfEach();
        for (int i = 0; i < 4; i++) {
            room.mark(1, i, 10 + i);
            room.mark(2, i, -20 - i);
            room.paste(3, i, 30 + i, i != 2);
            room.paste(4, i, 40 + i, true);
        }
        room.step(1, 0, 1, 2, 2);
        room.step(3, 0, 4, 2, 2);
        room.step(2, 3, 2, 0, 1);
        for (int jam = 0; jam < 3; jam++) {
            room.splice(0, 0, 1, 0, 1);
        }
        room.grind();
        room.splice(2, 0, 2, 3, 1);
        room.splice(1, 0, 5, 0, 1);
        room.splice(3, 1, 4, 0, 3);
        return room;
    }

    static SpliceRoom usedTillBlunt() {
        SpliceRoom room = used();
        room.splice(1, 0, 2, 0, 1);
        return room;
    }

    static SpliceRoom usedWithFullSheet() {
        SpliceRoom room = used();
        for (int k = room.count(4); k < 24; k++) {
            room.step(4, k % 4, 3, 0, 1);
        }
        return room;
    }
}
