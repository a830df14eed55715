/** Rooms that tests begin with; what is made twice is made alike. */
final class Rooms {
    /** The text on the pad of all rooms but new objects. */
    static final String TEXT = "g7;r;w0;b01";

    private Rooms() {
    }

    /** No guest and no count, but four changes to undo, two slots that differ, and a text on the pad. */
    static TeaSeats empty() {
        TeaSeats x = new TeaSeats();
        x.guest(3);
        x.save(1);
        x.guest(4);
        x.save(0);
        x.leave(0);
        x.leave(1);
        View.put(x, TEXT);
        return x;
    }

    static TeaSeats of(int... patiences) {
        return with(empty(), patiences);
    }

    static TeaSeats ofNine() {
        return of(30, 30, 30, 30, 30, 30, 30, 30, 30);
    }

    static TeaSeats with(TeaSeats x, int... patiences) {
        for (int patience : patiences) {
            x.guest(patience);
        }
        return x;
    }

    /** Guests who come behind so many breaths, without a silence yet. */
    static TeaSeats late(int breaths, int... patiences) {
        return with(breathed(empty(), breaths), patiences);
    }

    static TeaSeats breathed(TeaSeats x, int breaths) {
        for (int left = breaths; left > 0; left -= 99) {
            x.breathe(Math.min(left, 99));
        }
        return x;
    }

    static TeaSeats offered(TeaSeats x, int guest, int other, int times) {
        for (int time = 0; time < times; time++) {
            x.offer(guest, other);
        }
        return x;
    }

    static TeaSeats bowed(TeaSeats x, int guest, int other, int times) {
        for (int time = 0; time < times; time++) {
            x.bow(guest, other);
        }
        return x;
    }

    /** Four guests with silences, cups, sighs, words and bows, two of whom would be passed by. */
    static TeaSeats lived() {
        TeaSeats x = of(4, 10, 2, 30);
        x.round();
        x.breathe(7);
        x.word(3);
        x.offer(3, 0);
        x.offer(1, 2);
        x.bow(1, 0);
        x.set(TeaSeats.DEBT, 2);
        x.set(TeaSeats.LONG, 4);
        return x;
    }

    /** An empty pad, with nothing else changed. */
    static TeaSeats wiped(TeaSeats x) {
        x.wipe();
        return x;
    }

    static TeaSeats withText(TeaSeats x, String text) {
        x.wipe();
        View.put(x, text);
        return x;
    }
}
