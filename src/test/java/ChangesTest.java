/** Promises 1 to 10: a new object, and the changes. */
public final class ChangesTest {
    private static final int NO_SUCH = -1, BAD_VALUE = -2, TOO_MANY = -4, NOT_POSSIBLE = -5;
    private static final Check CHECK = new Check("ChangesTest");

    public static void main(String[] args) {
        promise1NewObject();
        promise2Set();
        promise3Guest();
        promise4Leave();
        promise5Word();
        promise6Bow();
        promise7Offer();
        promise7OfferIsRefused();
        promise8Breathe();
        promise8Sighs();
        promise9Round();
        promise9PassingBy();
        promise9RoundIsRefused();
        promise10SeatAnew();
        promise10Ties();
        CHECK.end();
    }

    private static TeaSeats roomWith(int... patiences) {
        TeaSeats x = new TeaSeats();
        for (int patience : patiences) {
            x.guest(patience);
        }
        return x;
    }

    private static void breatheUpTo(TeaSeats x, int breaths) {
        while (x.count(0) < breaths) {
            x.breathe(Math.min(99, breaths - x.count(0)));
        }
    }

    private static void promise1NewObject() {
        TeaSeats x = new TeaSeats();
        int[] settings = {2, 3, 9, 3};
        for (int what = 0; what <= 18; what++) {
            boolean setting = what >= 13 && what <= 16;
            CHECK.due("new count(" + what + ")", x.count(what), setting ? settings[what - 13] : 0);
        }
        for (int number = 0; number < 9; number++) {
            CHECK.due("new of(" + number + ", 0)", x.of(number, 0), NO_SUCH);
            CHECK.due("new at(" + number + ")", x.at(number), NO_SUCH);
            CHECK.due("new ranked(" + number + ")", x.ranked(number), NO_SUCH);
        }
        CHECK.due("new undo()", x.undo(), NOT_POSSIBLE);
        CHECK.due("new restore(0)", x.restore(0), NOT_POSSIBLE);
        CHECK.due("new restore(1)", x.restore(1), NOT_POSSIBLE);
        String fresh = View.of(new TeaSeats());
        TeaSeats y = new TeaSeats();
        y.guest(4);
        y.set(0, 5);
        y.save(0);
        y.put('r');
        CHECK.same("an object beside another one", View.of(x), fresh);
    }

    private static void promise2Set() {
        int[] first = {2, 3, 9, 3};
        int[] most = {9, 20, 30, 9};
        TeaSeats x = new TeaSeats();
        for (int setting = 0; setting < 4; setting++) {
            int which = setting;
            String call = "set(" + setting + ", ";
            CHECK.change(x, call + "most)", () -> x.set(which, most[which]), first[setting]);
            CHECK.due("count", x.count(13 + setting), most[setting]);
            CHECK.change(x, call + "1)", () -> x.set(which, 1), most[setting]);
            CHECK.change(x, call + "1) again", () -> x.set(which, 1), 1);
            CHECK.refused(x, call + "0)", () -> x.set(which, 0), BAD_VALUE);
            CHECK.refused(x, call + "-1)", () -> x.set(which, -1), BAD_VALUE);
            CHECK.refused(x, call + "most + 1)", () -> x.set(which, most[which] + 1), BAD_VALUE);
            CHECK.refused(x, call + "max)", () -> x.set(which, Integer.MAX_VALUE), BAD_VALUE);
            CHECK.refused(x, call + "min)", () -> x.set(which, Integer.MIN_VALUE), BAD_VALUE);
            CHECK.due("count behind errors", x.count(13 + setting), 1);
        }
        for (int setting : new int[] {-1, 4, 5, Integer.MAX_VALUE, Integer.MIN_VALUE}) {
            CHECK.refused(x, "set(" + setting + ", 1)", () -> x.set(setting, 1), BAD_VALUE);
        }
    }

    private static void promise3Guest() {
        TeaSeats x = new TeaSeats();
        CHECK.refused(x, "guest(0)", () -> x.guest(0), BAD_VALUE);
        CHECK.refused(x, "guest(31)", () -> x.guest(31), BAD_VALUE);
        CHECK.refused(x, "guest(-5)", () -> x.guest(-5), BAD_VALUE);
        CHECK.change(x, "guest(1)", () -> x.guest(1), 0);
        CHECK.change(x, "guest(30)", () -> x.guest(30), 1);
        x.breathe(5);
        for (int guest = 2; guest < 9; guest++) {
            int due = guest;
            CHECK.change(x, "guest(7)", () -> x.guest(7), due);
            CHECK.due("the seat", x.of(guest, 0), guest);
            CHECK.due("the patience", x.of(guest, 1), 7);
            for (int what = 2; what <= 8; what++) {
                CHECK.due("of a new guest " + what, x.of(guest, what), 0);
            }
        }
        CHECK.refused(x, "guest(7) as tenth", () -> x.guest(7), TOO_MANY);
        CHECK.refused(x, "guest(0) as tenth", () -> x.guest(0), BAD_VALUE);
        CHECK.refused(x, "guest(31) as tenth", () -> x.guest(31), BAD_VALUE);
        x.leave(5);
        x.leave(2);
        x.leave(8);
        CHECK.due("the lowest number", x.guest(3), 2);
        CHECK.due("its seat", x.of(2, 0), 6);
        CHECK.due("the next number", x.guest(3), 5);
        CHECK.due("the last number", x.guest(3), 8);
        CHECK.due("its seat", x.of(8, 0), 8);
    }

    private static void promise4Leave() {
        TeaSeats x = roomWith(10, 10, 10, 10);
        x.round();
        x.round();
        // In each round the cup goes 0, 1, 2, 3: 1 owes 0, 2 owes 1 and 3 owes 2 two bows.
        x.bow(1, 0);
        x.word(1);
        CHECK.refused(x, "leave(4)", () -> x.leave(4), NO_SUCH);
        CHECK.refused(x, "leave(-1)", () -> x.leave(-1), NO_SUCH);
        CHECK.refused(x, "leave(9)", () -> x.leave(9), NO_SUCH);
        CHECK.change(x, "leave(1)", () -> x.leave(1), 1);
        CHECK.due("bows that were lost", x.count(6), 3);
        CHECK.due("bows that are owed", x.count(4), 2);
        CHECK.due("bows that were made", x.count(5), 1);
        CHECK.due("2 owes", x.of(2, 6), 0);
        CHECK.due("others owe 0", x.of(0, 7), 0);
        CHECK.due("3 owes 2", x.owes(3, 2), 2);
        CHECK.due("seat 0", x.at(0), 0);
        CHECK.due("seat 1", x.at(1), 2);
        CHECK.due("seat 2", x.at(2), 3);
        CHECK.due("seat 3", x.at(3), NO_SUCH);
        CHECK.due("cups so far", x.count(3), 8);
        CHECK.due("words so far", x.count(9), 1);
        CHECK.refused(x, "leave(1) again", () -> x.leave(1), NO_SUCH);
        CHECK.due("guest(5)", x.guest(5), 1);
        int[] fresh = {3, 5, 0, 0, 0, 0, 0, 0, 0};
        for (int what = 0; what < fresh.length; what++) {
            CHECK.due("of(1, " + what + ")", x.of(1, what), fresh[what]);
        }
        CHECK.due("1 owes 0", x.owes(1, 0), 0);
        CHECK.due("2 owes 1", x.owes(2, 1), 0);
        CHECK.change(x, "leave(0)", () -> x.leave(0), 0);
        CHECK.change(x, "leave(1)", () -> x.leave(1), 2);
        CHECK.change(x, "leave(3)", () -> x.leave(3), 1);
        CHECK.change(x, "leave(2)", () -> x.leave(2), 0);
        CHECK.due("bows that were lost", x.count(6), 5);
        CHECK.due("guests", x.count(1), 0);
        // Of patience 1, so that there are sighs; nothing of all that is left to the next guest.
        TeaSeats y = roomWith(1, 1);
        y.offer(0, 1);
        y.breathe(8);
        y.word(1);
        y.bow(1, 0);
        y.breathe(1);
        CHECK.due("sighs of 1", y.of(1, 4), 4);
        CHECK.due("the silence of 1", y.of(1, 2), 1);
        CHECK.change(y, "leave(0)", () -> y.leave(0), 0);
        CHECK.due("the seat of 1", y.of(1, 0), 0);
        CHECK.change(y, "leave(1)", () -> y.leave(1), 0);
        y.guest(3);
        y.guest(6);
        int[] new1 = {1, 6, 0, 0, 0, 0, 0, 0, 0, 1};
        for (int what = 0; what < new1.length; what++) {
            CHECK.due("of(1, " + what + ") of the next guest", y.of(1, what), new1[what]);
        }
        CHECK.due("sighs so far", y.count(10), 9);
    }

    private static void promise5Word() {
        TeaSeats x = roomWith(4, 9);
        x.breathe(7);
        CHECK.change(x, "word(0)", () -> x.word(0), 7);
        CHECK.due("the silence", x.of(0, 2), 0);
        CHECK.due("the other silence", x.of(1, 2), 7);
        CHECK.due("the seat", x.of(0, 0), 0);
        CHECK.change(x, "word(0)", () -> x.word(0), 0);
        CHECK.due("words of 0", x.of(0, 5), 2);
        CHECK.due("words of 1", x.of(1, 5), 0);
        CHECK.due("words so far", x.count(9), 2);
        CHECK.refused(x, "word(2)", () -> x.word(2), NO_SUCH);
        CHECK.refused(x, "word(-1)", () -> x.word(-1), NO_SUCH);
        CHECK.refused(x, "word(9)", () -> x.word(9), NO_SUCH);
        x.leave(0);
        CHECK.due("words so far", x.count(9), 2);
    }

    private static void promise6Bow() {
        TeaSeats x = roomWith(10, 10, 10);
        x.round();
        x.round();
        CHECK.change(x, "bow(1, 0)", () -> x.bow(1, 0), 1);
        CHECK.due("bows of 1", x.of(1, 8), 1);
        CHECK.change(x, "bow(1, 0)", () -> x.bow(1, 0), 0);
        CHECK.due("bows of 1", x.of(1, 8), 2);
        CHECK.due("bows of 0", x.of(0, 8), 0);
        CHECK.due("bows made", x.count(5), 2);
        CHECK.due("bows owed", x.count(4), 2);
        CHECK.due("bows laid", x.count(8), 4);
        CHECK.refused(x, "bow(1, 0)", () -> x.bow(1, 0), NOT_POSSIBLE);
        CHECK.refused(x, "bow(1, 2)", () -> x.bow(1, 2), NOT_POSSIBLE);
        CHECK.refused(x, "bow(1, 1)", () -> x.bow(1, 1), BAD_VALUE);
        CHECK.refused(x, "bow(1, 3)", () -> x.bow(1, 3), NO_SUCH);
        CHECK.refused(x, "bow(3, 1)", () -> x.bow(3, 1), NO_SUCH);
        CHECK.refused(x, "bow(3, 3)", () -> x.bow(3, 3), NO_SUCH);
        CHECK.refused(x, "bow(-1, -1)", () -> x.bow(-1, -1), NO_SUCH);
        CHECK.refused(x, "bow(9, 0)", () -> x.bow(9, 0), NO_SUCH);
        CHECK.refused(x, "bow(0, 9)", () -> x.bow(0, 9), NO_SUCH);
    }

    private static void promise7Offer() {
        TeaSeats x = roomWith(1, 10, 10);
        CHECK.change(x, "offer(0, 1)", () -> x.offer(0, 1), 2);
        CHECK.due("cups of 1", x.of(1, 3), 1);
        CHECK.due("cups of 0", x.of(0, 3), 0);
        CHECK.due("cups", x.count(3), 1);
        CHECK.due("breaths", x.count(0), 2);
        CHECK.due("silence of 2", x.of(2, 2), 2);
        CHECK.due("silence of 1", x.of(1, 2), 2);
        CHECK.due("rounds", x.count(2), 0);
        CHECK.due("1 owes 0", x.owes(1, 0), 2);
        CHECK.due("0 owes 1", x.owes(0, 1), 0);
        CHECK.due("bows laid", x.count(8), 2);
        CHECK.due("seat 0", x.at(0), 0);
        // 0 owes 1 two bows then, as 1 owes 0: all four are set off.
        CHECK.change(x, "offer(1, 0)", () -> x.offer(1, 0), 0);
        CHECK.due("1 owes 0", x.owes(1, 0), 0);
        CHECK.due("set off", x.count(7), 4);
        CHECK.due("bows laid", x.count(8), 4);
        CHECK.due("bows made", x.count(5), 0);
        CHECK.due("bows owed", x.count(4), 0);
        // A sigh in the sips: 0 is silent for 3 breaths with the sixth one at the latest.
        CHECK.due("sighs of 0", x.of(0, 4), 1);
        CHECK.due("silence of 0", x.of(0, 2), 2);
        x.offer(0, 1);
        x.bow(1, 0);
        CHECK.change(x, "offer(1, 0) for more than is owed", () -> x.offer(1, 0), 1);
        CHECK.due("0 owes 1", x.owes(0, 1), 1);
        CHECK.due("set off", x.count(7), 6);
        x.offer(1, 0);
        CHECK.due("0 owes 1", x.owes(0, 1), 3);
        CHECK.due("0 would be passed by", x.why(0), 2);
        CHECK.change(x, "offer(0, 1) for less than is owed", () -> x.offer(0, 1), 0);
        CHECK.due("0 owes 1", x.owes(0, 1), 1);
        CHECK.due("set off", x.count(7), 10);
        // Whoever is in debt may offer, though not be offered.
        x.set(TeaSeats.DEBT, 1);
        CHECK.due("0 would be passed by", x.why(0), 2);
        CHECK.change(x, "offer(0, 2)", () -> x.offer(0, 2), 2);
        CHECK.refused(x, "offer(2, 0)", () -> x.offer(2, 0), NOT_POSSIBLE);
    }

    private static void promise7OfferIsRefused() {
        TeaSeats x = roomWith(10, 10);
        CHECK.refused(x, "offer(0, 2)", () -> x.offer(0, 2), NO_SUCH);
        CHECK.refused(x, "offer(2, 0)", () -> x.offer(2, 0), NO_SUCH);
        CHECK.refused(x, "offer(2, 2)", () -> x.offer(2, 2), NO_SUCH);
        CHECK.refused(x, "offer(0, -1)", () -> x.offer(0, -1), NO_SUCH);
        CHECK.refused(x, "offer(9, 0)", () -> x.offer(9, 0), NO_SUCH);
        CHECK.refused(x, "offer(1, 1)", () -> x.offer(1, 1), BAD_VALUE);
        x.set(TeaSeats.CUPS, 1);
        x.offer(0, 1);
        x.bow(1, 0);
        x.bow(1, 0);
        CHECK.refused(x, "offer(0, 1) with all cups drunk", () -> x.offer(0, 1), NOT_POSSIBLE);
        CHECK.refused(x, "offer(1, 1) with all cups drunk", () -> x.offer(1, 1), BAD_VALUE);
        x.set(TeaSeats.CUPS, 30);
        breatheUpTo(x, 9998);
        CHECK.refused(x, "offer(0, 1) at 9998 breaths", () -> x.offer(0, 1), NOT_POSSIBLE);
        x.set(TeaSeats.SIP, 1);
        CHECK.change(x, "offer(0, 1) up to 9999 breaths", () -> x.offer(0, 1), 2);
        CHECK.due("breaths", x.count(0), 9999);
        CHECK.refused(x, "offer(1, 0) at 9999 breaths", () -> x.offer(1, 0), NOT_POSSIBLE);
    }

    private static void promise8Breathe() {
        TeaSeats x = new TeaSeats();
        CHECK.change(x, "breathe(1) without guests", () -> x.breathe(1), 0);
        CHECK.due("breaths", x.count(0), 1);
        CHECK.refused(x, "breathe(0)", () -> x.breathe(0), BAD_VALUE);
        CHECK.refused(x, "breathe(-1)", () -> x.breathe(-1), BAD_VALUE);
        CHECK.refused(x, "breathe(100)", () -> x.breathe(100), BAD_VALUE);
        x.guest(30);
        x.guest(30);
        CHECK.change(x, "breathe(89)", () -> x.breathe(89), 0);
        CHECK.due("silence", x.of(0, 2), 89);
        CHECK.due("seat of 1", x.of(1, 0), 1);
        breatheUpTo(x, 9901);
        CHECK.refused(x, "breathe(99) at 9901", () -> x.breathe(99), NOT_POSSIBLE);
        CHECK.refused(x, "breathe(100) at 9901", () -> x.breathe(100), BAD_VALUE);
        CHECK.due("breathe(98) at 9901", x.breathe(98) >= 0 ? 1 : 0, 1);
        CHECK.due("breaths", x.count(0), 9999);
        CHECK.refused(x, "breathe(1) at 9999", () -> x.breathe(1), NOT_POSSIBLE);
        CHECK.refused(x, "breathe(0) at 9999", () -> x.breathe(0), BAD_VALUE);
    }

    private static void promise8Sighs() {
        TeaSeats x = roomWith(4, 2);
        // With LONG 3, patience 4 sighs with silence 12, and patience 2 with 6; both go on from their patience.
        CHECK.change(x, "breathe(5)", () -> x.breathe(5), 0);
        CHECK.change(x, "breathe(1)", () -> x.breathe(1), 1);
        CHECK.due("silence of 1", x.of(1, 2), 2);
        CHECK.due("silence of 0", x.of(0, 2), 6);
        CHECK.change(x, "breathe(6)", () -> x.breathe(6), 2);
        CHECK.due("silence of 0", x.of(0, 2), 4);
        CHECK.due("silence of 1", x.of(1, 2), 4);
        CHECK.due("sighs of 0", x.of(0, 4), 1);
        CHECK.due("sighs of 1", x.of(1, 4), 2);
        CHECK.due("sighs so far", x.count(10), 3);
        // A shorter LONG is passed with the next breath: at, or above, the bound.
        x.breathe(6);
        CHECK.due("silence of 0", x.of(0, 2), 10);
        x.set(TeaSeats.LONG, 1);
        CHECK.change(x, "breathe(1)", () -> x.breathe(1), 2);
        CHECK.due("silence of 0", x.of(0, 2), 4);
        CHECK.change(x, "breathe(3)", () -> x.breathe(3), 6);
        CHECK.due("silence of 0", x.of(0, 2), 4);
        CHECK.due("silence of 1", x.of(1, 2), 2);
        x.word(0);
        CHECK.change(x, "breathe(3) behind a word", () -> x.breathe(3), 3);
        CHECK.change(x, "breathe(1)", () -> x.breathe(1), 2);
        x.leave(0);
        CHECK.due("sighs so far", x.count(10), x.of(1, 4) + 6);
    }

    private static void promise9Round() {
        TeaSeats x = roomWith(30, 30, 30);
        x.word(1);
        CHECK.change(x, "round()", () -> x.round(), 3);
        CHECK.due("rounds", x.count(2), 1);
        CHECK.due("breaths", x.count(0), 6);
        CHECK.due("silence", x.of(2, 2), 6);
        CHECK.due("cups", x.count(3), 3);
        CHECK.due("cups of 2", x.of(2, 3), 1);
        CHECK.due("0 owes", x.of(0, 6), 0);
        CHECK.due("1 owes 0", x.owes(1, 0), 1);
        CHECK.due("2 owes 1", x.owes(2, 1), 1);
        CHECK.due("2 owes 0", x.owes(2, 0), 0);
        CHECK.due("bows laid", x.count(8), 2);
        x.word(0);
        x.set(TeaSeats.SIP, 5);
        CHECK.change(x, "round()", () -> x.round(), 3);
        CHECK.due("breaths", x.count(0), 21);
        // 0 broke the silence, and is seated at the end of the round only: 1 owes 0 one bow more.
        CHECK.due("1 owes 0", x.owes(1, 0), 2);
        CHECK.due("0 owes", x.of(0, 6), 0);
        CHECK.due("seat 0", x.at(0), 1);
        CHECK.due("seat 1", x.at(1), 2);
        CHECK.due("seat 2", x.at(2), 0);
        CHECK.change(x, "round()", () -> x.round(), 3);
        CHECK.due("2 owes 1", x.owes(2, 1), 3);
        CHECK.due("0 owes 2", x.owes(0, 2), 1);
        CHECK.due("rounds", x.count(2), 3);
    }

    private static void promise9PassingBy() {
        TeaSeats x = roomWith(30, 30, 30, 30);
        x.set(TeaSeats.CUPS, 2);
        x.offer(2, 1);
        x.offer(3, 1);
        CHECK.due("1 would be passed by for cups", x.why(1), 1);
        CHECK.change(x, "round()", () -> x.round(), 3);
        CHECK.due("2 owes 0, who drank last", x.owes(2, 0), 1);
        CHECK.due("2 owes 1 no more", x.owes(2, 1), 0);
        CHECK.due("3 owes 2", x.owes(3, 2), 1);
        CHECK.due("cups of 1", x.of(1, 3), 2);
        TeaSeats y = roomWith(30, 30, 30);
        y.set(TeaSeats.DEBT, 2);
        y.offer(1, 0);
        CHECK.due("0 would be passed by for debts", y.why(0), 2);
        CHECK.change(y, "round()", () -> y.round(), 2);
        CHECK.due("1, the first to drink, owes", y.of(1, 6), 0);
        CHECK.due("2 owes 1", y.owes(2, 1), 1);
        CHECK.due("breaths", y.count(0), 6);
        y.set(TeaSeats.CUPS, 1);
        CHECK.change(y, "round() with nobody drinking", () -> y.round(), 0);
        CHECK.due("breaths", y.count(0), 6);
        CHECK.due("rounds", y.count(2), 2);
        // The seats are given anew also if nobody drinks.
        y.word(y.at(0));
        int moved = y.at(0);
        y.round();
        CHECK.due("the seat of the one who spoke", y.of(moved, 0), 2);
    }

    private static void promise9RoundIsRefused() {
        TeaSeats x = new TeaSeats();
        CHECK.refused(x, "round() without guests", () -> x.round(), NOT_POSSIBLE);
        x.guest(5);
        breatheUpTo(x, 9900);
        CHECK.change(x, "round() at 9900", () -> x.round(), 1);
        CHECK.due("breaths", x.count(0), 9902);
        CHECK.refused(x, "round() at 9902", () -> x.round(), NOT_POSSIBLE);
        TeaSeats y = roomWith(5);
        breatheUpTo(y, 9901);
        CHECK.refused(y, "round() at 9901", () -> y.round(), NOT_POSSIBLE);
        TeaSeats full = roomWith(5, 5, 5, 5, 5, 5, 5, 5, 5);
        full.set(TeaSeats.SIP, 9);
        breatheUpTo(full, 9900);
        CHECK.due("round() at 9900 with nine guests", full.round(), 9);
        CHECK.due("breaths", full.count(0), 9981);
    }

    private static void promise10SeatAnew() {
        TeaSeats x = new TeaSeats();
        CHECK.change(x, "seatAnew() without guests", () -> x.seatAnew(), 0);
        x.guest(9);
        x.guest(9);
        x.guest(9);
        CHECK.change(x, "seatAnew() of as long silences", () -> x.seatAnew(), 0);
        x.breathe(3);
        x.word(0);
        CHECK.change(x, "seatAnew() with 0 going behind", () -> x.seatAnew(), 3);
        CHECK.due("seat 0", x.at(0), 1);
        CHECK.due("seat 1", x.at(1), 2);
        CHECK.due("seat 2", x.at(2), 0);
        x.breathe(1);
        x.word(1);
        CHECK.change(x, "seatAnew()", () -> x.seatAnew(), 3);
        CHECK.due("seat 0", x.at(0), 2);
        CHECK.due("seat 1", x.at(1), 0);
        CHECK.due("seat 2", x.at(2), 1);
        x.breathe(1);
        x.word(0);
        CHECK.change(x, "seatAnew() of two", () -> x.seatAnew(), 2);
        CHECK.due("rounds", x.count(2), 0);
    }

    private static void promise10Ties() {
        TeaSeats x = roomWith(30, 30, 30, 30);
        x.offer(1, 0);
        x.offer(3, 2);
        x.offer(2, 1);
        // Cups: 0, 1 and 2 one, 3 none. Owed: 0 two, 1 two, 2 two, 3 none.
        x.bow(1, 2);
        CHECK.change(x, "seatAnew()", () -> x.seatAnew(), 3);
        CHECK.due("the one with fewer cups", x.at(0), 3);
        CHECK.due("the one who owes fewer bows", x.at(1), 1);
        CHECK.due("the one who sat nearer", x.at(2), 0);
        CHECK.due("the one who sat farther", x.at(3), 2);
        x.word(3);
        CHECK.change(x, "seatAnew() by silence first", () -> x.seatAnew(), 4);
        CHECK.due("the one with the shortest silence", x.at(3), 3);
        // All debts together count, not those to one guest.
        TeaSeats y = roomWith(30, 30, 30, 30);
        y.set(TeaSeats.DEBT, 20);
        y.offer(2, 0);
        y.offer(3, 0);
        y.offer(2, 1);
        y.offer(2, 1);
        y.bow(1, 2);
        CHECK.change(y, "seatAnew() by all debts", () -> y.seatAnew(), 4);
        CHECK.due("the one who owes three", y.at(2), 1);
        CHECK.due("the one who owes two and two", y.at(3), 0);
    }
}
