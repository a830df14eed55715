import java.util.function.Supplier;

/** The edges that promises 1 to 10 name. */
final class EdgesOfChanges {
    private static final int NO_SUCH = -1, BAD_VALUE = -2, TOO_MANY = -4, NOT_POSSIBLE = -5;
    private static final int MIN = Integer.MIN_VALUE, MAX = Integer.MAX_VALUE;
    // Numbers beside those of guests who may be there.
    private static final int[] NO_GUESTS = {-1, -2, 9, 10, 80, 81, MIN, MAX};

    private final Edges edges;

    EdgesOfChanges(Edges edges) {
        this.edges = edges;
    }

    void look() {
        newObject();
        setAnswersThePrevious();
        setOfNoSetting();
        setOutOfRange();
        guestOfEachPatience();
        guestOutOfRange();
        guestWithNine();
        leaveFreesASeat();
        leaveOfNone();
        wordBreaksSilence();
        wordOfNone();
        bowIsOneLess();
        bowOfNone();
        bowToOneself();
        bowThatIsNotOwed();
        offerOfACup();
        offerLaysTwo();
        offerSetsOff();
        offerAnswersWhatIsOwed();
        offerOfNone();
        offerToOneself();
        offerToOnePassedBy();
        offerBeyondTheBreaths();
        breatheRange();
        breatheOutOfRange();
        breatheCountsSighs();
        breatheBeyondTheBreaths();
        roundCountsThoseWhoDrink();
        roundWithoutGuests();
        roundBehindTheBreaths();
        seatAnewCountsThoseWhoMove();
    }

    private void newObject() {
        edges.sentence("Promise 1", "`TeaSeats()`: Creates a room without guests.");
        int[] due = {0, 0, 0, 0, 0, 0, 0, 0, 0, 0, 0, 0, 0, 2, 3, 9, 3, 0, 0};
        for (int what = 0; what < due.length; what++) {
            edges.due("count(" + what + ")", new TeaSeats().count(what), due[what]);
        }
        for (int number = 0; number < 9; number++) {
            int none = number;
            edges.refused("of(" + number + ", 0)", TeaSeats::new, x -> x.of(none, 0), NO_SUCH);
            edges.refused("at(" + number + ")", TeaSeats::new, x -> x.at(none), NO_SUCH);
            edges.refused("ranked(" + number + ")", TeaSeats::new, x -> x.ranked(none), NO_SUCH);
        }
        edges.unchanged("silent(0)", TeaSeats::new, x -> x.silent(0), 0);
        edges.unchanged("canLead()", TeaSeats::new, x -> x.canLead(), 0);
        edges.unchanged("wipe()", TeaSeats::new, x -> x.wipe(), 0);
        edges.refused("undo()", TeaSeats::new, x -> x.undo(), NOT_POSSIBLE);
        edges.refused("restore(0)", TeaSeats::new, x -> x.restore(0), NOT_POSSIBLE);
        edges.refused("restore(1)", TeaSeats::new, x -> x.restore(1), NOT_POSSIBLE);
        // One object knows nothing of another one.
        TeaSeats other = new TeaSeats();
        Rooms.withText(Rooms.lived(), "r");
        edges.due("guests of an object beside", other.count(1), 0);
        edges.due("the pad of an object beside", other.count(17), 0);
        edges.due("the changes of an object beside", other.count(18), 0);
    }

    private void setAnswersThePrevious() {
        edges.sentence("Promise 2",
            "`int set(int setting, int value)`: Changes a setting. This is a change. Returns the previous value;");
        int[] first = {2, 3, 9, 3};
        for (int setting = 0; setting < 4; setting++) {
            int which = setting;
            String call = "set(" + setting + ", ";
            edges.changed(call + "1)", Rooms::empty, x -> x.set(which, 1), first[setting]);
            edges.changed(call + "the same)", Rooms::empty, x -> x.set(which, first[which]), first[setting]);
            TeaSeats x = Rooms.empty();
            x.set(setting, 5);
            edges.due(call + "6) behind 5", x.set(setting, 6), 5);
            for (int other = 0; other < 4; other++) {
                edges.due("count of setting " + other, x.count(13 + other), other == setting ? 6 : first[other]);
            }
        }
    }

    private void setOfNoSetting() {
        edges.sentence("Promise 2", "BAD_VALUE if there is no such setting,");
        for (int setting : new int[] {-1, 4, -2, 5, 13, 16, MIN, MAX}) {
            edges.refused("set(" + setting + ", 1)", Rooms::lived, x -> x.set(setting, 1), BAD_VALUE);
        }
        edges.changed("set(0, 1)", Rooms::lived, x -> x.set(0, 1), 2);
        edges.changed("set(3, 1)", Rooms::lived, x -> x.set(3, 1), 4);
    }

    private void setOutOfRange() {
        edges.sentence("Promise 2", "or the value is out of its range.");
        int[] most = {9, 20, 30, 9};
        for (int setting = 0; setting < 4; setting++) {
            int which = setting;
            for (int value : new int[] {0, -1, most[setting] + 1, most[setting] + 2, MIN, MAX}) {
                edges.refused("set(" + setting + ", " + value + ")", Rooms::lived, x -> x.set(which, value), BAD_VALUE);
            }
            int before = Rooms.lived().count(13 + setting);
            edges.changed("set(" + setting + ", 1)", Rooms::lived, x -> x.set(which, 1), before);
            edges.changed("set(" + setting + ", most)", Rooms::lived, x -> x.set(which, most[which]), before);
        }
    }

    private void guestOfEachPatience() {
        edges.sentence("Promise 3",
            "`int guest(int patience)`: A guest comes. This is a change. - `patience`: 1 to 30 Returns the "
            + "number;");
        edges.changed("guest(1)", Rooms::lived, x -> x.guest(1), 4);
        edges.changed("guest(30)", Rooms::lived, x -> x.guest(30), 4);
        edges.changed("guest(1) as first", TeaSeats::new, x -> x.guest(1), 0);
        for (int patience = 1; patience <= 30; patience++) {
            TeaSeats x = new TeaSeats();
            edges.due("guest(" + patience + ")", x.guest(patience), 0);
            edges.due("the patience", x.of(0, 1), patience);
        }
    }

    private void guestOutOfRange() {
        edges.sentence("Promise 3", "BAD_VALUE if patience is out of range;");
        for (int patience : new int[] {0, 31, -1, 32, MIN, MAX}) {
            edges.refused("guest(" + patience + ")", Rooms::lived, x -> x.guest(patience), BAD_VALUE);
            edges.refused("guest(" + patience + ") as tenth", Rooms::ofNine, x -> x.guest(patience), BAD_VALUE);
            edges.refused("guest(" + patience + ") as first", TeaSeats::new, x -> x.guest(patience), BAD_VALUE);
        }
    }

    private void guestWithNine() {
        edges.sentence("Promise 3", "TOO_MANY if there are 9 guests.");
        edges.changed("guest(1) as ninth", () -> Rooms.of(5, 5, 5, 5, 5, 5, 5, 5), x -> x.guest(1), 8);
        edges.refused("guest(1) as tenth", Rooms::ofNine, x -> x.guest(1), TOO_MANY);
        edges.refused("guest(30) as tenth", Rooms::ofNine, x -> x.guest(30), TOO_MANY);
    }

    private void leaveFreesASeat() {
        edges.sentence("Promise 4",
            "`int leave(int guest)`: A guest leaves. This is a change. Returns the seat that is free by that;");
        // The seats 0 to 3 are those of 0, 1, 3 and 2.
        int[] seats = {0, 1, 3, 2};
        for (int gone = 0; gone < 4; gone++) {
            int leaving = gone;
            edges.changed("leave(" + gone + ")", Rooms::lived, x -> x.leave(leaving), seats[gone]);
            TeaSeats x = Rooms.lived();
            x.leave(gone);
            edges.due("guests", x.count(11), 15 - (1 << gone));
            edges.due("of(" + gone + ", 0)", x.of(gone, 0), NO_SUCH);
        }
        edges.changed("leave(8) of nine", Rooms::ofNine, x -> x.leave(8), 8);
        edges.changed("leave(0) of nine", Rooms::ofNine, x -> x.leave(0), 0);
        edges.changed("leave(0) of one", () -> Rooms.of(5), x -> x.leave(0), 0);
    }

    private void leaveOfNone() {
        edges.sentence("Promise 4", "NO_SUCH if there is no such guest.");
        edges.refused("leave(4) of four", Rooms::lived, x -> x.leave(4), NO_SUCH);
        edges.refused("leave(0) of none", Rooms::empty, x -> x.leave(0), NO_SUCH);
        for (int guest : NO_GUESTS) {
            edges.refused("leave(" + guest + ")", Rooms::ofNine, x -> x.leave(guest), NO_SUCH);
        }
        Supplier<TeaSeats> gone = () -> {
            TeaSeats x = Rooms.lived();
            x.leave(1);
            return x;
        };
        edges.refused("leave(1) again", gone, x -> x.leave(1), NO_SUCH);
    }

    private void wordBreaksSilence() {
        edges.sentence("Promise 5",
            "`int word(int guest)`: A guest says a word: the silence is 0. This is a change. Returns the silence "
            + "that was broken;");
        int[] silences = {11, 19, 3, 4};
        for (int guest = 0; guest < 4; guest++) {
            int speaking = guest;
            edges.changed("word(" + guest + ")", Rooms::lived, x -> x.word(speaking), silences[guest]);
            TeaSeats x = Rooms.lived();
            x.word(guest);
            for (int other = 0; other < 4; other++) {
                edges.due("the silence of " + other, x.of(other, 2), other == guest ? 0 : silences[other]);
            }
            edges.due("words so far", x.count(9), 2);
            edges.due("words of " + guest, x.of(guest, 5), guest == 3 ? 2 : 1);
            edges.due("the seat", x.of(guest, 0), Rooms.lived().of(guest, 0));
        }
        // A silence of no breath is broken, too.
        Supplier<TeaSeats> silent = () -> Rooms.of(5);
        edges.changed("word(0) of no silence", silent, x -> x.word(0), 0);
        TeaSeats y = silent.get();
        y.word(0);
        edges.due("words", y.of(0, 5), 1);
        edges.changed("word(0) of the longest silence", () -> Rooms.breathed(longest(), 269), x -> x.word(0), 269);
        edges.changed("word(0) behind a sigh", () -> Rooms.breathed(longest(), 270), x -> x.word(0), 30);
    }

    private static TeaSeats longest() {
        TeaSeats x = Rooms.of(30);
        x.set(TeaSeats.LONG, 9);
        return x;
    }

    private void wordOfNone() {
        edges.sentence("Promise 5", "NO_SUCH if there is no such guest.");
        edges.refused("word(4) of four", Rooms::lived, x -> x.word(4), NO_SUCH);
        edges.refused("word(0) of none", Rooms::empty, x -> x.word(0), NO_SUCH);
        for (int guest : NO_GUESTS) {
            edges.refused("word(" + guest + ")", Rooms::ofNine, x -> x.word(guest), NO_SUCH);
        }
    }

    private void bowIsOneLess() {
        edges.sentence("Promise 6",
            "`int bow(int guest, int other)`: A guest bows to another one: one bow less is owed. This is a "
            + "change. Returns how many are owed to the other one yet;");
        // 0 owes 3 two bows, 2 owes 1 three, 3 owes 2 one; 1 has made one.
        edges.changed("bow(2, 1) of three", Rooms::lived, x -> x.bow(2, 1), 2);
        edges.changed("bow(0, 3) of two", Rooms::lived, x -> x.bow(0, 3), 1);
        edges.changed("bow(3, 2) of one", Rooms::lived, x -> x.bow(3, 2), 0);
        TeaSeats x = Rooms.lived();
        x.bow(2, 1);
        edges.due("2 owes 1", x.owes(2, 1), 2);
        edges.due("bows of 2", x.of(2, 8), 1);
        edges.due("bows of 1", x.of(1, 8), 1);
        edges.due("bows made so far", x.count(5), 2);
        edges.due("bows that are owed", x.count(4), 5);
        edges.due("bows that were laid", x.count(8), 7);
        edges.due("bows that are lost", x.count(6), 0);
        edges.due("breaths", x.count(0), 19);
        // To the one alone: what is owed to others stays, and is not what is told.
        TeaSeats y = Rooms.of(30, 30, 30);
        y.offer(1, 0);
        y.offer(2, 0);
        edges.due("bow(0, 1) with bows to 2", y.bow(0, 1), 1);
        edges.due("bow(0, 1) with bows to 2", y.bow(0, 1), 0);
        edges.due("0 owes 2", y.owes(0, 2), 2);
    }

    private void bowOfNone() {
        edges.sentence("Promise 6", "NO_SUCH if there is no such guest;");
        edges.refused("bow(0, 4) of four", Rooms::lived, x -> x.bow(0, 4), NO_SUCH);
        edges.refused("bow(4, 0) of four", Rooms::lived, x -> x.bow(4, 0), NO_SUCH);
        edges.refused("bow(4, 4) of four", Rooms::lived, x -> x.bow(4, 4), NO_SUCH);
        edges.refused("bow(0, 0) of none", Rooms::empty, x -> x.bow(0, 0), NO_SUCH);
        for (int guest : NO_GUESTS) {
            edges.refused("bow(0, " + guest + ")", Rooms::ofNine, x -> x.bow(0, guest), NO_SUCH);
            edges.refused("bow(" + guest + ", 0)", Rooms::ofNine, x -> x.bow(guest, 0), NO_SUCH);
            edges.refused("bow(" + guest + ", " + guest + ")", Rooms::ofNine, x -> x.bow(guest, guest), NO_SUCH);
        }
    }

    private void bowToOneself() {
        edges.sentence("Promise 6", "BAD_VALUE if both are the same;");
        for (int guest = 0; guest < 4; guest++) {
            int same = guest;
            edges.refused("bow(" + guest + ", " + guest + ")", Rooms::lived, x -> x.bow(same, same), BAD_VALUE);
        }
        edges.refused("bow(8, 8)", Rooms::ofNine, x -> x.bow(8, 8), BAD_VALUE);
    }

    private void bowThatIsNotOwed() {
        edges.sentence("Promise 6", "NOT_POSSIBLE if none is owed.");
        edges.refused("bow(1, 0), all made", Rooms::lived, x -> x.bow(1, 0), NOT_POSSIBLE);
        // The other one owes, or one owes others.
        edges.refused("bow(1, 2), who owes 1", Rooms::lived, x -> x.bow(1, 2), NOT_POSSIBLE);
        edges.refused("bow(2, 0), with bows to 1", Rooms::lived, x -> x.bow(2, 0), NOT_POSSIBLE);
        Supplier<TeaSeats> last = () -> Rooms.bowed(Rooms.offered(Rooms.of(9, 9), 0, 1, 1), 1, 0, 1);
        edges.changed("bow(1, 0), the last one", last, x -> x.bow(1, 0), 0);
        edges.refused("bow(1, 0), none any more", () -> Rooms.bowed(last.get(), 1, 0, 1), x -> x.bow(1, 0), NOT_POSSIBLE);
        // What was set off, or was lost, is not owed.
        Supplier<TeaSeats> setOff = () -> Rooms.offered(Rooms.offered(Rooms.of(9, 9), 0, 1, 1), 1, 0, 1);
        edges.refused("bow(1, 0), set off", setOff, x -> x.bow(1, 0), NOT_POSSIBLE);
        edges.refused("bow(0, 1), set off", setOff, x -> x.bow(0, 1), NOT_POSSIBLE);
        Supplier<TeaSeats> lost = () -> {
            TeaSeats x = Rooms.offered(Rooms.of(9, 9), 0, 1, 1);
            x.leave(0);
            x.guest(9);
            return x;
        };
        edges.refused("bow(1, 0), lost", lost, x -> x.bow(1, 0), NOT_POSSIBLE);
    }

    private void offerOfACup() {
        edges.sentence("Promise 7",
            "`int offer(int guest, int other)`: A guest offers another one a cup: the other one drinks it, which "
            + "takes SIP breaths;");
        edges.changed("offer(0, 1)", () -> Rooms.of(30, 30), x -> x.offer(0, 1), 2);
        for (int sip : new int[] {1, 9}) {
            TeaSeats x = Rooms.of(30, 30, 2);
            x.set(TeaSeats.SIP, sip);
            x.offer(0, 1);
            edges.due("breaths", x.count(0), sip);
            edges.due("the silence of 0", x.of(0, 2), sip);
            edges.due("the silence of 1", x.of(1, 2), sip);
            // Patience 2 sighs with silence 6, and is at 5 behind three breaths more.
            edges.due("the silence of 2", x.of(2, 2), sip == 1 ? 1 : 5);
            edges.due("sighs of 2", x.of(2, 4), sip == 1 ? 0 : 1);
            edges.due("cups of 0", x.of(0, 3), 0);
            edges.due("cups of 1", x.of(1, 3), 1);
            edges.due("cups of 2", x.of(2, 3), 0);
            edges.due("cups so far", x.count(3), 1);
            edges.due("rounds", x.count(2), 0);
        }
        // Nobody is seated anew by a cup that is offered.
        TeaSeats y = Rooms.of(30, 30);
        y.offer(1, 0);
        edges.due("at(0)", y.at(0), 0);
        edges.due("ranked(0)", y.ranked(0), 1);
    }

    private void offerLaysTwo() {
        edges.sentence("Promise 7", "then the other one owes the guest two bows more;");
        TeaSeats x = Rooms.of(30, 30, 30);
        x.offer(0, 1);
        edges.due("1 owes 0", x.owes(1, 0), 2);
        edges.due("0 owes 1", x.owes(0, 1), 0);
        edges.due("bows laid", x.count(8), 2);
        edges.due("bows set off", x.count(7), 0);
        x.offer(0, 1);
        edges.due("1 owes 0", x.owes(1, 0), 4);
        edges.due("bows laid", x.count(8), 4);
        edges.due("2 owes", x.of(2, 6), 0);
        edges.due("bows to 2", x.of(2, 7), 0);
    }

    /** 0 owes 1 so many bows, and has no bow of 1. */
    private static TeaSeats owing(int bows) {
        TeaSeats x = Rooms.of(30, 30);
        x.set(TeaSeats.DEBT, 20);
        Rooms.offered(x, 1, 0, (bows + 1) / 2);
        return Rooms.bowed(x, 0, 1, bows % 2);
    }

    private void offerSetsOff() {
        edges.sentence("Promise 7",
            "and then bows that both owe each other are set off, one for one, until one of both owes none. This "
            + "is a change.");
        // With bows that 0 owes 1, a cup for 1 sets off so many, and leaves 1 and 0 with so many.
        int[][] due = {{0, 0, 2, 0}, {1, 2, 1, 0}, {2, 4, 0, 0}, {3, 4, 0, 1}, {4, 4, 0, 2}, {5, 4, 0, 3}};
        for (int[] row : due) {
            String with = " with " + row[0] + " owed to 1";
            edges.changed("offer(0, 1)" + with, () -> owing(row[0]), x -> x.offer(0, 1), row[2]);
            TeaSeats x = owing(row[0]);
            int laid = x.count(8);
            int made = x.count(5);
            x.offer(0, 1);
            edges.due("set off" + with, x.count(7), row[1]);
            edges.due("1 owes 0" + with, x.owes(1, 0), row[2]);
            edges.due("0 owes 1" + with, x.owes(0, 1), row[3]);
            edges.due("laid" + with, x.count(8), laid + 2);
            edges.due("made" + with, x.count(5), made);
            edges.due("lost" + with, x.count(6), 0);
        }
        // What others owe is not set off; nor is anything in a round, or by a bow.
        TeaSeats y = Rooms.of(30, 30, 30);
        y.offer(1, 0);
        y.offer(2, 1);
        edges.due("set off", y.count(7), 0);
        y.offer(0, 2);
        edges.due("set off in a ring", y.count(7), 0);
        edges.due("owed in a ring", y.count(4), 6);
        TeaSeats z = Rooms.of(30, 30);
        z.offer(1, 0);
        z.round();
        edges.due("0 owes 1 behind a round", z.owes(0, 1), 2);
        edges.due("1 owes 0 behind a round", z.owes(1, 0), 1);
        edges.due("set off by a round", z.count(7), 0);
    }

    private void offerAnswersWhatIsOwed() {
        edges.sentence("Promise 7", "Returns how many bows the other one owes the guest then;");
        edges.changed("offer(3, 1)", Rooms::lived, x -> x.offer(3, 1), 2);
        // 3 owes 2 a bow; 2 owes 1 three, and so could not be offered a cup.
        edges.changed("offer(2, 3) of one who owes a bow", Rooms::lived, x -> x.offer(2, 3), 3);
        // 0 owes 3 two: both of 3's are set off.
        edges.changed("offer(0, 3) of one who is owed two", Rooms::lived, x -> x.offer(0, 3), 0);
        TeaSeats x = Rooms.of(30, 30, 30);
        x.offer(0, 1);
        edges.due("offer(2, 1) of one who owes another one", x.offer(2, 1), 2);
    }

    private void offerOfNone() {
        edges.sentence("Promise 7", "NO_SUCH if there is no such guest;");
        edges.refused("offer(1, 4) of four", Rooms::lived, x -> x.offer(1, 4), NO_SUCH);
        edges.refused("offer(4, 1) of four", Rooms::lived, x -> x.offer(4, 1), NO_SUCH);
        edges.refused("offer(4, 4) of four", Rooms::lived, x -> x.offer(4, 4), NO_SUCH);
        edges.refused("offer(4, 0), who would be passed by", Rooms::lived, x -> x.offer(4, 0), NO_SUCH);
        edges.refused("offer(0, 0) of none", Rooms::empty, x -> x.offer(0, 0), NO_SUCH);
        for (int guest : NO_GUESTS) {
            edges.refused("offer(0, " + guest + ")", Rooms::ofNine, x -> x.offer(0, guest), NO_SUCH);
            edges.refused("offer(" + guest + ", 0)", Rooms::ofNine, x -> x.offer(guest, 0), NO_SUCH);
            edges.refused("offer(" + guest + ", " + guest + ")", Rooms::ofNine, x -> x.offer(guest, guest), NO_SUCH);
        }
    }

    private void offerToOneself() {
        edges.sentence("Promise 7", "BAD_VALUE if both are the same;");
        for (int guest = 0; guest < 4; guest++) {
            int same = guest;
            edges.refused("offer(" + guest + ", " + guest + ")", Rooms::lived, x -> x.offer(same, same), BAD_VALUE);
        }
        edges.refused("offer(8, 8)", Rooms::ofNine, x -> x.offer(8, 8), BAD_VALUE);
        edges.refused("offer(0, 0) at 9999", () -> Rooms.late(9999, 5), x -> x.offer(0, 0), BAD_VALUE);
    }

    private void offerToOnePassedBy() {
        edges.sentence("Promise 7", "NOT_POSSIBLE if the other one would be passed by,");
        edges.refused("offer(1, 0), in debt", Rooms::lived, x -> x.offer(1, 0), NOT_POSSIBLE);
        edges.refused("offer(3, 0), in debt to 3", Rooms::lived, x -> x.offer(3, 0), NOT_POSSIBLE);
        // 0 would be passed by, and may offer.
        edges.changed("offer(0, 1) by one in debt", Rooms::lived, x -> x.offer(0, 1), 2);
        for (int debt : new int[] {1, 2, 20}) {
            Supplier<TeaSeats> atTheBound = () -> owingWith(debt, debt);
            Supplier<TeaSeats> below = () -> owingWith(debt, debt - 1);
            edges.refused("offer(1, 0) with DEBT " + debt, atTheBound, x -> x.offer(1, 0), NOT_POSSIBLE);
            edges.changed("offer(1, 0) below DEBT " + debt, below, x -> x.offer(1, 0), debt + 1);
        }
        Supplier<TeaSeats> oneCup = () -> Rooms.bowed(Rooms.offered(Rooms.of(30, 30), 1, 0, 1), 0, 1, 2);
        Supplier<TeaSeats> all = () -> {
            TeaSeats x = oneCup.get();
            x.set(TeaSeats.CUPS, 1);
            return x;
        };
        Supplier<TeaSeats> allButOne = () -> {
            TeaSeats x = oneCup.get();
            x.set(TeaSeats.CUPS, 2);
            return x;
        };
        edges.refused("offer(1, 0) with all cups", all, x -> x.offer(1, 0), NOT_POSSIBLE);
        edges.changed("offer(1, 0) with one cup left", allButOne, x -> x.offer(1, 0), 2);
        edges.changed("offer(0, 1) by one with all cups", all, x -> x.offer(0, 1), 2);
    }

    private static TeaSeats owingWith(int debt, int bows) {
        TeaSeats x = Rooms.of(30, 30);
        x.set(TeaSeats.DEBT, 20);
        x.set(TeaSeats.CUPS, 30);
        Rooms.offered(x, 1, 0, (bows + 1) / 2);
        Rooms.bowed(x, 0, 1, bows % 2);
        x.set(TeaSeats.DEBT, debt);
        return x;
    }

    private static TeaSeats lateWith(int sip, int breaths) {
        TeaSeats x = Rooms.late(breaths, 30, 30);
        x.set(TeaSeats.SIP, sip);
        return x;
    }

    private void offerBeyondTheBreaths() {
        edges.sentence("Promise 7", "or there would be more than 9999 breaths.");
        for (int sip : new int[] {1, 2, 9}) {
            edges.changed("offer(0, 1) up to 9999", () -> lateWith(sip, 9999 - sip), x -> x.offer(0, 1), 2);
            edges.refused("offer(0, 1) up to 10000", () -> lateWith(sip, 10000 - sip), x -> x.offer(0, 1), NOT_POSSIBLE);
            TeaSeats x = lateWith(sip, 9999 - sip);
            x.offer(0, 1);
            edges.due("breaths", x.count(0), 9999);
            edges.due("cups", x.count(3), 1);
            edges.due("offer(1, 0) at 9999", x.offer(1, 0), NOT_POSSIBLE);
        }
    }

    private void breatheRange() {
        edges.sentence("Promise 8", "`int breathe(int many)`: Breaths pass. This is a change. - `many`: 1 to 99");
        edges.changed("breathe(1)", Rooms::empty, x -> x.breathe(1), 0);
        edges.changed("breathe(99)", Rooms::empty, x -> x.breathe(99), 0);
        for (int many = 1; many <= 99; many++) {
            TeaSeats x = Rooms.of(30);
            x.set(TeaSeats.LONG, 9);
            edges.due("breathe(" + many + ")", x.breathe(many), 0);
            edges.due("breaths", x.count(0), many);
            edges.due("the silence", x.of(0, 2), many);
        }
    }

    private void breatheOutOfRange() {
        edges.sentence("Promise 8", "BAD_VALUE if many is out of range;");
        for (int many : new int[] {0, 100, -1, 101, MIN, MAX}) {
            edges.refused("breathe(" + many + ")", Rooms::lived, x -> x.breathe(many), BAD_VALUE);
            edges.refused("breathe(" + many + ") at 9999", () -> Rooms.late(9999, 5), x -> x.breathe(many), BAD_VALUE);
        }
    }

    private void breatheCountsSighs() {
        edges.sentence("Promise 8", "Returns how many sighs there are in them;");
        // Patience 4 sighs with silence 12 first, and with each eighth breath then.
        edges.changed("breathe(11)", () -> Rooms.of(4), x -> x.breathe(11), 0);
        edges.changed("breathe(12)", () -> Rooms.of(4), x -> x.breathe(12), 1);
        edges.changed("breathe(19)", () -> Rooms.of(4), x -> x.breathe(19), 1);
        edges.changed("breathe(20)", () -> Rooms.of(4), x -> x.breathe(20), 2);
        edges.changed("breathe(12) of two", () -> Rooms.of(4, 4), x -> x.breathe(12), 2);
        TeaSeats x = Rooms.of(4, 4);
        x.breathe(20);
        edges.due("sighs of 0", x.of(0, 4), 2);
        edges.due("sighs of 1", x.of(1, 4), 2);
        edges.due("sighs so far", x.count(10), 4);
        edges.due("breathe(1) behind them", x.breathe(1), 0);
        // Nine guests of patience 1 with LONG 1 sigh in each breath.
        TeaSeats y = Rooms.of(1, 1, 1, 1, 1, 1, 1, 1, 1);
        y.set(TeaSeats.LONG, 1);
        edges.due("breathe(99) of nine", y.breathe(99), 891);
        edges.due("sighs so far", y.count(10), 891);
    }

    private void breatheBeyondTheBreaths() {
        edges.sentence("Promise 8", "NOT_POSSIBLE if there would be more than 9999 breaths.");
        for (int many : new int[] {1, 2, 98, 99}) {
            String call = "breathe(" + many + ")";
            Supplier<TeaSeats> last = () -> Rooms.late(9999 - many, 30);
            Supplier<TeaSeats> beyond = () -> Rooms.late(10000 - many, 30);
            // Patience 30 sighs with silence 90.
            edges.changed(call + " up to 9999", last, x -> x.breathe(many), many / 90);
            edges.refused(call + " up to 10000", beyond, x -> x.breathe(many), NOT_POSSIBLE);
        }
        TeaSeats x = Rooms.late(9998, 30);
        edges.due("breathe(2)", x.breathe(2), NOT_POSSIBLE);
        edges.due("breathe(1)", x.breathe(1), 0);
        edges.due("breaths", x.count(0), 9999);
        edges.due("breathe(1) at 9999", x.breathe(1), NOT_POSSIBLE);
        edges.due("the silence", x.of(0, 2), 1);
    }

    private void roundCountsThoseWhoDrink() {
        edges.sentence("Promise 9",
            "`int round()`: A round of the cup. This is a change. Returns how many guests drink;");
        edges.changed("round() of one", () -> Rooms.of(30), x -> x.round(), 1);
        edges.changed("round() of nine", Rooms::ofNine, x -> x.round(), 9);
        // 0 and 2 would be passed by.
        edges.changed("round() of four", Rooms::lived, x -> x.round(), 2);
        edges.changed("round() of four in debt", () -> inDebt(Rooms.lived()), x -> x.round(), 0);
        TeaSeats x = inDebt(Rooms.lived());
        x.round();
        edges.due("rounds", x.count(2), 2);
        edges.due("breaths", x.count(0), 19);
        edges.due("cups so far", x.count(3), 6);
    }

    private static TeaSeats inDebt(TeaSeats x) {
        x.set(TeaSeats.CUPS, 1);
        return x;
    }

    private void roundWithoutGuests() {
        edges.sentence("Promise 9", "NOT_POSSIBLE if there is no guest,");
        edges.refused("round() of a new object", TeaSeats::new, x -> x.round(), NOT_POSSIBLE);
        edges.refused("round() of none", Rooms::empty, x -> x.round(), NOT_POSSIBLE);
        edges.refused("round() of none at 9900", () -> Rooms.late(9900), x -> x.round(), NOT_POSSIBLE);
    }

    private void roundBehindTheBreaths() {
        edges.sentence("Promise 9", "or there are more than 9900 breaths.");
        edges.changed("round() at 9899", () -> Rooms.late(9899, 5), x -> x.round(), 1);
        edges.changed("round() at 9900", () -> Rooms.late(9900, 5), x -> x.round(), 1);
        edges.refused("round() at 9901", () -> Rooms.late(9901, 5), x -> x.round(), NOT_POSSIBLE);
        edges.refused("round() at 9999", () -> Rooms.late(9999, 5), x -> x.round(), NOT_POSSIBLE);
        Supplier<TeaSeats> nine = () -> {
            TeaSeats x = Rooms.late(9900, 30, 30, 30, 30, 30, 30, 30, 30, 30);
            x.set(TeaSeats.SIP, 9);
            return x;
        };
        edges.changed("round() of nine at 9900 with SIP 9", nine, x -> x.round(), 9);
        TeaSeats x = nine.get();
        x.round();
        edges.due("breaths", x.count(0), 9981);
        edges.due("round() again", x.round(), NOT_POSSIBLE);
        // A round that would take no breath is refused, too.
        Supplier<TeaSeats> nobody = () -> {
            TeaSeats y = Rooms.late(9899, 5);
            y.round();
            y.set(TeaSeats.CUPS, 1);
            return y;
        };
        edges.refused("round() at 9901 in which nobody would drink", nobody, y -> y.round(), NOT_POSSIBLE);
    }

    private void seatAnewCountsThoseWhoMove() {
        edges.sentence("Promise 10",
            "`int seatAnew()`: Seats all guests anew. This is a change. Returns how many get another seat.");
        edges.changed("seatAnew() of none", Rooms::empty, x -> x.seatAnew(), 0);
        edges.changed("seatAnew() of one", () -> Rooms.of(5), x -> x.seatAnew(), 0);
        edges.changed("seatAnew() of nine alike", Rooms::ofNine, x -> x.seatAnew(), 0);
        // The seats are those of 0, 1, 3, 2, the silences 11, 19, 3, 4: 1 and 0 change seats.
        edges.changed("seatAnew() of four", Rooms::lived, x -> x.seatAnew(), 2);
        TeaSeats x = Rooms.lived();
        x.seatAnew();
        int[] due = {1, 0, 3, 2, NO_SUCH};
        for (int seat = 0; seat < due.length; seat++) {
            edges.due("at(" + seat + ")", x.at(seat), due[seat]);
        }
        edges.due("seatAnew() again", x.seatAnew(), 0);
        edges.due("rounds", x.count(2), 1);
        edges.due("breaths", x.count(0), 19);
        // All of nine: the first one speaks, and goes behind the others.
        TeaSeats y = Rooms.ofNine();
        y.breathe(1);
        y.word(0);
        edges.due("seatAnew() of nine", y.seatAnew(), 9);
        y.word(y.at(8));
        edges.due("seatAnew() behind a word of the farthest", y.seatAnew(), 0);
    }
}
