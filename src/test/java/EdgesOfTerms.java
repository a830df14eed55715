import java.util.function.Supplier;

/** The edges that 'What it is' and 'Terms' name, but those of texts. */
final class EdgesOfTerms {
    private static final int NO_SUCH = -1, BAD_VALUE = -2, BAD_TEXT = -3, TOO_MANY = -4, NOT_POSSIBLE = -5, NONE = -6;

    private final Edges edges;

    EdgesOfTerms(Edges edges) {
        this.edges = edges;
    }

    void look() {
        calls512();
        errorCodes();
        errorsInOrder();
        errorsOfMissingGuestsAheadOfValues();
        errorsChangeNothing();
        noneOnlyWithoutErrors();
        numberedFrom0();
        setsAreBitMasks();
        sip();
        debt();
        cups();
        longTimes();
        nineGuests();
        numbersAreGivenAgain();
        whatIsAtFirst();
        seatsWithoutGaps();
        farthestSeat();
        thoseBehindComeNearer();
        bowsAreLost();
        longestSilenceFirst();
        fewerCupsThen();
        fewerBowsThen();
        nearerSeatThen();
        silenceGrows();
        sighs();
        breathsAreCounted();
        cupGoesAsGuestsSit();
        passedBy();
        looksAsTheCupComes();
        drinksAndOwes();
        seatedAtTheEnd();
    }

    private void calls512() {
        edges.sentence("What it is",
            "An object is used for at most 512 calls after it has been made; what later calls answer is free.");
        TeaSeats x = new TeaSeats();
        x.guest(30);
        for (int call = 2; call <= 510; call++) {
            edges.due("silent(1) as call " + call, x.silent(1), 0);
        }
        edges.due("breathe(1) as call 511", x.breathe(1), 0);
        edges.due("silent(1) as call 512", x.silent(1), 1);
        TeaSeats y = new TeaSeats();
        for (int call = 1; call <= 511; call++) {
            edges.due("set(0, ..) as call " + call, y.set(0, 1 + call % 9), call == 1 ? 2 : 1 + (call - 1) % 9);
        }
        edges.due("undo() as call 512", y.undo(), 5);
    }

    private void errorCodes() {
        edges.sentence("Terms",
            "A method that fails returns one of the error codes NO_SUCH (-1), BAD_VALUE (-2), BAD_TEXT (-3), "
            + "TOO_MANY (-4) and NOT_POSSIBLE (-5)");
        edges.refused("at(0)", TeaSeats::new, x -> x.at(0), -1);
        edges.refused("guest(0)", TeaSeats::new, x -> x.guest(0), -2);
        edges.refused("carryOut()", TeaSeats::new, x -> x.carryOut(), -3);
        edges.refused("guest(1) as tenth", Rooms::ofNine, x -> x.guest(1), -4);
        edges.refused("undo()", TeaSeats::new, x -> x.undo(), -5);
        edges.due("NO_SUCH", TeaSeats.NO_SUCH, -1);
        edges.due("BAD_VALUE", TeaSeats.BAD_VALUE, -2);
        edges.due("BAD_TEXT", TeaSeats.BAD_TEXT, -3);
        edges.due("TOO_MANY", TeaSeats.TOO_MANY, -4);
        edges.due("NOT_POSSIBLE", TeaSeats.NOT_POSSIBLE, -5);
    }

    private void errorsInOrder() {
        edges.sentence("Terms",
            "it names its errors in the order in which they are checked, and the first one that applies is "
            + "returned.");
        Supplier<TeaSeats> late = () -> Rooms.breathed(Rooms.of(30, 30), 9999);
        edges.refused("guest(0) with nine guests", Rooms::ofNine, x -> x.guest(0), BAD_VALUE);
        edges.refused("guest(31) with nine guests", Rooms::ofNine, x -> x.guest(31), BAD_VALUE);
        edges.refused("bow(0, 0) of one who owes nothing", () -> Rooms.of(9), x -> x.bow(0, 0), BAD_VALUE);
        edges.refused("offer(0, 0) at 9999 breaths", late, x -> x.offer(0, 0), BAD_VALUE);
        edges.refused("offer(0, 0) in debt", Rooms::lived, x -> x.offer(0, 0), BAD_VALUE);
        edges.refused("breathe(0) at 9999 breaths", late, x -> x.breathe(0), BAD_VALUE);
        edges.refused("breathe(100) at 9999 breaths", late, x -> x.breathe(100), BAD_VALUE);
        edges.refused("ifRound(-1) without guests", Rooms::empty, x -> x.ifRound(-1), BAD_VALUE);
        edges.refused("ifRound(3) without guests", Rooms::empty, x -> x.ifRound(3), BAD_VALUE);
        Supplier<TeaSeats> full = () -> Rooms.withText(Rooms.of(9), "r;".repeat(40));
        edges.refused("put(0) on a full pad", full, x -> x.put(0), BAD_VALUE);
        edges.refused("put(32) on a full pad", full, x -> x.put(32), BAD_VALUE);
        edges.refused("restore(-1) with nothing saved", TeaSeats::new, x -> x.restore(-1), BAD_VALUE);
        edges.refused("restore(2) with nothing saved", TeaSeats::new, x -> x.restore(2), BAD_VALUE);
    }

    private void errorsOfMissingGuestsAheadOfValues() {
        edges.sentence("Terms", "the first one that applies is returned.");
        edges.refused("bow(9, 9)", Rooms::lived, x -> x.bow(9, 9), NO_SUCH);
        edges.refused("bow(4, 4)", Rooms::lived, x -> x.bow(4, 4), NO_SUCH);
        edges.refused("bow(-1, -1)", Rooms::lived, x -> x.bow(-1, -1), NO_SUCH);
        edges.refused("offer(9, 9)", Rooms::lived, x -> x.offer(9, 9), NO_SUCH);
        edges.refused("offer(4, 4)", Rooms::lived, x -> x.offer(4, 4), NO_SUCH);
        // 0 would be passed by, and so could not be offered a cup.
        edges.refused("offer(4, 0)", Rooms::lived, x -> x.offer(4, 0), NO_SUCH);
        edges.refused("of(4, 10)", Rooms::lived, x -> x.of(4, 10), NO_SUCH);
        edges.refused("of(-1, -1)", Rooms::lived, x -> x.of(-1, -1), NO_SUCH);
        edges.refused("owes(9, 9)", Rooms::lived, x -> x.owes(9, 9), NO_SUCH);
        edges.refused("owes(4, 4)", Rooms::lived, x -> x.owes(4, 4), NO_SUCH);
        Supplier<TeaSeats> late = () -> Rooms.breathed(Rooms.of(30, 30), 9999);
        edges.refused("offer(0, 2) at 9999 breaths", late, x -> x.offer(0, 2), NO_SUCH);
        edges.refused("offer(2, 0) at 9999 breaths", late, x -> x.offer(2, 0), NO_SUCH);
    }

    private void errorsChangeNothing() {
        edges.sentence("Terms", "A call that returns an error changes nothing.");
        edges.refused("set(4, 1)", Rooms::lived, x -> x.set(4, 1), BAD_VALUE);
        edges.refused("set(0, 10)", Rooms::lived, x -> x.set(0, 10), BAD_VALUE);
        edges.refused("guest(31)", Rooms::lived, x -> x.guest(31), BAD_VALUE);
        edges.refused("leave(4)", Rooms::lived, x -> x.leave(4), NO_SUCH);
        edges.refused("word(4)", Rooms::lived, x -> x.word(4), NO_SUCH);
        edges.refused("bow(0, 4)", Rooms::lived, x -> x.bow(0, 4), NO_SUCH);
        edges.refused("bow(0, 0)", Rooms::lived, x -> x.bow(0, 0), BAD_VALUE);
        edges.refused("bow(1, 0)", Rooms::lived, x -> x.bow(1, 0), NOT_POSSIBLE);
        edges.refused("offer(0, 4)", Rooms::lived, x -> x.offer(0, 4), NO_SUCH);
        edges.refused("offer(0, 0)", Rooms::lived, x -> x.offer(0, 0), BAD_VALUE);
        edges.refused("offer(1, 0)", Rooms::lived, x -> x.offer(1, 0), NOT_POSSIBLE);
        edges.refused("breathe(100)", Rooms::lived, x -> x.breathe(100), BAD_VALUE);
        edges.refused("of(0, 10)", Rooms::lived, x -> x.of(0, 10), BAD_VALUE);
        edges.refused("owes(0, 0)", Rooms::lived, x -> x.owes(0, 0), BAD_VALUE);
        edges.refused("at(4)", Rooms::lived, x -> x.at(4), NO_SUCH);
        edges.refused("ranked(4)", Rooms::lived, x -> x.ranked(4), NO_SUCH);
        edges.refused("silent(-1)", Rooms::lived, x -> x.silent(-1), BAD_VALUE);
        edges.refused("count(19)", Rooms::lived, x -> x.count(19), BAD_VALUE);
        edges.refused("why(4)", Rooms::lived, x -> x.why(4), NO_SUCH);
        edges.refused("seatedIn(0, 4)", Rooms::lived, x -> x.seatedIn(0, 4), NO_SUCH);
        edges.refused("ifWord(4)", Rooms::lived, x -> x.ifWord(4), NO_SUCH);
        edges.refused("ifRound(3)", Rooms::lived, x -> x.ifRound(3), BAD_VALUE);
        edges.refused("put(0)", Rooms::lived, x -> x.put(0), BAD_VALUE);
        edges.refused("carryOut() of r;", () -> Rooms.withText(Rooms.lived(), "r;"), x -> x.carryOut(), BAD_TEXT);
        edges.refused("save(2)", Rooms::lived, x -> x.save(2), BAD_VALUE);
        edges.refused("restore(2)", Rooms::lived, x -> x.restore(2), BAD_VALUE);
    }

    private void noneOnlyWithoutErrors() {
        edges.sentence("Terms", "NONE (-6) is not an error; it is returned only if no error applies.");
        edges.due("NONE", TeaSeats.NONE, -6);
        Supplier<TeaSeats> alike = () -> Rooms.of(1, 1);
        edges.unchanged("seatedIn(1, 0), never", alike, x -> x.seatedIn(1, 0), NONE);
        edges.refused("seatedIn(2, 0), no guest", alike, x -> x.seatedIn(2, 0), NO_SUCH);
        edges.refused("seatedIn(1, -1), no seat", alike, x -> x.seatedIn(1, -1), NO_SUCH);
        edges.refused("seatedIn(1, 2), no seat", alike, x -> x.seatedIn(1, 2), NO_SUCH);
        edges.unchanged("fault() of a text that has none", alike, x -> x.fault(), NONE);
    }

    private void numberedFrom0() {
        edges.sentence("Terms", "Everything is numbered from 0.");
        TeaSeats x = new TeaSeats();
        edges.due("the first guest", x.guest(1), 0);
        edges.due("the guest in the first seat", x.at(0), 0);
        edges.due("the seat of the first guest", x.of(0, 0), 0);
        edges.due("the guest of the first rank", x.ranked(0), 0);
        edges.due("the first rank", x.of(0, 9), 0);
        edges.due("the first slot", x.save(0), 1);
        edges.due("the first setting", x.set(0, 1), 2);
        x.put('!');
        edges.due("the first character", x.fault(), 0);
        edges.due("SIP", TeaSeats.SIP, 0);
        edges.due("DEBT", TeaSeats.DEBT, 1);
        edges.due("CUPS", TeaSeats.CUPS, 2);
        edges.due("LONG", TeaSeats.LONG, 3);
    }

    private void setsAreBitMasks() {
        edges.sentence("Terms", "Sets of guests are bit masks.");
        TeaSeats x = Rooms.ofNine();
        x.set(TeaSeats.CUPS, 1);
        edges.due("the set of nine", x.count(11), 511);
        edges.due("the set of none", x.count(12), 0);
        x.round();
        edges.due("the set of nine who would be passed by", x.count(12), 511);
        for (int guest = 0; guest < 8; guest++) {
            x.leave(guest);
            edges.due("the set without " + guest, x.count(11), 511 >> guest + 1 << guest + 1);
        }
        edges.due("the set of guest 8", x.count(11), 256);
        edges.due("the set of guest 8, passed by", x.count(12), 256);
        edges.due("the set of guest 8, leading", x.canLead(), 256);
        x.leave(8);
        edges.due("the set of no guest", x.count(11), 0);
        edges.due("the set of no guest, passed by", x.count(12), 0);
        edges.due("the set of no guest, leading", x.canLead(), 0);
    }

    private void range(int setting, int most, int first) {
        String call = "set(" + setting + ", ";
        edges.due("the first value of " + setting, new TeaSeats().count(13 + setting), first);
        edges.refused(call + "0)", Rooms::lived, x -> x.set(setting, 0), BAD_VALUE);
        edges.refused(call + "one above)", Rooms::lived, x -> x.set(setting, most + 1), BAD_VALUE);
        edges.changed(call + "1)", Rooms::empty, x -> x.set(setting, 1), first);
        edges.changed(call + "most)", Rooms::empty, x -> x.set(setting, most), first);
        for (int value = 1; value <= most; value++) {
            TeaSeats x = new TeaSeats();
            edges.due(call + value + ")", x.set(setting, value), first);
            edges.due("count behind " + call + value + ")", x.count(13 + setting), value);
        }
    }

    private void sip() {
        edges.sentence("Settings", "(In parentheses: range; first value.) SIP (1 to 9; 2): breaths of a sip;");
        range(TeaSeats.SIP, 9, 2);
        for (int sip : new int[] {1, 2, 9}) {
            TeaSeats x = Rooms.of(30, 30);
            if (sip != 2) {
                x.set(TeaSeats.SIP, sip);
            }
            x.offer(0, 1);
            edges.due("the breaths of a sip", x.count(0), sip);
            edges.due("round()", x.round(), 2);
            edges.due("the breaths of three sips", x.count(0), 3 * sip);
        }
    }

    /** A room in which 0 owes 1 so many bows, and has drunk for them. */
    private static TeaSeats owing(int debt, int bows) {
        TeaSeats x = Rooms.of(30, 30);
        x.set(TeaSeats.CUPS, 30);
        x.set(TeaSeats.DEBT, 20);
        Rooms.offered(x, 1, 0, (bows + 1) / 2);
        Rooms.bowed(x, 0, 1, bows % 2);
        x.set(TeaSeats.DEBT, debt);
        return x;
    }

    private void debt() {
        edges.sentence("Settings", "DEBT (1 to 20; 3): bows owed with which a guest is passed by;");
        range(TeaSeats.DEBT, 20, 3);
        for (int debt : new int[] {1, 2, 3, 19, 20}) {
            edges.due("bows that are owed", owing(debt, debt).of(0, 6), debt);
            edges.unchanged("why(0) with " + debt, () -> owing(debt, debt), x -> x.why(0), 2);
            edges.unchanged("why(0) with one less", () -> owing(debt, debt - 1), x -> x.why(0), 0);
        }
        TeaSeats x = Rooms.of(30, 30);
        x.offer(1, 0);
        x.offer(1, 0);
        x.bow(0, 1);
        edges.due("why(0) with three bows and the first value", x.why(0), 2);
        x.bow(0, 1);
        edges.due("why(0) with two bows and the first value", x.why(0), 0);
    }

    /** A room with a guest who has drunk so many cups, and owes nothing. */
    private static TeaSeats drunk(int most, int cups) {
        TeaSeats x = Rooms.of(30);
        x.set(TeaSeats.CUPS, most);
        for (int cup = 0; cup < cups; cup++) {
            x.round();
        }
        return x;
    }

    private void cups() {
        edges.sentence("Settings", "CUPS (1 to 30; 9): cups that a guest drinks at most;");
        range(TeaSeats.CUPS, 30, 9);
        for (int cups : new int[] {1, 2, 9, 29, 30}) {
            edges.unchanged("why(0) with " + cups, () -> drunk(cups, cups), x -> x.why(0), 1);
            edges.unchanged("why(0) with one less", () -> drunk(cups, cups - 1), x -> x.why(0), 0);
            edges.changed("round() for the last cup", () -> drunk(cups, cups - 1), x -> x.round(), 1);
            edges.changed("round() for one more", () -> drunk(cups, cups), x -> x.round(), 0);
            edges.due("cups that were drunk", drunk(cups, cups + 2).of(0, 3), cups);
        }
        TeaSeats x = Rooms.of(30);
        for (int cup = 1; cup <= 10; cup++) {
            edges.due("round() " + cup + " with the first value", x.round(), cup <= 9 ? 1 : 0);
        }
    }

    private void longTimes() {
        edges.sentence("Settings", "LONG (1 to 9; 3): times of patience behind which a guest sighs.");
        range(TeaSeats.LONG, 9, 3);
        for (int times : new int[] {1, 2, 3, 8, 9}) {
            for (int patience : new int[] {1, 2, 29, 30}) {
                TeaSeats x = Rooms.of(patience);
                x.set(TeaSeats.LONG, times);
                Rooms.breathed(x, times * patience - 1);
                edges.due("sighs of " + times + " times " + patience + " less 1", x.of(0, 4), 0);
                edges.due("the silence", x.of(0, 2), times * patience - 1);
                edges.due("sighs with the next breath", x.breathe(1), 1);
                edges.due("the silence", x.of(0, 2), patience);
            }
        }
        TeaSeats y = Rooms.breathed(Rooms.of(10), 29);
        edges.due("sighs with the first value", y.count(10), 0);
        edges.due("sighs with the next breath", y.breathe(1), 1);
    }

    private void nineGuests() {
        edges.sentence("Settings", "There are up to 9 guests at once");
        Supplier<TeaSeats> eight = () -> Rooms.of(5, 5, 5, 5, 5, 5, 5, 5);
        edges.changed("guest(5) as ninth", eight, x -> x.guest(5), 8);
        edges.refused("guest(5) as tenth", Rooms::ofNine, x -> x.guest(5), TOO_MANY);
        TeaSeats x = Rooms.ofNine();
        edges.due("guests", x.count(1), 9);
        x.leave(4);
        edges.due("guests", x.count(1), 8);
        edges.due("guest(5) as ninth again", x.guest(5), 4);
        edges.due("guest(5) as tenth again", x.guest(5), TOO_MANY);
    }

    private void numbersAreGivenAgain() {
        edges.sentence("Settings",
            ", numbered in the order in which they came; a number that is free is given again, the lowest first.");
        TeaSeats x = new TeaSeats();
        for (int guest = 0; guest < 4; guest++) {
            edges.due("guest(5)", x.guest(5), guest);
        }
        x.leave(3);
        x.leave(1);
        x.leave(2);
        for (int guest = 1; guest < 5; guest++) {
            edges.due("guest(5) behind 3, 1 and 2 left", x.guest(5), guest);
        }
        x.leave(0);
        edges.due("guest(5) behind 0 left", x.guest(5), 0);
        edges.due("guest(5) with no gap", x.guest(5), 5);
        TeaSeats y = Rooms.ofNine();
        y.leave(8);
        edges.due("guest(5) behind 8 left", y.guest(5), 8);
        TeaSeats z = Rooms.of(5);
        z.leave(0);
        edges.due("guest(5) behind the only one left", z.guest(5), 0);
    }

    private void whatIsAtFirst() {
        edges.sentence("Settings",
            "Each has a patience (1 to 30), a silence in breaths (0 at first), cups that were drunk, sighs, "
            + "words, and bows that are owed to each other guest (0 at first).");
        // All four leave who had something of everything; what comes then has nothing of it.
        TeaSeats x = Rooms.lived();
        for (int guest = 0; guest < 4; guest++) {
            x.leave(guest);
        }
        int[] patiences = {1, 2, 29, 30, 1, 2, 29, 30, 15};
        for (int guest = 0; guest < 9; guest++) {
            edges.due("guest(..)", x.guest(patiences[guest]), guest);
            edges.due("patience of " + guest, x.of(guest, 1), patiences[guest]);
            for (int what = 2; what <= 8; what++) {
                edges.due("of(" + guest + ", " + what + ") of a new guest", x.of(guest, what), 0);
            }
        }
        for (int pair = 0; pair < 81; pair++) {
            int want = pair / 9 == pair % 9 ? BAD_VALUE : 0;
            edges.due("owes(" + pair / 9 + ", " + pair % 9 + ")", x.owes(pair / 9, pair % 9), want);
        }
    }

    private void seatsWithoutGaps() {
        edges.sentence("Settings",
            "Each sits in a seat: seats are numbered from 0, the nearest one, on, without gaps;");
        TeaSeats x = Rooms.ofNine();
        for (int guests = 9; guests >= 0; guests--) {
            int seen = 0;
            for (int seat = 0; seat < guests; seat++) {
                int guest = x.at(seat);
                seen |= guest >= 0 ? 1 << guest : 0;
                edges.due("the seat of the guest in " + seat, x.of(guest, 0), seat);
            }
            edges.due("those in the seats", seen, x.count(11));
            edges.due("at(" + guests + ") beyond the last seat", x.at(guests), NO_SUCH);
            // From the middle, from the end and from the beginning, by turns.
            x.leave(x.at(guests % 3 == 0 ? guests / 2 : guests % 3 == 1 ? guests - 1 : 0));
        }
    }

    private void farthestSeat() {
        edges.sentence("Settings", "a new guest gets the farthest one;");
        TeaSeats x = Rooms.empty();
        for (int guest = 0; guest < 9; guest++) {
            x.guest(5);
            edges.due("the seat of guest " + guest, x.of(guest, 0), guest);
            edges.due("at(" + guest + ")", x.at(guest), guest);
        }
        x.leave(0);
        x.guest(5);
        edges.due("the seat of 0, who came again", x.of(0, 0), 8);
        edges.due("the seat of 8", x.of(8, 0), 7);
        // The longest silence of all does not help the one who comes: the farthest seat is given.
        TeaSeats y = Rooms.of(5, 5);
        y.breathe(3);
        y.word(0);
        y.word(1);
        y.guest(30);
        edges.due("the seat of a third guest", y.of(2, 0), 2);
    }

    private void thoseBehindComeNearer() {
        edges.sentence("Settings", "when one leaves, those behind come one nearer.");
        int[][] seats = {{-1, 0, 1, 2}, {0, -1, 1, 2}, {0, 1, -1, 2}, {0, 1, 2, -1}};
        for (int gone = 0; gone < 4; gone++) {
            int leaving = gone;
            edges.changed("leave(" + gone + ")", () -> Rooms.of(5, 5, 5, 5), x -> x.leave(leaving), gone);
            TeaSeats x = Rooms.of(5, 5, 5, 5);
            x.leave(gone);
            for (int guest = 0; guest < 4; guest++) {
                edges.due("the seat of " + guest + " behind leave(" + gone + ")", x.of(guest, 0), seats[gone][guest]);
            }
        }
        edges.changed("leave(0) of the only one", () -> Rooms.of(5), x -> x.leave(0), 0);
        // Behind is told by seats, not by numbers: 3 sits in seat 2, ahead of 2.
        TeaSeats y = Rooms.lived();
        edges.due("leave(3)", y.leave(3), 2);
        edges.due("the seat of 2", y.of(2, 0), 2);
        edges.due("the seat of 1", y.of(1, 0), 1);
        edges.due("the seat of 0", y.of(0, 0), 0);
        // 0, who has the lowest number, and the lowest patience, sits behind 1 and 2.
        TeaSeats z = Rooms.breathed(Rooms.of(1, 1, 1), 1);
        z.word(0);
        edges.due("seatAnew()", z.seatAnew(), 3);
        edges.due("leave(1)", z.leave(1), 0);
        edges.due("the seat of 2", z.of(2, 0), 0);
        edges.due("the seat of 0", z.of(0, 0), 1);
    }

    private void bowsAreLost() {
        edges.sentence("Settings", "All bows that are owed by one who leaves, and to such a one, are gone (lost).");
        // 0 owes 3 two, 2 owes 1 three, 3 owes 2 one.
        int[] lost = {2, 3, 4, 3};
        for (int gone = 0; gone < 4; gone++) {
            TeaSeats x = Rooms.lived();
            x.leave(gone);
            edges.due("bows that are lost by leave(" + gone + ")", x.count(6), lost[gone]);
            edges.due("bows that are owed yet", x.count(4), 6 - lost[gone]);
            x.guest(5);
            edges.due("bows that the next guest owes", x.of(gone, 6), 0);
            edges.due("bows that are owed to the next guest", x.of(gone, 7), 0);
            for (int other = 0; other < 4; other++) {
                edges.due("bows by the next guest", x.owes(gone, other), other == gone ? BAD_VALUE : 0);
                edges.due("bows to the next guest", x.owes(other, gone), other == gone ? BAD_VALUE : 0);
            }
        }
        TeaSeats y = Rooms.of(5, 5);
        y.leave(0);
        edges.due("bows that are lost by one who has none", y.count(6), 0);
    }

    private void longestSilenceFirst() {
        edges.sentence("Settings",
            "To seat the guests anew: the one with the longest silence gets the seat 0, and so on;");
        Supplier<TeaSeats> byOne = () -> {
            TeaSeats x = Rooms.of(30, 30);
            x.breathe(1);
            x.word(0);
            return x;
        };
        edges.unchanged("ranked(0) by one breath", byOne, x -> x.ranked(0), 1);
        edges.unchanged("ranked(1) by one breath", byOne, x -> x.ranked(1), 0);
        edges.changed("seatAnew() by one breath", byOne, x -> x.seatAnew(), 2);
        TeaSeats x = byOne.get();
        x.breathe(1);
        x.word(0);
        x.seatAnew();
        edges.due("at(0)", x.at(0), 1);
        edges.due("at(1)", x.at(1), 0);
        // 1 is silent for longer, though with a cup and two bows more.
        TeaSeats y = Rooms.of(30, 30);
        y.offer(0, 1);
        y.word(0);
        edges.due("ranked(0), with a cup and bows more", y.ranked(0), 1);
        // Nine guests who come one breath after the other are seated as they came; the first to speak is the last.
        TeaSeats z = Rooms.empty();
        for (int guest = 0; guest < 9; guest++) {
            z.guest(30);
            z.breathe(1);
        }
        edges.due("seatAnew() of nine", z.seatAnew(), 0);
        z.word(0);
        edges.due("seatAnew() of nine behind a word", z.seatAnew(), 9);
        for (int seat = 0; seat < 9; seat++) {
            edges.due("at(" + seat + ")", z.at(seat), seat < 8 ? seat + 1 : 0);
        }
    }

    private void fewerCupsThen() {
        edges.sentence("Settings", "of as long ones the one with fewer cups comes first,");
        Supplier<TeaSeats> byOne = () -> Rooms.bowed(Rooms.offered(Rooms.of(30, 30), 1, 0, 1), 0, 1, 2);
        edges.due("cups of 0", byOne.get().of(0, 3), 1);
        edges.due("bows that 0 owes", byOne.get().of(0, 6), 0);
        edges.unchanged("ranked(0) by one cup", byOne, x -> x.ranked(0), 1);
        edges.changed("seatAnew() by one cup", byOne, x -> x.seatAnew(), 2);
        Supplier<TeaSeats> asMany = () -> Rooms.bowed(Rooms.offered(byOne.get(), 0, 1, 1), 1, 0, 2);
        edges.due("cups of 1", asMany.get().of(1, 3), 1);
        edges.unchanged("ranked(0) with as many cups", asMany, x -> x.ranked(0), 0);
        // Of fewer cups and more bows the cups are looked at first.
        TeaSeats x = Rooms.bowed(Rooms.offered(Rooms.of(30, 30), 1, 0, 2), 0, 1, 4);
        x.offer(0, 1);
        edges.due("bows that 1 owes", x.of(1, 6), 2);
        edges.due("bows that 0 owes", x.of(0, 6), 0);
        edges.due("ranked(0) with a cup less and two bows more", x.ranked(0), 1);
    }

    private void fewerBowsThen() {
        edges.sentence("Settings", "then the one who owes fewer bows,");
        Supplier<TeaSeats> alike = () -> Rooms.offered(Rooms.offered(Rooms.of(30, 30, 30), 2, 0, 1), 2, 1, 1);
        edges.unchanged("ranked(1) with as many bows", alike, x -> x.ranked(1), 0);
        Supplier<TeaSeats> byOne = () -> Rooms.bowed(alike.get(), 1, 2, 1);
        edges.unchanged("ranked(1) by one bow", byOne, x -> x.ranked(1), 1);
        edges.unchanged("ranked(2) by one bow", byOne, x -> x.ranked(2), 0);
        edges.changed("seatAnew() by one bow", byOne, x -> x.seatAnew(), 2);
        // All together count: 0 owes 2 and 3 one bow each, and 1 owes 2 three.
        TeaSeats x = Rooms.of(30, 30, 30, 30);
        x.offer(2, 0);
        x.offer(3, 0);
        x.offer(2, 1);
        x.offer(2, 1);
        x.bow(0, 2);
        x.bow(0, 3);
        x.bow(1, 2);
        edges.due("bows that 0 owes", x.of(0, 6), 2);
        edges.due("bows that 1 owes", x.of(1, 6), 3);
        edges.due("of(0, 9)", x.of(0, 9), 2);
        edges.due("of(1, 9)", x.of(1, 9), 3);
        x.bow(1, 2);
        x.bow(1, 2);
        edges.due("of(0, 9)", x.of(0, 9), 3);
        edges.due("of(1, 9)", x.of(1, 9), 2);
    }

    private void nearerSeatThen() {
        edges.sentence("Settings", "then the one who sat nearer.");
        edges.changed("seatAnew() of nine alike", Rooms::ofNine, x -> x.seatAnew(), 0);
        // 1 sits nearer than 0, who has the lower number.
        TeaSeats x = Rooms.of(30, 30);
        x.breathe(1);
        x.word(0);
        x.seatAnew();
        x.word(1);
        edges.due("ranked(0) of two alike", x.ranked(0), 1);
        edges.due("ranked(1) of two alike", x.ranked(1), 0);
        edges.due("seatAnew() of two alike", x.seatAnew(), 0);
        edges.due("at(0)", x.at(0), 1);
    }

    private void silenceGrows() {
        edges.sentence("Breaths", "In a breath, the silence of each guest is 1 more.");
        TeaSeats x = Rooms.ofNine();
        x.breathe(1);
        for (int guest = 0; guest < 9; guest++) {
            edges.due("the silence of " + guest, x.of(guest, 2), 1);
        }
        x.word(3);
        x.breathe(1);
        for (int guest = 0; guest < 9; guest++) {
            edges.due("the silence of " + guest, x.of(guest, 2), guest == 3 ? 1 : 2);
        }
        // In sips, too, also the silence of the one who drinks.
        x.offer(0, 1);
        edges.due("the silence of 1", x.of(1, 2), 4);
        edges.due("the silence of 8", x.of(8, 2), 4);
        x.leave(8);
        x.breathe(1);
        x.guest(30);
        edges.due("the silence of one who came now", x.of(8, 2), 0);
    }

    private void sighs() {
        edges.sentence("Breaths",
            "One whose silence is LONG times the patience then, or more, sighs: the silence is the patience "
            + "then, and that is a sigh.");
        Supplier<TeaSeats> near = () -> Rooms.breathed(Rooms.of(4), 10);
        edges.changed("breathe(1) up to 11 of 12", near, x -> x.breathe(1), 0);
        edges.changed("breathe(2) up to 12 of 12", near, x -> x.breathe(2), 1);
        TeaSeats x = near.get();
        x.breathe(2);
        edges.due("the silence behind a sigh", x.of(0, 2), 4);
        edges.due("sighs", x.of(0, 4), 1);
        edges.due("breathe(7) up to 11", x.breathe(7), 0);
        edges.due("breathe(1) up to 12", x.breathe(1), 1);
        // 'Or more': the silence is above the bound since LONG is less, and is looked at with the next breath.
        TeaSeats y = near.get();
        y.set(TeaSeats.LONG, 1);
        edges.due("the silence behind set()", y.of(0, 2), 10);
        edges.due("sighs behind set()", y.of(0, 4), 0);
        edges.due("breathe(1) above the bound", y.breathe(1), 1);
        edges.due("the silence", y.of(0, 2), 4);
        // With LONG 1 the silence is the bound again: each breath is a sigh.
        edges.due("breathe(99) with LONG 1", y.breathe(99), 99);
        edges.due("the silence", y.of(0, 2), 4);
        // 'Then' is behind the breath: 1 more would be the bound, 2 more would be above it.
        TeaSeats z = near.get();
        z.set(TeaSeats.LONG, 2);
        z.word(0);
        edges.due("breathe(7) up to 7 of 8", z.breathe(7), 0);
        edges.due("breathe(1) up to 8 of 8", z.breathe(1), 1);
        z.set(TeaSeats.LONG, 9);
        edges.due("breathe(31) up to 35 of 36", z.breathe(31), 0);
        edges.due("breathe(1) up to 36 of 36", z.breathe(1), 1);
    }

    private void breathsAreCounted() {
        edges.sentence("Breaths", "Then the breath is counted (0 at first).");
        edges.due("breaths of a new object", new TeaSeats().count(0), 0);
        TeaSeats x = Rooms.empty();
        x.breathe(1);
        edges.due("breaths without a guest", x.count(0), 1);
        x.breathe(99);
        edges.due("breaths", x.count(0), 100);
        x.guest(30);
        x.guest(30);
        x.offer(0, 1);
        edges.due("breaths behind a cup", x.count(0), 102);
        x.round();
        edges.due("breaths behind a round", x.count(0), 106);
    }

    private void cupGoesAsGuestsSit() {
        edges.sentence("Rounds",
            "In a round the cup goes from seat to seat, from 0 on, as the guests sit at its beginning.");
        // 0 sighs in the first sip, and so has the shortest silence behind it: the cup goes to 1 and 2 as they sit.
        TeaSeats x = Rooms.breathed(Rooms.of(2, 30, 30), 4);
        edges.due("round()", x.round(), 3);
        edges.due("0 owes", x.of(0, 6), 0);
        edges.due("1 owes 0", x.owes(1, 0), 1);
        edges.due("2 owes 1", x.owes(2, 1), 1);
        edges.due("at(0)", x.at(0), 1);
        edges.due("at(2)", x.at(2), 0);
        // By seats, not by numbers, and not by ranks: 1, 2, 0 sit so, and 2, 0, 1 would be seated so.
        x.word(1);
        x.breathe(1);
        edges.due("ranked(0)", x.ranked(0), 2);
        edges.due("round()", x.round(), 3);
        edges.due("1 owes", x.of(1, 6), 1);
        edges.due("2 owes 1", x.owes(2, 1), 2);
        edges.due("0 owes 2", x.owes(0, 2), 1);
    }

    private void passedBy() {
        edges.sentence("Rounds",
            "A guest is passed by, the first of these being the reason: 1 the guest has drunk CUPS cups, or "
            + "more; 2 the guest owes DEBT bows, all together, or more.");
        // 0 has one cup, and owes 1 two bows.
        int[][] limits = {{2, 3, 0}, {2, 2, 2}, {2, 1, 2}, {1, 3, 1}, {1, 2, 1}, {1, 1, 1}};
        for (int[] limit : limits) {
            Supplier<TeaSeats> room = () -> {
                TeaSeats x = Rooms.offered(Rooms.of(30, 30), 1, 0, 1);
                x.set(TeaSeats.CUPS, limit[0]);
                x.set(TeaSeats.DEBT, limit[1]);
                return x;
            };
            String with = " with CUPS " + limit[0] + " and DEBT " + limit[1];
            edges.unchanged("why(0)" + with, room, x -> x.why(0), limit[2]);
            edges.changed("round()" + with, room, x -> x.round(), limit[2] == 0 ? 2 : 1);
        }
        // 'Or more': two cups with CUPS 1.
        TeaSeats x = drunk(9, 2);
        x.set(TeaSeats.CUPS, 1);
        edges.due("why(0) with more cups", x.why(0), 1);
        // All together: one bow to each of two.
        TeaSeats y = Rooms.of(30, 30, 30);
        y.offer(1, 0);
        y.offer(2, 0);
        y.bow(0, 1);
        y.bow(0, 2);
        y.set(TeaSeats.DEBT, 2);
        edges.due("why(0) with one bow to each of two", y.why(0), 2);
        y.bow(0, 2);
        edges.due("why(0) with one bow", y.why(0), 0);
    }

    private void looksAsTheCupComes() {
        edges.sentence("Rounds", "(Debts and cups are looked at as the cup comes there.)");
        // All would be passed by behind the round, but none is as the cup comes.
        TeaSeats x = Rooms.ofNine();
        x.set(TeaSeats.DEBT, 1);
        x.set(TeaSeats.CUPS, 1);
        edges.due("round()", x.round(), 9);
        edges.due("who would be passed by then", x.count(12), 511);
        edges.due("round() again", x.round(), 0);
        TeaSeats y = Rooms.ofNine();
        y.set(TeaSeats.DEBT, 1);
        edges.due("round()", y.round(), 9);
        edges.due("who would be passed by then", y.count(12), 510);
        edges.due("round() again", y.round(), 1);
    }

    private void drinksAndOwes() {
        edges.sentence("Rounds",
            "Otherwise the guest drinks a cup, which takes SIP breaths; and then owes a bow to the guest who "
            + "drank last ahead of that in this round, if there is one.");
        TeaSeats one = Rooms.of(30);
        edges.due("round() of one", one.round(), 1);
        edges.due("bows of the only one", one.count(8), 0);
        edges.due("round() of one again", one.round(), 1);
        edges.due("bows of the only one", one.count(8), 0);
        edges.due("cups of the only one", one.of(0, 3), 2);
        edges.due("breaths", one.count(0), 4);
        // In the middle one is passed by, and then the first: the last who drank counts, in this round.
        TeaSeats x = Rooms.of(30, 30, 30);
        x.set(TeaSeats.DEBT, 2);
        x.offer(0, 1);
        edges.due("round() without 1", x.round(), 2);
        edges.due("at(1)", x.at(1), 2);
        edges.due("0 owes", x.of(0, 6), 0);
        edges.due("2 owes 0", x.owes(2, 0), 1);
        edges.due("2 owes 1", x.owes(2, 1), 0);
        edges.due("1 owes 0 as before", x.owes(1, 0), 2);
        edges.due("1 owes 2", x.owes(1, 2), 0);
        TeaSeats y = Rooms.of(30, 30, 30);
        y.set(TeaSeats.DEBT, 2);
        y.offer(2, 0);
        edges.due("round() without 0", y.round(), 2);
        edges.due("1 owes", y.of(1, 6), 0);
        edges.due("2 owes 1", y.owes(2, 1), 1);
        TeaSeats nine = Rooms.ofNine();
        edges.due("round() of nine", nine.round(), 9);
        edges.due("breaths", nine.count(0), 18);
        for (int guest = 0; guest < 9; guest++) {
            edges.due("bows of " + guest, nine.of(guest, 6), guest == 0 ? 0 : 1);
            edges.due("bows to " + guest, nine.of(guest, 7), guest == 8 ? 0 : 1);
            edges.due("cups of " + guest, nine.of(guest, 3), 1);
        }
    }

    private void seatedAtTheEnd() {
        edges.sentence("Rounds", "At the end all are seated anew, and the round is counted.");
        edges.due("rounds of a new object", new TeaSeats().count(2), 0);
        TeaSeats x = Rooms.of(30, 30);
        x.breathe(1);
        x.word(0);
        edges.due("round()", x.round(), 2);
        edges.due("at(0)", x.at(0), 1);
        edges.due("rounds", x.count(2), 1);
        // Also if nobody drinks.
        x.set(TeaSeats.CUPS, 1);
        x.word(1);
        edges.due("round() in which nobody drinks", x.round(), 0);
        edges.due("at(0)", x.at(0), 0);
        edges.due("rounds", x.count(2), 2);
        // The cups and bows of the round itself are looked at: 1 is passed by, and so has fewer cups than 0 then.
        TeaSeats y = Rooms.of(30, 30, 30);
        y.offer(2, 1);
        y.set(TeaSeats.DEBT, 2);
        y.round();
        edges.due("cups of 0", y.of(0, 3), 1);
        y.round();
        edges.due("at(0) of as long ones", y.at(0), 1);
    }
}
