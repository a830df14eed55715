import java.util.function.Supplier;

/** The edges that promises 11 to 16 name. */
final class EdgesOfQueries {
    private static final int NO_SUCH = -1, BAD_VALUE = -2;
    private static final int MIN = Integer.MIN_VALUE, MAX = Integer.MAX_VALUE;
    private static final int[] NO_GUESTS = {-1, -2, 9, 10, 80, 81, MIN, MAX};

    private final Edges edges;

    EdgesOfQueries(Edges edges) {
        this.edges = edges;
    }

    void look() {
        ofEachFact();
        ofCountsAllTogether();
        ofTheRankNow();
        ofNone();
        ofNoFact();
        owesOneAnother();
        owesOfNone();
        owesOneself();
        atEachSeat();
        atNoSeat();
        rankedFromTheNearest();
        rankedBeyondTheLast();
        silentForSoLong();
        silentBelow0();
        countOfBreathsGuestsAndRounds();
        countOfCups();
        countOfBows();
        countOfWordsAndSighs();
        countOfSets();
        countOfSettings();
        countOfThePad();
        countOfChanges();
        countOfNothing();
    }

    private void ofEachFact() {
        edges.sentence("Promise 11",
            "`int of(int guest, int what)`: Returns something about a guest. - `what`: 0 the seat, 1 the "
            + "patience, 2 the silence, 3 cups, 4 sighs, 5 words,");
        int[][] due = {{0, 4, 11, 2, 1, 0}, {1, 10, 19, 1, 0, 0}, {3, 2, 3, 2, 4, 0}, {2, 30, 4, 1, 0, 1}};
        for (int guest = 0; guest < due.length; guest++) {
            for (int what = 0; what < due[guest].length; what++) {
                int which = guest;
                int fact = what;
                edges.unchanged("of(" + guest + ", " + what + ")", Rooms::lived, x -> x.of(which, fact), due[guest][what]);
            }
        }
        int[] ninth = {8, 30, 0, 0, 0, 0, 0, 0, 0, 8};
        for (int what = 0; what < ninth.length; what++) {
            edges.due("of(8, " + what + ") of nine", Rooms.ofNine().of(8, what), ninth[what]);
        }
    }

    private void ofCountsAllTogether() {
        edges.sentence("Promise 11",
            "6 bows that are owed, 7 that others owe to the guest, all together, 8 bows made so far,");
        int[][] due = {{2, 0, 0}, {0, 3, 1}, {3, 1, 0}, {1, 2, 0}};
        for (int guest = 0; guest < due.length; guest++) {
            for (int what = 6; what <= 8; what++) {
                int which = guest;
                int fact = what;
                edges.unchanged("of(" + guest + ", " + what + ")", Rooms::lived, x -> x.of(which, fact), due[guest][what - 6]);
            }
        }
        // One who owes each of the others, and one whom all others owe.
        TeaSeats x = Rooms.ofNine();
        x.set(TeaSeats.DEBT, 20);
        for (int other = 1; other < 9; other++) {
            x.offer(other, 0);
        }
        edges.due("bows that 0 owes all others", x.of(0, 6), 16);
        edges.due("bows that others owe 0", x.of(0, 7), 0);
        edges.due("bows that others owe 8", x.of(8, 7), 2);
        TeaSeats y = Rooms.ofNine();
        for (int other = 0; other < 8; other++) {
            y.offer(8, other);
        }
        edges.due("bows that all others owe 8", y.of(8, 7), 16);
        edges.due("bows that 8 owes", y.of(8, 6), 0);
        // Bows that were made so far stay when the one to whom they were made leaves.
        y.bow(0, 8);
        y.bow(0, 8);
        y.bow(1, 8);
        y.leave(8);
        edges.due("bows of 0", y.of(0, 8), 2);
        edges.due("bows of 1", y.of(1, 8), 1);
    }

    private void ofTheRankNow() {
        edges.sentence("Promise 11", "9 the rank by which the guest would be seated now Returns the number;");
        int[] due = {1, 0, 3, 2};
        for (int guest = 0; guest < 4; guest++) {
            int which = guest;
            edges.unchanged("of(" + guest + ", 9)", Rooms::lived, x -> x.of(which, 9), due[guest]);
        }
        edges.due("of(0, 9) of one", Rooms.of(5).of(0, 9), 0);
        TeaSeats x = Rooms.ofNine();
        x.breathe(1);
        x.word(0);
        edges.due("of(0, 9) of nine", x.of(0, 9), 8);
        edges.due("of(0, 0) of nine", x.of(0, 0), 0);
        edges.due("of(8, 9) of nine", x.of(8, 9), 7);
    }

    private void ofNone() {
        edges.sentence("Promise 11", "NO_SUCH if there is no such guest;");
        edges.refused("of(4, 0) of four", Rooms::lived, x -> x.of(4, 0), NO_SUCH);
        edges.refused("of(4, -1) of four", Rooms::lived, x -> x.of(4, -1), NO_SUCH);
        edges.refused("of(4, 10) of four", Rooms::lived, x -> x.of(4, 10), NO_SUCH);
        edges.refused("of(0, 0) of none", Rooms::empty, x -> x.of(0, 0), NO_SUCH);
        for (int guest : NO_GUESTS) {
            for (int what : new int[] {-1, 0, 6, 7, 9, 10}) {
                edges.due("of(" + guest + ", " + what + ")", Rooms.ofNine().of(guest, what), NO_SUCH);
            }
            edges.refused("of(" + guest + ", 0)", Rooms::ofNine, x -> x.of(guest, 0), NO_SUCH);
        }
    }

    private void ofNoFact() {
        edges.sentence("Promise 11", "BAD_VALUE if what is out of range.");
        for (int what : new int[] {-1, 10, -2, 11, MIN, MAX}) {
            edges.refused("of(0, " + what + ")", Rooms::lived, x -> x.of(0, what), BAD_VALUE);
            edges.refused("of(8, " + what + ")", Rooms::ofNine, x -> x.of(8, what), BAD_VALUE);
        }
        edges.unchanged("of(0, 0)", Rooms::lived, x -> x.of(0, 0), 0);
        edges.unchanged("of(0, 9)", Rooms::lived, x -> x.of(0, 9), 1);
    }

    private void owesOneAnother() {
        edges.sentence("Promise 12",
            "`int owes(int guest, int other)`: Returns how many bows a guest owes another one. Returns how many;");
        int[][] due = {{BAD_VALUE, 0, 0, 2}, {0, BAD_VALUE, 0, 0}, {0, 3, BAD_VALUE, 0}, {0, 0, 1, BAD_VALUE}};
        for (int pair = 0; pair < 16; pair++) {
            int guest = pair / 4;
            int other = pair % 4;
            edges.unchanged("owes(" + guest + ", " + other + ")", Rooms::lived, x -> x.owes(guest, other), due[guest][other]);
        }
        TeaSeats x = Rooms.ofNine();
        x.offer(8, 0);
        x.offer(7, 8);
        edges.due("owes(0, 8)", x.owes(0, 8), 2);
        edges.due("owes(8, 0)", x.owes(8, 0), 0);
        edges.due("owes(8, 7)", x.owes(8, 7), 2);
    }

    private void owesOfNone() {
        edges.sentence("Promise 12", "NO_SUCH if there is no such guest;");
        edges.refused("owes(0, 4) of four", Rooms::lived, x -> x.owes(0, 4), NO_SUCH);
        edges.refused("owes(4, 0) of four", Rooms::lived, x -> x.owes(4, 0), NO_SUCH);
        edges.refused("owes(4, 4) of four", Rooms::lived, x -> x.owes(4, 4), NO_SUCH);
        for (int guest : NO_GUESTS) {
            edges.refused("owes(0, " + guest + ")", Rooms::ofNine, x -> x.owes(0, guest), NO_SUCH);
            edges.refused("owes(" + guest + ", 0)", Rooms::ofNine, x -> x.owes(guest, 0), NO_SUCH);
            edges.refused("owes(" + guest + ", " + guest + ")", Rooms::ofNine, x -> x.owes(guest, guest), NO_SUCH);
        }
    }

    private void owesOneself() {
        edges.sentence("Promise 12", "BAD_VALUE if both are the same.");
        for (int guest : new int[] {0, 1, 8}) {
            edges.refused("owes(" + guest + ", " + guest + ")", Rooms::ofNine, x -> x.owes(guest, guest), BAD_VALUE);
        }
    }

    private void atEachSeat() {
        edges.sentence("Promise 13", "`int at(int seat)`: Returns the guest in a seat. Returns the guest;");
        int[] due = {0, 1, 3, 2};
        for (int seat = 0; seat < due.length; seat++) {
            int which = seat;
            edges.unchanged("at(" + seat + ")", Rooms::lived, x -> x.at(which), due[seat]);
        }
        edges.unchanged("at(8) of nine", Rooms::ofNine, x -> x.at(8), 8);
    }

    private void atNoSeat() {
        edges.sentence("Promise 13", "NO_SUCH if there is no such seat.");
        edges.refused("at(0) of none", Rooms::empty, x -> x.at(0), NO_SUCH);
        edges.refused("at(1) of one", () -> Rooms.of(5), x -> x.at(1), NO_SUCH);
        edges.refused("at(4) of four", Rooms::lived, x -> x.at(4), NO_SUCH);
        for (int seat : NO_GUESTS) {
            edges.refused("at(" + seat + ")", Rooms::ofNine, x -> x.at(seat), NO_SUCH);
        }
        // A seat goes with the one who leaves, not a number: of four two seats are left.
        TeaSeats x = Rooms.of(5, 5, 5, 5);
        x.leave(0);
        x.leave(1);
        edges.due("at(1)", x.at(1), 3);
        edges.due("at(2)", x.at(2), NO_SUCH);
    }

    private void rankedFromTheNearest() {
        edges.sentence("Promise 14",
            "`int ranked(int rank)`: Returns the guest with a rank, if all were seated anew now. - `rank`: 0 for "
            + "the nearest seat Returns the guest;");
        int[] due = {1, 0, 3, 2};
        for (int rank = 0; rank < due.length; rank++) {
            int which = rank;
            edges.unchanged("ranked(" + rank + ")", Rooms::lived, x -> x.ranked(which), due[rank]);
        }
        edges.unchanged("ranked(8) of nine", Rooms::ofNine, x -> x.ranked(8), 8);
    }

    private void rankedBeyondTheLast() {
        edges.sentence("Promise 14", "NO_SUCH if there are not so many.");
        edges.refused("ranked(0) of none", Rooms::empty, x -> x.ranked(0), NO_SUCH);
        edges.unchanged("ranked(0) of one", () -> Rooms.of(5), x -> x.ranked(0), 0);
        edges.refused("ranked(1) of one", () -> Rooms.of(5), x -> x.ranked(1), NO_SUCH);
        edges.refused("ranked(4) of four", Rooms::lived, x -> x.ranked(4), NO_SUCH);
        for (int rank : NO_GUESTS) {
            edges.refused("ranked(" + rank + ")", Rooms::ofNine, x -> x.ranked(rank), NO_SUCH);
        }
    }

    private void silentForSoLong() {
        edges.sentence("Promise 15",
            "`int silent(int breaths)`: Returns how many guests have a silence of some breaths, or more. - "
            + "`breaths`: 0 or more Returns how many;");
        // The silences are 11, 19, 3 and 4.
        int[] breaths = {0, 3, 4, 5, 11, 12, 19, 20, MAX};
        int[] due = {4, 4, 3, 2, 2, 1, 1, 0, 0};
        for (int index = 0; index < breaths.length; index++) {
            int many = breaths[index];
            edges.unchanged("silent(" + many + ")", Rooms::lived, x -> x.silent(many), due[index]);
        }
        edges.unchanged("silent(0) of nine without silence", Rooms::ofNine, x -> x.silent(0), 9);
        edges.unchanged("silent(1) of nine without silence", Rooms::ofNine, x -> x.silent(1), 0);
        edges.unchanged("silent(0) of none", Rooms::empty, x -> x.silent(0), 0);
        edges.unchanged("silent(0) of the least patience", () -> Rooms.of(1, 1), x -> x.silent(0), 2);
        edges.unchanged("silent(1) of the least patience", () -> Rooms.breathed(Rooms.of(1, 1), 1), x -> x.silent(1), 2);
    }

    private void silentBelow0() {
        edges.sentence("Promise 15", "BAD_VALUE if breaths is below 0.");
        for (int breaths : new int[] {-1, -2, MIN}) {
            edges.refused("silent(" + breaths + ")", Rooms::lived, x -> x.silent(breaths), BAD_VALUE);
            edges.refused("silent(" + breaths + ") of none", TeaSeats::new, x -> x.silent(breaths), BAD_VALUE);
        }
        edges.unchanged("silent(0)", Rooms::lived, x -> x.silent(0), 4);
    }

    /** Some of the numbers of the room that all looks begin with, and that none of them changes. */
    private void lived(int first, int... due) {
        for (int index = 0; index < due.length; index++) {
            int what = first + index;
            edges.unchanged("count(" + what + ")", Rooms::lived, x -> x.count(what), due[index]);
        }
    }

    private void countOfBreathsGuestsAndRounds() {
        edges.sentence("Promise 16",
            "`int count(int what)`: Returns a number. - `what`: 0 breaths so far, 1 guests, 2 rounds so far,");
        lived(0, 19, 4, 1);
        TeaSeats x = Rooms.lived();
        for (int guest = 0; guest < 4; guest++) {
            x.leave(guest);
            edges.due("guests", x.count(1), 3 - guest);
        }
        edges.due("breaths behind all", x.count(0), 19);
        edges.due("rounds behind all", x.count(2), 1);
        edges.due("guests of nine", Rooms.ofNine().count(1), 9);
        edges.due("breaths at the bound", Rooms.late(9999).count(0), 9999);
    }

    private void countOfCups() {
        edges.sentence("Promise 16", "3 cups so far,");
        lived(3, 6);
        TeaSeats x = Rooms.lived();
        x.leave(0);
        x.leave(2);
        edges.due("cups so far of those who left, too", x.count(3), 6);
        edges.due("round() of two", x.round(), 2);
        edges.due("cups so far", x.count(3), 8);
        x.undo();
        edges.due("cups so far behind undo()", x.count(3), 6);
    }

    private void countOfBows() {
        edges.sentence("Promise 16",
            "4 bows that are owed, 5 made, 6 lost, 7 set off so far (each one of two), 8 bows that were laid on "
            + "guests so far,");
        lived(4, 6, 1, 0, 0, 7);
        TeaSeats x = Rooms.lived();
        // 3 owes 0 two more then, as 0 owes 3 two: two of each are set off, each one counts.
        x.offer(0, 3);
        int[] behindOffer = {4, 1, 0, 4, 9};
        // 2 owes 1 three, and 3 owes 2 one.
        x.leave(2);
        int[] behindLeave = {0, 1, 4, 4, 9};
        TeaSeats y = Rooms.lived();
        y.offer(0, 3);
        for (int what = 4; what <= 8; what++) {
            edges.due("count(" + what + ") behind a cup", y.count(what), behindOffer[what - 4]);
            edges.due("count(" + what + ") behind a leave", x.count(what), behindLeave[what - 4]);
            edges.due("count(" + what + ") of nobody", new TeaSeats().count(what), 0);
        }
        // What was laid is owed, made, lost or set off; those who made bows may leave.
        x.leave(1);
        edges.due("made so far by those who left, too", x.count(5), 1);
        edges.due("laid so far", x.count(8), x.count(4) + x.count(5) + x.count(6) + x.count(7));
        // Set off one for one: two for each pair.
        TeaSeats z = Rooms.bowed(Rooms.offered(Rooms.of(30, 30), 1, 0, 1), 0, 1, 1);
        z.offer(0, 1);
        edges.due("set off of one pair", z.count(7), 2);
        // 1 owes 0 one bow more: of the next two that 0 owes it is set off, and so on.
        z.offer(1, 0);
        edges.due("set off so far, of two pairs", z.count(7), 4);
        z.offer(0, 1);
        edges.due("set off so far, of three pairs", z.count(7), 6);
    }

    private void countOfWordsAndSighs() {
        edges.sentence("Promise 16", "9 words, 10 sighs so far,");
        lived(9, 1, 5);
        TeaSeats x = Rooms.lived();
        for (int guest = 0; guest < 4; guest++) {
            x.leave(guest);
        }
        edges.due("words of those who left, too", x.count(9), 1);
        edges.due("sighs of those who left, too", x.count(10), 5);
    }

    private void countOfSets() {
        edges.sentence("Promise 16", "11 guests, as a set, 12 those who would be passed by now, as a set,");
        lived(11, 15, 5);
        TeaSeats x = Rooms.lived();
        x.leave(0);
        edges.due("guests", x.count(11), 14);
        edges.due("those who would be passed by", x.count(12), 4);
        x.set(TeaSeats.DEBT, 3);
        edges.due("those who would be passed by at the bound", x.count(12), 4);
        x.set(TeaSeats.DEBT, 4);
        edges.due("those who would be passed by below the bound", x.count(12), 0);
        x.set(TeaSeats.CUPS, 2);
        edges.due("those who would be passed by for two cups", x.count(12), 4);
        x.set(TeaSeats.CUPS, 1);
        edges.due("those who would be passed by for one cup", x.count(12), 14);
        edges.due("guests of nine", Rooms.ofNine().count(11), 511);
        TeaSeats y = Rooms.of(1, 1);
        y.set(TeaSeats.DEBT, 1);
        y.round();
        edges.due("guests of the least patience", y.count(11), 3);
        edges.due("those of the least patience who would be passed by", y.count(12), 2);
        edges.due("nobody", Rooms.empty().count(11) + Rooms.empty().count(12), 0);
    }

    private void countOfSettings() {
        edges.sentence("Promise 16", "13 to 16 the settings,");
        lived(13, 2, 2, 9, 4);
        TeaSeats x = new TeaSeats();
        for (int setting = 0; setting < 4; setting++) {
            x.set(setting, 6 + setting % 3);
        }
        for (int setting = 0; setting < 4; setting++) {
            edges.due("count(" + (13 + setting) + ")", x.count(13 + setting), 6 + setting % 3);
        }
    }

    private void countOfThePad() {
        edges.sentence("Promise 16", "17 the length of the pad,");
        lived(17, Rooms.TEXT.length());
        TeaSeats x = new TeaSeats();
        edges.due("the length of an empty pad", x.count(17), 0);
        for (int length = 1; length <= 80; length++) {
            x.put(length % 2 == 1 ? 'r' : ';');
            edges.due("the length of the pad", x.count(17), length);
        }
        x.put('r');
        edges.due("the length of a full pad", x.count(17), 80);
        x.wipe();
        edges.due("the length behind wipe()", x.count(17), 0);
    }

    private void countOfChanges() {
        edges.sentence("Promise 16", "18 how many changes can be undone Returns the number;");
        lived(18, 6);
        TeaSeats x = new TeaSeats();
        for (int changes = 1; changes <= 9; changes++) {
            x.seatAnew();
            edges.due("changes behind " + changes, x.count(18), Math.min(changes, 6));
        }
        for (int left = 5; left >= 0; left--) {
            x.undo();
            edges.due("changes left", x.count(18), left);
        }
        x.undo();
        edges.due("changes left behind a refused undo()", x.count(18), 0);
    }

    private void countOfNothing() {
        edges.sentence("Promise 16", "BAD_VALUE if what is out of range.");
        Supplier<TeaSeats> lived = Rooms::lived;
        for (int what : new int[] {-1, 19, -2, 20, MIN, MAX, MIN + 13, MAX - 13}) {
            edges.refused("count(" + what + ")", lived, x -> x.count(what), BAD_VALUE);
            edges.refused("count(" + what + ") of a new object", TeaSeats::new, x -> x.count(what), BAD_VALUE);
        }
        edges.unchanged("count(0)", lived, x -> x.count(0), 19);
        edges.unchanged("count(18)", lived, x -> x.count(18), 6);
    }
}
