import java.util.List;
import java.util.function.Supplier;
import java.util.function.ToIntFunction;

/** The edges that promises 17 to 21 name, and those of their common sentence. */
final class EdgesOfWhatIfs {
    private static final int NO_SUCH = -1, BAD_VALUE = -2, NOT_POSSIBLE = -5, NONE = -6;
    private static final int MIN = Integer.MIN_VALUE, MAX = Integer.MAX_VALUE;
    private static final int[] NO_GUESTS = {-1, -2, 9, 10, 80, 81, MIN, MAX};

    private final Edges edges;

    EdgesOfWhatIfs(Edges edges) {
        this.edges = edges;
    }

    void look() {
        nothingChanges();
        whyAtTheBounds();
        whyOfNone();
        seatedInNoBreath();
        seatedInANearerSeat();
        seatedInForEachGuest();
        seatedInOfNone();
        seatedInOfNoSeat();
        seatedInWithin300();
        ifWordAtTheBounds();
        ifWordOfNone();
        ifRoundCounts();
        ifRoundOfNoQuestion();
        ifRoundWithoutGuests();
        canLeadAsASet();
        canLeadWithin100();
    }

    private void nothingChanges() {
        edges.sentence("Texts",
            "Ahead of the calls `why`, `seatedIn`, `ifWord`, `ifRound`, `canLead` the interface says: ---- what "
            + "if; nothing changes (the bound of breaths does not matter).");
        // Guests who come with, or a little ahead of, the last breath answer as they would with the first one.
        for (int ahead : new int[] {0, 1, 20}) {
            Supplier<TeaSeats> early = () -> grown(0, ahead);
            Supplier<TeaSeats> late = () -> grown(9999 - ahead, ahead);
            edges.due("breaths", late.get().count(0), 9999);
            for (int guest = 0; guest < 3; guest++) {
                int who = guest;
                alike("why(" + guest + ")", early, late, x -> x.why(who));
                alike("ifWord(" + guest + ")", early, late, x -> x.ifWord(who));
                alike("ifRound(" + guest + ")", early, late, x -> x.ifRound(who));
                for (int seat = 0; seat < 3; seat++) {
                    int wanted = seat;
                    alike("seatedIn(" + guest + ", " + seat + ")", early, late, x -> x.seatedIn(who, wanted));
                }
            }
            alike("canLead()", early, late, x -> x.canLead());
        }
        Supplier<TeaSeats> last = () -> grown(9999, 0);
        edges.refused("round() at 9999", last, x -> x.round(), NOT_POSSIBLE);
        edges.unchanged("ifRound(0) at 9999", last, x -> x.ifRound(0), 3);
        edges.unchanged("ifRound(1) at 9999", last, x -> x.ifRound(1), 6);
        edges.unchanged("ifRound(2) at 9999", last, x -> x.ifRound(2), 0);
        Supplier<TeaSeats> beyond = () -> grown(9901, 0);
        edges.refused("round() at 9901", beyond, x -> x.round(), NOT_POSSIBLE);
        edges.unchanged("ifRound(0) at 9901", beyond, x -> x.ifRound(0), 3);
    }

    /** Three guests who come behind some breaths, and are silent for others; 1 has spoken. */
    private static TeaSeats grown(int ahead, int silence) {
        TeaSeats x = Rooms.late(ahead, 4, 10, 7);
        if (silence > 0) {
            x.breathe(silence);
            x.word(1);
        }
        return x;
    }

    private void alike(String call, Supplier<TeaSeats> early, Supplier<TeaSeats> late, ToIntFunction<TeaSeats> ask) {
        edges.unchanged(call + " at 9999", late, ask, ask.applyAsInt(early.get()));
    }

    private void whyAtTheBounds() {
        edges.sentence("Promise 17",
            "`int why(int guest)`: Tells why a guest would be passed by now. Returns the reason, 1 or 2, or 0: "
            + "the guest would drink;");
        int[] due = {2, 0, 2, 0};
        for (int guest = 0; guest < 4; guest++) {
            int who = guest;
            edges.unchanged("why(" + guest + ")", Rooms::lived, x -> x.why(who), due[guest]);
        }
        // 0 and 2 have two cups, the others one; 0 owes two bows, 1 none, 2 three and 3 one.
        int[][] limits = {{3, 3}, {3, 4}, {3, 1}, {2, 3}, {2, 4}, {1, 1}, {1, 20}, {30, 20}};
        int[][] reasons = {
            {0, 0, 2, 0}, {0, 0, 0, 0}, {2, 0, 2, 2}, {1, 0, 1, 0}, {1, 0, 1, 0}, {1, 1, 1, 1}, {1, 1, 1, 1}, {0, 0, 0, 0},
        };
        for (int index = 0; index < limits.length; index++) {
            TeaSeats x = Rooms.lived();
            x.set(TeaSeats.CUPS, limits[index][0]);
            x.set(TeaSeats.DEBT, limits[index][1]);
            for (int guest = 0; guest < 4; guest++) {
                String with = " with CUPS " + limits[index][0] + " and DEBT " + limits[index][1];
                edges.due("why(" + guest + ")" + with, x.why(guest), reasons[index][guest]);
            }
        }
        // The bound of breaths for a cup is no reason to be passed by.
        edges.due("why(0) at 9999", Rooms.late(9999, 5).why(0), 0);
    }

    private void whyOfNone() {
        edges.sentence("Promise 17", "NO_SUCH if there is no such guest.");
        edges.refused("why(4) of four", Rooms::lived, x -> x.why(4), NO_SUCH);
        edges.refused("why(0) of none", Rooms::empty, x -> x.why(0), NO_SUCH);
        for (int guest : NO_GUESTS) {
            edges.refused("why(" + guest + ")", Rooms::ofNine, x -> x.why(guest), NO_SUCH);
        }
    }

    private void seatedInNoBreath() {
        edges.sentence("Promise 18",
            "`int seatedIn(int guest, int seat)`: Tells behind how many breaths, 0 or more, with no words, a "
            + "guest would get a seat,");
        Supplier<TeaSeats> one = () -> Rooms.of(5);
        edges.unchanged("seatedIn(0, 0) of one", one, x -> x.seatedIn(0, 0), 0);
        // 1 has the longer silence since the last breath, or with the next one.
        Supplier<TeaSeats> now = () -> afterWord(Rooms.of(30, 30), 0);
        edges.unchanged("seatedIn(1, 0) now", now, x -> x.seatedIn(1, 0), 0);
        edges.unchanged("seatedIn(0, 1) now", now, x -> x.seatedIn(0, 1), 0);
        edges.unchanged("seatedIn(0, 0)", now, x -> x.seatedIn(0, 0), firstBehind(now, 0, 0));
        // Patience 2 sighs with silence 6: with the next breath 0 has a silence of 2, and 1 of 6.
        Supplier<TeaSeats> next = () -> Rooms.breathed(Rooms.of(2, 30), 5);
        edges.unchanged("seatedIn(1, 0) with the next breath", next, x -> x.seatedIn(1, 0), 1);
        edges.unchanged("seatedIn(1, 1)", next, x -> x.seatedIn(1, 1), 0);
    }

    private static TeaSeats afterWord(TeaSeats x, int guest) {
        x.breathe(1);
        x.word(guest);
        return x;
    }

    private void seatedInANearerSeat() {
        edges.sentence("Promise 18", "or a nearer one, if all were seated anew. - `seat`: 0 or more Returns how many;");
        // 1 has the rank 0 now, and so each of the seats: a nearer one will do.
        Supplier<TeaSeats> nearer = () -> afterWord(Rooms.of(30, 30, 30), 0);
        edges.due("of(1, 9)", nearer.get().of(1, 9), 0);
        edges.unchanged("seatedIn(1, 0)", nearer, x -> x.seatedIn(1, 0), 0);
        edges.unchanged("seatedIn(1, 1)", nearer, x -> x.seatedIn(1, 1), 0);
        edges.unchanged("seatedIn(1, 2)", nearer, x -> x.seatedIn(1, 2), 0);
        // The seats as they are do not matter: 0 sits in the seat 0.
        edges.due("at(0)", nearer.get().at(0), 0);
        edges.due("seatedIn(0, 0) is not now", nearer.get().seatedIn(0, 0) == 0 ? 1 : 0, 0);
    }

    /** Behind how many breaths a guest would get a seat, found by breathing in rooms of their own; -6 if not within 300. */
    private static int firstBehind(Supplier<TeaSeats> room, int guest, int seat) {
        for (int breaths = 0; breaths <= 300; breaths++) {
            if (Rooms.breathed(room.get(), breaths).of(guest, 9) <= seat) {
                return breaths;
            }
        }
        return NONE;
    }

    private void seatedInForEachGuest() {
        edges.sentence("Promise 18", "Tells behind how many breaths, 0 or more, with no words,");
        for (Supplier<TeaSeats> room : List.<Supplier<TeaSeats>>of(Rooms::lived, () -> grown(0, 20), () -> grown(0, 5))) {
            int guests = room.get().count(1);
            for (int pair = 0; pair < guests * guests; pair++) {
                int guest = pair / guests;
                int seat = pair % guests;
                String call = "seatedIn(" + guest + ", " + seat + ")";
                edges.unchanged(call, room, x -> x.seatedIn(guest, seat), firstBehind(room, guest, seat));
            }
        }
    }

    private void seatedInOfNone() {
        edges.sentence("Promise 18", "NO_SUCH if there is no such guest,");
        edges.refused("seatedIn(4, 0) of four", Rooms::lived, x -> x.seatedIn(4, 0), NO_SUCH);
        edges.refused("seatedIn(4, 4) of four", Rooms::lived, x -> x.seatedIn(4, 4), NO_SUCH);
        edges.refused("seatedIn(0, 0) of none", Rooms::empty, x -> x.seatedIn(0, 0), NO_SUCH);
        for (int guest : NO_GUESTS) {
            edges.refused("seatedIn(" + guest + ", 8)", Rooms::ofNine, x -> x.seatedIn(guest, 8), NO_SUCH);
        }
    }

    private void seatedInOfNoSeat() {
        edges.sentence("Promise 18", "or seat;");
        edges.unchanged("seatedIn(0, 3) of four", Rooms::lived, x -> x.seatedIn(0, 3), 0);
        edges.refused("seatedIn(0, 4) of four", Rooms::lived, x -> x.seatedIn(0, 4), NO_SUCH);
        edges.refused("seatedIn(0, 1) of one", () -> Rooms.of(5), x -> x.seatedIn(0, 1), NO_SUCH);
        edges.unchanged("seatedIn(8, 8) of nine", Rooms::ofNine, x -> x.seatedIn(8, 8), 0);
        for (int seat : NO_GUESTS) {
            edges.refused("seatedIn(0, " + seat + ")", Rooms::ofNine, x -> x.seatedIn(0, seat), NO_SUCH);
        }
    }

    /** Guest 0 has some breaths ahead of guest 1, who takes the lead when 0 sighs, much later. */
    private static TeaSeats apart(int times, int patience, int breaths, int otherPatience) {
        TeaSeats x = Rooms.empty();
        x.set(TeaSeats.LONG, times);
        x.guest(patience);
        x.breathe(breaths);
        x.guest(otherPatience);
        return x;
    }

    private void seatedInWithin300() {
        edges.sentence("Promise 18", "NONE if it is not within 300.");
        Supplier<TeaSeats> at300 = () -> apart(4, 25, 25, 9);
        Supplier<TeaSeats> at301 = () -> apart(4, 25, 24, 9);
        edges.due("the first breath of the rooms", firstBehind(at300, 1, 0), 300);
        edges.due("the rank at 300", Rooms.breathed(at301.get(), 300).of(1, 9), 1);
        edges.due("the rank at 301", Rooms.breathed(at301.get(), 301).of(1, 9), 0);
        edges.unchanged("seatedIn(1, 0) at 300", at300, x -> x.seatedIn(1, 0), 300);
        edges.unchanged("seatedIn(1, 0) at 301", at301, x -> x.seatedIn(1, 0), NONE);
        edges.due("seatedIn(1, 0) one breath later", Rooms.breathed(at301.get(), 1).seatedIn(1, 0), 300);
        edges.due("seatedIn(1, 0) one breath later", Rooms.breathed(at300.get(), 1).seatedIn(1, 0), 299);
        edges.unchanged("seatedIn(8, 0) of nine alike", Rooms::ofNine, x -> x.seatedIn(8, 0), NONE);
    }

    private void ifWordAtTheBounds() {
        edges.sentence("Promise 19",
            "`int ifWord(int guest)`: Tells which rank a guest would have with a word now, if all were seated "
            + "anew then. Returns the rank;");
        edges.unchanged("ifWord(0) of one", () -> Rooms.of(5), x -> x.ifWord(0), 0);
        for (int guest : new int[] {0, 8}) {
            edges.unchanged("ifWord(" + guest + ") of nine", Rooms::ofNine, x -> x.ifWord(guest), guest);
        }
        edges.unchanged("ifWord(0) of nine behind a breath", () -> Rooms.breathed(Rooms.ofNine(), 1), x -> x.ifWord(0), 8);
        // Each of the others has a silence of some breaths: the one who speaks would be the last.
        for (int guest = 0; guest < 4; guest++) {
            int who = guest;
            edges.unchanged("ifWord(" + guest + ")", Rooms::lived, x -> x.ifWord(who), 3);
            TeaSeats x = Rooms.lived();
            x.word(guest);
            edges.due("the rank behind word(" + guest + ")", x.of(guest, 9), 3);
        }
        // Of two without silence the seats are looked at, or the cups.
        Supplier<TeaSeats> spoken = () -> afterWord(Rooms.of(30, 30, 30), 1);
        edges.unchanged("ifWord(0), as silent as 1, and nearer", spoken, x -> x.ifWord(0), 1);
        edges.unchanged("ifWord(2), as silent as 1, and farther", spoken, x -> x.ifWord(2), 2);
        Supplier<TeaSeats> withCup = () -> {
            TeaSeats x = Rooms.offered(Rooms.of(30, 30, 30), 2, 0, 1);
            x.word(1);
            return x;
        };
        edges.unchanged("ifWord(0), as silent as 1, with a cup more", withCup, x -> x.ifWord(0), 2);
    }

    private void ifWordOfNone() {
        edges.sentence("Promise 19", "NO_SUCH if there is no such guest.");
        edges.refused("ifWord(4) of four", Rooms::lived, x -> x.ifWord(4), NO_SUCH);
        edges.refused("ifWord(0) of none", Rooms::empty, x -> x.ifWord(0), NO_SUCH);
        for (int guest : NO_GUESTS) {
            edges.refused("ifWord(" + guest + ")", Rooms::ofNine, x -> x.ifWord(guest), NO_SUCH);
        }
    }

    private void ifRoundCounts() {
        edges.sentence("Promise 20",
            "`int ifRound(int what)`: Tells how many guests would drink in a round now, how long it would take, "
            + "or who would sit in the seat 0 behind it. - `what`: 0 how many drink, 1 how many breaths, 2 who "
            + "sits in the seat 0 then Returns the number;");
        asARound(() -> Rooms.of(5), 1, 2, 0);
        asARound(Rooms::ofNine, 9, 18, 0);
        asARound(Rooms::lived, 2, 4, 1);
        Supplier<TeaSeats> nobody = () -> {
            TeaSeats x = Rooms.lived();
            x.set(TeaSeats.CUPS, 1);
            return x;
        };
        asARound(nobody, 0, 0, 1);
        Supplier<TeaSeats> most = () -> {
            TeaSeats x = Rooms.ofNine();
            x.set(TeaSeats.SIP, 9);
            return x;
        };
        asARound(most, 9, 81, 0);
        // 0 sighs in the round, and so does not sit in the seat 0 behind it.
        asARound(() -> Rooms.breathed(Rooms.of(2, 30, 30), 4), 3, 6, 1);
    }

    private void asARound(Supplier<TeaSeats> room, int drinking, int breaths, int first) {
        edges.unchanged("ifRound(0)", room, x -> x.ifRound(0), drinking);
        edges.unchanged("ifRound(1)", room, x -> x.ifRound(1), breaths);
        edges.unchanged("ifRound(2)", room, x -> x.ifRound(2), first);
        TeaSeats x = room.get();
        int ahead = x.count(0);
        edges.due("round()", x.round(), drinking);
        edges.due("its breaths", x.count(0) - ahead, breaths);
        edges.due("at(0) behind it", x.at(0), first);
    }

    private void ifRoundOfNoQuestion() {
        edges.sentence("Promise 20", "BAD_VALUE if what is out of range;");
        for (int what : new int[] {-1, 3, -2, 4, MIN, MAX}) {
            edges.refused("ifRound(" + what + ")", Rooms::lived, x -> x.ifRound(what), BAD_VALUE);
            edges.refused("ifRound(" + what + ") of none", TeaSeats::new, x -> x.ifRound(what), BAD_VALUE);
        }
        edges.unchanged("ifRound(0)", Rooms::lived, x -> x.ifRound(0), 2);
        edges.unchanged("ifRound(2)", Rooms::lived, x -> x.ifRound(2), 1);
    }

    private void ifRoundWithoutGuests() {
        edges.sentence("Promise 20", "NOT_POSSIBLE if there is no guest.");
        for (int what = 0; what <= 2; what++) {
            int which = what;
            edges.refused("ifRound(" + what + ") of none", Rooms::empty, x -> x.ifRound(which), NOT_POSSIBLE);
            edges.refused("ifRound(" + what + ") of a new object", TeaSeats::new, x -> x.ifRound(which), NOT_POSSIBLE);
        }
        edges.unchanged("ifRound(0) of one", () -> Rooms.of(5), x -> x.ifRound(0), 1);
    }

    /** Those who have the rank 0 behind 0 to so many breaths, found by breathing in rooms of their own. */
    private static int leading(Supplier<TeaSeats> room, int most) {
        int leading = 0;
        for (int breaths = 0; breaths <= most; breaths++) {
            leading |= 1 << Rooms.breathed(room.get(), breaths).ranked(0);
        }
        return leading;
    }

    private void canLeadAsASet() {
        edges.sentence("Promise 21", "Returns the guests, as a set.");
        edges.unchanged("canLead() of none", Rooms::empty, x -> x.canLead(), 0);
        edges.unchanged("canLead() of one", () -> Rooms.of(5), x -> x.canLead(), 1);
        edges.unchanged("canLead() of nine alike", Rooms::ofNine, x -> x.canLead(), 1);
        edges.unchanged("canLead()", Rooms::lived, x -> x.canLead(), leading(Rooms::lived, 100));
        Supplier<TeaSeats> grown = () -> grown(0, 20);
        edges.unchanged("canLead() of three", grown, x -> x.canLead(), leading(grown, 100));
        Supplier<TeaSeats> eighth = () -> {
            TeaSeats x = Rooms.ofNine();
            for (int guest = 0; guest < 8; guest++) {
                x.leave(guest);
            }
            return x;
        };
        edges.unchanged("canLead() of guest 8 alone", eighth, x -> x.canLead(), 256);
    }

    private void canLeadWithin100() {
        edges.sentence("Promise 21",
            "`int canLead()`: Returns the guests who would have the rank 0 behind some number of breaths, 0 to "
            + "100, with no words.");
        Supplier<TeaSeats> at100 = () -> apart(2, 28, 12, 17);
        Supplier<TeaSeats> at101 = () -> apart(2, 28, 11, 17);
        edges.due("the first breath of the rooms", firstBehind(at100, 1, 0), 100);
        edges.due("the first breath of the rooms", firstBehind(at101, 1, 0), 101);
        edges.unchanged("canLead() at 100", at100, x -> x.canLead(), 3);
        edges.unchanged("canLead() at 101", at101, x -> x.canLead(), 1);
        // Behind no breath: 0 has the rank 0 now, and never again.
        Supplier<TeaSeats> justNow = () -> Rooms.breathed(Rooms.of(2, 30), 5);
        edges.due("those who lead behind 0 breaths", leading(justNow, 0), 1);
        edges.due("those who lead behind 1 to 100", leading(() -> Rooms.breathed(justNow.get(), 1), 99), 2);
        edges.unchanged("canLead() with 0 ahead just now", justNow, x -> x.canLead(), 3);
    }
}
