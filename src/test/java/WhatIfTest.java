import java.util.function.Supplier;

/** Promises 17 to 21: what if; nothing changes. */
public final class WhatIfTest {
    private static final int NO_SUCH = -1, BAD_VALUE = -2, NOT_POSSIBLE = -5, NONE = -6;
    private static final Check CHECK = new Check("WhatIfTest");

    public static void main(String[] args) {
        promise17Why();
        promise18SeatedIn();
        promise18Bound();
        promise18SeatedInIsRefused();
        promise19IfWord();
        promise20IfRound();
        promise20IfRoundIsRefused();
        promise21CanLead();
        promise21Bound();
        theBoundOfBreathsDoesNotMatter();
        CHECK.end();
    }

    private static TeaSeats roomWith(int... patiences) {
        TeaSeats x = new TeaSeats();
        for (int patience : patiences) {
            x.guest(patience);
        }
        return x;
    }

    private static void promise17Why() {
        TeaSeats x = roomWith(30, 30, 30);
        CHECK.refused(x, "why(0)", () -> x.why(0), 0);
        x.offer(1, 0);
        CHECK.due("why(0) with two bows of three", x.why(0), 0);
        x.set(TeaSeats.DEBT, 2);
        CHECK.refused(x, "why(0) with two bows of two", () -> x.why(0), 2);
        x.set(TeaSeats.CUPS, 1);
        CHECK.refused(x, "why(0) with cups and debts", () -> x.why(0), 1);
        x.set(TeaSeats.CUPS, 2);
        x.set(TeaSeats.DEBT, 1);
        CHECK.due("why(0) with more bows", x.why(0), 2);
        CHECK.due("why(1) who is owed bows", x.why(1), 0);
        x.set(TeaSeats.DEBT, 4);
        x.offer(2, 0);
        CHECK.due("why(0) with two cups of two", x.why(0), 1);
        x.set(TeaSeats.CUPS, 3);
        CHECK.due("why(0) with two bows to each", x.why(0), 2);
        CHECK.refused(x, "why(3)", () -> x.why(3), NO_SUCH);
        CHECK.refused(x, "why(-1)", () -> x.why(-1), NO_SUCH);
        CHECK.refused(x, "why(9)", () -> x.why(9), NO_SUCH);
    }

    private static void promise18SeatedIn() {
        TeaSeats x = roomWith(4, 10);
        x.breathe(3);
        x.guest(2);
        // Guest 0 has 3 to 11 and goes on from 4; guest 1 has 3 to 29.
        CHECK.refused(x, "seatedIn(0, 0)", () -> x.seatedIn(0, 0), 0);
        CHECK.refused(x, "seatedIn(1, 1)", () -> x.seatedIn(1, 1), 0);
        CHECK.refused(x, "seatedIn(1, 0)", () -> x.seatedIn(1, 0), 9);
        CHECK.refused(x, "seatedIn(0, 2)", () -> x.seatedIn(0, 2), 0);
        CHECK.refused(x, "seatedIn(2, 2)", () -> x.seatedIn(2, 2), 0);
        // Guest 2 has 5 with breath 5 and 2 with breath 6; 3 to 5 with breaths 7 to 9, as guest 0 has 4 with the 9th.
        CHECK.refused(x, "seatedIn(2, 1)", () -> x.seatedIn(2, 1), 9);
        CHECK.refused(x, "seatedIn(2, 0)", () -> x.seatedIn(2, 0), NONE);
        // A nearer seat counts, too.
        x.seatAnew();
        x.word(0);
        CHECK.due("seatedIn(1, 1) with rank 0", x.seatedIn(1, 1), 0);
        // Of as long ones the one with fewer cups comes first.
        TeaSeats y = roomWith(1, 1);
        y.set(TeaSeats.LONG, 1);
        y.breathe(1);
        CHECK.due("seatedIn(1, 0) of as long ones", y.seatedIn(1, 0), NONE);
        y.offer(1, 0);
        CHECK.due("seatedIn(1, 0) with fewer cups", y.seatedIn(1, 0), 0);
        y.word(1);
        CHECK.due("seatedIn(1, 0) behind a breath", y.seatedIn(1, 0), 1);
    }

    private static void promise18Bound() {
        TeaSeats near = apart(4, 25, 25, 9);
        CHECK.due("breaths to the first lead", firstLeadOfOne(() -> apart(4, 25, 25, 9), 310), 300);
        CHECK.refused(near, "seatedIn(1, 0) at the bound", () -> near.seatedIn(1, 0), 300);
        TeaSeats far = apart(4, 25, 24, 9);
        CHECK.due("breaths to the first lead", firstLeadOfOne(() -> apart(4, 25, 24, 9), 310), 301);
        CHECK.refused(far, "seatedIn(1, 0) beyond the bound", () -> far.seatedIn(1, 0), NONE);
    }

    /** Guest 0 breathes for some breaths before guest 1 comes; with their patience, that says when 1 leads first. */
    private static TeaSeats apart(int longTimes, int patience, int breaths, int otherPatience) {
        TeaSeats x = new TeaSeats();
        x.set(TeaSeats.LONG, longTimes);
        x.guest(patience);
        x.breathe(breaths);
        x.guest(otherPatience);
        return x;
    }

    /** Behind how many breaths guest 1 has the longest silence, tried in rooms of their own; NONE beyond a bound. */
    private static int firstLeadOfOne(Supplier<TeaSeats> room, int bound) {
        for (int breaths = 0; breaths <= bound; breaths++) {
            TeaSeats x = Rooms.breathed(room.get(), breaths);
            if (x.of(1, 2) > x.of(0, 2)) {
                return breaths;
            }
        }
        return NONE;
    }

    private static void promise18SeatedInIsRefused() {
        TeaSeats x = roomWith(4, 10);
        CHECK.refused(x, "seatedIn(0, 2)", () -> x.seatedIn(0, 2), NO_SUCH);
        CHECK.refused(x, "seatedIn(0, -1)", () -> x.seatedIn(0, -1), NO_SUCH);
        CHECK.refused(x, "seatedIn(0, 9)", () -> x.seatedIn(0, 9), NO_SUCH);
        CHECK.refused(x, "seatedIn(0, max)", () -> x.seatedIn(0, Integer.MAX_VALUE), NO_SUCH);
        CHECK.refused(x, "seatedIn(2, 0)", () -> x.seatedIn(2, 0), NO_SUCH);
        CHECK.refused(x, "seatedIn(-1, 0)", () -> x.seatedIn(-1, 0), NO_SUCH);
        CHECK.refused(x, "seatedIn(9, 9)", () -> x.seatedIn(9, 9), NO_SUCH);
    }

    private static void promise19IfWord() {
        TeaSeats x = roomWith(10, 10, 10);
        CHECK.refused(x, "ifWord(0) of as long ones", () -> x.ifWord(0), 0);
        x.breathe(4);
        CHECK.refused(x, "ifWord(0)", () -> x.ifWord(0), 2);
        CHECK.refused(x, "ifWord(2)", () -> x.ifWord(2), 2);
        x.word(2);
        // 0 and 2 would both have no silence then: 0 sits nearer.
        CHECK.refused(x, "ifWord(0)", () -> x.ifWord(0), 1);
        CHECK.refused(x, "ifWord(2)", () -> x.ifWord(2), 2);
        x.set(TeaSeats.SIP, 1);
        x.offer(1, 0);
        x.word(2);
        CHECK.due("ifWord(0) with a cup more", x.ifWord(0), 2);
        CHECK.refused(x, "ifWord(3)", () -> x.ifWord(3), NO_SUCH);
        CHECK.refused(x, "ifWord(-1)", () -> x.ifWord(-1), NO_SUCH);
        CHECK.refused(x, "ifWord(9)", () -> x.ifWord(9), NO_SUCH);
    }

    private static void promise20IfRound() {
        TeaSeats x = roomWith(30, 30, 30);
        x.breathe(2);
        x.word(0);
        x.set(TeaSeats.SIP, 3);
        CHECK.refused(x, "ifRound(0)", () -> x.ifRound(0), 3);
        CHECK.refused(x, "ifRound(1)", () -> x.ifRound(1), 9);
        CHECK.refused(x, "ifRound(2)", () -> x.ifRound(2), 1);
        CHECK.due("round()", x.round(), 3);
        CHECK.due("at(0)", x.at(0), 1);
        x.set(TeaSeats.DEBT, 1);
        // In the round 1 owes 0 and 2 owes 1, so that only 0 drinks then.
        CHECK.refused(x, "ifRound(0) with debts", () -> x.ifRound(0), 1);
        CHECK.refused(x, "ifRound(1) with debts", () -> x.ifRound(1), 3);
        x.set(TeaSeats.CUPS, 1);
        CHECK.refused(x, "ifRound(0) with all cups", () -> x.ifRound(0), 0);
        CHECK.refused(x, "ifRound(1) with all cups", () -> x.ifRound(1), 0);
        CHECK.refused(x, "ifRound(2) with all cups", () -> x.ifRound(2), 1);
        // The cups and debts of the round itself count for the seats behind it.
        TeaSeats y = roomWith(30, 30);
        y.set(TeaSeats.DEBT, 1);
        y.offer(1, 0);
        CHECK.refused(y, "ifRound(0)", () -> y.ifRound(0), 1);
        CHECK.refused(y, "ifRound(2) with 0 owing two", () -> y.ifRound(2), 1);
        CHECK.due("round()", y.round(), 1);
        CHECK.due("at(0)", y.at(0), 1);
    }

    private static void promise20IfRoundIsRefused() {
        TeaSeats x = new TeaSeats();
        for (int what = 0; what <= 2; what++) {
            int which = what;
            CHECK.refused(x, "ifRound(" + what + ")", () -> x.ifRound(which), NOT_POSSIBLE);
        }
        CHECK.refused(x, "ifRound(-1) without guests", () -> x.ifRound(-1), BAD_VALUE);
        CHECK.refused(x, "ifRound(3) without guests", () -> x.ifRound(3), BAD_VALUE);
        x.guest(3);
        CHECK.refused(x, "ifRound(-1)", () -> x.ifRound(-1), BAD_VALUE);
        CHECK.refused(x, "ifRound(3)", () -> x.ifRound(3), BAD_VALUE);
    }

    private static void promise21CanLead() {
        TeaSeats x = new TeaSeats();
        CHECK.refused(x, "canLead() without guests", () -> x.canLead(), 0);
        x.guest(30);
        CHECK.refused(x, "canLead() of one", () -> x.canLead(), 1);
        x.guest(30);
        CHECK.refused(x, "canLead() of as long ones", () -> x.canLead(), 1);
        x.breathe(5);
        x.guest(2);
        CHECK.refused(x, "canLead()", () -> x.canLead(), 1);
        x.breathe(10);
        x.word(0);
        CHECK.refused(x, "canLead() behind a word", () -> x.canLead(), 3);
        x.leave(1);
        CHECK.refused(x, "canLead() without 1", () -> x.canLead(), 5);
    }

    private static void promise21Bound() {
        TeaSeats near = apart(2, 28, 12, 17);
        CHECK.due("breaths to the first lead", firstLeadOfOne(() -> apart(2, 28, 12, 17), 110), 100);
        CHECK.refused(near, "canLead() at the bound", () -> near.canLead(), 3);
        TeaSeats far = apart(2, 28, 11, 17);
        CHECK.due("breaths to the first lead", firstLeadOfOne(() -> apart(2, 28, 11, 17), 110), 101);
        CHECK.refused(far, "canLead() beyond the bound", () -> far.canLead(), 1);
    }

    private static void theBoundOfBreathsDoesNotMatter() {
        TeaSeats x = roomWith(30, 30);
        for (int times = 0; times < 101; times++) {
            x.breathe(99);
        }
        CHECK.due("breaths", x.count(0), 9999);
        CHECK.due("round()", x.round(), NOT_POSSIBLE);
        CHECK.refused(x, "ifRound(0) at 9999", () -> x.ifRound(0), 2);
        CHECK.refused(x, "ifRound(1) at 9999", () -> x.ifRound(1), 4);
        CHECK.refused(x, "ifRound(2) at 9999", () -> x.ifRound(2), 0);
        x.word(0);
        x.word(1);
        x.leave(0);
        x.guest(1);
        // Guest 0 of patience 1 has 1 or 2 from now on, and sits farther: no lead at all.
        CHECK.refused(x, "seatedIn(0, 0) at 9999", () -> x.seatedIn(0, 0), NONE);
        CHECK.refused(x, "canLead() at 9999", () -> x.canLead(), 2);
        x.breathe(1);
        CHECK.due("breaths", x.count(0), 9999);
    }
}
