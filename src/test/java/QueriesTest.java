/** Promises 11 to 16: what there is. */
public final class QueriesTest {
    private static final int NO_SUCH = -1, BAD_VALUE = -2;
    private static final Check CHECK = new Check("QueriesTest");

    public static void main(String[] args) {
        promise11Of();
        promise11OfIsRefused();
        promise12Owes();
        promise13At();
        promise14Ranked();
        promise15Silent();
        promise16Count();
        CHECK.end();
    }

    /** Three guests behind a round, a cup that was offered, two bows, words and sighs. */
    private static TeaSeats evening() {
        TeaSeats x = new TeaSeats();
        x.guest(4);
        x.guest(3);
        x.guest(20);
        x.set(TeaSeats.DEBT, 5);
        // Breaths 1 to 6: 1 owes 0, 2 owes 1, and seats stay; silence of all is 6.
        x.round();
        // Breaths 7 to 9: the silence of 1 is 9, so 1 sighs and goes on from 3.
        x.breathe(3);
        x.word(2);
        // Breaths 10 and 11: 0 owes 2 two bows.
        x.offer(2, 0);
        x.bow(0, 2);
        x.bow(1, 0);
        x.word(2);
        return x;
    }

    private static void promise11Of() {
        TeaSeats x = evening();
        int[][] due = {
            // seat, patience, silence, cups, sighs, words, owed, owed by others, bows, rank
            {0, 4, 11, 2, 0, 0, 1, 0, 1, 0},
            {1, 3, 5, 1, 1, 0, 0, 1, 1, 1},
            {2, 20, 0, 1, 0, 2, 1, 1, 0, 2},
        };
        for (int guest = 0; guest < due.length; guest++) {
            for (int what = 0; what <= 9; what++) {
                CHECK.due("of(" + guest + ", " + what + ")", x.of(guest, what), due[guest][what]);
            }
        }
        x.word(0);
        CHECK.due("the rank by which 0 would be seated", x.of(0, 9), 2);
        CHECK.due("the seat of 0", x.of(0, 0), 0);
        x.offer(1, 0);
        CHECK.due("bows that 0 owes to both", x.of(0, 6), 3);
        x.offer(2, 0);
        // To 1 two, and to 2 three; 2 owes 1 a bow since the round.
        CHECK.due("bows that 0 owes to both", x.of(0, 6), 5);
        CHECK.due("bows that are owed to 2", x.of(2, 7), 3);
        CHECK.due("bows that are owed to 1", x.of(1, 7), 3);
    }

    private static void promise11OfIsRefused() {
        TeaSeats x = evening();
        CHECK.refused(x, "of(0, -1)", () -> x.of(0, -1), BAD_VALUE);
        CHECK.refused(x, "of(0, 10)", () -> x.of(0, 10), BAD_VALUE);
        CHECK.refused(x, "of(0, min)", () -> x.of(0, Integer.MIN_VALUE), BAD_VALUE);
        CHECK.refused(x, "of(3, 0)", () -> x.of(3, 0), NO_SUCH);
        CHECK.refused(x, "of(9, 0)", () -> x.of(9, 0), NO_SUCH);
        CHECK.refused(x, "of(-1, 0)", () -> x.of(-1, 0), NO_SUCH);
        CHECK.refused(x, "of(3, 10)", () -> x.of(3, 10), NO_SUCH);
        CHECK.refused(x, "of(max, -1)", () -> x.of(Integer.MAX_VALUE, -1), NO_SUCH);
    }

    private static void promise12Owes() {
        TeaSeats x = evening();
        int[][] due = {{BAD_VALUE, 0, 1}, {0, BAD_VALUE, 0}, {0, 1, BAD_VALUE}};
        for (int guest = 0; guest < 3; guest++) {
            for (int other = 0; other < 3; other++) {
                CHECK.due("owes(" + guest + ", " + other + ")", x.owes(guest, other), due[guest][other]);
            }
        }
        CHECK.refused(x, "owes(0, 3)", () -> x.owes(0, 3), NO_SUCH);
        CHECK.refused(x, "owes(3, 0)", () -> x.owes(3, 0), NO_SUCH);
        CHECK.refused(x, "owes(3, 3)", () -> x.owes(3, 3), NO_SUCH);
        CHECK.refused(x, "owes(-1, -1)", () -> x.owes(-1, -1), NO_SUCH);
        CHECK.refused(x, "owes(9, 1)", () -> x.owes(9, 1), NO_SUCH);
        CHECK.refused(x, "owes(1, 9)", () -> x.owes(1, 9), NO_SUCH);
    }

    private static void promise13At() {
        TeaSeats x = evening();
        x.word(0);
        x.seatAnew();
        // Silences: 1 has 5, 0 and 2 have none; 2 drank less.
        CHECK.due("at(0)", x.at(0), 1);
        CHECK.due("at(1)", x.at(1), 2);
        CHECK.due("at(2)", x.at(2), 0);
        for (int seat : new int[] {3, 8, 9, -1, Integer.MAX_VALUE, Integer.MIN_VALUE}) {
            CHECK.refused(x, "at(" + seat + ")", () -> x.at(seat), NO_SUCH);
        }
        x.leave(1);
        CHECK.due("at(0)", x.at(0), 2);
        CHECK.due("at(1)", x.at(1), 0);
        CHECK.due("at(2)", x.at(2), NO_SUCH);
    }

    private static void promise14Ranked() {
        TeaSeats x = evening();
        x.word(0);
        CHECK.due("ranked(0)", x.ranked(0), 1);
        CHECK.due("ranked(1)", x.ranked(1), 2);
        CHECK.due("ranked(2)", x.ranked(2), 0);
        CHECK.due("at(0)", x.at(0), 0);
        for (int rank : new int[] {3, 8, 9, -1, Integer.MAX_VALUE, Integer.MIN_VALUE}) {
            CHECK.refused(x, "ranked(" + rank + ")", () -> x.ranked(rank), NO_SUCH);
        }
        x.leave(2);
        x.leave(1);
        CHECK.due("ranked(0)", x.ranked(0), 0);
        CHECK.due("ranked(1)", x.ranked(1), NO_SUCH);
    }

    private static void promise15Silent() {
        TeaSeats x = evening();
        int[] breaths = {0, 1, 5, 6, 11, 12, Integer.MAX_VALUE};
        int[] due = {3, 2, 2, 1, 1, 0, 0};
        for (int index = 0; index < breaths.length; index++) {
            CHECK.due("silent(" + breaths[index] + ")", x.silent(breaths[index]), due[index]);
        }
        CHECK.refused(x, "silent(-1)", () -> x.silent(-1), BAD_VALUE);
        CHECK.refused(x, "silent(min)", () -> x.silent(Integer.MIN_VALUE), BAD_VALUE);
        CHECK.due("silent(0) without guests", new TeaSeats().silent(0), 0);
    }

    private static void promise16Count() {
        TeaSeats x = evening();
        View.put(x, "g5;r");
        // breaths, guests, rounds, cups, bows owed, made, lost, set off, laid, words, sighs, guests, passed by,
        // SIP, DEBT, CUPS, LONG, the pad, changes
        int[] due = {11, 3, 1, 4, 2, 2, 0, 0, 4, 2, 1, 7, 0, 2, 5, 9, 3, 4, 6};
        for (int what = 0; what <= 18; what++) {
            CHECK.due("count(" + what + ")", x.count(what), due[what]);
        }
        x.set(TeaSeats.DEBT, 1);
        CHECK.due("count(12) by debts", x.count(12), 5);
        x.set(TeaSeats.CUPS, 2);
        CHECK.due("count(12) by cups and debts", x.count(12), 5);
        x.set(TeaSeats.CUPS, 1);
        CHECK.due("count(12) by cups", x.count(12), 7);
        x.set(TeaSeats.DEBT, 9);
        x.set(TeaSeats.CUPS, 9);
        // 0 owes 2 one bow, and is owed two by 2 then: one is set off, and counts as two.
        x.offer(0, 2);
        CHECK.due("count(7)", x.count(7), 2);
        CHECK.due("count(4)", x.count(4), 2);
        CHECK.due("count(8)", x.count(8), 6);
        x.leave(0);
        CHECK.due("count(11)", x.count(11), 6);
        CHECK.due("count(6)", x.count(6), 1);
        CHECK.due("count(3)", x.count(3), 5);
        for (int what : new int[] {-1, 19, 20, Integer.MAX_VALUE, Integer.MIN_VALUE}) {
            CHECK.refused(x, "count(" + what + ")", () -> x.count(what), BAD_VALUE);
        }
    }
}
