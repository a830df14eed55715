/** Promises 26 to 28: undo, and saved states. */
public final class HistoryTest {
    private static final int BAD_VALUE = -2, NOT_POSSIBLE = -5;
    private static final Check CHECK = new Check("HistoryTest");

    public static void main(String[] args) {
        promise26Undo();
        promise26SixStates();
        promise26ErrorsAreNotRecorded();
        promise26PadAndSlotsStay();
        promise27Save();
        promise28Restore();
        promise28RestoreIsAChange();
        CHECK.end();
    }

    private static void promise26Undo() {
        TeaSeats x = new TeaSeats();
        CHECK.refused(x, "undo() of nothing", () -> x.undo(), NOT_POSSIBLE);
        x.guest(5);
        x.guest(9);
        String two = View.ofRoom(x);
        x.round();
        CHECK.due("undo()", x.undo(), 2);
        CHECK.same("the room", View.ofRoom(x), two);
        // What was undone is no change itself, and the number that is free is given again.
        CHECK.due("undo()", x.undo(), 1);
        CHECK.due("guest(7)", x.guest(7), 1);
        CHECK.due("count(18)", x.count(18), 2);
        CHECK.due("undo()", x.undo(), 1);
        CHECK.due("undo()", x.undo(), 0);
        CHECK.due("guests", x.count(1), 0);
        CHECK.refused(x, "undo() of nothing more", () -> x.undo(), NOT_POSSIBLE);
    }

    private static void promise26SixStates() {
        for (int changes = 1; changes <= 20; changes++) {
            int kept = Math.min(6, changes);
            for (int undone = 1; undone <= kept; undone++) {
                TeaSeats x = behind(changes);
                CHECK.due("count(18)", x.count(18), kept);
                for (int left = kept - 1; left >= kept - undone; left--) {
                    CHECK.due("undo() behind " + changes, x.undo(), left);
                }
                CHECK.same("the room", View.ofRoom(x), View.ofRoom(behind(changes - undone)));
                if (undone == kept) {
                    CHECK.refused(x, "undo() behind six", () -> x.undo(), NOT_POSSIBLE);
                }
            }
        }
    }

    private static TeaSeats behind(int changes) {
        TeaSeats x = new TeaSeats();
        for (int change = 0; change < changes; change++) {
            makeChange(x, change);
        }
        return x;
    }

    private static void makeChange(TeaSeats x, int change) {
        switch (change % 10) {
            case 0: x.guest(5); break;
            case 1: x.guest(20); break;
            case 2: x.offer(0, 1); break;
            case 3: x.bow(1, 0); break;
            case 4: x.word(1); break;
            case 5: x.round(); break;
            case 6: x.breathe(33); break;
            case 7: x.set(TeaSeats.LONG, 7); break;
            case 8: x.seatAnew(); break;
            default: x.leave(0); break;
        }
    }

    private static void promise26ErrorsAreNotRecorded() {
        TeaSeats x = new TeaSeats();
        x.guest(5);
        x.set(9, 9);
        x.guest(0);
        x.leave(4);
        x.word(4);
        x.bow(0, 0);
        x.offer(0, 0);
        x.breathe(0);
        x.carryOut();
        x.restore(0);
        x.save(0);
        x.put('q');
        x.wipe();
        CHECK.due("count(18)", x.count(18), 1);
        // Changes after which nothing is different are recorded, too.
        x.seatAnew();
        x.set(TeaSeats.SIP, 2);
        x.restore(0);
        CHECK.due("count(18)", x.count(18), 4);
        TeaSeats y = new TeaSeats();
        y.round();
        CHECK.due("count(18)", y.count(18), 0);
    }

    private static void promise26PadAndSlotsStay() {
        TeaSeats x = new TeaSeats();
        x.guest(5);
        x.save(0);
        x.guest(6);
        x.put(View.number("g7;g"));
        CHECK.due("undo()", x.undo(), 1);
        CHECK.due("undo()", x.undo(), 0);
        CHECK.due("count(17)", x.count(17), 4);
        CHECK.due("fault()", x.fault(), 4);
        CHECK.due("restore(0)", x.restore(0), 1);
        CHECK.due("patience", x.of(0, 1), 5);
    }

    private static void promise27Save() {
        TeaSeats x = new TeaSeats();
        CHECK.refused(x, "save(-1)", () -> x.save(-1), BAD_VALUE);
        CHECK.refused(x, "save(2)", () -> x.save(2), BAD_VALUE);
        CHECK.refused(x, "save(max)", () -> x.save(Integer.MAX_VALUE), BAD_VALUE);
        // save answers the number of guests, and changes nothing that can be seen.
        CHECK.refused(x, "save(0) without guests", () -> x.save(0), 0);
        x.guest(5);
        x.guest(6);
        CHECK.refused(x, "save(1)", () -> x.save(1), 2);
        x.leave(0);
        CHECK.refused(x, "save(1) again", () -> x.save(1), 1);
        CHECK.due("restore(1) of what was saved last", x.restore(1), 1);
        CHECK.due("guests", x.count(11), 2);
        CHECK.due("restore(0)", x.restore(0), 0);
    }

    private static void promise28Restore() {
        TeaSeats x = new TeaSeats();
        CHECK.refused(x, "restore(-1)", () -> x.restore(-1), BAD_VALUE);
        CHECK.refused(x, "restore(2)", () -> x.restore(2), BAD_VALUE);
        CHECK.refused(x, "restore(0)", () -> x.restore(0), NOT_POSSIBLE);
        CHECK.refused(x, "restore(1)", () -> x.restore(1), NOT_POSSIBLE);
        View.put(x, "g9;g8;g2;t9;r;o01;b10;w2;x1;g4;r");
        CHECK.due("carryOut()", x.carryOut(), 11);
        x.set(TeaSeats.SIP, 7);
        x.set(TeaSeats.CUPS, 3);
        String saved = View.ofRoom(x);
        x.save(0);
        CHECK.refused(x, "restore(1) of the other slot", () -> x.restore(1), NOT_POSSIBLE);
        for (int times = 0; times < 3; times++) {
            x.round();
            x.leave(2);
            x.set(TeaSeats.DEBT, 20);
            x.put('r');
            CHECK.due("restore(0)", x.restore(0), 3);
            CHECK.same("the room", View.ofRoom(x), saved);
            CHECK.due("the pad stays", x.count(17), times + 1);
        }
    }

    private static void promise28RestoreIsAChange() {
        TeaSeats x = new TeaSeats();
        x.guest(3);
        x.save(1);
        x.guest(4);
        x.breathe(20);
        String before = View.ofRoom(x);
        CHECK.due("restore(1)", x.restore(1), 1);
        CHECK.due("count(18)", x.count(18), 4);
        CHECK.due("undo()", x.undo(), 3);
        CHECK.same("the room behind undo()", View.ofRoom(x), before);
        CHECK.due("restore(1) again", x.restore(1), 1);
        CHECK.due("guests", x.count(1), 1);
        CHECK.due("breaths", x.count(0), 0);
    }
}
