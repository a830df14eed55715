import java.util.function.Supplier;

/** The edges that promises 26 to 28 name. */
final class EdgesOfHistory {
    private static final int BAD_VALUE = -2, NOT_POSSIBLE = -5;
    private static final int MIN = Integer.MIN_VALUE, MAX = Integer.MAX_VALUE;
    private static final int[] NO_SLOTS = {-1, 2, -2, 3, 9, MIN, MAX};
    // How many changes change() knows.
    private static final int KINDS = 11;

    private final Edges edges;

    EdgesOfHistory(Edges edges) {
        this.edges = edges;
    }

    void look() {
        undoBringsBack();
        sixStates();
        whatIsRecorded();
        whatIsNotRecorded();
        theOldestIsDropped();
        anOrderRecordsNothing();
        undoAnswersWhatIsLeft();
        undoOfNone();
        saveKeepsTheRoom();
        saveOverwrites();
        saveInEachSlot();
        saveAnswersTheGuests();
        saveInNoSlot();
        restoreKeepsTheSlot();
        restoreIsAChange();
        restoreOfEachSlot();
        restoreAnswersTheGuests();
        restoreOfNoSlot();
        restoreOfNothing();
    }

    /** Makes one of the changes that there are; none of them is refused in a room with guests 0 to 3. */
    private static int change(TeaSeats x, int kind) {
        switch (kind) {
            case 0: return x.set(TeaSeats.SIP, 3);
            case 1: return x.guest(5);
            case 2: return x.leave(3);
            case 3: return x.word(1);
            case 4: return x.bow(2, 1);
            case 5: return x.offer(1, 3);
            case 6: return x.breathe(9);
            case 7: return x.round();
            case 8: return x.seatAnew();
            case 9: return x.carryOut();
            default: return x.restore(1);
        }
    }

    private void same(String what, String got, String want) {
        edges.due(what + " is as it was", got.equals(want) ? 1 : 0, 1);
    }

    private void undoBringsBack() {
        edges.sentence("Promise 26",
            "`int undo()`: Undoes the latest change: everything except the pad, the slots and the history is as "
            + "it was before it.");
        for (int kind = 0; kind < KINDS; kind++) {
            TeaSeats x = Rooms.lived();
            String before = View.ofRoom(x);
            edges.due("change " + kind + " is no error", change(x, kind) >= 0 ? 1 : 0, 1);
            edges.due("undo() of change " + kind, x.undo(), 5);
            same("the room behind undo() of change " + kind, View.ofRoom(x), before);
        }
        // The pad stays as it is now, and so do the slots.
        TeaSeats y = Rooms.lived();
        y.word(0);
        y.wipe();
        y.put('r');
        y.save(0);
        String saved = View.ofRoom(y);
        y.word(1);
        y.undo();
        y.undo();
        edges.due("the pad", y.count(17), 1);
        edges.due("fault()", y.fault(), -6);
        edges.due("restore(0)", y.restore(0), 4);
        same("the slot", View.ofRoom(y), saved);
        // What was undone can be done again, and is undone no more than once.
        TeaSeats z = Rooms.of(5);
        z.word(0);
        z.word(0);
        z.undo();
        edges.due("words behind undo()", z.of(0, 5), 1);
        z.word(0);
        z.undo();
        z.undo();
        edges.due("words behind two more", z.of(0, 5), 0);
    }

    private void sixStates() {
        edges.sentence("Promise 26", "A history of at most 6 states is kept:");
        for (int changes = 1; changes <= 14; changes++) {
            TeaSeats x = new TeaSeats();
            for (int change = 1; change <= changes; change++) {
                x.breathe(change);
                edges.due("count(18) behind " + change, x.count(18), Math.min(change, 6));
            }
            int breaths = changes * (changes + 1) / 2;
            for (int undone = 0; undone < Math.min(changes, 6); undone++) {
                breaths -= changes - undone;
                edges.due("undo() " + undone + " behind " + changes, x.undo(), Math.min(changes, 6) - 1 - undone);
                edges.due("breaths behind it", x.count(0), breaths);
            }
            edges.due("undo() of no more", x.undo(), NOT_POSSIBLE);
            edges.due("breaths behind it", x.count(0), breaths);
        }
    }

    private void whatIsRecorded() {
        edges.sentence("Promise 26",
            "each method that is a change, and returns no error, records the state before it (also if nothing is "
            + "different then);");
        for (int kind = 0; kind < KINDS; kind++) {
            int which = kind;
            if (kind != 9) {
                edges.changed("change " + kind, Rooms::lived, x -> change(x, which), change(Rooms.lived(), kind));
            }
            TeaSeats x = Rooms.lived();
            x.undo();
            x.undo();
            x.undo();
            edges.due("change " + kind + " is no error", change(x, kind) >= 0 ? 1 : 0, 1);
            edges.due("count(18) behind change " + kind, x.count(18), 4);
        }
        // Nothing is different behind these.
        Supplier<TeaSeats> room = () -> {
            TeaSeats x = Rooms.wiped(Rooms.of(30));
            x.save(1);
            x.put(View.number("x9"));
            return x;
        };
        String before = View.ofRoom(room.get());
        for (int kind : new int[] {8, 9, 10, 11}) {
            TeaSeats x = room.get();
            edges.due("count(18)", x.count(18), 5);
            edges.due("the change is no error", (kind == 11 ? x.set(TeaSeats.SIP, 2) : change(x, kind)) >= 0 ? 1 : 0, 1);
            edges.due("count(18) behind it", x.count(18), 6);
            same("the room", View.ofRoom(x), before);
            edges.due("undo()", x.undo(), 5);
            same("the room", View.ofRoom(x), before);
        }
    }

    private void whatIsNotRecorded() {
        edges.sentence("Promise 26", "each method that is a change, and returns no error, records");
        // Refused changes, and methods that are none.
        TeaSeats x = Rooms.of(5);
        edges.due("count(18)", x.count(18), 5);
        x.set(0, 0);
        x.guest(0);
        x.leave(1);
        x.word(1);
        x.bow(0, 0);
        x.offer(0, 0);
        x.breathe(0);
        x.restore(2);
        x.save(0);
        x.save(2);
        x.put('!');
        x.put(0);
        x.carryOut();
        x.fault();
        x.wipe();
        x.of(0, 0);
        x.owes(0, 1);
        x.at(0);
        x.ranked(0);
        x.silent(0);
        x.why(0);
        x.seatedIn(0, 0);
        x.ifWord(0);
        x.ifRound(0);
        x.canLead();
        edges.due("count(18) behind them", x.count(18), 5);
        edges.due("undo()", x.undo(), 4);
        edges.due("guests", x.count(1), 0);
        edges.due("round() of none", x.round(), NOT_POSSIBLE);
        edges.due("count(18)", x.count(18), 4);
    }

    private void theOldestIsDropped() {
        edges.sentence("Promise 26", "when one more is recorded, the oldest one is dropped.");
        // Behind so many changes those that undo() brings back are the last six, whatever was undone between them.
        for (int undone = 0; undone <= 6; undone++) {
            TeaSeats x = new TeaSeats();
            for (int change = 0; change < 7; change++) {
                x.breathe(1);
            }
            for (int time = 0; time < undone; time++) {
                x.undo();
            }
            edges.due("breaths", x.count(0), 7 - undone);
            for (int change = 0; change < undone; change++) {
                x.breathe(10);
            }
            edges.due("count(18)", x.count(18), 6);
            x.breathe(10);
            edges.due("count(18)", x.count(18), 6);
            int breaths = 7 - undone + 10 * (undone + 1);
            edges.due("breaths", x.count(0), breaths);
            for (int left = 5; left >= 0; left--) {
                breaths -= breaths - 10 >= 7 - undone ? 10 : 1;
                edges.due("undo()", x.undo(), left);
                edges.due("breaths behind it", x.count(0), breaths);
            }
            edges.due("undo() of the oldest", x.undo(), NOT_POSSIBLE);
        }
    }

    private void anOrderRecordsNothing() {
        edges.sentence("Promise 26", "An order of a text records nothing by itself.");
        TeaSeats x = Rooms.withText(new TeaSeats(), "g5;g6;g7;w0;t5;r;o12;b21;x0");
        edges.due("carryOut() of nine", x.carryOut(), 9);
        edges.due("count(18)", x.count(18), 1);
        edges.due("undo()", x.undo(), 0);
        edges.due("guests", x.count(1), 0);
        edges.due("breaths", x.count(0), 0);
        edges.due("undo() of no more", x.undo(), NOT_POSSIBLE);
        // Nor does the order that is refused.
        TeaSeats y = Rooms.withText(new TeaSeats(), "g5;g0");
        edges.due("carryOut() up to g0", y.carryOut(), 1);
        edges.due("count(18)", y.count(18), 1);
    }

    private void undoAnswersWhatIsLeft() {
        edges.sentence("Promise 26", "Returns how many changes can be undone then;");
        TeaSeats x = Rooms.lived();
        for (int left = 5; left >= 0; left--) {
            edges.due("undo()", x.undo(), left);
            edges.due("count(18)", x.count(18), left);
        }
        TeaSeats y = new TeaSeats();
        y.guest(5);
        edges.due("undo() of the only one", y.undo(), 0);
    }

    private void undoOfNone() {
        edges.sentence("Promise 26", "NOT_POSSIBLE if there is none.");
        edges.refused("undo() of a new object", TeaSeats::new, x -> x.undo(), NOT_POSSIBLE);
        for (int changes : new int[] {1, 5, 6, 7}) {
            Supplier<TeaSeats> all = () -> {
                TeaSeats x = new TeaSeats();
                for (int change = 0; change < changes; change++) {
                    x.guest(5);
                }
                x.save(0);
                x.put('r');
                for (int change = 0; change < Math.min(changes, 6); change++) {
                    x.undo();
                }
                return x;
            };
            edges.due("count(18)", all.get().count(18), 0);
            edges.due("guests", all.get().count(1), Math.max(0, changes - 6));
            edges.refused("undo() behind all of " + changes, all, x -> x.undo(), NOT_POSSIBLE);
        }
        // An undo() that was refused is no hindrance for the next change.
        TeaSeats y = new TeaSeats();
        y.undo();
        y.guest(5);
        edges.due("undo()", y.undo(), 0);
        edges.due("undo()", y.undo(), NOT_POSSIBLE);
    }

    private void saveKeepsTheRoom() {
        edges.sentence("Promise 27",
            "`int save(int slot)`: Saves everything except the pad, the history and the slots in a slot,");
        TeaSeats x = Rooms.lived();
        String room = View.ofRoom(x);
        edges.due("save(0)", x.save(0), 4);
        same("the room behind save()", View.ofRoom(x), room);
        edges.due("count(18) behind save()", x.count(18), 6);
        edges.due("count(17) behind save()", x.count(17), Rooms.TEXT.length());
        for (int kind = 0; kind < KINDS; kind++) {
            TeaSeats y = Rooms.lived();
            y.save(0);
            change(y, kind);
            edges.due("restore(0)", y.restore(0), 4);
            same("the room behind change " + kind, View.ofRoom(y), room);
            edges.due("the pad", y.count(17), kind == 9 ? 0 : Rooms.TEXT.length());
        }
    }

    private void saveOverwrites() {
        edges.sentence("Promise 27", "and overwrites what was saved there.");
        for (int slot = 0; slot <= 1; slot++) {
            TeaSeats x = new TeaSeats();
            for (int guests = 1; guests <= 9; guests++) {
                x.guest(guests);
                edges.due("save(" + slot + ")", x.save(slot), guests);
            }
            edges.due("restore(" + slot + ")", x.restore(slot), 9);
            x.leave(0);
            edges.due("save(" + slot + ")", x.save(slot), 8);
            edges.due("restore(" + slot + ")", x.restore(slot), 8);
            edges.due("restore() of the other slot", x.restore(1 - slot), NOT_POSSIBLE);
        }
    }

    private void saveInEachSlot() {
        edges.sentence("Promise 27", "- `slot`: 0 or 1");
        // Either slot keeps its own.
        TeaSeats x = new TeaSeats();
        x.guest(5);
        edges.due("save(0)", x.save(0), 1);
        x.guest(6);
        edges.due("save(1)", x.save(1), 2);
        x.guest(7);
        edges.due("restore(0)", x.restore(0), 1);
        edges.due("restore(1)", x.restore(1), 2);
        edges.due("restore(0)", x.restore(0), 1);
        x.leave(0);
        edges.due("save(0)", x.save(0), 0);
        edges.due("restore(1)", x.restore(1), 2);
    }

    private void saveAnswersTheGuests() {
        edges.sentence("Promise 27", "Returns how many guests there are;");
        edges.due("save(0) of none", new TeaSeats().save(0), 0);
        edges.due("save(1) of none", new TeaSeats().save(1), 0);
        edges.due("save(0) of one", Rooms.of(5).save(0), 1);
        edges.due("save(1) of nine", Rooms.ofNine().save(1), 9);
        TeaSeats x = Rooms.ofNine();
        x.leave(0);
        edges.due("save(0) of eight", x.save(0), 8);
    }

    private void saveInNoSlot() {
        edges.sentence("Promise 27", "BAD_VALUE if there is no such slot.");
        for (int slot : NO_SLOTS) {
            edges.refused("save(" + slot + ")", Rooms::lived, x -> x.save(slot), BAD_VALUE);
            edges.refused("save(" + slot + ") of a new object", TeaSeats::new, x -> x.save(slot), BAD_VALUE);
        }
    }

    private void restoreKeepsTheSlot() {
        edges.sentence("Promise 28",
            "`int restore(int slot)`: Restores what was saved last in a slot, which keeps it.");
        TeaSeats x = Rooms.lived();
        x.save(0);
        String room = View.ofRoom(x);
        for (int time = 0; time < 2; time++) {
            x.round();
            x.leave(0);
            x.set(TeaSeats.CUPS, 1);
            edges.due("restore(0)", x.restore(0), 4);
            same("the room that was saved", View.ofRoom(x), room);
        }
        // Also behind undo(), and of a restored room that goes on.
        x.word(1);
        x.undo();
        x.undo();
        edges.due("restore(0)", x.restore(0), 4);
        // The pad and the history are as they are now, not as they were when the room was saved.
        TeaSeats y = new TeaSeats();
        y.guest(5);
        y.put('r');
        y.save(0);
        y.guest(6);
        y.guest(7);
        y.put(';');
        edges.due("restore(0)", y.restore(0), 1);
        edges.due("the pad", y.count(17), 2);
        edges.due("count(18)", y.count(18), 4);
        edges.due("undo()", y.undo(), 3);
        edges.due("guests", y.count(1), 3);
    }

    private void restoreIsAChange() {
        edges.sentence("Promise 28", "This is a change.");
        edges.changed("restore(0)", Rooms::lived, x -> x.restore(0), 2);
        edges.changed("restore(1)", Rooms::lived, x -> x.restore(1), 1);
        edges.changed("restore(1) of none saved", () -> {
            TeaSeats x = Rooms.empty();
            x.save(1);
            x.guest(5);
            return x;
        }, x -> x.restore(1), 0);
    }

    private void restoreOfEachSlot() {
        edges.sentence("Promise 28", "- `slot`: 0 or 1");
        TeaSeats x = Rooms.lived();
        edges.due("restore(0)", x.restore(0), 2);
        edges.due("patience of 1", x.of(1, 1), 4);
        edges.due("restore(1)", x.restore(1), 1);
        edges.due("patience of 0", x.of(0, 1), 3);
        edges.due("guests", x.count(11), 1);
        edges.due("breaths", x.count(0), 0);
    }

    private void restoreAnswersTheGuests() {
        edges.sentence("Promise 28", "Returns how many guests there are then;");
        for (int guests = 0; guests <= 9; guests++) {
            TeaSeats x = new TeaSeats();
            for (int guest = 0; guest < guests; guest++) {
                x.guest(5);
            }
            x.save(guests % 2);
            x.guest(5);
            x.leave(0);
            x.leave(1);
            edges.due("restore() of " + guests, x.restore(guests % 2), guests);
            edges.due("guests", x.count(1), guests);
        }
    }

    private void restoreOfNoSlot() {
        edges.sentence("Promise 28", "BAD_VALUE if there is no such slot;");
        for (int slot : NO_SLOTS) {
            edges.refused("restore(" + slot + ")", Rooms::lived, x -> x.restore(slot), BAD_VALUE);
            edges.refused("restore(" + slot + ") of a new object", TeaSeats::new, x -> x.restore(slot), BAD_VALUE);
        }
    }

    private void restoreOfNothing() {
        edges.sentence("Promise 28", "NOT_POSSIBLE if nothing was saved in it.");
        for (int slot = 0; slot <= 1; slot++) {
            int empty = slot;
            Supplier<TeaSeats> other = () -> {
                TeaSeats x = Rooms.with(new TeaSeats(), 5, 6);
                x.save(1 - empty);
                x.guest(7);
                x.put('r');
                return x;
            };
            edges.refused("restore(" + slot + ") of a new object", TeaSeats::new, x -> x.restore(empty), NOT_POSSIBLE);
            edges.refused("restore(" + slot + ") of the other slot", other, x -> x.restore(empty), NOT_POSSIBLE);
            edges.changed("restore() of the one that was saved", other, x -> x.restore(1 - empty), 2);
            // A room without guests is saved, too; and undo() takes nothing out of a slot.
            TeaSeats x = new TeaSeats();
            x.save(slot);
            edges.due("restore(" + slot + ") of an empty room", x.restore(slot), 0);
            x.undo();
            edges.due("restore(" + slot + ") behind undo()", x.restore(slot), 0);
        }
    }
}
