/** Tea ceremony for nine guests with seats that are earned by silence. */
public final class TeaSeats {
    public static final int NO_SUCH = -1, BAD_VALUE = -2, BAD_TEXT = -3, TOO_MANY = -4, NOT_POSSIBLE = -5, NONE = -6;
    public static final int SIP = 0, DEBT = 1, CUPS = 2, LONG = 3;

    private static final int MOST_GUESTS = 9;
    private static final int MOST_PATIENCE = 30;
    private static final int MOST_BREATHS = 9999;
    private static final int MOST_BREATHS_FOR_ROUND = 9900;
    private static final int MOST_BREATHS_AT_ONCE = 99;
    private static final int BOWS_FOR_OFFER = 2;
    private static final int FIRST_SETTING_COUNTED = 13;
    private static final int PAD_COUNTED = 17;
    private static final int CHANGES_COUNTED = 18;
    private static final int BREATHS_TO_SEAT = 300;
    private static final int BREATHS_TO_LEAD = 100;
    private static final int MOST_STATES = 6;
    private static final int MOST_CHARACTERS = 80;
    private static final int[] MOST_OF_SETTING = {9, 20, 30, 9};

    private final Room now = new Room();
    // Room for the state before a change, and for what would be: calls make no objects of their own.
    private final Room before = new Room();
    private final Room imagined = new Room();
    private final Slot slotZero = new Slot();
    private final Slot slotOne = new Slot();
    private final History history = new History();
    private final Pad pad = new Pad();

    public TeaSeats() {
    }

    // ---- changes

    public int set(int setting, int value) {
        before.copyFrom(now);
        return recorded(now.changeSetting(setting, value));
    }

    public int guest(int patience) {
        before.copyFrom(now);
        return recorded(now.welcome(patience));
    }

    public int leave(int guest) {
        before.copyFrom(now);
        return recorded(now.seeOff(guest));
    }

    public int word(int guest) {
        before.copyFrom(now);
        return recorded(now.hearWord(guest));
    }

    public int bow(int guest, int other) {
        before.copyFrom(now);
        return recorded(now.makeBow(guest, other));
    }

    public int offer(int guest, int other) {
        before.copyFrom(now);
        return recorded(now.offerCup(guest, other));
    }

    public int breathe(int many) {
        before.copyFrom(now);
        return recorded(now.breatheOn(many));
    }

    public int round() {
        before.copyFrom(now);
        return recorded(now.holdRound());
    }

    public int seatAnew() {
        before.copyFrom(now);
        return recorded(now.seatByRank());
    }

    /** Keeps the state before a change, if the change was made: its answer is no error. */
    private int recorded(int answer) {
        if (answer >= 0) {
            history.keep(before);
        }
        return answer;
    }

    // ---- what there is

    public int of(int guest, int what) {
        return now.factOf(guest, what);
    }

    public int owes(int guest, int other) {
        return now.owedTo(guest, other);
    }

    public int at(int seat) {
        return now.guestIn(seat);
    }

    public int ranked(int rank) {
        return now.guestRanked(rank);
    }

    public int silent(int breaths) {
        return breaths < 0 ? BAD_VALUE : now.silentFor(breaths);
    }

    public int count(int what) {
        switch (what) {
            case PAD_COUNTED: return pad.length();
            case CHANGES_COUNTED: return history.states();
            default: return now.counted(what);
        }
    }

    // ---- what if; nothing changes

    public int why(int guest) {
        return now.isHere(guest) ? now.reasonToPassBy(guest) : NO_SUCH;
    }

    public int seatedIn(int guest, int seat) {
        if (!now.isHere(guest) || seat < 0 || seat >= now.guests()) {
            return NO_SUCH;
        }
        imagined.copyFrom(now);
        for (int breaths = 0; breaths <= BREATHS_TO_SEAT; breaths++) {
            if (imagined.rankOf(guest) <= seat) {
                return breaths;
            }
            imagined.passBreaths(1);
        }
        return NONE;
    }

    public int ifWord(int guest) {
        if (!now.isHere(guest)) {
            return NO_SUCH;
        }
        imagined.copyFrom(now);
        imagined.hearWord(guest);
        return imagined.rankOf(guest);
    }

    public int ifRound(int what) {
        if (what < 0 || what > 2) {
            return BAD_VALUE;
        }
        if (now.guests() == 0) {
            return NOT_POSSIBLE;
        }
        imagined.copyFrom(now);
        int drinking = imagined.handCupOn();
        imagined.seatByRank();
        switch (what) {
            case 0: return drinking;
            case 1: return imagined.breaths() - now.breaths();
            default: return imagined.guestIn(0);
        }
    }

    public int canLead() {
        int leading = 0;
        imagined.copyFrom(now);
        for (int breaths = 0; breaths <= BREATHS_TO_LEAD; breaths++) {
            int first = imagined.guestRanked(0);
            if (first >= 0) {
                leading |= 1 << first;
            }
            imagined.passBreaths(1);
        }
        return leading;
    }

    // ---- texts

    public int put(long characters) {
        return pad.append(characters);
    }

    public int wipe() {
        return pad.empty();
    }

    public int fault() {
        return pad.firstFault();
    }

    public int carryOut() {
        if (pad.firstFault() != NONE) {
            return BAD_TEXT;
        }
        before.copyFrom(now);
        int orders = pad.orders();
        int obeyed = 0;
        while (obeyed < orders && obey(pad.startOf(obeyed)) >= 0) {
            obeyed++;
        }
        pad.empty();
        return recorded(obeyed);
    }

    /** Carries out the order that starts at an index of the pad; a pad without a fault is asked for. */
    private int obey(int start) {
        int digit = pad.digitAt(start + 1);
        int nextDigit = pad.digitAt(start + 2);
        switch (pad.signAt(start)) {
            case 'g': return now.welcome(pad.numberAt(start + 1));
            case 'x': return now.seeOff(digit);
            case 'w': return now.hearWord(digit);
            case 'b': return now.makeBow(digit, nextDigit);
            case 't': return now.breatheOn(pad.numberAt(start + 1));
            case 'r': return now.holdRound();
            case 'o': return now.offerCup(digit, nextDigit);
            default: return BAD_TEXT;
        }
    }

    // ---- undo, saving

    public int undo() {
        return history.takeBack(now);
    }

    public int save(int slot) {
        if (slot < 0 || slot > 1) {
            return BAD_VALUE;
        }
        slotNumbered(slot).fill(now);
        return now.guests();
    }

    public int restore(int slot) {
        if (slot < 0 || slot > 1) {
            return BAD_VALUE;
        }
        if (!slotNumbered(slot).isFilled()) {
            return NOT_POSSIBLE;
        }
        before.copyFrom(now);
        slotNumbered(slot).copyTo(now);
        return recorded(now.guests());
    }

    private Slot slotNumbered(int slot) {
        return slot == 0 ? slotZero : slotOne;
    }

    /** Everything that undo, save and restore treat as one state: settings, guests, seats, bows and counts. */
    private static final class Room {
        private final int[] settings = {2, 3, 9, 3};
        // One row for each fact, by the guest's number; a number is free while its patience is 0.
        private final int[] patience = new int[MOST_GUESTS];
        private final int[] silence = new int[MOST_GUESTS];
        private final int[] cups = new int[MOST_GUESTS];
        private final int[] sighs = new int[MOST_GUESTS];
        private final int[] words = new int[MOST_GUESTS];
        private final int[] seats = new int[MOST_GUESTS];
        private final Bows bows = new Bows();
        private int breathsSoFar;
        private int roundsSoFar;
        private int cupsSoFar;
        private int wordsSoFar;
        private int sighsSoFar;
        // Only for the work of seatByRank: no part of the state.
        private final int[] ranks = new int[MOST_GUESTS];

        void copyFrom(Room other) {
            System.arraycopy(other.settings, 0, settings, 0, settings.length);
            System.arraycopy(other.patience, 0, patience, 0, MOST_GUESTS);
            System.arraycopy(other.silence, 0, silence, 0, MOST_GUESTS);
            System.arraycopy(other.cups, 0, cups, 0, MOST_GUESTS);
            System.arraycopy(other.sighs, 0, sighs, 0, MOST_GUESTS);
            System.arraycopy(other.words, 0, words, 0, MOST_GUESTS);
            System.arraycopy(other.seats, 0, seats, 0, MOST_GUESTS);
            bows.copyFrom(other.bows);
            breathsSoFar = other.breathsSoFar;
            roundsSoFar = other.roundsSoFar;
            cupsSoFar = other.cupsSoFar;
            wordsSoFar = other.wordsSoFar;
            sighsSoFar = other.sighsSoFar;
        }

        boolean isHere(int guest) {
            return guest >= 0 && guest < MOST_GUESTS && patience[guest] > 0;
        }

        int guests() {
            return Integer.bitCount(guestsAsSet());
        }

        int breaths() {
            return breathsSoFar;
        }

        int changeSetting(int setting, int value) {
            if (setting < 0 || setting >= settings.length || setting >= MOST_OF_SETTING.length) {
                return BAD_VALUE;
            }
            if (value < 1 || value > MOST_OF_SETTING[setting]) {
                return BAD_VALUE;
            }
            int previous = settings[setting];
            settings[setting] = value;
            return previous;
        }

        int welcome(int patienceOfGuest) {
            if (patienceOfGuest < 1 || patienceOfGuest > MOST_PATIENCE) {
                return BAD_VALUE;
            }
            int farthest = guests();
            for (int guest = 0; guest < MOST_GUESTS; guest++) {
                if (patience[guest] == 0) {
                    patience[guest] = patienceOfGuest;
                    seats[guest] = farthest;
                    return guest;
                }
            }
            return TOO_MANY;
        }

        int seeOff(int guest) {
            if (!isHere(guest)) {
                return NO_SUCH;
            }
            int free = seats[guest];
            for (int other = 0; other < MOST_GUESTS; other++) {
                if (patience[other] > 0 && seats[other] > free) {
                    seats[other]--;
                }
            }
            bows.forget(guest);
            // The next guest with this number starts from nothing.
            patience[guest] = 0;
            silence[guest] = 0;
            cups[guest] = 0;
            sighs[guest] = 0;
            words[guest] = 0;
            seats[guest] = 0;
            return free;
        }

        int hearWord(int guest) {
            if (!isHere(guest)) {
                return NO_SUCH;
            }
            int broken = silence[guest];
            silence[guest] = 0;
            words[guest]++;
            wordsSoFar++;
            return broken;
        }

        /** The error of a pair that is not two guests who are here; 0 if there is none. */
        private int errorOfPair(int guest, int other) {
            if (!isHere(guest) || !isHere(other)) {
                return NO_SUCH;
            }
            return guest == other ? BAD_VALUE : 0;
        }

        int makeBow(int guest, int other) {
            int error = errorOfPair(guest, other);
            if (error < 0) {
                return error;
            }
            return bows.pay(guest, other) ? bows.between(guest, other) : NOT_POSSIBLE;
        }

        int offerCup(int guest, int other) {
            int error = errorOfPair(guest, other);
            if (error < 0) {
                return error;
            }
            if (reasonToPassBy(other) != 0 || breathsSoFar + settings[SIP] > MOST_BREATHS) {
                return NOT_POSSIBLE;
            }
            drink(other);
            bows.lay(other, guest, BOWS_FOR_OFFER);
            bows.setOffBoth(guest, other);
            return bows.between(other, guest);
        }

        int breatheOn(int many) {
            if (many < 1 || many > MOST_BREATHS_AT_ONCE) {
                return BAD_VALUE;
            }
            return breathsSoFar + many > MOST_BREATHS ? NOT_POSSIBLE : passBreaths(many);
        }

        int holdRound() {
            if (guests() == 0 || breathsSoFar > MOST_BREATHS_FOR_ROUND) {
                return NOT_POSSIBLE;
            }
            int drinking = handCupOn();
            seatByRank();
            roundsSoFar++;
            return drinking;
        }

        /** Seats all guests anew, and tells how many get another seat. */
        int seatByRank() {
            // All ranks are found first: who sat nearer is told by the old seats.
            for (int guest = 0; guest < MOST_GUESTS; guest++) {
                ranks[guest] = rankOf(guest);
            }
            int moved = 0;
            for (int guest = 0; guest < MOST_GUESTS; guest++) {
                if (patience[guest] > 0 && seats[guest] != ranks[guest]) {
                    seats[guest] = ranks[guest];
                    moved++;
                }
            }
            return moved;
        }

        /** Lets the cup go from seat to seat, and tells how many drink; seats and rounds stay. */
        int handCupOn() {
            int drinking = 0;
            int drankLast = NO_SUCH;
            int places = guests();
            for (int seat = 0; seat < places; seat++) {
                int guest = guestIn(seat);
                if (isHere(guest) && reasonToPassBy(guest) == 0) {
                    drink(guest);
                    if (isHere(drankLast)) {
                        bows.lay(guest, drankLast, 1);
                    }
                    drankLast = guest;
                    drinking++;
                }
            }
            return drinking;
        }

        private void drink(int guest) {
            cups[guest]++;
            cupsSoFar++;
            passBreaths(settings[SIP]);
        }

        /** Lets breaths pass, without a bound, and tells how many sighs there are in them. */
        int passBreaths(int many) {
            int heard = 0;
            for (int breath = 0; breath < many; breath++) {
                for (int guest = 0; guest < MOST_GUESTS; guest++) {
                    if (patience[guest] > 0 && sighsWithNextBreath(guest)) {
                        heard++;
                    }
                }
            }
            breathsSoFar += many;
            sighsSoFar += heard;
            return heard;
        }

        private boolean sighsWithNextBreath(int guest) {
            silence[guest]++;
            if (silence[guest] < settings[LONG] * patience[guest]) {
                return false;
            }
            silence[guest] = patience[guest];
            sighs[guest]++;
            return true;
        }

        int reasonToPassBy(int guest) {
            if (cups[guest] >= settings[CUPS]) {
                return 1;
            }
            return bows.owedBy(guest) >= settings[DEBT] ? 2 : 0;
        }

        /** The seat that a guest would get, if all were seated anew now. */
        int rankOf(int guest) {
            int ahead = 0;
            for (int other = 0; other < MOST_GUESTS; other++) {
                if (other != guest && patience[other] > 0 && comesAhead(other, guest)) {
                    ahead++;
                }
            }
            return ahead;
        }

        private boolean comesAhead(int guest, int other) {
            if (silence[guest] != silence[other]) {
                return silence[guest] > silence[other];
            }
            if (cups[guest] != cups[other]) {
                return cups[guest] < cups[other];
            }
            int owed = bows.owedBy(guest);
            int owedByOther = bows.owedBy(other);
            return owed != owedByOther ? owed < owedByOther : seats[guest] < seats[other];
        }

        int guestIn(int seat) {
            for (int guest = 0; guest < MOST_GUESTS; guest++) {
                if (patience[guest] > 0 && seats[guest] == seat) {
                    return guest;
                }
            }
            return NO_SUCH;
        }

        int guestRanked(int rank) {
            for (int guest = 0; guest < MOST_GUESTS; guest++) {
                if (patience[guest] > 0 && rankOf(guest) == rank) {
                    return guest;
                }
            }
            return NO_SUCH;
        }

        int silentFor(int breaths) {
            int many = 0;
            for (int guest = 0; guest < MOST_GUESTS; guest++) {
                if (patience[guest] > 0 && silence[guest] >= breaths) {
                    many++;
                }
            }
            return many;
        }

        int owedTo(int guest, int other) {
            int error = errorOfPair(guest, other);
            return error < 0 ? error : bows.between(guest, other);
        }

        int factOf(int guest, int what) {
            if (!isHere(guest)) {
                return NO_SUCH;
            }
            switch (what) {
                case 0: return seats[guest];
                case 1: return patience[guest];
                case 2: return silence[guest];
                case 3: return cups[guest];
                case 4: return sighs[guest];
                case 5: return words[guest];
                case 6: return bows.owedBy(guest);
                case 7: return bows.owedToAll(guest);
                case 8: return bows.madeBy(guest);
                case 9: return rankOf(guest);
                default: return BAD_VALUE;
            }
        }

        int counted(int what) {
            switch (what) {
                case 0: return breathsSoFar;
                case 1: return guests();
                case 2: return roundsSoFar;
                case 3: return cupsSoFar;
                case 4: return bows.owedInAll();
                case 5: return bows.madeSoFar();
                case 6: return bows.lostSoFar();
                case 7: return bows.setOffSoFar();
                case 8: return bows.laidSoFar();
                case 9: return wordsSoFar;
                case 10: return sighsSoFar;
                case 11: return guestsAsSet();
                case 12: return passedByAsSet();
                default: return settingCounted(what);
            }
        }

        private int settingCounted(int what) {
            if (what < FIRST_SETTING_COUNTED || what - FIRST_SETTING_COUNTED >= settings.length) {
                return BAD_VALUE;
            }
            return settings[what - FIRST_SETTING_COUNTED];
        }

        private int guestsAsSet() {
            int set = 0;
            for (int guest = 0; guest < MOST_GUESTS; guest++) {
                if (patience[guest] > 0) {
                    set |= 1 << guest;
                }
            }
            return set;
        }

        private int passedByAsSet() {
            int set = 0;
            for (int guest = 0; guest < MOST_GUESTS; guest++) {
                if (patience[guest] > 0 && reasonToPassBy(guest) != 0) {
                    set |= 1 << guest;
                }
            }
            return set;
        }
    }

    /** The bows that guests owe each other, and what became of all that were laid on them. */
    private static final class Bows {
        // One cell for each pair: the row of the one who owes, the column of the other one.
        private final int[] owed = new int[MOST_GUESTS * MOST_GUESTS];
        private final int[] made = new int[MOST_GUESTS];
        private int laidInAll;
        private int madeInAll;
        private int lostInAll;
        private int setOffInAll;

        void copyFrom(Bows other) {
            System.arraycopy(other.owed, 0, owed, 0, MOST_GUESTS * MOST_GUESTS);
            System.arraycopy(other.made, 0, made, 0, MOST_GUESTS);
            laidInAll = other.laidInAll;
            madeInAll = other.madeInAll;
            lostInAll = other.lostInAll;
            setOffInAll = other.setOffInAll;
        }

        int between(int guest, int other) {
            return owed[guest * MOST_GUESTS + other];
        }

        int owedBy(int guest) {
            int row = guest * MOST_GUESTS;
            int sum = 0;
            for (int other = 0; other < MOST_GUESTS; other++) {
                sum += owed[row + other];
            }
            return sum;
        }

        int owedToAll(int guest) {
            int sum = 0;
            for (int other = 0; other < MOST_GUESTS; other++) {
                sum += owed[other * MOST_GUESTS + guest];
            }
            return sum;
        }

        int owedInAll() {
            int sum = 0;
            for (int cell = 0; cell < MOST_GUESTS * MOST_GUESTS; cell++) {
                sum += owed[cell];
            }
            return sum;
        }

        int madeBy(int guest) {
            return made[guest];
        }

        int madeSoFar() {
            return madeInAll;
        }

        int lostSoFar() {
            return lostInAll;
        }

        int setOffSoFar() {
            return setOffInAll;
        }

        int laidSoFar() {
            return laidInAll;
        }

        void lay(int guest, int other, int many) {
            owed[guest * MOST_GUESTS + other] += many;
            laidInAll += many;
        }

        /** Makes one bow, and tells whether one was owed. */
        boolean pay(int guest, int other) {
            int cell = guest * MOST_GUESTS + other;
            if (owed[cell] == 0) {
                return false;
            }
            owed[cell]--;
            made[guest]++;
            madeInAll++;
            return true;
        }

        void setOffBoth(int guest, int other) {
            int cell = guest * MOST_GUESTS + other;
            int cellOfOther = other * MOST_GUESTS + guest;
            int each = Math.min(owed[cell], owed[cellOfOther]);
            owed[cell] -= each;
            owed[cellOfOther] -= each;
            // Each one of the two counts.
            setOffInAll += 2 * each;
        }

        /** Loses all bows by a guest and to the guest; the guest's number is free behind it. */
        void forget(int guest) {
            lostInAll += owedBy(guest) + owedToAll(guest);
            for (int other = 0; other < MOST_GUESTS; other++) {
                owed[guest * MOST_GUESTS + other] = 0;
                owed[other * MOST_GUESTS + guest] = 0;
            }
            made[guest] = 0;
        }
    }

    /** One state that was saved, if any was. */
    private static final class Slot {
        private final Room saved = new Room();
        private boolean filled;

        boolean isFilled() {
            return filled;
        }

        void fill(Room room) {
            saved.copyFrom(room);
            filled = true;
        }

        void copyTo(Room room) {
            room.copyFrom(saved);
        }
    }

    /** The states before the latest changes, in a ring whose oldest place is used again. */
    private static final class History {
        private final Room[] ring = new Room[MOST_STATES];
        private int next;
        private int kept;

        History() {
            for (int place = 0; place < MOST_STATES; place++) {
                ring[place] = new Room();
            }
        }

        int states() {
            return kept;
        }

        void keep(Room state) {
            copy(state, roomAt(next));
            next = next + 1 < MOST_STATES ? next + 1 : 0;
            kept = Math.min(kept + 1, MOST_STATES);
        }

        /** Gives a room the latest state back, and tells how many states are kept then. */
        int takeBack(Room room) {
            if (kept == 0) {
                return NOT_POSSIBLE;
            }
            next = next > 0 ? next - 1 : MOST_STATES - 1;
            kept--;
            copy(roomAt(next), room);
            return kept;
        }

        private Room roomAt(int place) {
            return place >= 0 && place < MOST_STATES ? ring[place] : null;
        }

        private static void copy(Room from, Room to) {
            if (from != null && to != null) {
                to.copyFrom(from);
            }
        }
    }

    /** The text of orders: it is read by steps, and knows no guests. */
    private static final class Pad {
        // What may stand at a place of the text.
        private static final int ORDER = 0, TWO_DIGITS = 1, ONE_DIGIT = 2, NUMBER = 3, SECOND_DIGIT = 4;
        private static final int END_OF_ORDER = 5, NOTHING = 6;
        private static final int MOST_AT_ONCE = 8, LOWEST_CODE = 33, HIGHEST_CODE = 126;

        private final char[] text = new char[MOST_CHARACTERS];
        private int length;

        int length() {
            return length;
        }

        int append(long characters) {
            int many = charactersIn(characters);
            if (many == 0) {
                return BAD_VALUE;
            }
            if (length + many > MOST_CHARACTERS) {
                return TOO_MANY;
            }
            long rest = characters;
            for (int place = length + many - 1; place >= length; place--) {
                text[place] = (char) (rest & 255);
                rest >>>= 8;
            }
            length += many;
            return length;
        }

        /** How many characters a number gives; 0 if it has none, or may not be put. */
        private static int charactersIn(long characters) {
            long rest = characters;
            int many = 0;
            while (many < MOST_AT_ONCE && (rest & 255) != 0) {
                long code = rest & 255;
                if (code < LOWEST_CODE || code > HIGHEST_CODE) {
                    return 0;
                }
                rest >>>= 8;
                many++;
            }
            return rest == 0 ? many : 0;
        }

        int empty() {
            int before = length;
            length = 0;
            return before;
        }

        /** The character at an index; 0, which no text has, beyond its ends. */
        int signAt(int index) {
            return index >= 0 && index < length && index < MOST_CHARACTERS ? text[index] : 0;
        }

        /** The value of the digit at an index; NONE if there is no digit. */
        int digitAt(int index) {
            int sign = signAt(index);
            return isDigit(sign) ? sign - '0' : NONE;
        }

        /** The value of the number of one or two digits that starts at an index. */
        int numberAt(int index) {
            int first = digitAt(index);
            int second = digitAt(index + 1);
            return second >= 0 ? 10 * first + second : first;
        }

        int orders() {
            int many = 1;
            for (int index = 0; index < length; index++) {
                if (signAt(index) == ';') {
                    many++;
                }
            }
            return many;
        }

        /** The index at which an order starts, counted from 0; the length if there are not so many. */
        int startOf(int order) {
            int ahead = order;
            for (int index = 0; index < length; index++) {
                if (ahead == 0) {
                    return index;
                }
                if (signAt(index) == ';') {
                    ahead--;
                }
            }
            return length;
        }

        int firstFault() {
            int due = ORDER;
            for (int index = 0; index < length; index++) {
                due = dueBehind(due, signAt(index));
                if (due == NOTHING) {
                    return index;
                }
            }
            return due == END_OF_ORDER || due == SECOND_DIGIT ? NONE : length;
        }

        /** What is due behind a character at a place where something was due; NOTHING if it can't stand there. */
        private static int dueBehind(int due, int sign) {
            switch (due) {
                case ORDER: return dueBehindLetter(sign);
                case TWO_DIGITS: return isDigit(sign) ? ONE_DIGIT : NOTHING;
                case ONE_DIGIT: return isDigit(sign) ? END_OF_ORDER : NOTHING;
                // No digit may follow a leading zero.
                case NUMBER: return sign == '0' ? END_OF_ORDER : isDigit(sign) ? SECOND_DIGIT : NOTHING;
                case SECOND_DIGIT: return isDigit(sign) ? END_OF_ORDER : sign == ';' ? ORDER : NOTHING;
                case END_OF_ORDER: return sign == ';' ? ORDER : NOTHING;
                default: return NOTHING;
            }
        }

        private static int dueBehindLetter(int letter) {
            switch (letter) {
                case 'g':
                case 't': return NUMBER;
                case 'x':
                case 'w': return ONE_DIGIT;
                case 'b':
                case 'o': return TWO_DIGITS;
                case 'r': return END_OF_ORDER;
                default: return NOTHING;
            }
        }

        private static boolean isDigit(int sign) {
            return sign >= '0' && sign <= '9';
        }
    }
}
