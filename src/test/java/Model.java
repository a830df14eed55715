import java.util.ArrayList;
import java.util.Comparator;
import java.util.HashMap;
import java.util.List;
import java.util.Map;
import java.util.regex.Pattern;

/** The document once more, in the plainest way: guests are objects in the order of their seats, states are copies. */
final class Model {
    private static final class Person {
        int number, patience, silence, cups, sighs, words, made;
        final Map<Integer, Integer> owes = new HashMap<>();

        Person copy() {
            Person other = new Person();
            other.number = number;
            other.patience = patience;
            other.silence = silence;
            other.cups = cups;
            other.sighs = sighs;
            other.words = words;
            other.made = made;
            other.owes.putAll(owes);
            return other;
        }

        int owesTo(int other) {
            return owes.getOrDefault(other, 0);
        }

        int owesInAll() {
            return owes.values().stream().mapToInt(Integer::intValue).sum();
        }
    }

    private static final class State {
        int[] settings = {2, 3, 9, 3};
        int breaths, rounds, cups, made, lost, setOff, laid, words, sighs;
        List<Person> seated = new ArrayList<>();

        State copy() {
            State other = new State();
            other.settings = settings.clone();
            other.breaths = breaths;
            other.rounds = rounds;
            other.cups = cups;
            other.made = made;
            other.lost = lost;
            other.setOff = setOff;
            other.laid = laid;
            other.words = words;
            other.sighs = sighs;
            for (Person person : seated) {
                other.seated.add(person.copy());
            }
            return other;
        }

        Person person(int number) {
            return seated.stream().filter(one -> one.number == number).findFirst().orElse(null);
        }

        int seatOf(int number) {
            return seated.indexOf(person(number));
        }

        List<Person> byRank() {
            List<Person> sorted = new ArrayList<>(seated);
            sorted.sort(Comparator.<Person>comparingInt(one -> -one.silence)
                .thenComparingInt(one -> one.cups).thenComparingInt(Person::owesInAll));
            return sorted;
        }

        int rankOf(int number) {
            return byRank().indexOf(person(number));
        }

        int reason(Person person) {
            if (person.cups >= settings[2]) {
                return 1;
            }
            return person.owesInAll() >= settings[1] ? 2 : 0;
        }

        int breathe(int many) {
            int before = sighs;
            for (int breath = 0; breath < many; breath++) {
                for (Person person : seated) {
                    person.silence++;
                    if (person.silence >= settings[3] * person.patience) {
                        person.silence = person.patience;
                        person.sighs++;
                        sighs++;
                    }
                }
                breaths++;
            }
            return sighs - before;
        }

        void drink(Person person) {
            person.cups++;
            cups++;
            breathe(settings[0]);
        }

        int round() {
            Person last = null;
            int drinking = 0;
            for (Person person : seated) {
                if (reason(person) == 0) {
                    drink(person);
                    if (last != null) {
                        person.owes.merge(last.number, 1, Integer::sum);
                        laid++;
                    }
                    last = person;
                    drinking++;
                }
            }
            seated = byRank();
            rounds++;
            return drinking;
        }
    }

    private State state = new State();
    private final List<State> history = new ArrayList<>();
    private final State[] slots = new State[2];
    private String pad = "";

    /** Answers a call that is told by its name and its arguments. */
    int answer(String name, long[] with) {
        int a = with.length > 0 ? (int) with[0] : 0;
        int b = with.length > 1 ? (int) with[1] : 0;
        switch (name) {
            case "put": return put(with[0]);
            case "wipe": int length = pad.length(); pad = ""; return length;
            case "fault": return fault();
            case "carryOut": return carryOut();
            case "undo": return undo();
            case "save": return save(a);
            case "restore": return restore(a);
            default: break;
        }
        State before = state.copy();
        int answer = change(name, a, b);
        if (answer != Integer.MIN_VALUE) {
            record(before, answer);
            return answer;
        }
        return query(name, a, b);
    }

    private void record(State before, int answer) {
        if (answer >= 0) {
            history.add(before);
            if (history.size() > 6) {
                history.remove(0);
            }
        }
    }

    private int change(String name, int a, int b) {
        switch (name) {
            case "set": return set(a, b);
            case "guest": return guest(a);
            case "leave": return leave(a);
            case "word": return word(a);
            case "bow": return bow(a, b);
            case "offer": return offer(a, b);
            case "breathe": return a < 1 || a > 99 ? -2 : state.breaths + a > 9999 ? -5 : state.breathe(a);
            case "round": return state.seated.isEmpty() || state.breaths > 9900 ? -5 : state.round();
            case "seatAnew": return seatAnew();
            default: return Integer.MIN_VALUE;
        }
    }

    private int set(int setting, int value) {
        int[] most = {9, 20, 30, 9};
        if (setting < 0 || setting > 3 || value < 1 || value > most[setting]) {
            return -2;
        }
        int previous = state.settings[setting];
        state.settings[setting] = value;
        return previous;
    }

    private int guest(int patience) {
        if (patience < 1 || patience > 30) {
            return -2;
        }
        if (state.seated.size() == 9) {
            return -4;
        }
        Person person = new Person();
        while (state.person(person.number) != null) {
            person.number++;
        }
        person.patience = patience;
        state.seated.add(person);
        return person.number;
    }

    private int leave(int guest) {
        Person person = state.person(guest);
        if (person == null) {
            return -1;
        }
        int seat = state.seated.indexOf(person);
        state.seated.remove(person);
        state.lost += person.owesInAll();
        for (Person other : state.seated) {
            Integer owed = other.owes.remove(guest);
            state.lost += owed == null ? 0 : owed;
        }
        return seat;
    }

    private int word(int guest) {
        Person person = state.person(guest);
        if (person == null) {
            return -1;
        }
        int broken = person.silence;
        person.silence = 0;
        person.words++;
        state.words++;
        return broken;
    }

    private int bow(int guest, int other) {
        Person person = state.person(guest);
        if (person == null || state.person(other) == null) {
            return -1;
        }
        if (guest == other) {
            return -2;
        }
        if (person.owesTo(other) == 0) {
            return -5;
        }
        person.owes.merge(other, -1, Integer::sum);
        person.made++;
        state.made++;
        return person.owesTo(other);
    }

    private int offer(int guest, int other) {
        Person host = state.person(guest);
        Person drinker = state.person(other);
        if (host == null || drinker == null) {
            return -1;
        }
        if (guest == other) {
            return -2;
        }
        if (state.reason(drinker) != 0 || state.breaths + state.settings[0] > 9999) {
            return -5;
        }
        state.drink(drinker);
        drinker.owes.merge(guest, 2, Integer::sum);
        state.laid += 2;
        while (drinker.owesTo(guest) > 0 && host.owesTo(other) > 0) {
            drinker.owes.merge(guest, -1, Integer::sum);
            host.owes.merge(other, -1, Integer::sum);
            state.setOff += 2;
        }
        return drinker.owesTo(guest);
    }

    private int seatAnew() {
        List<Person> anew = state.byRank();
        int moved = 0;
        for (int seat = 0; seat < anew.size(); seat++) {
            moved += anew.get(seat) != state.seated.get(seat) ? 1 : 0;
        }
        state.seated = anew;
        return moved;
    }

    private int query(String name, int a, int b) {
        Person person = state.person(a);
        switch (name) {
            case "of": return person == null ? -1 : b < 0 || b > 9 ? -2 : of(person, b);
            case "owes": return person == null || state.person(b) == null ? -1 : a == b ? -2 : person.owesTo(b);
            case "at": return a < 0 || a >= state.seated.size() ? -1 : state.seated.get(a).number;
            case "ranked": return a < 0 || a >= state.seated.size() ? -1 : state.byRank().get(a).number;
            case "silent": return a < 0 ? -2 : (int) state.seated.stream().filter(one -> one.silence >= a).count();
            case "count": return a < 0 || a > 18 ? -2 : count(a);
            case "why": return person == null ? -1 : state.reason(person);
            case "seatedIn": return person == null || b < 0 || b >= state.seated.size() ? -1 : seatedIn(a, b);
            case "ifWord": return person == null ? -1 : ifWord(a);
            case "ifRound": return a < 0 || a > 2 ? -2 : state.seated.isEmpty() ? -5 : ifRound(a);
            case "canLead": return canLead();
            default: throw new IllegalArgumentException(name);
        }
    }

    private int of(Person person, int what) {
        int owedByOthers = state.seated.stream().mapToInt(one -> one.owesTo(person.number)).sum();
        int[] facts = {
            state.seatOf(person.number), person.patience, person.silence, person.cups, person.sighs, person.words,
            person.owesInAll(), owedByOthers, person.made, state.rankOf(person.number),
        };
        return facts[what];
    }

    private int count(int what) {
        int guests = 0;
        int passedBy = 0;
        int owed = 0;
        for (Person person : state.seated) {
            guests |= 1 << person.number;
            passedBy |= state.reason(person) != 0 ? 1 << person.number : 0;
            owed += person.owesInAll();
        }
        int[] counts = {
            state.breaths, state.seated.size(), state.rounds, state.cups, owed, state.made, state.lost, state.setOff,
            state.laid, state.words, state.sighs, guests, passedBy, state.settings[0], state.settings[1],
            state.settings[2], state.settings[3], pad.length(), history.size(),
        };
        return counts[what];
    }

    private int seatedIn(int guest, int seat) {
        State later = state.copy();
        for (int breaths = 0; breaths <= 300; breaths++) {
            if (later.rankOf(guest) <= seat) {
                return breaths;
            }
            later.breathe(1);
        }
        return -6;
    }

    private int ifWord(int guest) {
        State later = state.copy();
        later.person(guest).silence = 0;
        return later.rankOf(guest);
    }

    private int ifRound(int what) {
        State later = state.copy();
        int drinking = later.round();
        int[] answers = {drinking, later.breaths - state.breaths, later.seated.get(0).number};
        return answers[what];
    }

    private int canLead() {
        State later = state.copy();
        int set = 0;
        for (int breaths = 0; breaths <= 100 && !later.seated.isEmpty(); breaths++) {
            set |= 1 << later.byRank().get(0).number;
            later.breathe(1);
        }
        return set;
    }

    private int put(long characters) {
        StringBuilder text = new StringBuilder();
        for (int shift = 56; shift >= 0; shift -= 8) {
            int code = (int) (characters >>> shift) & 255;
            if (code == 0 && text.length() == 0) {
                continue;
            }
            if (code < 33 || code > 126) {
                return -2;
            }
            text.append((char) code);
        }
        if (text.length() == 0) {
            return -2;
        }
        if (pad.length() + text.length() > 80) {
            return -4;
        }
        pad += text;
        return pad.length();
    }

    private static final String NUMBER = "(0|[1-9][0-9]?)";
    private static final String ORDER = "(g" + NUMBER + "|x[0-9]|w[0-9]|b[0-9][0-9]|t" + NUMBER + "|r|o[0-9][0-9])";
    private static final Pattern TEXT = Pattern.compile(ORDER + "(;" + ORDER + ")*");

    /** A text is right up to an index if some text that is right starts with it: so some ending has to fit. */
    private int fault() {
        if (TEXT.matcher(pad).matches()) {
            return -6;
        }
        String[] endings = {"", "0", "00", "r"};
        for (int length = pad.length(); length >= 0; length--) {
            for (String ending : endings) {
                if (TEXT.matcher(pad.substring(0, length) + ending).matches()) {
                    return length;
                }
            }
        }
        throw new IllegalStateException(pad);
    }

    private int carryOut() {
        if (fault() != -6) {
            return -3;
        }
        State before = state.copy();
        int obeyed = 0;
        for (String order : pad.split(";")) {
            if (obey(order) < 0) {
                break;
            }
            obeyed++;
        }
        pad = "";
        record(before, obeyed);
        return obeyed;
    }

    private int obey(String order) {
        String digits = order.substring(1);
        int number = digits.isEmpty() ? 0 : Integer.parseInt(digits);
        switch (order.charAt(0)) {
            case 'g': return change("guest", number, 0);
            case 'x': return change("leave", number, 0);
            case 'w': return change("word", number, 0);
            case 'b': return change("bow", number / 10, number % 10);
            case 't': return change("breathe", number, 0);
            case 'r': return change("round", 0, 0);
            default: return change("offer", number / 10, number % 10);
        }
    }

    private int undo() {
        if (history.isEmpty()) {
            return -5;
        }
        state = history.remove(history.size() - 1);
        return history.size();
    }

    private int save(int slot) {
        if (slot < 0 || slot > 1) {
            return -2;
        }
        slots[slot] = state.copy();
        return state.seated.size();
    }

    private int restore(int slot) {
        if (slot < 0 || slot > 1) {
            return -2;
        }
        if (slots[slot] == null) {
            return -5;
        }
        record(state, 0);
        state = slots[slot].copy();
        return state.seated.size();
    }
}
