import java.lang.reflect.InvocationTargetException;
import java.lang.reflect.Method;
import java.util.ArrayList;
import java.util.Arrays;
import java.util.HashMap;
import java.util.List;
import java.util.Map;

/** Long runs of all calls, each answered by the program and by the model; also with arguments far out of range. */
public final class ModelTest {
    private static final int RUNS = 400;
    private static final int CALLS = 512;
    private static final String[] CALLS_BY_WEIGHT = (
        "guest guest guest guest leave word word bow bow bow offer offer offer offer breathe breathe round round round "
        + "seatAnew set set of of of owes owes at ranked silent count count count why seatedIn seatedIn ifWord ifRound "
        + "ifRound canLead put put put put wipe fault fault carryOut carryOut undo save restore").split(" ");
    private static final long[] ODD = {
        Integer.MIN_VALUE, Integer.MAX_VALUE, -1, -2, 9, 10, 31, 64, 100, 1000, -9, 1 << 30, Long.MIN_VALUE,
    };

    private final Map<String, Method> methods = new HashMap<>();
    private final Map<String, Integer> answered = new HashMap<>();
    private final Check check = new Check("ModelTest");
    private long seed;

    public static void main(String[] args) throws Exception {
        new ModelTest().run();
    }

    private void run() throws Exception {
        for (Method method : TeaSeats.class.getMethods()) {
            methods.put(method.getName(), method);
        }
        int wrongRuns = 0;
        for (int number = 1; number <= RUNS && wrongRuns < 3; number++) {
            seed = number;
            wrongRuns += rightRun(number) ? 0 : 1;
        }
        everyKindOfAnswerWasSeen();
        check.end();
    }

    private boolean rightRun(int number) throws Exception {
        TeaSeats seats = new TeaSeats();
        Model model = new Model();
        List<String> told = new ArrayList<>();
        for (int call = 0; call < CALLS; call++) {
            // Some runs come to the bound of breaths.
            boolean hurried = number % 5 == 0 && below(3) == 0;
            String name = hurried ? "breathe" : CALLS_BY_WEIGHT[below(CALLS_BY_WEIGHT.length)];
            long[] with = arguments(name, number);
            int want = model.answer(name, with);
            int got = call(seats, name, with);
            told.add(name + Arrays.toString(with) + " -> " + got);
            check.due("run " + number + ", call " + call + ", " + name + Arrays.toString(with), got, want);
            answered.merge(name + (want < 0 ? want : ""), 1, Integer::sum);
            if (got != want) {
                System.out.println(told);
                return false;
            }
        }
        return true;
    }

    private int call(TeaSeats seats, String name, long[] with) throws Exception {
        Object[] arguments = new Object[with.length];
        for (int index = 0; index < with.length; index++) {
            arguments[index] = name.equals("put") ? (Object) with[index] : (Object) (int) with[index];
        }
        try {
            return (int) methods.get(name).invoke(seats, arguments);
        } catch (InvocationTargetException thrown) {
            throw new AssertionError(name + Arrays.toString(with) + " threw", thrown.getCause());
        }
    }

    /** So that no error stays without a run in which it was due. */
    private void everyKindOfAnswerWasSeen() {
        String kinds = "set set-2 guest guest-2 guest-4 leave leave-1 word word-1 bow bow-1 bow-2 bow-5 offer offer-1 "
            + "offer-2 offer-5 breathe breathe-2 breathe-5 round round-5 seatAnew of of-1 of-2 owes owes-1 owes-2 at at-1 "
            + "ranked ranked-1 silent silent-2 count count-2 why why-1 seatedIn seatedIn-1 seatedIn-6 ifWord ifWord-1 "
            + "ifRound ifRound-2 ifRound-5 canLead put put-2 put-4 wipe fault fault-6 carryOut carryOut-3 undo undo-5 "
            + "save save-2 restore restore-2 restore-5";
        for (String kind : kinds.split(" ")) {
            check.due("an answer like " + kind + " was seen", answered.containsKey(kind) ? 1 : 0, 1);
        }
    }

    private int below(int bound) {
        seed = seed * 6364136223846793005L + 1442695040888963407L;
        return (int) ((seed >>> 33) % bound);
    }

    private long[] arguments(String name, int run) {
        if (name.equals("put")) {
            return new long[] {below(20) == 0 ? strangeNumber() : View.number(someText())};
        }
        long[] with = new long[methods.get(name).getParameterCount()];
        for (int index = 0; index < with.length; index++) {
            with[index] = below(40) == 0 ? (int) ODD[below(ODD.length)] : usual(name, index, run);
        }
        return with;
    }

    private int usual(String name, int index, int run) {
        switch (name) {
            case "set": return index == 0 ? below(4) : 1 + below(run % 2 == 0 ? 9 : 4);
            // Some runs have guests who are much alike, so that ties are many.
            case "guest": return run % 3 == 0 ? 1 + below(3) : 1 + below(30);
            case "breathe": return run % 5 == 0 ? 90 + below(10) : 1 + below(20);
            case "of": return index == 0 ? below(9) : below(10);
            case "silent": return below(40);
            case "count": return below(19);
            case "ifRound": return below(3);
            case "save":
            case "restore": return below(2);
            default: return below(run % 4 == 0 ? 9 : 5);
        }
    }

    private long strangeNumber() {
        long number = View.number(someText());
        return below(2) == 0 ? number << 8 * below(8) : number ^ 1L << below(64);
    }

    /** A piece of a text, of 1 to 8 characters: mostly of orders that are right. */
    private String someText() {
        String[] orders = {"g" + below(34), "x" + below(9), "w" + below(5), "b" + below(4) + below(4), "t" + below(60), "r",
            "o" + below(4) + below(4)};
        String text = orders[below(orders.length)] + ";" + orders[below(orders.length)];
        switch (below(12)) {
            case 0: return text.substring(0, 1 + below(text.length()));
            case 1: return "" + (char) (33 + below(94));
            case 2: return "" + below(100);
            case 3: return ";";
            default: return below(2) == 0 ? text : orders[below(orders.length)];
        }
    }
}
