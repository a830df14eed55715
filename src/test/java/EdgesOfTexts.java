import java.util.function.Supplier;
import java.util.function.ToIntFunction;

/** The edges of texts: of the section 'Texts', and of promises 22 to 25. */
final class EdgesOfTexts {
    private static final int BAD_VALUE = -2, BAD_TEXT = -3, TOO_MANY = -4, NONE = -6;

    private final Edges edges;

    EdgesOfTexts(Edges edges) {
        this.edges = edges;
    }

    void look() {
        longestText();
        textIsARowOfOrders();
        everyOrder();
        whatEachOrderDoes();
        digits();
        numbers();
        faultOfEachCharacter();
        faultAbove99();
        faultOfATextThatEnds();
        theConstants();
        theSettings();
        putOneToEight();
        putGivesTheLowestLast();
        putNothingAboveTheEnd();
        putAnswersTheLength();
        putNoCharacter();
        putNoSuchCode();
        putABitAboveTheEnd();
        putBeyond80();
        wipeAnswersTheLength();
        faultOrNone();
        carryOutAll();
        carryOutUpToAnError();
        carryOutEmptiesThePad();
        carryOutIsOneChange();
        carryOutCountsOrders();
        carryOutOfAFault();
    }

    private static Supplier<TeaSeats> text(String text) {
        return () -> Rooms.withText(Rooms.lived(), text);
    }

    private void faultOf(String text, int fault) {
        TeaSeats x = new TeaSeats();
        View.put(x, text);
        edges.due("fault() of '" + text + "'", x.fault(), fault);
        edges.due("carryOut() of '" + text + "' is refused", x.carryOut() == BAD_TEXT ? 1 : 0, fault == NONE ? 0 : 1);
    }

    private void longestText() {
        edges.sentence("Texts", "The pad is a text of at most 80 characters, a row of orders:");
        String longest = "r;".repeat(39) + "w0";
        edges.due("the length of the text", longest.length(), 80);
        edges.due("count(17)", text(longest).get().count(17), 80);
        edges.unchanged("fault() of 80 characters", text(longest), x -> x.fault(), NONE);
        edges.refused("put('r') behind 80 characters", text(longest), x -> x.put('r'), TOO_MANY);
        TeaSeats x = Rooms.withText(Rooms.of(9), longest);
        edges.due("carryOut() of 80 characters", x.carryOut(), 40);
        edges.due("rounds", x.count(2), 39);
        // The last character of all is the digit of w0.
        edges.due("words", x.of(0, 5), 1);
        edges.unchanged("put('r') behind 79 characters", () -> Rooms.withText(Rooms.of(9), longest.substring(0, 79)),
            y -> y.count(17), 79);
        TeaSeats z = Rooms.withText(Rooms.of(9), "r;".repeat(39) + "x");
        edges.due("fault() of 79 characters", z.fault(), 79);
        edges.due("put('9')", z.put('9'), 80);
        edges.due("fault() of 80 characters", z.fault(), NONE);
    }

    private void textIsARowOfOrders() {
        edges.sentence("Texts", "```text text = order { \";\" order }");
        faultOf("r", NONE);
        faultOf("r;r", NONE);
        faultOf("r;r;r", NONE);
        faultOf("", 0);
        faultOf(";", 0);
        faultOf(";r", 0);
        faultOf("r;", 2);
        faultOf("r;;", 2);
        faultOf("r;;r", 2);
        faultOf("r;r;", 4);
        faultOf("rr", 1);
        faultOf("r,r", 1);
        faultOf("r:r", 1);
        faultOf("x0x0", 2);
        faultOf("b01o01", 3);
        faultOf("g1g1", 2);
        faultOf("g10g1", 3);
        faultOf("g0r", 2);
    }

    private void everyOrder() {
        edges.sentence("Texts",
            "order = \"g\" number | \"x\" digit | \"w\" digit | \"b\" digit digit | \"t\" number | \"r\" | \"o\" "
            + "digit digit ```");
        for (String letter : new String[] {"g", "t"}) {
            faultOf(letter + "5", NONE);
            faultOf(letter + "55", NONE);
            faultOf(letter + "555", 3);
            faultOf(letter, 1);
            faultOf(letter + ";", 1);
        }
        for (String letter : new String[] {"x", "w"}) {
            faultOf(letter + "5", NONE);
            faultOf(letter + "55", 2);
            faultOf(letter, 1);
            faultOf(letter + ";", 1);
        }
        for (String letter : new String[] {"b", "o"}) {
            faultOf(letter + "55", NONE);
            faultOf(letter + "555", 3);
            faultOf(letter + "5", 2);
            faultOf(letter + "5;", 2);
            faultOf(letter, 1);
            faultOf(letter + ";", 1);
        }
        faultOf("r", NONE);
        faultOf("r5", 1);
        // Each other character begins no order: capitals, neighbours of the letters, and digits.
        for (char sign = 33; sign <= 126; sign++) {
            if ("gxwbtro".indexOf(sign) < 0) {
                faultOf("" + sign, 0);
                faultOf("r;" + sign + "1", 2);
            }
        }
    }

    private void whatEachOrderDoes() {
        edges.sentence("Texts",
            "\"g\": guest() with a patience; \"x\": leave(); \"w\": word() of a guest; \"b\": bow() of a guest "
            + "to another one; \"t\": breathe(); \"r\": round(); \"o\": offer() of a guest to another one.");
        does("g1", x -> x.guest(1));
        does("g30", x -> x.guest(30));
        does("x0", x -> x.leave(0));
        does("x3", x -> x.leave(3));
        does("w1", x -> x.word(1));
        does("b03", x -> x.bow(0, 3));
        does("b21", x -> x.bow(2, 1));
        does("t1", x -> x.breathe(1));
        does("t99", x -> x.breathe(99));
        does("r", x -> x.round());
        does("o31", x -> x.offer(3, 1));
        does("o13", x -> x.offer(1, 3));
    }

    private void does(String order, ToIntFunction<TeaSeats> change) {
        TeaSeats told = text(order).get();
        TeaSeats done = text(order).get();
        edges.due("carryOut() of " + order, told.carryOut(), 1);
        edges.due("the call of " + order + " is no error", change.applyAsInt(done) >= 0 ? 1 : 0, 1);
        edges.due("the rooms behind " + order + " are alike", View.ofRoom(told).equals(View.ofRoom(done)) ? 1 : 0, 1);
    }

    private void digits() {
        edges.sentence("Texts", "A digit is 0 to 9,");
        for (char sign = 33; sign <= 126; sign++) {
            boolean digit = "0123456789".indexOf(sign) >= 0;
            faultOf("x" + sign, digit ? NONE : 1);
            faultOf("w" + sign, digit ? NONE : 1);
            faultOf("b" + sign + "0", digit ? NONE : 1);
            faultOf("b0" + sign, digit ? NONE : 2);
            faultOf("o" + sign + "0", digit ? NONE : 1);
            faultOf("o0" + sign, digit ? NONE : 2);
        }
        // 8 is the last number that a guest can have, 9 is a digit as well.
        TeaSeats x = Rooms.withText(Rooms.ofNine(), "w0;w8;o08;b80;b80;x8;x8");
        edges.due("carryOut() up to x8 again", x.carryOut(), 6);
        edges.due("words of 0", x.of(0, 5), 1);
        edges.due("guests", x.count(11), 255);
        TeaSeats y = Rooms.withText(Rooms.ofNine(), "w9");
        edges.due("carryOut() of w9", y.carryOut(), 0);
    }

    private void numbers() {
        edges.sentence("Texts", "a number 0 to 99, without leading zeros.");
        for (String letter : new String[] {"g", "t"}) {
            for (int number = 0; number <= 99; number++) {
                faultOf(letter + number, NONE);
            }
            faultOf(letter + "00", 2);
            faultOf(letter + "01", 2);
            faultOf(letter + "09", 2);
            faultOf(letter + "000", 2);
            faultOf(letter + "-1", 1);
            faultOf(letter + "+1", 1);
        }
        for (int number = 1; number <= 99; number++) {
            TeaSeats x = Rooms.withText(Rooms.empty(), "t" + number);
            edges.due("carryOut() of t" + number, x.carryOut(), 1);
            edges.due("breaths", x.count(0), number);
            TeaSeats y = Rooms.withText(Rooms.empty(), "g" + number);
            edges.due("carryOut() of g" + number, y.carryOut(), number <= 30 ? 1 : 0);
            edges.due("the patience", y.of(0, 1), number <= 30 ? number : -1);
        }
        edges.due("carryOut() of t0", Rooms.withText(Rooms.empty(), "t0").carryOut(), 0);
        edges.due("carryOut() of g0", Rooms.withText(Rooms.empty(), "g0").carryOut(), 0);
    }

    private void faultOfEachCharacter() {
        edges.sentence("Texts",
            "The fault is the index of the first character that cannot stand at its place when the text is read "
            + "from left to right");
        String whole = "g5;x0;w1;b01;t99;r;o10";
        faultOf(whole, NONE);
        for (int index = 0; index < whole.length(); index++) {
            // A sign that can stand nowhere is the fault wherever it stands, whatever is behind it.
            faultOf(whole.substring(0, index) + "!" + whole.substring(index + 1), index);
            faultOf(whole.substring(0, index) + "!" + whole.substring(index + 1) + ";;", index);
            faultOf(whole.substring(0, index) + "!", index);
        }
        faultOf("!" + "r".repeat(79), 0);
        faultOf("r;".repeat(39) + "r!", 79);
        faultOf("r;".repeat(39) + "rr", 79);
    }

    private void faultAbove99() {
        edges.sentence("Texts", "(also of a digit by which a number would be above 99);");
        for (String letter : new String[] {"g", "t"}) {
            faultOf(letter + "99", NONE);
            faultOf(letter + "100", 3);
            faultOf(letter + "101;r", 3);
            faultOf(letter + "990", 3);
            faultOf(letter + "999", 3);
            faultOf("r;" + letter + "100", 5);
            faultOf(letter + "99;" + letter + "1000", 7);
        }
    }

    private void faultOfATextThatEnds() {
        edges.sentence("Texts",
            "if there is none and the text ends too early (also if it is empty), it is the length of the text.");
        faultOf("", 0);
        String whole = "g5;x0;w1;b01;t9;r;o10";
        for (int length = 1; length <= whole.length(); length++) {
            String begun = whole.substring(0, length);
            boolean ends = begun.matches("(.*;)?(g\\d|x\\d|w\\d|b\\d\\d|t\\d|r|o\\d\\d)");
            faultOf(begun, ends ? NONE : length);
        }
        faultOf("r;".repeat(40), 80);
        faultOf("r;".repeat(39) + "w", 79);
        faultOf("r;".repeat(39) + "b", 79);
        faultOf("r;".repeat(38) + "r;b", 79);
    }

    private void theConstants() {
        edges.sentence("Texts",
            "The constants: `NO_SUCH = -1, BAD_VALUE = -2, BAD_TEXT = -3, TOO_MANY = -4, NOT_POSSIBLE = -5, NONE "
            + "= -6`: Error codes, and NONE: there is none.");
        int[] due = {-1, -2, -3, -4, -5, -6};
        int[] got = {
            TeaSeats.NO_SUCH, TeaSeats.BAD_VALUE, TeaSeats.BAD_TEXT, TeaSeats.TOO_MANY, TeaSeats.NOT_POSSIBLE, TeaSeats.NONE,
        };
        for (int index = 0; index < due.length; index++) {
            edges.due("constant " + index, got[index], due[index]);
        }
    }

    private void theSettings() {
        edges.sentence("Texts", "`SIP = 0, DEBT = 1, CUPS = 2, LONG = 3`: Settings.");
        int[] got = {TeaSeats.SIP, TeaSeats.DEBT, TeaSeats.CUPS, TeaSeats.LONG};
        for (int index = 0; index < got.length; index++) {
            edges.due("setting " + index, got[index], index);
        }
    }

    private void putOneToEight() {
        edges.sentence("Promise 22", "- `characters`: 1 to 8 characters");
        String eight = "g5;t9;w0";
        for (int many = 1; many <= 8; many++) {
            TeaSeats x = new TeaSeats();
            edges.due("put() of " + many, x.put(View.number(eight.substring(0, many))), many);
            edges.due("count(17)", x.count(17), many);
        }
        for (int code = 33; code <= 126; code++) {
            for (int many = 1; many <= 8; many++) {
                TeaSeats x = new TeaSeats();
                edges.due("put() of " + many + " times " + code, x.put(View.number(("" + (char) code).repeat(many))), many);
            }
        }
    }

    private void putGivesTheLowestLast() {
        edges.sentence("Promise 22",
            "`int put(long characters)`: Appends characters to the pad. They are given as a number: its lowest 8 "
            + "bits are the last character, the next 8 bits the one before, and so on;");
        // 103, 53, 59, 116, 57, 59, 119 and 48 are g, 5, ;, t, 9, ;, w and 0.
        long[] numbers = {0x673BL, 0x67353B74L, 0x67353B74393B7730L};
        int[] faults = {1, 4, NONE};
        for (int index = 0; index < numbers.length; index++) {
            TeaSeats x = new TeaSeats();
            x.put(numbers[index]);
            edges.due("fault() behind put(" + numbers[index] + ")", x.fault(), faults[index]);
        }
        TeaSeats y = new TeaSeats();
        y.put(0x67353B74393B7730L);
        edges.due("carryOut()", y.carryOut(), 3);
        edges.due("patience", y.of(0, 1), 5);
        edges.due("breaths", y.count(0), 9);
        edges.due("words", y.of(0, 5), 1);
        // Appended, at each split of the text.
        String text = "g12;t34;w0;r;o00";
        for (int first = 1; first <= 8; first++) {
            TeaSeats x = new TeaSeats();
            x.put(View.number(text.substring(0, first)));
            edges.due("put() of the rest", View.put(x, text) - first, 16);
            x.wipe();
            x.put(View.number(text.substring(0, first)));
            View.put(x, text.substring(first));
            edges.due("carryOut() of both", x.carryOut(), 4);
            edges.due("patience", x.of(0, 1), 12);
            edges.due("breaths", x.count(0), 36);
        }
    }

    private void putNothingAboveTheEnd() {
        edges.sentence("Promise 22",
            "8 bits that are 0 mean that there are no more characters, and everything above them has to be 0, "
            + "too.");
        for (int many = 1; many <= 7; many++) {
            long number = View.number("rrrrrrr".substring(0, many));
            int length = many;
            TeaSeats x = new TeaSeats();
            edges.due("put() of " + many, x.put(number), many);
            // Any character above the 8 bits that are 0, if there is room for one.
            for (int above = many + 1; above < 8; above++) {
                long gap = number | (long) 'r' << 8 * above;
                edges.refused("put(" + gap + ")", () -> Rooms.wiped(Rooms.empty()), y -> y.put(gap), BAD_VALUE);
            }
            edges.due("the length", x.count(17), length);
        }
    }

    private void putAnswersTheLength() {
        edges.sentence("Promise 22", "Returns the length of the pad then;");
        TeaSeats x = new TeaSeats();
        int length = 0;
        for (int many : new int[] {1, 8, 2, 7, 3, 6, 4, 5, 8, 8, 8, 8, 8, 4}) {
            length += many;
            edges.due("put() of " + many, x.put(View.number("rrrrrrrr".substring(0, many))), length);
        }
        edges.due("the length of all", length, 80);
        // Neither the room nor the history knows of it.
        TeaSeats y = Rooms.lived();
        String room = View.ofRoom(y);
        y.put('r');
        edges.due("the room is as before", View.ofRoom(y).equals(room) ? 1 : 0, 1);
        edges.due("count(18)", y.count(18), 6);
    }

    private void putNoCharacter() {
        edges.sentence("Promise 22", "BAD_VALUE if there is no character,");
        Supplier<TeaSeats> wiped = () -> Rooms.wiped(Rooms.empty());
        edges.refused("put(0)", wiped, x -> x.put(0), BAD_VALUE);
        edges.refused("put(0) behind a text", Rooms::lived, x -> x.put(0), BAD_VALUE);
        edges.refused("put(0) on a full pad", text("r;".repeat(40)), x -> x.put(0), BAD_VALUE);
        edges.refused("put() with no last character", wiped, x -> x.put('r' << 8), BAD_VALUE);
    }

    private void putNoSuchCode() {
        edges.sentence("Promise 22", "a code is not 33 to 126,");
        for (int place = 0; place < 8; place++) {
            for (int code : new int[] {1, 31, 32, 127, 128, 161, 254, 255}) {
                for (int many = place + 1; many <= 8; many++) {
                    char[] characters = "rrrrrrrr".substring(0, many).toCharArray();
                    characters[place] = (char) code;
                    long number = View.number(new String(characters));
                    TeaSeats x = new TeaSeats();
                    edges.due("put(" + number + ")", x.put(number), BAD_VALUE);
                    edges.due("the length behind it", x.count(17), 0);
                }
            }
            for (int code : new int[] {33, 126}) {
                char[] characters = "rrrrrrrr".toCharArray();
                characters[place] = (char) code;
                edges.due("put() of eight with " + code, new TeaSeats().put(View.number(new String(characters))), 8);
            }
        }
        for (long number : new long[] {32, 127, -1, Long.MIN_VALUE, Long.MAX_VALUE, Integer.MIN_VALUE}) {
            edges.refused("put(" + number + ")", () -> Rooms.wiped(Rooms.empty()), x -> x.put(number), BAD_VALUE);
        }
        edges.refused("put(32) behind a text", Rooms::lived, x -> x.put(32), BAD_VALUE);
        edges.refused("put(127) behind a text", Rooms::lived, x -> x.put(127), BAD_VALUE);
        edges.refused("put(32) on a full pad", text("r;".repeat(40)), x -> x.put(32), BAD_VALUE);
    }

    private void putABitAboveTheEnd() {
        edges.sentence("Promise 22", "or a bit above 8 bits that are 0 is not 0;");
        for (int many = 0; many <= 6; many++) {
            long number = View.number("rrrrrr".substring(0, many));
            for (int bit = 8 * many + 8; bit < 64; bit++) {
                TeaSeats x = Rooms.withText(new TeaSeats(), "r");
                edges.due("put() of " + many + " with bit " + bit, x.put(number | 1L << bit), BAD_VALUE);
                edges.due("the length behind it", x.count(17), 1);
            }
        }
        edges.refused("put('r') with the highest bit", Rooms::lived, x -> x.put('r' | 1L << 63), BAD_VALUE);
        edges.refused("put('r') with the lowest bit above", Rooms::lived, x -> x.put('r' | 1L << 16), BAD_VALUE);
        // Also if there would be no room for the characters.
        edges.refused("put('r') with a bit above, full", text("r;".repeat(40)), x -> x.put('r' | 1L << 16), BAD_VALUE);
    }

    private void putBeyond80() {
        edges.sentence("Promise 22", "TOO_MANY if the pad would be longer than 80.");
        String text = "r;".repeat(40);
        for (int many = 1; many <= 8; many++) {
            long number = View.number("rrrrrrrr".substring(0, many));
            String fits = text.substring(0, 80 - many);
            TeaSeats x = Rooms.withText(new TeaSeats(), fits);
            edges.due("put() of " + many + " up to 80", x.put(number), 80);
            edges.refused("put() of " + many + " up to 81", text(text.substring(0, 81 - many)), y -> y.put(number), TOO_MANY);
            edges.refused("put() of " + many + " behind 80", text(text), y -> y.put(number), TOO_MANY);
        }
        // What was refused is not there: what is appended then follows the text.
        TeaSeats z = Rooms.withText(Rooms.of(9), text.substring(0, 79));
        edges.due("put() of two", z.put(View.number(";r")), TOO_MANY);
        edges.due("fault()", z.fault(), NONE);
        edges.due("put() of one", z.put(';'), 80);
        edges.due("fault()", z.fault(), 80);
    }

    private void wipeAnswersTheLength() {
        edges.sentence("Promise 23", "`int wipe()`: Empties the pad, and returns the length that it had.");
        for (int length : new int[] {0, 1, 2, 79, 80}) {
            String text = "r;".repeat(40).substring(0, length);
            TeaSeats x = text(text).get();
            String room = View.ofRoom(x);
            edges.due("wipe() of " + length, x.wipe(), length);
            edges.due("count(17)", x.count(17), 0);
            edges.due("fault()", x.fault(), 0);
            edges.due("count(18)", x.count(18), 6);
            edges.due("the room is as before", View.ofRoom(x).equals(room) ? 1 : 0, 1);
            edges.due("wipe() again", x.wipe(), 0);
            // Nothing is left of the text.
            edges.due("put('r')", x.put('r'), 1);
            edges.due("fault()", x.fault(), NONE);
            edges.due("carryOut()", x.carryOut(), 1);
        }
    }

    private void faultOrNone() {
        edges.sentence("Promise 24", "`int fault()`: Returns the fault of the pad, NONE if there is none.");
        edges.unchanged("fault() of a new object", TeaSeats::new, x -> x.fault(), 0);
        edges.unchanged("fault() of r", text("r"), x -> x.fault(), NONE);
        edges.unchanged("fault() of !", text("!"), x -> x.fault(), 0);
        edges.unchanged("fault() of r;", text("r;"), x -> x.fault(), 2);
        edges.unchanged("fault() of 80 signs that end too early", text("r;".repeat(40)), x -> x.fault(), 80);
        edges.unchanged("fault() of 80 signs, the last one wrong", text("r;".repeat(39) + "rr"), x -> x.fault(), 79);
        // What an order would answer is no matter of the text.
        edges.unchanged("fault() of x9", text("x9"), x -> x.fault(), NONE);
        edges.unchanged("fault() of g0", text("g0"), x -> x.fault(), NONE);
    }

    private void carryOutAll() {
        edges.sentence("Promise 25", "`int carryOut()`: Carries the orders of the pad out, one after the other,");
        TeaSeats told = text("g7;t3;w1;o14;r;b41;x0").get();
        TeaSeats done = Rooms.lived();
        edges.due("carryOut() of seven", told.carryOut(), 7);
        done.guest(7);
        done.breathe(3);
        done.word(1);
        done.offer(1, 4);
        done.round();
        done.bow(4, 1);
        done.leave(0);
        edges.due("the rooms are alike", View.ofRoom(told).equals(View.ofRoom(done)) ? 1 : 0, 1);
        // The order of the orders: a guest who comes first can speak then.
        edges.due("carryOut() of g5;w0", Rooms.withText(Rooms.empty(), "g5;w0").carryOut(), 2);
        edges.due("carryOut() of w0;g5", Rooms.withText(Rooms.empty(), "w0;g5").carryOut(), 0);
        edges.due("carryOut() of one", text("r").get().carryOut(), 1);
        edges.due("carryOut() of forty", Rooms.withText(Rooms.of(9), "r;".repeat(39) + "r").carryOut(), 40);
    }

    private void carryOutUpToAnError() {
        edges.sentence("Promise 25", "up to the first one that returns an error,");
        // 0 and 2 would be passed by; 1 owes nothing.
        String[] errors = {"g0", "g31", "x4", "x9", "w4", "w9", "b04", "b40", "b00", "b10", "t0", "o14", "o41", "o11", "o10"};
        for (String error : errors) {
            TeaSeats told = text("w1;" + error + ";w1;r").get();
            TeaSeats done = Rooms.lived();
            done.word(1);
            edges.due("carryOut() up to " + error, told.carryOut(), 1);
            edges.due("the rooms behind " + error + " are alike", View.ofRoom(told).equals(View.ofRoom(done)) ? 1 : 0, 1);
        }
        TeaSeats x = Rooms.withText(Rooms.ofNine(), "w8;g5;w8");
        edges.due("carryOut() up to a tenth guest", x.carryOut(), 1);
        edges.due("words", x.count(9), 1);
        TeaSeats y = Rooms.withText(Rooms.empty(), "t1;r;t1");
        edges.due("carryOut() up to a round of none", y.carryOut(), 1);
        edges.due("breaths", y.count(0), 1);
        TeaSeats z = Rooms.withText(Rooms.late(9997, 30, 30), "t1;t1;t1;t1");
        edges.due("carryOut() up to 10000 breaths", z.carryOut(), 2);
        edges.due("breaths", z.count(0), 9999);
        TeaSeats late = Rooms.withText(Rooms.late(9896, 30, 30), "r;r;r");
        edges.due("carryOut() up to a round at 9904", late.carryOut(), 2);
        TeaSeats sip = Rooms.withText(Rooms.late(9997, 30, 30), "o01;o10");
        edges.due("carryOut() up to a cup at 9999", sip.carryOut(), 1);
    }

    private void carryOutEmptiesThePad() {
        edges.sentence("Promise 25", "and empties the pad.");
        for (String text : new String[] {"r", "x9", "r;x9;r", "g5;g5;g5", "r;".repeat(39) + "r"}) {
            TeaSeats x = text(text).get();
            x.carryOut();
            edges.due("count(17) behind carryOut() of " + text, x.count(17), 0);
            edges.due("fault()", x.fault(), 0);
            edges.due("carryOut() again", x.carryOut(), BAD_TEXT);
            edges.due("put('r')", x.put('r'), 1);
            edges.due("fault()", x.fault(), NONE);
            x.undo();
            edges.due("the pad behind undo()", x.count(17), 1);
        }
    }

    private void carryOutIsOneChange() {
        edges.sentence("Promise 25", "This is a change (one, with all of them; also if none is carried out).");
        for (String text : new String[] {"x9", "r", "w0;w1;w2", "g5;g5;g5;g5;g5;g5", "t1;t1;x9;t1"}) {
            TeaSeats x = Rooms.withText(Rooms.with(new TeaSeats(), 30, 30, 30), text);
            String before = View.ofRoom(x);
            edges.due("count(18)", x.count(18), 3);
            edges.due("carryOut() of " + text + " is no error", x.carryOut() >= 0 ? 1 : 0, 1);
            edges.due("count(18)", x.count(18), 4);
            edges.due("undo()", x.undo(), 3);
            edges.due("the room is as before", View.ofRoom(x).equals(before) ? 1 : 0, 1);
        }
        // The seventh change drops the oldest one, also if no order of it is carried out.
        TeaSeats y = text("x9;r").get();
        edges.due("carryOut() of none", y.carryOut(), 0);
        edges.due("count(18)", y.count(18), 6);
        edges.due("undo()", y.undo(), 5);
        edges.due("undo() of set()", y.undo(), 4);
        edges.due("LONG", y.count(16), 3);
    }

    private void carryOutCountsOrders() {
        edges.sentence("Promise 25", "Returns how many orders were carried out;");
        String text = "w0;w1;w2;w3;w0;w1;w2;w3;w0;w1;w2;w3;w0;w1;w2;w3;w0;w1;w2;w3;w0;w1;w2;w3;w0;w1";
        for (int orders = 1; orders <= 26; orders++) {
            TeaSeats x = text(text.substring(0, 3 * orders - 1)).get();
            edges.due("carryOut() of " + orders, x.carryOut(), orders);
            edges.due("words", x.count(9), 1 + orders);
        }
        for (int orders = 0; orders <= 25; orders++) {
            TeaSeats x = text(text.substring(0, 3 * orders) + "x9").get();
            edges.due("carryOut() of " + orders + " and an error", x.carryOut(), orders);
        }
    }

    private void carryOutOfAFault() {
        edges.sentence("Promise 25", "BAD_TEXT if the pad has a fault (then it stays).");
        for (String text : new String[] {"", "r;", ";r", "w0;w1;w", "w0;w1;!", "g100", "t01", "r;".repeat(40)}) {
            edges.refused("carryOut() of '" + text + "'", text(text), x -> x.carryOut(), BAD_TEXT);
            TeaSeats x = text(text).get();
            x.carryOut();
            edges.due("count(17) behind it", x.count(17), text.length());
        }
        TeaSeats y = text("w0;w").get();
        y.carryOut();
        edges.due("put('1')", y.put('1'), 5);
        edges.due("carryOut() of what stayed", y.carryOut(), 2);
    }
}
