/** Promises 22 to 25: texts. */
public final class TextsTest {
    private static final int BAD_VALUE = -2, BAD_TEXT = -3, TOO_MANY = -4, NONE = -6;
    private static final Check CHECK = new Check("TextsTest");

    public static void main(String[] args) {
        promise22Put();
        promise22PutIsRefused();
        promise22Full();
        promise23Wipe();
        promise24FaultOfRightTexts();
        promise24Fault();
        promise24FaultOfEachCharacter();
        promise25CarryOut();
        promise25EachOrder();
        promise25StopsAtAnError();
        promise25IsOneChange();
        promise25IsRefused();
        CHECK.end();
    }

    private static int faultOf(String text) {
        TeaSeats x = new TeaSeats();
        View.put(x, text);
        return x.fault();
    }

    private static void promise22Put() {
        TeaSeats x = new TeaSeats();
        CHECK.due("put('r')", x.put('r'), 1);
        CHECK.due("count(17)", x.count(17), 1);
        CHECK.due("put(';g')", x.put(View.number(";g")), 3);
        CHECK.due("put('7')", x.put('7'), 4);
        CHECK.due("put of eight", x.put(View.number(";t9;x0;r")), 12);
        CHECK.due("fault()", x.fault(), NONE);
        CHECK.due("count(18)", x.count(18), 0);
        // The order of the characters: the lowest bits are the last one.
        CHECK.due("carryOut()", x.carryOut(), 0);
        x.guest(5);
        View.put(x, "t9;w0;x0;g3");
        CHECK.due("carryOut()", x.carryOut(), 4);
        CHECK.due("patience", x.of(0, 1), 3);
        // Every code from 33 to 126 may be put, at each of the eight places.
        for (int code = 33; code <= 126; code++) {
            for (int place = 0; place < 8; place++) {
                TeaSeats y = new TeaSeats();
                char[] text = "rrrrrrrr".toCharArray();
                text[place] = (char) code;
                CHECK.due("put with " + code + " at " + place, y.put(View.number(new String(text))), 8);
            }
        }
    }

    private static void promise22PutIsRefused() {
        TeaSeats x = new TeaSeats();
        x.put('r');
        CHECK.refused(x, "put(0)", () -> x.put(0), BAD_VALUE);
        CHECK.refused(x, "put(-1)", () -> x.put(-1), BAD_VALUE);
        CHECK.refused(x, "put(min)", () -> x.put(Long.MIN_VALUE), BAD_VALUE);
        CHECK.refused(x, "put(max)", () -> x.put(Long.MAX_VALUE), BAD_VALUE);
        CHECK.refused(x, "put with no last character", () -> x.put('r' << 8), BAD_VALUE);
        CHECK.refused(x, "put with a gap", () -> x.put((long) 'r' << 16 | 'r'), BAD_VALUE);
        CHECK.refused(x, "put with a bit above", () -> x.put(1L << 63 | 'r'), BAD_VALUE);
        CHECK.refused(x, "put with a bit high above", () -> x.put(1L << 17 | 'r'), BAD_VALUE);
        for (int code : new int[] {1, 9, 31, 32, 127, 128, 200, 255}) {
            TeaSeats y = new TeaSeats();
            for (int place = 0; place < 8; place++) {
                char[] text = "rrrrrrrr".toCharArray();
                text[place] = (char) code;
                String call = "put with " + code + " at " + place;
                CHECK.refused(y, call, () -> y.put(View.number(new String(text))), BAD_VALUE);
            }
            CHECK.refused(y, "put(" + code + ")", () -> y.put(code), BAD_VALUE);
        }
    }

    private static void promise22Full() {
        TeaSeats x = new TeaSeats();
        for (int times = 1; times <= 9; times++) {
            CHECK.due("put of eight", x.put(View.number("r;r;r;r;")), 8 * times);
        }
        CHECK.due("put of five", x.put(View.number("r;r;r")), 77);
        CHECK.refused(x, "put of four more", () -> x.put(View.number(";r;r")), TOO_MANY);
        CHECK.refused(x, "put(0)", () -> x.put(0), BAD_VALUE);
        CHECK.due("put of two", x.put(View.number(";r")), 79);
        CHECK.due("put of one", x.put(';'), 80);
        CHECK.refused(x, "put of one more", () -> x.put('r'), TOO_MANY);
        CHECK.refused(x, "put of a code too low", () -> x.put(32), BAD_VALUE);
        CHECK.due("fault()", x.fault(), 80);
        CHECK.due("wipe()", x.wipe(), 80);
    }

    private static void promise23Wipe() {
        TeaSeats x = new TeaSeats();
        CHECK.due("wipe() of nothing", x.wipe(), 0);
        x.put(View.number("g5;r"));
        String room = View.ofRoom(x);
        CHECK.due("wipe()", x.wipe(), 4);
        CHECK.same("what there is behind wipe()", View.ofRoom(x), room);
        CHECK.due("count(17)", x.count(17), 0);
        CHECK.due("count(18)", x.count(18), 0);
        CHECK.due("fault()", x.fault(), 0);
        CHECK.due("put('r')", x.put('r'), 1);
        CHECK.due("fault()", x.fault(), NONE);
    }

    private static void promise24FaultOfRightTexts() {
        String[] right = {
            "r", "g0", "g9", "g10", "g99", "t0", "t1", "t90", "x0", "x9", "w5", "b00", "b99", "o12", "r;r", "g1;r", "g10;r",
            "g0;x0;w0;b01;t9;r;o10", "t99;t99;t99",
        };
        for (String text : right) {
            TeaSeats x = new TeaSeats();
            View.put(x, text);
            CHECK.refused(x, "fault() of " + text, () -> x.fault(), NONE);
        }
    }

    private static void promise24Fault() {
        String[] texts = {
            "", "g", "g1;", "r;", "b", "b1", "o1", "x", "t", "w", "r;;", ";", ";r", "g00", "g01", "t05", "g100", "t990",
            "gr", "g-1", "xr", "b1;", "b123", "x12", "w00", "o1r", "o123", "rr", "r1", "R", "g1,r", "g5;q", "a", "0",
            "g1g1", "r;b1x;", "!", "~", "g0;r;t100;r",
        };
        int[] faults = {
            0, 1, 3, 2, 1, 2, 2, 1, 1, 1, 2, 0, 0, 2, 2, 2, 3, 3,
            1, 1, 1, 2, 3, 2, 2, 2, 3, 1, 1, 0, 2, 3, 0, 0,
            2, 4, 0, 0, 8,
        };
        for (int index = 0; index < texts.length; index++) {
            CHECK.due("fault() of '" + texts[index] + "'", faultOf(texts[index]), faults[index]);
        }
    }

    private static void promise24FaultOfEachCharacter() {
        String digits = "0123456789";
        for (char sign = 33; sign <= 126; sign++) {
            boolean digit = digits.indexOf(sign) >= 0;
            boolean end = sign == ';';
            int letter = "r".indexOf(sign) >= 0 ? NONE : "gxwbto".indexOf(sign) >= 0 ? 1 : 0;
            CHECK.due("fault() of " + sign, faultOf("" + sign), letter);
            for (String one : new String[] {"x", "w", "g", "t"}) {
                CHECK.due("fault() of " + one + sign, faultOf(one + sign), digit ? NONE : 1);
            }
            for (String two : new String[] {"b", "o"}) {
                CHECK.due("fault() of " + two + sign, faultOf(two + sign), digit ? 2 : 1);
                CHECK.due("fault() of " + two + "7" + sign, faultOf(two + "7" + sign), digit ? NONE : 2);
            }
            for (String number : new String[] {"g4", "t1", "g9"}) {
                CHECK.due("fault() of " + number + sign, faultOf(number + sign), digit ? NONE : end ? 3 : 2);
            }
            for (String whole : new String[] {"r", "g0", "t0", "x4", "w4", "b12", "o12", "g12", "t99", "r;r", "r;x0"}) {
                int length = whole.length();
                CHECK.due("fault() of " + whole + sign, faultOf(whole + sign), end ? length + 1 : length);
            }
        }
    }

    private static void promise25CarryOut() {
        TeaSeats x = new TeaSeats();
        View.put(x, "g10;g5;t7;o01;w1;b10;r");
        CHECK.change(x, "carryOut()", () -> x.carryOut(), 7);
        TeaSeats y = new TeaSeats();
        y.guest(10);
        y.guest(5);
        y.breathe(7);
        y.offer(0, 1);
        y.word(1);
        y.bow(1, 0);
        y.round();
        CHECK.same("the room behind carryOut()", View.ofRoom(x), View.ofRoom(y));
        CHECK.due("count(17)", x.count(17), 0);
        CHECK.due("fault()", x.fault(), 0);
        View.put(x, "x1");
        CHECK.change(x, "carryOut() of x1", () -> x.carryOut(), 1);
        y.leave(1);
        CHECK.same("the room behind x1", View.ofRoom(x), View.ofRoom(y));
        // A text of as many orders as there can be.
        TeaSeats z = new TeaSeats();
        View.put(z, "g1;" + "r;".repeat(38) + "r");
        CHECK.due("count(17)", z.count(17), 80);
        CHECK.change(z, "carryOut() of forty orders", () -> z.carryOut(), 40);
        CHECK.due("rounds", z.count(2), 39);
    }

    private static void promise25EachOrder() {
        TeaSeats x = new TeaSeats();
        View.put(x, "g30;g1;g25");
        x.carryOut();
        CHECK.due("patience of 0", x.of(0, 1), 30);
        CHECK.due("patience of 1", x.of(1, 1), 1);
        CHECK.due("patience of 2", x.of(2, 1), 25);
        View.put(x, "t40");
        x.carryOut();
        CHECK.due("breaths", x.count(0), 40);
        View.put(x, "o02;o20");
        x.carryOut();
        CHECK.due("set off", x.count(7), 4);
        View.put(x, "o21;o21;b12");
        CHECK.due("carryOut()", x.carryOut(), 3);
        CHECK.due("1 owes 2", x.owes(1, 2), 3);
        View.put(x, "w2;w2;x0;r");
        CHECK.due("carryOut()", x.carryOut(), 4);
        CHECK.due("words of 2", x.of(2, 5), 2);
        CHECK.due("guests", x.count(11), 6);
        CHECK.due("rounds", x.count(2), 1);
    }

    private static void promise25StopsAtAnError() {
        // Each of these orders is right as a text, and returns an error.
        String[] stopping = {"g0", "g31", "g99", "x8", "x9", "w9", "w8", "b09", "b90", "b00", "b01", "t0", "o09", "o90", "o11"};
        for (String order : stopping) {
            TeaSeats x = new TeaSeats();
            View.put(x, "g9;g9;" + order + ";g9;r");
            CHECK.change(x, "carryOut() up to " + order, () -> x.carryOut(), 2);
            CHECK.due("guests", x.count(1), 2);
            CHECK.due("rounds", x.count(2), 0);
            CHECK.due("count(17)", x.count(17), 0);
        }
        TeaSeats y = new TeaSeats();
        View.put(y, "r;g5");
        CHECK.change(y, "carryOut() of none", () -> y.carryOut(), 0);
        CHECK.due("guests", y.count(1), 0);
        TeaSeats z = new TeaSeats();
        View.put(z, "g1;g1;g1;g1;g1;g1;g1;g1;g1;g1;r");
        CHECK.change(z, "carryOut() up to the tenth guest", () -> z.carryOut(), 9);
        CHECK.due("rounds", z.count(2), 0);
    }

    private static void promise25IsOneChange() {
        TeaSeats x = new TeaSeats();
        x.guest(9);
        View.put(x, "g9;g8;t5;r;w0;x1;r;r");
        String before = View.ofRoom(x);
        CHECK.due("carryOut()", x.carryOut(), 8);
        CHECK.due("count(18)", x.count(18), 2);
        x.put('r');
        CHECK.due("undo()", x.undo(), 1);
        CHECK.same("the room behind undo()", View.ofRoom(x), before);
        CHECK.due("the pad behind undo()", x.count(17), 1);
    }

    private static void promise25IsRefused() {
        for (String text : new String[] {"", "g", "r;", "g1;q", "t100", "r;r;r;r;r;r;r;b1"}) {
            TeaSeats x = new TeaSeats();
            x.guest(4);
            View.put(x, text);
            CHECK.refused(x, "carryOut() of '" + text + "'", () -> x.carryOut(), BAD_TEXT);
            CHECK.due("count(17)", x.count(17), text.length());
        }
    }
}
