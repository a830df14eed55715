/** All that can be seen of an object without a change. */
final class View {
    private View() {
    }

    static String of(TeaSeats seats) {
        return ofRoom(seats) + "pad " + seats.count(17) + " fault " + seats.fault() + " undo " + seats.count(18) + "\n";
    }

    /** Without the pad and the history, which undo, save and restore leave as they are. */
    static String ofRoom(TeaSeats seats) {
        int here = seats.count(11);
        StringBuilder text = new StringBuilder("counts");
        for (int what = 0; what <= 16; what++) {
            text.append(' ').append(seats.count(what));
        }
        text.append("\nseats");
        for (int seat = 0; seat < 9; seat++) {
            text.append(' ').append(seats.at(seat));
        }
        text.append("\nranks");
        for (int rank = 0; rank < 9; rank++) {
            text.append(' ').append(seats.ranked(rank));
        }
        text.append('\n');
        // An object is used for 512 calls: so of those who are not there no more is asked than that.
        for (int guest = 0; guest < 9; guest++) {
            text.append("guest ").append(guest).append(": ").append(seats.of(guest, 0));
            if ((here >> guest & 1) != 0) {
                for (int what = 1; what <= 9; what++) {
                    text.append(' ').append(seats.of(guest, what));
                }
                text.append(" owes");
                for (int other = 0; other < 9; other++) {
                    text.append(' ').append(seats.owes(guest, other));
                }
            }
            text.append('\n');
        }
        return text.toString();
    }

    /** Makes the number that put() takes from up to 8 characters. */
    static long number(String characters) {
        long number = 0;
        for (int index = 0; index < characters.length(); index++) {
            number = number << 8 | characters.charAt(index);
        }
        return number;
    }

    /** Puts a whole text, eight characters at once; answers what the last put() answered. */
    static int put(TeaSeats seats, String text) {
        int answer = seats.count(17);
        for (int start = 0; start < text.length(); start += 8) {
            answer = seats.put(number(text.substring(start, Math.min(start + 8, text.length()))));
        }
        return answer;
    }
}
