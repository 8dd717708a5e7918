import java.util.ArrayList;
import java.util.LinkedHashSet;
import java.util.List;
import java.util.Set;
import java.util.regex.Matcher;
import java.util.regex.Pattern;

/**
 * A text read once more: one TOKEN behind the other goes through a table of what can
 * stand behind what. # is a NUMBER, ! what is no TOKEN, . the end.
 */
final class PlainReader {
    private static final Pattern TOKEN = Pattern.compile("[a-z]|[0-9]+|[,;]|(?s:.)");
    // f LASTS ; | g WORTH , OFFER ; | r A , B ; | SORT AT ; and behind each what may follow
    private static final String[] CAN_STAND =
        {"f", "#", ";", "gc", "#", ",", "#", ";", "gcroslte.", "#", ",", "#", ";", "roslte.", "#", ";", "oslte."};
    private static final int LASTS = 1, WORTH = 4, OFFER = 6, A = 9, B = 11, AT = 14;

    private final List<Integer> worth = new ArrayList<>();
    private final List<Integer> offers = new ArrayList<>();
    private final Set<Integer> roads = new LinkedHashSet<>();
    private final StringBuilder sorts = new StringBuilder();
    private final List<Integer> at = new ArrayList<>();
    private int lasts = 0;
    private int sign = 0;
    private int a = 0;
    private int fault = 0;
    private int place = 0;

    PlainReader(String text) {
        int state = 0;
        Matcher matcher = TOKEN.matcher(text);
        while (fault == 0 && matcher.find()) {
            place = matcher.start();
            state = take(state, matcher.group());
        }
        if (fault == 0) {
            place = text.length();
            take(state, ".end");
        }
    }

    boolean reads() {
        return fault == 0;
    }

    int fault() {
        return fault;
    }

    int place() {
        return place;
    }

    PlainLand land() {
        return new PlainLand(lasts, ints(worth), ints(offers), roads, sorts.toString().toCharArray(), ints(at));
    }

    private static int[] ints(List<Integer> numbers) {
        return numbers.stream().mapToInt(Integer::intValue).toArray();
    }

    private int take(int state, String token) {
        char is = shape(token);
        if (CAN_STAND[state].indexOf(is) < 0) {
            fault = 1;
        } else if (is == '#' && !isAsTold(state, Integer.parseInt(token))) {
            fault = 2;
        } else if (!hasRoom(is)) {
            fault = 3;
        }
        return fault == 0 ? behind(state, is, token) : state;
    }

    private static char shape(String token) {
        char first = token.charAt(0);
        if (first >= '0' && first <= '9') {
            return token.length() <= 2 ? '#' : '!';
        }
        boolean isToken = first >= 'a' && first <= 'z' || first == ',' || first == ';' || token.equals(".end");
        return isToken ? first : '!';
    }

    private boolean isAsTold(int state, int number) {
        switch (state) {
            case LASTS: return number >= 1 && number <= 9;
            case WORTH: return number <= 9;
            case OFFER: return number <= 20;
            case B: return number < worth.size() && number != a && !roads.contains(roadOf(a, number));
            default: return number < worth.size();
        }
    }

    private static int roadOf(int one, int other) {
        return Math.min(one, other) * 8 + Math.max(one, other);
    }

    private boolean hasRoom(char is) {
        switch (is) {
            case 'g': case 'c': return worth.size() < 8;
            case 'r': return roads.size() < 12;
            case 'o': case 's': case 'l': case 't': case 'e': return at.size() < 3;
            default: return true;
        }
    }

    private int behind(int state, char is, String token) {
        switch (is) {
            case 'g': case 'c': sign = is == 'g' ? 1 : -1; return WORTH;
            case 'r': return A;
            case 'o': case 's': case 'l': case 't': case 'e': sorts.append(is); return AT;
            case '#': keep(state, Integer.parseInt(token)); return state + 1;
            default: return state + 1;
        }
    }

    private void keep(int state, int number) {
        switch (state) {
            case LASTS: lasts = number; break;
            case WORTH: worth.add(sign * number); break;
            case OFFER: offers.add(number); break;
            case A: a = number; break;
            case B: roads.add(roadOf(a, number)); break;
            default: at.add(number); break;
        }
    }
}
