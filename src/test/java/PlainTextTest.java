import java.util.ArrayList;
import java.util.List;
import java.util.Random;

/**
 * Promise 7 on texts by the thousand, good ones and ones gone wrong by a few bytes,
 * against a second reading: all TOKENS first, then what can stand where.
 */
public final class PlainTextTest {
    private static final String LIKELY = "fgcroslte0123456789,;,;0011229";

    private record Token(char sign, int number, int place) {
    }

    public static void main(String[] args) {
        Random random = new Random(5);
        int good = 0;
        for (int i = 0; i < 30000; i++) {
            String text = spoilt(anyLand(random), random.nextInt(4), random);
            WinterWalk x = new WinterWalk();
            Due.feedAll(x, text);
            PlainTextTest reading = new PlainTextTest(text);
            Due.due("land() of " + text, x.land(), reading.answer());
            Due.due("fault() of " + text, x.fault(), reading.fault);
            Due.same("the LAND of " + text, told(x), reading.fault == 0 ? reading.told() : "[] [] []");
            good += reading.fault == 0 ? 1 : 0;
        }
        Due.due("some are LANDS, some are not", good > 3000 && good < 27000 ? 1 : 0, 1);
        Due.end("PlainTextTest");
    }

    private static String anyLand(Random random) {
        StringBuilder text = new StringBuilder("f" + any(random, 1, 9) + ";");
        int villages = 1 + random.nextInt(random.nextInt(4) == 0 ? 9 : 8);
        for (int v = 0; v < villages; v++) {
            text.append(random.nextBoolean() ? 'g' : 'c').append(any(random, 0, 9));
            text.append(',').append(any(random, 0, 20)).append(';');
        }
        int roads = villages < 2 ? 0 : random.nextInt(5) == 0 ? 13 : random.nextInt(4);
        for (int a = 0; a < villages; a++) {
            for (int b = a + 1; b < villages && roads > 0; b++) {
                if (random.nextInt(3) != 0) {
                    boolean turned = random.nextBoolean();
                    text.append('r').append(turned ? b : a).append(',').append(turned ? a : b).append(';');
                    roads--;
                }
            }
        }
        int walkers = random.nextInt(5) == 0 ? 4 : random.nextInt(4);
        for (int w = 0; w < walkers; w++) {
            text.append("oslte".charAt(random.nextInt(5))).append(any(random, 0, villages - 1)).append(';');
        }
        return text.substring(0, Math.min(120, text.length()));
    }

    private static String any(Random random, int least, int most) {
        int number = random.nextInt(60) == 0 ? random.nextInt(100) : least + random.nextInt(most - least + 1);
        return random.nextInt(6) == 0 && number < 10 ? "0" + number : "" + number;
    }

    private static String spoilt(String text, int times, Random random) {
        StringBuilder bytes = new StringBuilder(text);
        for (int i = 0; i < times && random.nextBoolean(); i++) {
            int place = random.nextInt(bytes.length() + 1);
            char sign = random.nextInt(5) == 0 ? (char) random.nextInt(256)
                : LIKELY.charAt(random.nextInt(LIKELY.length()));
            switch (random.nextInt(4)) {
                case 0 -> bytes.insert(place, sign);
                case 1 -> bytes.replace(place, Math.min(place + 1, bytes.length()), "" + sign);
                case 2 -> bytes.delete(place, Math.min(place + 1, bytes.length()));
                default -> bytes.setLength(random.nextInt(4) == 0 ? place : bytes.length());
            }
        }
        return bytes.substring(0, Math.min(120, bytes.length()));
    }

    private static String told(WinterWalk x) {
        List<String> villages = new ArrayList<>();
        List<String> roads = new ArrayList<>();
        for (int v = 0; v < x.count(1); v++) {
            villages.add(x.village(v, 0) + "/" + x.village(v, 1));
            for (int other = 0; other < v; other++) {
                if ((x.village(v, 5) >> other & 1) == 1) {
                    roads.add(other + "-" + v);
                }
            }
        }
        List<String> walkers = new ArrayList<>();
        for (int w = 0; w < x.count(3); w++) {
            walkers.add(x.kind(w) + "@" + x.walker(w, 0));
        }
        roads.sort(null);
        return villages + " " + roads + " " + walkers;
    }

    private final List<Token> tokens = new ArrayList<>();
    private final List<String> villages = new ArrayList<>();
    private final List<String> roads = new ArrayList<>();
    private final List<String> walkers = new ArrayList<>();
    private int next = 0;
    private int fault = 0;
    private int place = 0;

    private PlainTextTest(String text) {
        split(text);
        readAll();
    }

    private int answer() {
        return fault == 0 ? villages.size() : -1000100 - place;
    }

    private String told() {
        roads.sort(null);
        return villages + " " + roads + " " + walkers;
    }

    /** # for a NUMBER, ! for what is no TOKEN, . for the end. */
    private void split(String text) {
        int at = 0;
        while (at < text.length()) {
            char c = text.charAt(at);
            int to = at + 1;
            if (c >= '0' && c <= '9') {
                while (to < text.length() && Character.getType(text.charAt(to)) == Character.DECIMAL_DIGIT_NUMBER) {
                    to++;
                }
                boolean isNumber = to - at <= 2;
                tokens.add(new Token(isNumber ? '#' : '!', isNumber ? Integer.parseInt(text.substring(at, to)) : 0, at));
            } else {
                boolean isToken = c >= 'a' && c <= 'z' || c == ',' || c == ';';
                tokens.add(new Token(isToken ? c : '!', 0, at));
            }
            at = to;
        }
        tokens.add(new Token('.', 0, at));
    }

    private void readAll() {
        if (!expect("f") || !number(1, 9) || !expect(";")) {
            return;
        }
        String allowed = "gc";
        while (fault == 0) {
            Token first = tokens.get(next);
            if (first.sign == '.' && !villages.isEmpty()) {
                return;
            }
            if (!expect(allowed)) {
                return;
            }
            allowed = statement(first);
        }
    }

    /** What can stand behind it. */
    private String statement(Token first) {
        String sorts = "oslte";
        if (first.sign == 'g' || first.sign == 'c') {
            boolean isTold = room(first, villages.size() < 8) && number(0, 9) && expect(",") && number(0, 20) && expect(";");
            if (isTold) {
                int worth = numberBack(4);
                villages.add((first.sign == 'c' ? -worth : worth) + "/" + numberBack(2));
            }
            return "gcr" + sorts;
        }
        if (first.sign == 'r') {
            boolean isTold = room(first, roads.size() < 12) && number(0, villages.size() - 1) && expect(",")
                && number(0, villages.size() - 1) && newRoad(numberBack(3), numberBack(1)) && expect(";");
            if (isTold) {
                roads.add(road(numberBack(4), numberBack(2)));
            }
            return "r" + sorts;
        }
        if (room(first, walkers.size() < 3) && number(0, villages.size() - 1) && expect(";")) {
            walkers.add(sorts.indexOf(first.sign) + 1 + "@" + numberBack(2));
        }
        return sorts;
    }

    private int numberBack(int many) {
        return tokens.get(next - many).number;
    }

    private static String road(int a, int b) {
        return Math.min(a, b) + "-" + Math.max(a, b);
    }

    private boolean newRoad(int a, int b) {
        return a != b && !roads.contains(road(a, b)) || failAt(tokens.get(next - 1), 2);
    }

    private boolean room(Token first, boolean isThere) {
        return isThere || failAt(first, 3);
    }

    private boolean expect(String signs) {
        Token token = tokens.get(next);
        if (signs.indexOf(token.sign) < 0) {
            return failAt(token, 1);
        }
        next++;
        return true;
    }

    private boolean number(int least, int most) {
        Token token = tokens.get(next);
        if (!expect("#")) {
            return false;
        }
        return token.number >= least && token.number <= most || failAt(token, 2);
    }

    private boolean failAt(Token token, int number) {
        fault = number;
        place = token.place;
        return false;
    }
}
