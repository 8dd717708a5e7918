/** Promises 32 to 35: KINDS, ASKS and THE TRACE. */
public final class AsksTest {
    private static final String THREE = "f1;g0,4;g0,7;g0,9;g0,13;";

    public static void main(String[] args) {
        kinds();
        asks();
        refusals();
        Due.end("AsksTest");
    }

    private static void kinds() {
        String letters = "oslte";
        int[] alsoOf = {1 + 2, 1 + 2 + 4, 1 + 2 + 8, 1 + 16, 1 + 16 + 32};
        for (int i = 0; i < letters.length(); i++) {
            WinterWalk x = Due.told(THREE + "o0;" + letters.charAt(i) + "1;");
            Due.due("kind of " + letters.charAt(i), x.kind(1), i + 1);
            for (int kind = 0; kind <= 5; kind++) {
                boolean isSo = (alsoOf[i] >> kind & 1) == 1;
                Due.due(letters.charAt(i) + " as " + kind, x.as(1, kind), isSo ? 1 : Due.KIND);
                Due.due("status of that", x.status(), isSo ? 0 : 3);
            }
        }
    }

    private static void asks() {
        asked("o", 1, 0, 1 + 1 + 7, 11, 10, 21, 20);
        asked("o", 1, 1, 1 + 7, 21, 20);
        asked("s", 3, 0, -(3 + 2 * (1 + 13)), 12, 11, 10, 24, 21, 20);
        asked("s", 3, 1, 2 * (1 + 13), 24, 21, 20);
        asked("l", 2, 0, 2 + 1 + 9 - 1000, 11, 10, 22, 21, 20);
        asked("l", 2, 1, 1 + 9 - 1000, 22, 21, 20);
        asked("t", 3, 0, 3 - 100, 13, 10);
        asked("t", 3, 1, 1 - (3 - 100), 23, 20, 13, 10);
        asked("e", 2, 0, 2 * (2 - 100), 14, 13, 10);
        asked("e", 2, 1, 1 - 2 * (2 - 100), 23, 20, 14, 13, 10);
    }

    private static void asked(String letter, int at, int what, int answer, int... bodies) {
        WinterWalk x = Due.told(THREE + "o0;" + letter + at + ";");
        x.ask(0, 0);
        String call = letter + at + " ask(1, " + what + ")";
        Due.due(call, x.ask(1, what), answer);
        for (int i = 0; i < 18; i++) {
            Due.due(call + " trace(" + i + ")", x.trace(i), i < bodies.length ? bodies[i] : Due.NONE);
        }
    }

    private static void refusals() {
        WinterWalk x = Due.told(THREE + "s1;");
        x.ask(0, 0);
        for (int strange : Due.STRANGE) {
            Due.due("kind " + strange, x.kind(strange), Due.BAD);
            Due.due("as, one " + strange, x.as(strange, 0), Due.BAD);
            Due.due("as, kind " + strange, x.as(0, strange), Due.BAD);
            Due.due("ask, one " + strange, x.ask(strange, 0), Due.BAD);
            Due.due("ask, what " + strange, x.ask(0, strange), Due.BAD);
            Due.due("trace " + strange, x.trace(strange), Due.NONE);
        }
        Due.due("kind(1)", x.kind(1), Due.BAD);
        Due.due("as(1, 0)", x.as(1, 0), Due.BAD);
        Due.due("as(0, 6)", x.as(0, 6), Due.BAD);
        Due.due("ask(1, 0)", x.ask(1, 0), Due.BAD);
        Due.due("ask(0, 2)", x.ask(0, 2), Due.BAD);
        Due.due("what is refused leaves THE TRACE", x.trace(0), 12);
        x.days(1);
        x.offer(x.walker(0, 0), 20);
        Due.due("by where it is, and the OFFER there, now", x.ask(0, 1), 40);
    }
}
