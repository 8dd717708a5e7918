/** Promises 1 and 30 to 37: IMAGES, KINDS, ASKS, THE TRACE, counts and status at their edges. */
public final class AskEdgesTest {
    private static final int MIN = Integer.MIN_VALUE, MAX = Integer.MAX_VALUE;
    private static final String SORTS = "oslte";

    public static void main(String[] args) {
        aNewObjectHasNothing();
        imageTakes();
        restoreTakes();
        anImageIsNoAct();
        anImageStaysAsItWasKept();
        anImageInPlaceOfAnother();
        restoredAllIsAsItWas();
        restoredNothingCanBeUndone();
        restoredDaysAreFree();
        anImageOfAnotherLand();
        kindTakes();
        asTakes();
        asWhatItIsNot();
        askTakes();
        asksAtTheirLeastAndMost();
        traceAtFirst();
        traceTakesAnything();
        traceIsEmptyAheadOfAnAsk();
        aRefusedAskLeavesTheTrace();
        countTakes();
        countsOfNoneAndOfAll();
        statusAtFirst();
        statusStaysWithOtherCalls();
        statusStaysWhenRefused();
        statusOfEachFinding();
        Due.end("AskEdgesTest");
    }

    // promise 1: "No LAND"
    private static void aNewObjectHasNothing() {
        WinterWalk x = new WinterWalk();
        for (int what = 0; what <= 8; what++) {
            Due.due("count(" + what + ")", x.count(what), 0);
        }
        Due.due("fault()", x.fault(), 0);
        Due.due("status()", x.status(), 0);
        Due.due("trace(0)", x.trace(0), Due.NONE);
        Due.due("image(0)", x.image(0), Due.STATE);
        Due.due("restore(0)", x.restore(0), Due.STATE);
        Due.due("days(1)", x.days(1), Due.STATE);
        Due.due("another object has nothing of this one", new WinterWalk().feed('f') + Worlds.none().count(8), 1);
    }

    // "An IMAGE (0, 1) is kept of the LAND: 1. BAD; STATE: no LAND"
    private static void imageTakes() {
        Edge.takes("image", Worlds::busy, (x, v) -> x.image(v), 0, 1);
        Edge.takes("image, where both are kept", Worlds::full, (x, v) -> x.image(v), 0, 1);
        Edge.refused("image(0) without a LAND", Worlds::none, x -> x.image(0), Due.STATE);
        Edge.refused("image(1) without a LAND", Worlds::none, x -> x.image(1), Due.STATE);
        for (int k : new int[] {-1, 2, MIN, MAX}) {
            Edge.refused("BAD is ahead of STATE, image(" + k + ")", Worlds::none, x -> x.image(k), Due.BAD);
        }
        Due.due("image(0)", Worlds.busy().image(0), 1);
        Due.due("image(1)", Worlds.busy().image(1), 1);
    }

    // "BAD; STATE: none was kept"
    private static void restoreTakes() {
        Edge.takes("restore", Worlds::full, (x, v) -> x.restore(v), 0, 1);
        Due.due("restore(0)", Worlds.full().restore(0), 1);
        Due.due("restore(1)", Worlds.full().restore(1), 1);
        Due.due("the one that was kept", Worlds.busy().restore(0), 1);
        Edge.refused("the one that was not", Worlds::busy, x -> x.restore(1), Due.STATE);
        Edge.refused("restore(0) without a LAND", Worlds::none, x -> x.restore(0), Due.STATE);
        Edge.refused("restore(1) without an IMAGE", Worlds::alone, x -> x.restore(1), Due.STATE);
        for (int k : new int[] {-1, 2, MIN, MAX}) {
            Edge.refused("BAD is ahead of STATE, restore(" + k + ")", Worlds::none, x -> x.restore(k), Due.BAD);
        }
        Edge.World onlyTheSecond = () -> {
            WinterWalk x = Worlds.alone();
            x.image(1);
            return x;
        };
        Due.due("the second alone", onlyTheSecond.anew().restore(1), 1);
        Edge.refused("the first is none", onlyTheSecond, x -> x.restore(0), Due.STATE);
    }

    private static void anImageIsNoAct() {
        for (Edge.World world : new Edge.World[] {Worlds::busy, Worlds::full}) {
            for (int part : new int[] {0, 1, 2, 4, 5, 12}) {
                WinterWalk x = world.anew();
                x.image(1);
                Due.same("part " + part, Everything.part(part, x), Everything.part(part, world.anew()));
            }
        }
    }

    private static void anImageStaysAsItWasKept() {
        WinterWalk x = Worlds.busyAfterFault(2);
        String kept = Due.landSeen(x);
        x.image(1);
        x.days(2);
        x.offer(0, 0);
        x.door(3, 0);
        x.undo();
        x.restore(1);
        Due.same("DAYS, OFFERS and doors do not change it", Due.landSeen(x), kept);
        x.days(3);
        x.restore(1);
        Due.same("nor does what is done behind it", Due.landSeen(x), kept);
        x.restore(1);
        Due.same("nor does restore", Due.landSeen(x), kept);
    }

    private static void anImageInPlaceOfAnother() {
        WinterWalk x = Worlds.alone();
        x.image(0);
        x.days(1);
        x.image(1);
        x.days(1);
        x.image(0);
        x.days(1);
        x.restore(0);
        Due.due("the newer one", x.count(4), 2);
        x.restore(1);
        Due.due("the other is as it was", x.count(4), 1);
    }

    private static void restoredAllIsAsItWas() {
        for (int d = 0; d < 4; d++) {
            int more = d;
            Edge.World kept = () -> {
                WinterWalk x = Due.told("f3;g5,1;c4,2;g0,3;r0,1;r1,2;l0;e2;s1;");
                x.door(2, 1);
                Worlds.pass(x, more);
                x.offer(1, 17);
                x.image(0);
                return x;
            };
            WinterWalk x = kept.anew();
            x.days(5);
            x.door(2, 0);
            x.restore(0);
            Due.same("as it was, " + d, Due.landSeen(x), Due.landSeen(kept.anew()));
            Due.same("and what comes", Everything.part(1, x), Everything.part(1, kept.anew()));
        }
    }

    // "no ACT can be undone then"
    private static void restoredNothingCanBeUndone() {
        for (int k = 0; k <= 1; k++) {
            WinterWalk x = Worlds.full();
            x.restore(k);
            Due.due("ACTS", x.count(7), 0);
            Due.due("undo()", x.undo(), Due.STATE);
            x.offer(0, 1);
            Due.due("an ACT behind it can", x.undo(), 0);
            Due.due("no more", x.undo(), Due.STATE);
        }
    }

    private static void restoredDaysAreFree() {
        WinterWalk x = Worlds.alone();
        x.days(10);
        x.image(0);
        Worlds.pass(x, 989);
        Due.due("FULL", x.days(1), Due.FULL);
        x.restore(0);
        Due.due("from DAY 10 on again", x.days(24), 3 * 34);
        WinterWalk last = Worlds.full();
        last.restore(0);
        Due.due("an IMAGE of the last DAY is FULL, too", last.days(1), Due.FULL);
    }

    private static void anImageOfAnotherLand() {
        WinterWalk x = Worlds.full();
        String kept = Due.landSeen(imageOfFull());
        x.land();
        Due.feedAll(x, "f1;g0,0;");
        x.land();
        Due.due("one VILLAGE", x.count(1), 1);
        x.restore(1);
        Due.same("all eight are back", Due.landSeen(x), kept);
        WinterWalk y = Worlds.alone();
        y.image(0);
        Due.feedAll(y, Worlds.EIGHT + Worlds.TWELVE + "o0;t1;s7;");
        y.land();
        y.restore(0);
        Due.same("all but one are gone", Due.landSeen(y), Due.landSeen(Worlds.alone()));
        Due.due("VILLAGE 1", y.village(1, 0), Due.BAD);
        Due.due("WALKER 1", y.walker(1, 0), Due.BAD);
    }

    private static WinterWalk imageOfFull() {
        WinterWalk x = Worlds.full();
        x.restore(0);
        return x;
    }

    // "The KIND of a WALKER, as told (1 to 5). BAD"
    private static void kindTakes() {
        Edge.takes("kind", Worlds::busy, (x, v) -> x.kind(v), 0, 2);
        Edge.takes("kind of the only one", Worlds::alone, (x, v) -> x.kind(v), 0, 0);
        Edge.refused("kind without a LAND", Worlds::none, x -> x.kind(0), Due.BAD);
        Edge.refused("kind without WALKERS", Worlds::still, x -> x.kind(0), Due.BAD);
        for (int i = 0; i < 5; i++) {
            Due.due("kind of " + SORTS.charAt(i), Due.told("f1;g0,0;" + SORTS.charAt(i) + "0;").kind(0), i + 1);
        }
    }

    // "taken as one of a KIND (0 .. 5): its number. BAD"
    private static void asTakes() {
        Edge.takes("as, one", Worlds::busy, (x, v) -> x.as(v, 0), 0, 2);
        Edge.takes("as, kind of an early one", () -> Due.told("f1;g0,0;e0;"), (x, v) -> x.as(0, v), 0, 5);
        for (int kind : new int[] {-1, 6, 256, MIN, MAX}) {
            Edge.refused("no KIND " + kind, Worlds::busy, x -> x.as(0, kind), Due.BAD);
            Edge.refused("no WALKER, no KIND " + kind, Worlds::busy, x -> x.as(3, kind), Due.BAD);
        }
        for (int kind = 0; kind <= 5; kind++) {
            int asked = kind;
            Edge.refused("no WALKER, KIND " + kind, Worlds::busy, x -> x.as(3, asked), Due.BAD);
            Edge.refused("no LAND, KIND " + kind, Worlds::none, x -> x.as(0, asked), Due.BAD);
        }
        for (int w = 0; w < 3; w++) {
            Due.due("its number", Worlds.busy().as(w, 0), w);
        }
        Due.due("the last KIND", Due.told("f1;g0,0;e0;").as(0, 5), 0);
    }

    // "KIND: it is no such one"
    private static void asWhatItIsNot() {
        int[] alsoOf = {1 + 2, 1 + 2 + 4, 1 + 2 + 8, 1 + 16, 1 + 16 + 32};
        for (int i = 0; i < 5; i++) {
            String text = "f1;g0,0;o0;o0;" + SORTS.charAt(i) + "0;";
            for (int kind = 0; kind <= 5; kind++) {
                int asked = kind;
                if ((alsoOf[i] >> kind & 1) == 1) {
                    Due.due(SORTS.charAt(i) + " as " + kind, Due.told(text).as(2, kind), 2);
                } else {
                    Edge.refused(SORTS.charAt(i) + " as " + kind, () -> Due.told(text), x -> x.as(2, asked), Due.KIND);
                }
            }
        }
    }

    // "An ASK (0, 1) of a WALKER. BAD"
    private static void askTakes() {
        Edge.takes("ask, one", Worlds::busy, (x, v) -> x.ask(v, 0), 0, 2);
        Edge.takes("ask, what", Worlds::busy, (x, v) -> x.ask(2, v), 0, 1);
        Edge.refused("ask without a LAND", Worlds::none, x -> x.ask(0, 0), Due.BAD);
        Edge.refused("ask without WALKERS", Worlds::still, x -> x.ask(0, 1), Due.BAD);
    }

    private static void asksAtTheirLeastAndMost() {
        int[] leastSizes = {0, 0, -1000, -100, -200};
        int[] leastMarks = {0, 0, -1000, 100, 200};
        int[] mostSizes = {7 + 22, -(7 + 44), 7 + 22 - 1000, -93, -186};
        int[] mostMarks = {22, 44, 22 - 1000, 2 + 93, 2 + 186};
        for (int i = 0; i < 5; i++) {
            char sort = SORTS.charAt(i);
            WinterWalk least = Due.told("f1;g0,0;" + sort + "0;");
            Due.due("SIZE of " + sort + " 0 in 0", least.ask(0, 0), leastSizes[i]);
            Due.due("MARK of " + sort + " 0 in 0", least.ask(0, 1), leastMarks[i]);
            WinterWalk most = Due.told("f1;" + "g0,0;".repeat(7) + "g0,20;o0;o0;" + sort + "7;");
            Due.due("SIZE of " + sort + " 2 in 7", most.ask(2, 0), mostSizes[i]);
            Due.due("MARK of " + sort + " 2 in 7", most.ask(2, 1), mostMarks[i]);
        }
    }

    // "Number i of THE TRACE; NONE"
    private static void traceAtFirst() {
        for (Edge.World world : new Edge.World[] {Worlds::none, Worlds::alone, Worlds::full}) {
            for (int i : new int[] {0, 1, 15, 16}) {
                Due.due("trace(" + i + ") ahead of an ask", world.anew().trace(i), Due.NONE);
            }
        }
    }

    // "THE TRACE (the first 16)"; no place of it is BAD
    private static void traceTakesAnything() {
        int[] longest = {12, 11, 10, 24, 21, 20};
        WinterWalk x = Due.told("f1;g0,0;s0;");
        x.ask(0, 0);
        for (int i = 0; i < longest.length; i++) {
            Due.due("trace(" + i + ")", x.trace(i), longest[i]);
        }
        for (int i : new int[] {6, 7, 15, 16, 17, 255, 256, 65536, MAX, MAX - 1, -1, -2, -16, MIN, MIN + 1}) {
            Due.due("trace(" + i + ")", x.trace(i), Due.NONE);
        }
    }

    // "THE TRACE is empty ahead of it"
    private static void traceIsEmptyAheadOfAnAsk() {
        WinterWalk x = Due.told("f1;g0,0;s0;t0;");
        x.ask(0, 0);
        Due.due("six", x.trace(5), 20);
        x.ask(1, 0);
        Due.due("the first of two", x.trace(0), 13);
        Due.due("the second of two", x.trace(1), 10);
        for (int i = 2; i <= 16; i++) {
            Due.due("nothing of the six, " + i, x.trace(i), Due.NONE);
        }
        for (int i = 0; i < 20; i++) {
            x.ask(0, 0);
        }
        Due.due("twenty asks are as one", x.trace(0), 12);
        Due.due("no seventh", x.trace(6), Due.NONE);
    }

    private static void aRefusedAskLeavesTheTrace() {
        for (int wrong : new int[] {-1, 2, 3, MIN, MAX}) {
            WinterWalk x = Due.told("f1;g0,0;s0;t0;");
            x.ask(0, 0);
            Due.due("no ask " + wrong, x.ask(1, wrong), Due.BAD);
            Due.due("no WALKER " + wrong, x.ask(wrong, 0), Due.BAD);
            Due.due("THE TRACE", x.trace(0), 12);
            Due.due("its end", x.trace(5), 20);
        }
    }

    private static void countTakes() {
        Edge.takes("count", Worlds::busy, (x, v) -> x.count(v), 0, 8);
        Edge.takes("count, no LAND", Worlds::none, (x, v) -> x.count(v), 0, 8);
        Edge.takes("count, all full", Worlds::full, (x, v) -> x.count(v), 0, 8);
    }

    private static void countsOfNoneAndOfAll() {
        int[] full = {8, 8, 12, 3, 999, 0, 0, 24, 120};
        int[] none = {0, 3, 2, 0, 0, 0, 0, 0, 0};
        for (int what = 0; what <= 8; what++) {
            Due.due("count(" + what + ")", Worlds.full().count(what), full[what]);
            Due.due("count(" + what + ") of none", Worlds.still().count(what), none[what]);
        }
        WinterWalk most = Due.told("f1;g9,20;o0;s0;l0;");
        Worlds.pass(most, 999);
        Due.due("the greatest GAIN", most.count(5), 9 * 3 * 999);
        Due.due("the greatest PAID", most.count(6), 20 * 3 * 999);
        WinterWalk least = Due.told("f1;c9,20;o0;s0;l0;");
        Worlds.pass(least, 999);
        Due.due("the least GAIN", least.count(5), -9 * 3 * 999);
    }

    // "0: it had none, or there was none"
    private static void statusAtFirst() {
        for (Edge.World world : new Edge.World[] {Worlds::none, Worlds::alone, Worlds::still}) {
            Due.due("status()", world.anew().status(), 0);
        }
    }

    // "Of the latest call with a ROW, or as()"
    private static void statusStaysWithOtherCalls() {
        Edge.Call[] calls = {
            x -> x.feed('f'), x -> x.land(), x -> x.fault(), x -> x.undo(), x -> x.days(1), x -> x.offer(0, 1),
            x -> x.door(0, 1), x -> x.village(0, 0), x -> x.walker(0, 0), x -> x.ahead(0, 1, 0), x -> x.cold(1, 0),
            x -> x.nights(0, 1), x -> x.freezes(0, 1), x -> x.warn(0), x -> x.lure(0, 1), x -> x.keepsAway(0, 1, 0),
            x -> x.bid(0, 1, 0), x -> x.rests(1), x -> x.round(0), x -> x.meet(1, 0), x -> x.late(0, 1, 1, 0, 0),
            x -> x.year(1, 1, 0), x -> x.image(0), x -> x.restore(0), x -> x.kind(0), x -> x.ask(0, 0),
            x -> x.trace(0), x -> x.count(0), x -> x.status()};
        statusStays("call", calls);
    }

    // "that was not BAD, STATE, FULL"
    private static void statusStaysWhenRefused() {
        Edge.Call[] calls = {
            x -> x.row(8, 0, 1), x -> x.row(0, 3, -1), x -> x.row(0, 0, 41), x -> x.set(8, 0, 0), x -> x.set(-1, 0, 0),
            x -> x.copy(8, 0, 0, 0, 0), x -> x.copy(0, 0, 8, 0, 0), x -> x.drop(8), x -> x.fits(3, 0, 0, 1),
            x -> x.fits(0, 8, 0, 1), x -> x.fits(0, 0, 0, 25), x -> x.slept(3, 0, 0, 1, 0), x -> x.slept(0, 8, 0, 1, 0),
            x -> x.slept(0, 0, 0, 13, 0), x -> x.slept(0, 0, 0, 1, 2), x -> x.as(3, 0), x -> x.as(0, 6),
            x -> x.restore(1), x -> x.days(25), x -> x.door(3, 1)};
        statusStays("refusal", calls);
    }

    private static void statusStays(String what, Edge.Call... calls) {
        for (int i = 0; i < calls.length; i++) {
            WinterWalk x = Worlds.busy();
            calls[i].on(x);
            Due.due("status() behind " + what + " " + i, x.status(), 5);
            x.row(0, 0, 1);
            calls[i].on(x);
            Due.due("none behind " + what + " " + i, x.status(), 0);
        }
    }

    // "the number of its FINDING; 0: it had none"
    private static void statusOfEachFinding() {
        Edge.Call[] finds = {x -> x.set(7, 0, 0), x -> x.set(0, 6, 0), x -> x.as(0, 5), x -> x.row(0, 0, -1),
            x -> x.copy(0, 0, 1, 0, 0)};
        Edge.Call[] findsNothing = {x -> x.row(0, 0, 0), x -> x.set(0, 0, 0), x -> x.copy(0, 0, 0, 0, 0),
            x -> x.drop(0), x -> x.fits(0, 0, 0, 1), x -> x.slept(0, 0, 0, 1, 0), x -> x.as(0, 0)};
        for (int number = 1; number <= 5; number++) {
            for (int i = 0; i < findsNothing.length; i++) {
                WinterWalk x = Worlds.busy();
                Due.due("the FINDING", finds[number - 1].on(x), -1000010 - number);
                Due.due("status()", x.status(), number);
                Due.due("status() again", x.status(), number);
                findsNothing[i].on(x);
                Due.due("status() behind what had none, " + i, x.status(), 0);
            }
        }
    }
}
