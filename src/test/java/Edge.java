/** The last that a call takes, the first that it does not, and that what is refused changes nothing. */
final class Edge {
    /** A run of calls that can be made anew, so that two objects can be held against one another. */
    interface World {
        WinterWalk anew();
    }

    interface Call {
        long on(WinterWalk x);
    }

    interface CallWith {
        long on(WinterWalk x, int v);
    }

    private static final int MIN = Integer.MIN_VALUE, MAX = Integer.MAX_VALUE;

    private Edge() {
    }

    /** The answer is due, and then all is as in an object that was never asked so. */
    static void refused(String call, World world, Call made, long due) {
        WinterWalk one = world.anew();
        int ahead = one.status();
        Due.due(call, made.on(one), due);
        boolean isFinding = Due.STORE <= due && due <= Due.NULL;
        Due.due(call + ": status() then", one.status(), isFinding ? -1000010 - due : ahead);
        for (int part = 0; part < Everything.PARTS; part++) {
            WinterWalk x = world.anew();
            made.on(x);
            String is = Everything.part(part, x);
            Due.same(call + " changes nothing, part " + part, is, Everything.part(part, world.anew()));
        }
    }

    /** Numbers from least to most are taken, those beyond are BAD. */
    static void takes(String call, World world, CallWith made, int least, int most) {
        takes(call, world, made, least, most, Due.BAD, Due.BAD);
    }

    static void takes(String call, World world, CallWith made, int least, int most, long below, long above) {
        takenAt(call, world, made, least);
        takenAt(call, world, made, most);
        for (int v : new int[] {least - 1, least - 256, least - 65536, MIN + most, MIN + 1, MIN}) {
            refused(call + " by " + v, world, x -> made.on(x, v), below);
        }
        for (int v : new int[] {most + 1, most + 256, most + 65536, MAX - most, MAX - 1, MAX}) {
            refused(call + " by " + v, world, x -> made.on(x, v), above);
        }
    }

    private static void takenAt(String call, World world, CallWith made, int v) {
        long answer = made.on(world.anew(), v);
        boolean isRefusal = Due.STORE <= answer && answer <= Due.BAD;
        Due.due(call + " by " + v + " is refused", isRefusal ? answer : 0, 0);
    }
}
