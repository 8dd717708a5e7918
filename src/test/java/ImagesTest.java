/** Promises 30 and 31: IMAGES. */
public final class ImagesTest {
    public static void main(String[] args) {
        WinterWalk x = new WinterWalk();
        Due.due("image(-1): BAD is ahead of STATE", x.image(-1), Due.BAD);
        Due.due("image(2)", x.image(2), Due.BAD);
        Due.due("image(0) without a LAND", x.image(0), Due.STATE);
        Due.due("restore(1) of none", x.restore(1), Due.STATE);
        Due.due("restore(2)", x.restore(2), Due.BAD);
        Due.due("restore(-1)", x.restore(-1), Due.BAD);

        Due.feedAll(x, "f3;g5,1;c4,2;g0,3;r0,1;r1,2;l0;e2;");
        x.land();
        x.days(4);
        x.offer(1, 17);
        x.door(2, 1);
        String first = Due.landSeen(x);
        Due.due("image(0)", x.image(0), 1);
        Due.due("an IMAGE is no ACT", x.count(7), 6);
        x.days(5);
        Due.due("image(1)", x.image(1), 1);
        String second = Due.landSeen(x);
        x.days(1);
        Due.due("restore(0)", x.restore(0), 1);
        Due.same("as IMAGE 0 kept it", Due.landSeen(x), first);
        Due.due("no ACT can be undone", x.undo(), Due.STATE);
        Due.due("count(7)", x.count(7), 0);
        x.days(2);
        x.row(4, 0, 4);
        x.feed('f');
        Due.due("restore(1)", x.restore(1), 1);
        Due.same("as IMAGE 1 kept it", Due.landSeen(x), second);
        Due.due("rows stay", x.count(0), 1);
        Due.due("the tape stays", x.count(8), 1);
        x.days(1);
        Due.due("an ACT again", x.undo(), 0);
        Due.same("undone", Due.landSeen(x), second);

        Due.feedAll(x, "1;g0,0;");
        Due.due("another LAND", x.land(), 1);
        Due.due("restore(0) behind another LAND", x.restore(0), 1);
        Due.same("as IMAGE 0 kept it, roads and all", Due.landSeen(x), first);
        Due.due("an IMAGE in place of another", x.image(1), 1);
        x.days(1);
        x.restore(1);
        Due.same("as the newer one kept it", Due.landSeen(x), first);
        Due.end("ImagesTest");
    }
}
