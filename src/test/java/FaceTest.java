/** Promises 1 to 3: a new object, feed, wipe. */
public final class FaceTest {
    public static void main(String[] args) {
        Checks checks = new Checks("FaceTest");
        WeaveHouse house = new WeaveHouse();
        checks.due("NONE", WeaveHouse.NONE, -1);
        checks.due("wipe of a new object", house.wipe(), 0);
        checks.end();
    }
}
