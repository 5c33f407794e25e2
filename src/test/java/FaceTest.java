/** Promises 1 to 3 and 5 to 10: the face beside what scripts do. */
public final class FaceTest {
    public static void main(String[] args) {
        newObject();
        Desk.close("FaceTest");
    }

    private static void newObject() {
        MatrixScripts x = new MatrixScripts();
        Desk.due("place", x.place(), MatrixScripts.NONE);
        Desk.due("length", x.length(), 0);
    }
}
