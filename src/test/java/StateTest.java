/** Promises 47 to 52: counts, images and slots. */
public final class StateTest {
    public static void main(String[] args) {
        Due d = new Due("StateTest");
        LastCloud x = new LastCloud();
        d.due("row", x.row(0, 0, 3), 0);
        d.finish();
    }
}
