/** Promise 7. */
public final class CutTest {
    public static void main(String[] args) {
        Checks c = new Checks("CutTest");
        int[] noDevices = {-1, 8, Integer.MIN_VALUE, Integer.MAX_VALUE};
        DoorActs x = Acts.withItem(0);
        for (int device : noDevices) {
            c.due("cut(" + device + ", true)", x.cut(device, true), false);
            c.due("cut(" + device + ", false)", x.cut(device, false), false);
        }
        for (int device = 0; device < 8; device++) {
            c.due("on line already", x.cut(device, false), false);
            c.due("cut off", x.cut(device, true), true);
            c.due("cut off already", x.cut(device, true), false);
            c.due("on line again", x.cut(device, false), true);
            c.due("on line already", x.join(device), DoorActs.STATE);
        }
        x.cut(3, true);
        c.due("hand", Acts.hand(x, 3, 1, 1, -1, 0), 1);
        c.due("cut off already, its rows stay", x.cut(3, true), false);
        c.due("cut off already, its rows stay", Acts.card(x, 3, 1, 0), DoorActs.STATE);
        c.due("on line without its rows", x.cut(3, false), true);
        c.due("out", x.state(1), 0);
        c.due("the device knows it as out", Acts.card(x, 3, 1, 0), 5);
        c.due("that is done for all", x.state(1), 1);
        x.cut(3, true);
        c.due("no rows are left", x.join(3), 0);
        c.due("joined is on line", x.cut(3, false), false);
        c.due("joined may be cut off", x.cut(3, true), true);
        c.end();
    }
}
