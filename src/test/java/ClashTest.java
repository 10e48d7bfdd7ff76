/** Promise 6. */
public final class ClashTest {
    public static void main(String[] args) {
        Checks c = new Checks("ClashTest");
        numbersAndSides(c);
        latestDevice(c);
        goneBackByADay(c);
        many(c);
        c.end();
    }

    private static void numbersAndSides(Checks c) {
        DoorActs x = Acts.withItem(0);
        x.item(0, 1);
        x.cut(4, true);
        Acts.damage(x, 4, 2, 0);
        Acts.damage(x, 4, 1, 0);
        Acts.damage(x, 5, 1, 0);
        Acts.damage(x, 6, 2, 0);
        x.join(4);
        sides(c, x, 0, 2, 6, 4);
        sides(c, x, 1, 1, 5, 4);
        sides(c, x, 2, -1, -1, -1);
        sides(c, x, -1, -1, -1, -1);
        sides(c, x, Integer.MIN_VALUE, -1, -1, -1);
        sides(c, x, Integer.MAX_VALUE, -1, -1, -1);
        int[] noSides = {-1, 3, Integer.MIN_VALUE, Integer.MAX_VALUE};
        for (int side : noSides) {
            c.due("side " + side, x.clash(0, side), DoorActs.OUTSIDE);
            c.due("side " + side + ", no clash", x.clash(2, side), DoorActs.OUTSIDE);
        }
    }

    private static void sides(Checks c, DoorActs x, int i, int item, int latest, int joined) {
        c.due("clash(" + i + ", 0)", x.clash(i, 0), item);
        c.due("clash(" + i + ", 1)", x.clash(i, 1), latest);
        c.due("clash(" + i + ", 2)", x.clash(i, 2), joined);
    }

    private static void latestDevice(Checks c) {
        DoorActs x = Acts.withItem(0);
        x.cut(4, true);
        x.cut(5, true);
        Acts.damage(x, 4, 1, 0);
        Acts.hand(x, 4, 1, 1, -1, 0);
        Acts.hand(x, 5, 1, 1, -1, 0);
        Acts.card(x, 3, 1, 0);
        Acts.refuse(x, 2, 1, 1, 0);
        c.due("an act of a device off line is not done for all", Acts.damage(x, 5, 1, 0), 8);
        c.due("join 5", x.join(5), -1);
        sides(c, x, 0, 1, 2, 5);
        c.due("a refused act is none", Acts.card(x, 1, 1, 0), DoorActs.STATE);
        c.due("join 4", x.join(4), -3);
        sides(c, x, 2, 1, 2, 4);
        DoorActs y = Acts.withItem(0);
        y.cut(4, true);
        Acts.damage(y, 4, 1, 0);
        Acts.hand(y, 4, 1, 1, -1, 0);
        Acts.hand(y, 0, 1, 1, -1, 0);
        c.due("the damage is done, the hand is a clash", y.join(4), -1);
        sides(c, y, 0, 1, 4, 4);
        c.due("state", y.state(1), 13);
        c.due("a clash stays as it was", Acts.wrong(y, 0, 1, 0), 9);
        sides(c, y, 0, 1, 4, 4);
    }

    private static void goneBackByADay(Checks c) {
        DoorActs x = Acts.withKeptItem(0);
        x.cut(4, true);
        Acts.damage(x, 4, 1, 0);
        x.tick(9);
        c.due("join", x.join(4), -1);
        sides(c, x, 0, 1, -1, 4);
        DoorActs y = Acts.withKeptItem(0);
        y.cut(4, true);
        Acts.damage(y, 4, 1, 0);
        Acts.damage(y, 3, 1, 0);
        y.tick(8);
        c.due("join", y.join(4), -1);
        sides(c, y, 0, 1, 3, 4);
        c.due("it goes back after the clash", y.tick(9), 1);
        sides(c, y, 0, 1, 3, 4);
    }

    private static void many(Checks c) {
        DoorActs x = new DoorActs();
        for (int item = 1; item <= 30; item++) {
            x.item(0, 1);
        }
        for (int device = 1; device < 8; device++) {
            x.cut(device, true);
            for (int item = 1; item <= 30; item++) {
                Acts.damage(x, device, item, 0);
            }
        }
        for (int item = 1; item <= 30; item++) {
            Acts.damage(x, 0, item, 0);
        }
        for (int device = 1; device < 8; device++) {
            int first = 30 * (device - 1);
            c.due("join(" + device + ")", x.join(device), -1 - first);
            sides(c, x, first, 1, 0, device);
            sides(c, x, first + 29, 30, 0, device);
        }
        sides(c, x, 210, -1, -1, -1);
    }
}
