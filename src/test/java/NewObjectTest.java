/** Promise 1. */
public final class NewObjectTest {
    public static void main(String[] args) {
        Checks c = new Checks("NewObjectTest");
        DoorActs x = new DoorActs();
        for (int item = -1; item <= 61; item++) {
            c.due("no item " + item, x.state(item), DoorActs.UNKNOWN);
        }
        c.due("tries(1)", x.tries(1), DoorActs.UNKNOWN);
        c.due("slip(1, 1)", x.slip(1, 1), DoorActs.UNKNOWN);
        c.due("cash(1, 1)", x.cash(1, 1), DoorActs.UNKNOWN);
        c.due("act", Acts.damage(x, 0, 1, 0), DoorActs.UNKNOWN);
        c.due("clash(0, 0)", x.clash(0, 0), -1);
        for (int device = 0; device < 8; device++) {
            c.due("on line: join(" + device + ")", x.join(device), DoorActs.STATE);
            c.due("on line: cut(" + device + ", false)", x.cut(device, false), false);
        }
        c.due("tick(-1)", x.tick(-1), DoorActs.OUTSIDE);
        c.due("day 0: tick(0)", x.tick(0), 0);
        c.due("no consents: consent(1, 0, 2)", x.consent(1, 0, 2), 1);
        c.due("no consents: consent(1, 1, 2)", x.consent(1, 1, 2), 1);
        c.due("no consents: consent(1, 2, 2)", x.consent(1, 2, 2), 1);
        twoObjectsAreApart(c);
        c.end();
    }

    private static void twoObjectsAreApart(Checks c) {
        DoorActs x = Acts.withItem(0);
        DoorActs y = new DoorActs();
        c.due("another object's item", y.state(1), DoorActs.UNKNOWN);
        x.tick(5);
        x.cut(3, true);
        c.due("another object's day", y.tick(4), 0);
        c.due("another object's device", y.join(3), DoorActs.STATE);
    }
}
