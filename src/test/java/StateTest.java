/** Promise 12. */
public final class StateTest {
    public static void main(String[] args) {
        Checks c = new Checks("StateTest");
        DoorActs x = Acts.withItem(0);
        int[] noItems = {0, -1, 2, Integer.MIN_VALUE, Integer.MAX_VALUE};
        for (int item : noItems) {
            c.due("state(" + item + ")", x.state(item), DoorActs.UNKNOWN);
        }
        for (int more = 0; more <= 10; more += 10) {
            states(c, more);
        }
        offLine(c);
        c.end();
    }

    private static DoorActs post(int more) {
        DoorActs x = Acts.withItem(0);
        x.consent(1, 1, 2);
        x.consent(1, 0, 3);
        x.consent(1, 2, 0);
        if (more != 0) {
            Acts.damage(x, 7, 1, 0);
        }
        return x;
    }

    private static void states(Checks c, int more) {
        DoorActs x = post(more);
        c.due("out", x.state(1), more);
        Acts.card(x, 0, 1, 0);
        c.due("a card was left", x.state(1), 1 + more);
        Acts.card(x, 0, 1, 1440);
        c.due("kept", x.state(1), 2 + more);
        x.tick(9);
        c.due("gone back as kept for too long", x.state(1), 8 + more);
        for (int who = 1; who <= 3; who++) {
            DoorActs y = post(more);
            Acts.hand(y, 0, 1, who, -1, 0);
            c.due("handed over to " + who, y.state(1), 2 + who + more);
        }
        DoorActs left = post(more);
        Acts.leave(left, 0, 1, 0);
        c.due("left", left.state(1), 6 + more);
        DoorActs refused = post(more);
        Acts.refuse(refused, 0, 1, 1, 0);
        c.due("gone back as refused", refused.state(1), 7 + more);
    }

    private static void offLine(Checks c) {
        DoorActs x = post(0);
        x.cut(0, true);
        Acts.damage(x, 0, 1, 0);
        Acts.card(x, 0, 1, 0);
        c.due("the state is that for all", x.state(1), 0);
        x.join(0);
        c.due("joined", x.state(1), 11);
    }
}
