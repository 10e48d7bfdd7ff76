/** What is empty: no items, no consents, no rows, no clash. */
public final class EmptyTest {
    private static final int OUTSIDE = DoorActs.OUTSIDE, UNKNOWN = DoorActs.UNKNOWN, STATE = DoorActs.STATE, WHO = DoorActs.WHO;
    private static final Checks c = new Checks("EmptyTest");

    public static void main(String[] args) {
        noItems();
        noItemsWhenCutOff();
        for (int service = 0; service <= 5; service++) {
            noConsents(service);
        }
        noConsentsAnyMore();
        noRows();
        noRowsAsAllWereRefused();
        noRowsAnyMore();
        noClash();
        c.end();
    }

    private static void noItems() {
        DoorActs x = new DoorActs();
        for (int item : new int[] {Integer.MIN_VALUE, -1, 0, 1, 60, Integer.MAX_VALUE}) {
            for (int kind = 0; kind <= 5; kind++) {
                c.due("act", x.act(0, item, kind, 1, -1, 0), UNKNOWN);
            }
            c.due("tries", x.tries(item), UNKNOWN);
            c.due("slip", x.slip(item, 1), UNKNOWN);
            c.due("slip sent back", x.slip(item, -1), UNKNOWN);
            c.due("cash", x.cash(item, 1), UNKNOWN);
            c.due("state", x.state(item), UNKNOWN);
        }
        c.due("no item goes back", x.tick(0), 0);
        c.due("no item goes back", x.tick(1000000), 0);
        c.due("the first one is 1", x.item(0, 0), 1);
    }

    private static void noItemsWhenCutOff() {
        DoorActs x = new DoorActs();
        c.due("cut off", x.cut(3, true), true);
        c.due("item", x.item(0, 1), 1);
        c.due("the device knows none", Acts.damage(x, 3, 1, 0), UNKNOWN);
        c.due("another device knows it", Acts.card(x, 4, 1, 0), 5);
        c.due("the device knows none still", Acts.damage(x, 3, 1, 0), UNKNOWN);
        c.due("cut off already", x.cut(3, true), false);
        c.due("the device knows none still", Acts.damage(x, 3, 1, 0), UNKNOWN);
        c.due("it has no rows", x.join(3), 0);
        c.due("on line it knows it", Acts.damage(x, 3, 1, 0), 8);
    }

    private static void noConsents(int service) {
        DoorActs x = Acts.withItem(service);
        x.cash(1, 500);
        for (int who : new int[] {0, 2, 99}) {
            c.due("to no other one", Acts.hand(x, 0, 1, who, Acts.proof(who, 2), 0), WHO);
            c.due("refused by no other one", Acts.refuse(x, 0, 1, who, 0), WHO);
        }
        c.due("not left", Acts.leave(x, 0, 1, 0), WHO);
        c.due("out", x.state(1), 0);
        c.due("to the receiver", Acts.hand(x, 0, 1, 1, Acts.proof(1, 2), 0), 1);
    }

    private static void noConsentsAnyMore() {
        DoorActs x = Acts.withItem(0);
        for (int answer = 1; answer >= 0; answer--) {
            c.due("neighbour", x.consent(1, 0, 2), answer);
            c.due("order", x.consent(1, 1, 3), answer);
            c.due("left", x.consent(1, 2, 9), answer);
        }
        c.due("neighbour", Acts.hand(x, 0, 1, 2, -1, 0), WHO);
        c.due("order", Acts.hand(x, 0, 1, 3, -1, 0), WHO);
        c.due("refused by order", Acts.refuse(x, 0, 1, 3, 0), WHO);
        c.due("left", Acts.leave(x, 0, 1, 0), WHO);
        c.due("told anew", x.consent(1, 1, 3), 1);
        c.due("order", Acts.hand(x, 0, 1, 3, -1, 0), 2);
    }

    private static void noRows() {
        DoorActs x = Acts.withItem(0);
        for (int device = 0; device < 8; device++) {
            x.cut(device, true);
        }
        for (int device = 7; device >= 0; device--) {
            c.due("join", x.join(device), 0);
            c.due("on line", x.join(device), STATE);
        }
        c.due("nothing was done", x.state(1), 0);
        c.due("no clash", x.clash(0, 0), -1);
    }

    private static void noRowsAsAllWereRefused() {
        DoorActs x = Acts.withItem(5);
        x.cut(2, true);
        x.item(0, 1);
        c.due("UNKNOWN", Acts.damage(x, 2, 2, 0), UNKNOWN);
        c.due("OUTSIDE", Acts.damage(x, 2, 1, -1), OUTSIDE);
        c.due("STATE", Acts.wrong(x, 2, 1, 0), STATE);
        c.due("WHO", Acts.refuse(x, 2, 1, 9, 0), WHO);
        c.due("PROOF", Acts.hand(x, 2, 1, 1, 0, 0), DoorActs.PROOF);
        c.due("CASH", Acts.hand(x, 2, 1, 1, -1, 0), DoorActs.CASH);
        c.due("no rows", x.join(2), 0);
        c.due("nothing was done", x.state(1), 0);
    }

    private static void noRowsAnyMore() {
        DoorActs x = Acts.withItem(0);
        x.cut(2, true);
        Acts.damage(x, 2, 1, 0);
        c.due("on line without its rows", x.cut(2, false), true);
        c.due("cut off again", x.cut(2, true), true);
        c.due("no rows", x.join(2), 0);
        c.due("nothing was done", x.state(1), 0);
        x.cut(2, true);
        Acts.damage(x, 2, 1, 0);
        c.due("one row", x.join(2), 1);
        x.cut(2, true);
        c.due("it is done already", x.join(2), 0);
        c.due("done", x.state(1), 10);
        c.due("no clash", x.clash(0, 0), -1);
    }

    private static void noClash() {
        DoorActs x = Acts.withItem(0);
        for (int side = 0; side <= 2; side++) {
            c.due("none at all", x.clash(0, side), -1);
        }
        x.cut(2, true);
        Acts.damage(x, 2, 1, 0);
        Acts.damage(x, 1, 1, 0);
        for (int side = 0; side <= 2; side++) {
            c.due("none before the join", x.clash(0, side), -1);
        }
        c.due("without its rows there is none", x.cut(2, false), true);
        for (int side = 0; side <= 2; side++) {
            c.due("none", x.clash(0, side), -1);
        }
        x.cut(2, true);
        Acts.card(x, 2, 1, 0);
        c.due("a join without a clash", x.join(2), 1);
        for (int side = 0; side <= 2; side++) {
            c.due("none", x.clash(0, side), -1);
        }
    }
}
