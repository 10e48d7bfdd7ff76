/** Promises 4, 5 and 7: what a device that is off line knows, and what all others know. */
public final class OffLineTest {
    public static void main(String[] args) {
        Checks c = new Checks("OffLineTest");
        itsActsAreItsOwn(c);
        itKnowsWhatWasSo(c);
        itKnowsDamageAndDays(c);
        itDoesNotSeeTheDay(c);
        twoDevices(c);
        cutAgainKnowsAnew(c);
        consentsAsTheyAre(c);
        cashAsItIs(c);
        c.end();
    }

    private static void consentsAsTheyAre(Checks c) {
        DoorActs x = Acts.withItem(0);
        x.item(0, 1);
        x.item(0, 1);
        x.item(0, 1);
        x.consent(1, 0, 2);
        x.consent(1, 2, 0);
        x.cut(3, true);
        c.due("a neighbour", Acts.hand(x, 3, 1, 2, -1, 0), 3);
        c.due("left", Acts.leave(x, 3, 2, 0), 4);
        x.consent(1, 0, 2);
        x.consent(1, 2, 0);
        c.due("no neighbour any more", Acts.hand(x, 3, 3, 2, -1, 0), DoorActs.WHO);
        c.due("left no more", Acts.leave(x, 3, 3, 0), DoorActs.WHO);
        c.due("no order yet", Acts.refuse(x, 3, 3, 4, 0), DoorActs.WHO);
        x.consent(1, 1, 4);
        c.due("an order told since then", Acts.refuse(x, 3, 3, 4, 0), 7);
        x.consent(1, 0, 5);
        c.due("a neighbour told since then", Acts.hand(x, 3, 4, 5, -1, 0), 3);
        c.due("all is done, also what was consented to then", x.join(3), 4);
        c.due("a neighbour", x.state(1), 5);
        c.due("left", x.state(2), 6);
        c.due("refused", x.state(3), 7);
        c.due("a neighbour", x.state(4), 5);
    }

    private static void cashAsItIs(Checks c) {
        DoorActs x = Acts.withItem(5);
        x.cash(1, 100);
        x.cut(3, true);
        c.due("400 are due", Acts.hand(x, 3, 1, 1, -1, 0), DoorActs.CASH);
        x.cash(1, 399);
        c.due("1 is due", Acts.hand(x, 3, 1, 1, -1, 0), DoorActs.CASH);
        x.cash(1, 1);
        c.due("nothing is due", Acts.hand(x, 3, 1, 1, -1, 0), 1);
        c.due("join", x.join(3), 1);
        c.due("handed over", x.state(1), 3);
    }

    private static void itsActsAreItsOwn(Checks c) {
        DoorActs x = Acts.withItem(0);
        x.cut(2, true);
        c.due("hand", Acts.hand(x, 2, 1, 1, -1, 0), 1);
        c.due("for all it is out", x.state(1), 0);
        c.due("the device knows its act", Acts.hand(x, 2, 1, 1, -1, 0), DoorActs.STATE);
        c.due("wrong", Acts.wrong(x, 2, 1, 5), 9);
        c.due("card", Acts.card(x, 2, 1, 5), 5);
        c.due("second card on the day", Acts.card(x, 2, 1, 5), DoorActs.STATE);
        c.due("second card", Acts.card(x, 2, 1, 1440), 6);
        c.due("kept, so a proof is needed", Acts.hand(x, 2, 1, 1, -1, 1440), DoorActs.PROOF);
        c.due("tries are those for all", x.tries(1), 0);
        c.due("join", x.join(2), 4);
        c.due("kept for all", x.state(1), 2);
        c.due("tries", x.tries(1), 2);
    }

    private static void itKnowsWhatWasSo(Checks c) {
        DoorActs x = Acts.withItem(0);
        x.cut(2, true);
        Acts.hand(x, 0, 1, 1, -1, 0);
        Acts.damage(x, 0, 1, 0);
        c.due("known as out", Acts.card(x, 2, 1, 0), 5);
        c.due("known as whole", Acts.damage(x, 2, 1, 0), 8);
        c.due("known as not handed over", Acts.wrong(x, 2, 1, 0), DoorActs.STATE);
        c.due("both clash", x.join(2), -1);
        c.due("clash 0", x.clash(0, 0), 1);
        c.due("clash 1", x.clash(1, 0), 1);
        c.due("no more", x.clash(2, 0), -1);
        c.due("the clashes do nothing", x.state(1), 13);
        c.due("the clashes do nothing", x.tries(1), 0);
        c.due("joined, it knows what is so", Acts.damage(x, 2, 1, 0), DoorActs.STATE);
    }

    private static void itKnowsDamageAndDays(Checks c) {
        DoorActs damaged = Acts.withItem(0);
        Acts.damage(damaged, 0, 1, 0);
        damaged.cut(2, true);
        c.due("known as damaged", Acts.damage(damaged, 2, 1, 0), DoorActs.STATE);
        DoorActs x = Acts.withItem(0);
        Acts.card(x, 1, 1, Acts.at(3, 0));
        Acts.hand(x, 2, 1, 1, -1, Acts.at(3, 0));
        x.cut(2, true);
        c.due("on another day", Acts.wrong(x, 2, 1, Acts.at(4, 0)), DoorActs.STATE);
        c.due("on the day that it handed it over", Acts.wrong(x, 2, 1, Acts.at(3, 9)), 9);
        c.due("on the card's day", Acts.card(x, 2, 1, Acts.at(3, 9)), DoorActs.STATE);
        c.due("on a later day", Acts.card(x, 2, 1, Acts.at(4, 9)), 6);
        c.due("join", x.join(2), 2);
        c.due("state", x.state(1), 2);
        c.due("kept to day 11", x.tick(11), 0);
        c.due("kept to day 11", x.tick(12), 1);
    }

    private static void itDoesNotSeeTheDay(Checks c) {
        DoorActs x = Acts.withKeptItem(0);
        x.cut(2, true);
        c.due("gone back", x.tick(9), 1);
        c.due("it knows the item as kept", Acts.hand(x, 2, 1, 1, 4, Acts.at(9, 0)), 1);
        c.due("clash", x.join(2), -1);
        c.due("state", x.state(1), 8);
    }

    private static void twoDevices(Checks c) {
        DoorActs x = Acts.withItem(0);
        x.cut(2, true);
        x.cut(3, true);
        c.due("device 2", Acts.hand(x, 2, 1, 1, -1, 0), 1);
        c.due("device 3 does not know it", Acts.hand(x, 3, 1, 1, -1, 0), 1);
        c.due("join 3", x.join(3), 1);
        c.due("state", x.state(1), 3);
        c.due("join 2", x.join(2), -1);
        c.due("by device 3", x.clash(0, 1), 3);
        c.due("it was handed over once: not by device 2", Acts.wrong(x, 2, 1, 0), DoorActs.STATE);
        c.due("it was handed over once: by device 3", Acts.wrong(x, 3, 1, 0), 9);
    }

    private static void cutAgainKnowsAnew(Checks c) {
        DoorActs x = Acts.withItem(0);
        x.cut(2, true);
        c.due("hand", Acts.hand(x, 2, 1, 1, -1, 0), 1);
        x.cut(2, false);
        c.due("on line it knows what is so", Acts.card(x, 2, 1, 0), 5);
        x.item(0, 1);
        x.cut(2, true);
        c.due("it knows the card", Acts.card(x, 2, 1, 0), DoorActs.STATE);
        c.due("it knows the new item", Acts.damage(x, 2, 2, 0), 8);
        c.due("cut off twice changes nothing", x.cut(2, true), false);
        x.item(0, 1);
        c.due("not even what it knows", x.cut(2, true), false);
        c.due("not even what it knows", Acts.damage(x, 2, 3, 0), DoorActs.UNKNOWN);
        c.due("join", x.join(2), 1);
        c.due("on line it knows all", Acts.damage(x, 2, 3, 0), 8);
    }
}
