/** Promise 5. */
public final class JoinTest {
    public static void main(String[] args) {
        Checks c = new Checks("JoinTest");
        answers(c);
        cardsByTheStatesThen(c);
        onlyStatesCount(c);
        wrongHouseRows(c);
        stateBeforeIsThatForAll(c);
        clashesAmongOthers(c);
        aClashIsNothingElse(c);
        c.end();
    }

    private static void clashesAmongOthers(Checks c) {
        DoorActs x = new DoorActs();
        for (int item = 1; item <= 5; item++) {
            x.item(0, 1);
        }
        x.cut(1, true);
        for (int item = 1; item <= 5; item++) {
            Acts.hand(x, 1, item, 1, -1, 0);
        }
        Acts.refuse(x, 0, 2, 1, 0);
        Acts.refuse(x, 0, 4, 1, 0);
        c.due("the first clash's number", x.join(1), -1);
        for (int item = 1; item <= 5; item++) {
            c.due("item " + item, x.state(item), item % 2 == 0 ? 7 : 3);
        }
        c.due("in the order of the rows", x.clash(0, 0), 2);
        c.due("in the order of the rows", x.clash(1, 0), 4);
        c.due("no more", x.clash(2, 0), -1);
    }

    private static void aClashIsNothingElse(Checks c) {
        DoorActs x = Acts.withItem(4);
        x.cut(1, true);
        Acts.damage(x, 1, 1, 0);
        Acts.hand(x, 1, 1, 1, 4, 0);
        Acts.wrong(x, 1, 1, 0);
        Acts.card(x, 1, 1, 0);
        Acts.damage(x, 0, 1, 0);
        Acts.hand(x, 0, 1, 1, 4, 0);
        x.slip(1, 1);
        c.due("all four clash", x.join(1), -1);
        c.due("all four clash", x.clash(3, 0), 1);
        c.due("the state stays", x.state(1), 13);
        c.due("no card was left", x.tries(1), 0);
        c.due("the slip stays signed", x.slip(1, -1), 2);
        c.due("it is still device 0 that handed it over", Acts.wrong(x, 1, 1, 0), DoorActs.STATE);
        c.due("it is still device 0 that handed it over", Acts.wrong(x, 0, 1, 0), 9);
        c.due("it was out before", x.state(1), 10);
    }

    private static void answers(Checks c) {
        DoorActs x = Acts.withItem(0);
        x.item(0, 1);
        c.due("device -1", x.join(-1), DoorActs.OUTSIDE);
        c.due("device 8", x.join(8), DoorActs.OUTSIDE);
        c.due("on line", x.join(7), DoorActs.STATE);
        x.cut(7, true);
        c.due("without rows", x.join(7), 0);
        c.due("it is on line", x.join(7), DoorActs.STATE);
        x.cut(7, true);
        c.due("a refused act is no row", Acts.hand(x, 7, 1, 2, -1, 0), DoorActs.WHO);
        Acts.card(x, 7, 1, 0);
        Acts.damage(x, 7, 1, 0);
        c.due("two rows", x.join(7), 2);
        c.due("done", x.state(1), 11);
        x.cut(7, true);
        x.cut(6, true);
        Acts.hand(x, 7, 2, 1, -1, 0);
        Acts.hand(x, 7, 1, 1, -1, 0);
        Acts.hand(x, 6, 2, 1, -1, 0);
        Acts.hand(x, 6, 1, 1, -1, 0);
        Acts.hand(x, 0, 1, 1, -1, 0);
        c.due("its second row is clash 0", x.join(7), -1);
        c.due("its first row is done", x.state(2), 3);
        c.due("clash 1 is its first one", x.join(6), -2);
        c.due("the rows are gone", x.join(6), DoorActs.STATE);
        x.cut(6, true);
        c.due("the rows are gone", x.join(6), 0);
        c.due("three clashes", x.clash(2, 0), 1);
        c.due("three clashes", x.clash(3, 0), -1);
    }

    private static void cardsByTheStatesThen(Checks c) {
        DoorActs x = Acts.withItem(0);
        x.cut(1, true);
        c.due("off line a first card", Acts.card(x, 1, 1, Acts.at(5, 0)), 5);
        c.due("on line a first card", Acts.card(x, 0, 1, Acts.at(4, 0)), 5);
        c.due("join", x.join(1), 1);
        c.due("it is the second one", x.state(1), 2);
        c.due("tries", x.tries(1), 2);
        c.due("kept by its day", x.tick(12), 0);
        c.due("kept by its day", x.tick(13), 1);
        DoorActs y = Acts.withItem(0);
        y.cut(1, true);
        Acts.card(y, 1, 1, Acts.at(4, 0));
        Acts.card(y, 1, 1, Acts.at(5, 0));
        Acts.card(y, 0, 1, Acts.at(4, 0));
        c.due("same day: the first row is a clash", y.join(1), -1);
        c.due("the second row is done", y.tries(1), 2);
        c.due("the second row is done", y.state(1), 2);
        c.due("one clash", y.clash(1, 0), -1);
    }

    private static void onlyStatesCount(Checks c) {
        DoorActs x = Acts.withItem(1);
        x.item(0, 1);
        x.item(0, 1);
        x.consent(1, 0, 2);
        x.consent(1, 1, 3);
        x.consent(1, 2, 0);
        x.cut(1, true);
        c.due("to a neighbour", Acts.hand(x, 1, 1, 2, Acts.proof(2, 0), 0), 3);
        c.due("left", Acts.leave(x, 1, 2, 0), 4);
        c.due("refused by order", Acts.refuse(x, 1, 3, 3, 0), 7);
        x.consent(1, 0, 2);
        x.consent(1, 1, 3);
        x.consent(1, 1, 2);
        x.consent(1, 2, 0);
        c.due("consents were there", x.join(1), 3);
        c.due("to a neighbour", x.state(1), 5);
        c.due("left", x.state(2), 6);
        c.due("refused", x.state(3), 7);
        DoorActs y = Acts.withItem(0);
        y.consent(1, 0, 2);
        y.cut(1, true);
        c.due("to a neighbour, without a proof", Acts.hand(y, 1, 1, 2, -1, 0), 3);
        Acts.card(y, 0, 1, 0);
        Acts.card(y, 0, 1, 1440);
        c.due("state 2 is one in which it can be handed over", y.join(1), 1);
        c.due("to a neighbour", y.state(1), 5);
        DoorActs z = Acts.withItem(0);
        z.consent(1, 2, 0);
        z.cut(1, true);
        c.due("left", Acts.leave(z, 1, 1, 0), 4);
        Acts.card(z, 0, 1, 0);
        Acts.card(z, 0, 1, 1440);
        c.due("state 2 is none in which it can be left", z.join(1), -1);
        c.due("kept", z.state(1), 2);
    }

    private static void wrongHouseRows(Checks c) {
        DoorActs x = Acts.withItem(0);
        x.cut(1, true);
        Acts.hand(x, 1, 1, 1, -1, 0);
        Acts.wrong(x, 1, 1, 5);
        Acts.hand(x, 0, 1, 1, -1, 0);
        c.due("both rows clash", x.join(1), -1);
        c.due("both rows clash", x.clash(1, 0), 1);
        c.due("handed over by device 0", x.state(1), 3);
        DoorActs y = Acts.withItem(4);
        y.cut(1, true);
        Acts.hand(y, 1, 1, 1, 4, 0);
        c.due("not handed over yet", y.slip(1, 1), DoorActs.STATE);
        y.join(1);
        c.due("slip", y.slip(1, 1), 1);
        y.cut(1, true);
        Acts.wrong(y, 1, 1, 5);
        Acts.hand(y, 1, 1, 1, 4, 5);
        c.due("join", y.join(1), 2);
        c.due("nobody signed it", y.slip(1, -1), DoorActs.STATE);
        c.due("slip", y.slip(1, 1), 1);
    }

    private static void stateBeforeIsThatForAll(Checks c) {
        DoorActs x = Acts.withItem(0);
        x.cut(1, true);
        Acts.hand(x, 1, 1, 1, -1, 10);
        Acts.card(x, 0, 1, 0);
        c.due("join", x.join(1), 1);
        c.due("wrong", Acts.wrong(x, 1, 1, 20), 9);
        c.due("a card was left before", x.state(1), 1);
    }
}
