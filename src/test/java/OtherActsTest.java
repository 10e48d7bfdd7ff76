/** Promise 4, acts 1 to 5. */
public final class OtherActsTest {
    public static void main(String[] args) {
        Checks c = new Checks("OtherActsTest");
        cards(c);
        for (int service = 0; service <= 5; service++) {
            refusing(c, service);
            leaving(c, service);
        }
        damage(c);
        wrongHouse(c);
        wrongHouseRestores(c);
        c.end();
    }

    private static void cards(Checks c) {
        DoorActs x = Acts.withItem(3);
        c.due("first card", Acts.card(x, 0, 1, Acts.at(2, 1439)), 5);
        c.due("state", x.state(1), 1);
        c.due("earlier day, another device", Acts.card(x, 1, 1, Acts.at(1, 0)), DoorActs.STATE);
        c.due("same day, another device", Acts.card(x, 1, 1, Acts.at(2, 0)), DoorActs.STATE);
        c.due("same minute", Acts.card(x, 0, 1, Acts.at(2, 1439)), DoorActs.STATE);
        c.due("the next minute is a later day", Acts.card(x, 1, 1, Acts.at(3, 0)), 6);
        c.due("state", x.state(1), 2);
        c.due("no third one", Acts.card(x, 1, 1, Acts.at(9, 0)), DoorActs.STATE);
        DoorActs y = Acts.withItem(0);
        Acts.hand(y, 0, 1, 1, -1, 0);
        c.due("not when handed over", Acts.card(y, 0, 1, 0), DoorActs.STATE);
        DoorActs z = Acts.withItem(0);
        c.due("who and proof are not looked at", z.act(0, 1, Acts.CARD, 99, 399, 0), 5);
    }

    private static void refusing(Checks c, int service) {
        int byOrder = service == 2 ? DoorActs.WHO : 7;
        DoorActs x = Acts.withItem(service);
        x.consent(1, 0, 3);
        c.due("a stranger", Acts.refuse(x, 0, 1, 2, 0), DoorActs.WHO);
        c.due("a neighbour", Acts.refuse(x, 0, 1, 3, 0), DoorActs.WHO);
        x.consent(1, 1, 2);
        c.due("by order, service " + service, Acts.refuse(x, 0, 1, 2, 0), byOrder);
        c.due("state", x.state(1), service == 2 ? 0 : 7);
        DoorActs carded = Acts.withItem(service);
        Acts.card(carded, 0, 1, 0);
        c.due("state 1", Acts.refuse(carded, 0, 1, 1, 0), 7);
        c.due("only once", Acts.refuse(carded, 0, 1, 1, 0), DoorActs.STATE);
        DoorActs kept = Acts.withKeptItem(service);
        c.due("state 2, with another one's proof", kept.act(0, 1, Acts.REFUSE, 1, 399, 2000), 7);
        c.due("state", kept.state(1), 7);
        DoorActs left = Acts.withItem(0);
        left.consent(1, 2, 0);
        Acts.leave(left, 0, 1, 0);
        c.due("state 6", Acts.refuse(left, 0, 1, 1, 0), DoorActs.STATE);
    }

    private static void leaving(Checks c, int service) {
        DoorActs x = Acts.withItem(service);
        c.due("without consent", Acts.leave(x, 0, 1, 0), DoorActs.WHO);
        x.consent(2, 2, 1);
        x.consent(1, 0, 2);
        x.consent(1, 1, 2);
        c.due("with other consents", Acts.leave(x, 0, 1, 0), DoorActs.WHO);
        x.consent(1, 2, 55);
        c.due("with consent, service " + service, Acts.leave(x, 0, 1, 0), service == 0 ? 4 : DoorActs.WHO);
        c.due("state", x.state(1), service == 0 ? 6 : 0);
        if (service == 0) {
            c.due("only once", Acts.leave(x, 0, 1, 0), DoorActs.STATE);
        }
        DoorActs carded = Acts.withItem(service);
        carded.consent(1, 2, 0);
        Acts.card(carded, 0, 1, 0);
        c.due("state 1", carded.act(0, 1, Acts.LEAVE, 50, 0, 0), service == 0 ? 4 : DoorActs.WHO);
        DoorActs kept = Acts.withKeptItem(service);
        kept.consent(1, 2, 0);
        c.due("state 2", Acts.leave(kept, 0, 1, 2000), DoorActs.STATE);
    }

    private static void damage(Checks c) {
        DoorActs x = Acts.withKeptItem(0);
        c.due("kept", Acts.damage(x, 1, 1, 0), 8);
        c.due("state", x.state(1), 12);
        c.due("only once", Acts.damage(x, 2, 1, 0), DoorActs.STATE);
        c.due("it may be handed over", Acts.hand(x, 0, 1, 1, 4, 2000), 1);
        c.due("state", x.state(1), 13);
        c.due("only once, also then", Acts.damage(x, 2, 1, 0), DoorActs.STATE);
        DoorActs left = Acts.withItem(0);
        left.consent(1, 2, 0);
        Acts.leave(left, 0, 1, 0);
        c.due("left", Acts.damage(left, 3, 1, 0), 8);
        DoorActs refused = Acts.withItem(0);
        Acts.refuse(refused, 0, 1, 1, 0);
        c.due("gone back as refused", Acts.damage(refused, 0, 1, 0), DoorActs.STATE);
        DoorActs late = Acts.withKeptItem(0);
        late.tick(9);
        c.due("gone back as kept for too long", Acts.damage(late, 0, 1, 9000), DoorActs.STATE);
    }

    private static void wrongHouse(Checks c) {
        DoorActs x = Acts.withItem(0);
        c.due("out", Acts.wrong(x, 0, 1, 0), DoorActs.STATE);
        Acts.hand(x, 0, 1, 1, -1, Acts.at(4, 0));
        c.due("another device", Acts.wrong(x, 1, 1, Acts.at(4, 0)), DoorActs.STATE);
        c.due("the next day", Acts.wrong(x, 0, 1, Acts.at(5, 0)), DoorActs.STATE);
        c.due("the day's last minute", Acts.wrong(x, 0, 1, Acts.at(4, 1439)), 9);
        c.due("state", x.state(1), 0);
        c.due("only once", Acts.wrong(x, 0, 1, Acts.at(4, 1439)), DoorActs.STATE);
        c.due("it may be handed over", Acts.hand(x, 1, 1, 1, -1, Acts.at(4, 7)), 1);
        c.due("now that device's", Acts.wrong(x, 0, 1, Acts.at(4, 1439)), DoorActs.STATE);
        c.due("now that device's", Acts.wrong(x, 1, 1, Acts.at(4, 8)), 9);
        DoorActs refused = Acts.withItem(0);
        Acts.refuse(refused, 0, 1, 1, 0);
        c.due("refused", Acts.wrong(refused, 0, 1, 0), DoorActs.STATE);
        DoorActs kept = Acts.withKeptItem(0);
        c.due("kept", Acts.wrong(kept, 0, 1, Acts.at(1, 0)), DoorActs.STATE);
    }

    private static void wrongHouseRestores(Checks c) {
        DoorActs x = Acts.withItem(0);
        x.consent(1, 2, 0);
        Acts.card(x, 0, 1, Acts.at(3, 0));
        c.due("left", Acts.leave(x, 0, 1, Acts.at(3, 1)), 4);
        c.due("damaged by another device meanwhile", Acts.damage(x, 1, 1, 0), 8);
        c.due("wrong", Acts.wrong(x, 0, 1, Acts.at(3, 2)), 9);
        c.due("the damage stays", x.state(1), 11);
        c.due("the card's day stays", Acts.card(x, 0, 1, Acts.at(3, 3)), DoorActs.STATE);
        c.due("the second card", Acts.card(x, 0, 1, Acts.at(4, 0)), 6);
        c.due("cards", x.tries(1), 2);
        c.due("by a neighbour, wrong", x.consent(1, 1, 2), 1);
        c.due("by order", Acts.hand(x, 0, 1, 2, Acts.proof(2, 0), Acts.at(4, 1)), 2);
        c.due("wrong", Acts.wrong(x, 0, 1, Acts.at(4, 2)), 9);
        c.due("kept again", x.state(1), 12);
        c.due("kept to the same day", x.tick(11), 0);
        c.due("kept to the same day", x.tick(12), 1);
    }
}
