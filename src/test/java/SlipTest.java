/** Promise 10. */
public final class SlipTest {
    public static void main(String[] args) {
        Checks c = new Checks("SlipTest");
        signedAndSent(c);
        inputs(c);
        services(c);
        wrongHouse(c);
        c.end();
    }

    private static void signedAndSent(Checks c) {
        DoorActs x = Acts.withItem(4);
        x.consent(1, 1, 2);
        c.due("out", x.slip(1, 1), DoorActs.STATE);
        Acts.card(x, 0, 1, 0);
        c.due("carded", x.slip(1, 1), DoorActs.STATE);
        Acts.hand(x, 0, 1, 2, Acts.proof(2, 3), 0);
        c.due("not signed", x.slip(1, -1), DoorActs.STATE);
        c.due("another one took it", x.slip(1, 1), DoorActs.WHO);
        c.due("signed", x.slip(1, 2), 1);
        c.due("signed already", x.slip(1, 2), DoorActs.STATE);
        c.due("STATE before WHO", x.slip(1, 1), DoorActs.STATE);
        c.due("sent back", x.slip(1, -1), 2);
        c.due("sent back already", x.slip(1, -1), DoorActs.STATE);
        c.due("sent back already", x.slip(1, 2), DoorActs.STATE);
        c.due("the state stays", x.state(1), 4);
    }

    private static void inputs(Checks c) {
        DoorActs x = Acts.withItem(4);
        Acts.hand(x, 0, 1, 1, Acts.proof(1, 0), 0);
        int[] noItems = {0, -1, 2, Integer.MIN_VALUE, Integer.MAX_VALUE};
        for (int item : noItems) {
            c.due("slip(" + item + ", 100)", x.slip(item, 100), DoorActs.UNKNOWN);
        }
        int[] noPersons = {-2, 100, Integer.MIN_VALUE, Integer.MAX_VALUE};
        for (int who : noPersons) {
            c.due("slip(1, " + who + ")", x.slip(1, who), DoorActs.OUTSIDE);
        }
        c.due("signed", x.slip(1, 1), 1);
        c.due("OUTSIDE before STATE", x.slip(1, 100), DoorActs.OUTSIDE);
        DoorActs ends = new DoorActs();
        ends.item(4, 99);
        ends.item(4, 0);
        Acts.hand(ends, 0, 1, 99, Acts.proof(99, 0), 0);
        Acts.hand(ends, 0, 2, 0, Acts.proof(0, 0), 0);
        c.due("person 99", ends.slip(1, 99), 1);
        c.due("person 0", ends.slip(2, 0), 1);
    }

    private static void services(Checks c) {
        for (int service = 0; service <= 5; service++) {
            DoorActs x = Acts.withItem(service);
            if (service == 5) {
                x.cash(1, 500);
            }
            c.due("handed over", Acts.hand(x, 0, 1, 1, Acts.proof(1, 2), 0), 1);
            c.due("slip of service " + service, x.slip(1, 1), service == 4 ? 1 : DoorActs.STATE);
        }
        DoorActs refused = Acts.withItem(4);
        Acts.refuse(refused, 0, 1, 1, 0);
        c.due("refused", refused.slip(1, 1), DoorActs.STATE);
        DoorActs late = Acts.withKeptItem(4);
        c.due("kept", late.slip(1, 1), DoorActs.STATE);
        late.tick(9);
        c.due("gone back", late.slip(1, 1), DoorActs.STATE);
    }

    private static void wrongHouse(Checks c) {
        DoorActs x = Acts.withItem(4);
        x.consent(1, 1, 2);
        Acts.hand(x, 0, 1, 1, Acts.proof(1, 0), 0);
        x.slip(1, 1);
        Acts.wrong(x, 0, 1, 0);
        c.due("not handed over", x.slip(1, -1), DoorActs.STATE);
        c.due("not handed over", x.slip(1, 1), DoorActs.STATE);
        Acts.hand(x, 1, 1, 2, Acts.proof(2, 0), 0);
        c.due("nobody signed it", x.slip(1, -1), DoorActs.STATE);
        c.due("another one took it now", x.slip(1, 1), DoorActs.WHO);
        c.due("signed", x.slip(1, 2), 1);
        c.due("sent back", x.slip(1, -1), 2);
        Acts.wrong(x, 1, 1, 0);
        Acts.hand(x, 1, 1, 1, Acts.proof(1, 0), 0);
        c.due("nobody signed it, so it was not sent back", x.slip(1, 1), 1);
    }
}
