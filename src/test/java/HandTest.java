/** Promise 4, act 0: who may have an item, and by which proof. */
public final class HandTest {
    private static final int PLAIN = 0, SIGNED = 1, OWN_HAND = 2, OF_AGE = 3, WITH_SLIP = 4, FOR_CASH = 5;
    private static final int RECEIVER = 1, ORDERED = 2, NEXT_DOOR = 3, BOTH = 4, STRANGER = 5, OTHER_WAY = 6;
    private static final int GOOD_SORT = 2;

    public static void main(String[] args) {
        Checks c = new Checks("HandTest");
        for (int service = PLAIN; service <= FOR_CASH; service++) {
            persons(c, service, false);
            persons(c, service, true);
            proofs(c, service, false);
            proofs(c, service, true);
            states(c, service);
        }
        order(c);
        consentsAreSeenAsTheyAre(c);
        c.end();
    }

    private static DoorActs post(int service, boolean kept) {
        DoorActs x = kept ? Acts.withKeptItem(service) : Acts.withItem(service);
        x.consent(RECEIVER, 1, ORDERED);
        x.consent(RECEIVER, 0, NEXT_DOOR);
        x.consent(RECEIVER, 0, BOTH);
        x.consent(RECEIVER, 1, BOTH);
        x.consent(OTHER_WAY, 0, RECEIVER);
        x.consent(OTHER_WAY, 1, RECEIVER);
        if (service == FOR_CASH) {
            x.cash(1, 500);
        }
        return x;
    }

    private static void persons(Checks c, int service, boolean kept) {
        int byOrder = service == OWN_HAND ? DoorActs.WHO : 2;
        int toNeighbour = service <= SIGNED && !kept ? 3 : DoorActs.WHO;
        give(c, service, kept, RECEIVER, 1);
        give(c, service, kept, ORDERED, byOrder);
        give(c, service, kept, NEXT_DOOR, toNeighbour);
        give(c, service, kept, BOTH, byOrder);
        give(c, service, kept, STRANGER, DoorActs.WHO);
        give(c, service, kept, OTHER_WAY, DoorActs.WHO);
    }

    private static void give(Checks c, int service, boolean kept, int who, int want) {
        DoorActs x = post(service, kept);
        String what = "service " + service + (kept ? ", kept" : "") + ", to person " + who;
        c.due(what, Acts.hand(x, 0, 1, who, Acts.proof(who, GOOD_SORT), Acts.at(1, 5)), want);
        c.due(what + ": the state", x.state(1), want > 0 ? 2 + want : kept ? 2 : 0);
    }

    private static void proofs(Checks c, int service, boolean kept) {
        String what = "service " + service + (kept ? ", kept" : "") + ", proof ";
        boolean noneIsEnough = !kept && (service == PLAIN || service == FOR_CASH);
        for (int who = RECEIVER; who <= ORDERED; who++) {
            if (service == OWN_HAND && who == ORDERED) {
                continue;
            }
            long t = Acts.at(1, 5);
            c.due(what + "none", Acts.hand(post(service, kept), 0, 1, who, -1, t), noneIsEnough ? who : DoorActs.PROOF);
            for (int sort = 0; sort <= 3; sort++) {
                boolean enough = service == OWN_HAND ? sort == 1 || sort == 2 : service != OF_AGE || sort == 2;
                int want = enough ? who : DoorActs.PROOF;
                c.due(what + sort, Acts.hand(post(service, kept), 0, 1, who, Acts.proof(who, sort), t), want);
                c.due(what + sort + " of another one", Acts.hand(post(service, kept), 0, 1, who, Acts.proof(who + 1, sort), t), DoorActs.PROOF);
                c.due(what + sort + " of person 0", Acts.hand(post(service, kept), 0, 1, who, sort, t), DoorActs.PROOF);
            }
        }
    }

    private static void states(Checks c, int service) {
        DoorActs x = post(service, false);
        int proof = Acts.proof(RECEIVER, GOOD_SORT);
        Acts.card(x, 0, 1, 0);
        c.due("state 1", Acts.hand(x, 0, 1, RECEIVER, proof, 1), 1);
        c.due("state 3", Acts.hand(x, 0, 1, RECEIVER, proof, 1), DoorActs.STATE);
        c.due("state 3, another device", Acts.hand(x, 1, 1, RECEIVER, proof, 1), DoorActs.STATE);
        DoorActs back = post(service, false);
        Acts.refuse(back, 0, 1, RECEIVER, 0);
        c.due("state 7", Acts.hand(back, 0, 1, RECEIVER, proof, 1), DoorActs.STATE);
        DoorActs late = post(service, true);
        late.tick(9);
        c.due("state 8", Acts.hand(late, 0, 1, RECEIVER, proof, 5000), DoorActs.STATE);
    }

    private static void order(Checks c) {
        DoorActs x = Acts.withItem(FOR_CASH);
        c.due("WHO before PROOF and CASH", Acts.hand(x, 0, 1, 9, Acts.proof(8, 0), 0), DoorActs.WHO);
        c.due("PROOF before CASH", Acts.hand(x, 0, 1, RECEIVER, Acts.proof(8, 0), 0), DoorActs.PROOF);
        c.due("CASH", Acts.hand(x, 0, 1, RECEIVER, -1, 0), DoorActs.CASH);
        x.cash(1, 499);
        c.due("CASH for one cent", Acts.hand(x, 0, 1, RECEIVER, -1, 0), DoorActs.CASH);
        x.cash(1, 1);
        c.due("nothing is due", Acts.hand(x, 0, 1, RECEIVER, -1, 0), 1);
        c.due("STATE before WHO", Acts.hand(x, 0, 1, 9, -1, 0), DoorActs.STATE);
        DoorActs ends = new DoorActs();
        ends.item(OF_AGE, 99);
        ends.item(SIGNED, 0);
        c.due("person 99", Acts.hand(ends, 7, 1, 99, Acts.proof(99, 2), 1000000000L), 1);
        c.due("person 0", Acts.hand(ends, 6, 2, 0, 0, 0), 1);
    }

    private static void consentsAreSeenAsTheyAre(Checks c) {
        DoorActs x = post(PLAIN, false);
        x.cut(0, true);
        x.consent(RECEIVER, 1, ORDERED);
        x.consent(RECEIVER, 1, STRANGER);
        c.due("an order taken back", Acts.hand(x, 0, 1, ORDERED, -1, 0), DoorActs.WHO);
        c.due("an order told", Acts.hand(x, 0, 1, STRANGER, -1, 0), 2);
        DoorActs y = Acts.withItem(FOR_CASH);
        y.cut(0, true);
        c.due("cash not paid", Acts.hand(y, 0, 1, RECEIVER, -1, 0), DoorActs.CASH);
        y.cash(1, 500);
        c.due("cash paid", Acts.hand(y, 0, 1, RECEIVER, -1, 0), 1);
    }
}
