/** Short forms of the six acts, with the arguments that an act does not look at left at -1. */
final class Acts {
    static final int HAND = 0, CARD = 1, REFUSE = 2, DAMAGE = 3, WRONG = 4, LEAVE = 5;

    private Acts() {
    }

    static int hand(DoorActs x, int device, int item, int who, int proof, long t) {
        return x.act(device, item, HAND, who, proof, t);
    }

    static int card(DoorActs x, int device, int item, long t) {
        return x.act(device, item, CARD, -1, -1, t);
    }

    static int refuse(DoorActs x, int device, int item, int who, long t) {
        return x.act(device, item, REFUSE, who, -1, t);
    }

    static int damage(DoorActs x, int device, int item, long t) {
        return x.act(device, item, DAMAGE, -1, -1, t);
    }

    static int wrong(DoorActs x, int device, int item, long t) {
        return x.act(device, item, WRONG, -1, -1, t);
    }

    static int leave(DoorActs x, int device, int item, long t) {
        return x.act(device, item, LEAVE, -1, -1, t);
    }

    /** A proof of a person's, of a sort 0 .. 3. */
    static int proof(int person, int sort) {
        return 4 * person + sort;
    }

    /** The time of a minute of a day. */
    static long at(long day, long minute) {
        return day * 1440 + minute;
    }

    /** A new object with one item of a service, whose receiver is person 1. */
    static DoorActs withItem(int service) {
        DoorActs x = new DoorActs();
        x.item(service, 1);
        return x;
    }

    /** The same, after two cards by device 0 on the days 0 and 1: it is kept up to day 8. */
    static DoorActs withKeptItem(int service) {
        DoorActs x = withItem(service);
        card(x, 0, 1, at(0, 0));
        card(x, 0, 1, at(1, 0));
        return x;
    }
}
