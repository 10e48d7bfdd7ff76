/** Promise 4: the numbers of an act, the order of its refusals, and its room. */
public final class ActInputsTest {
    public static void main(String[] args) {
        Checks c = new Checks("ActInputsTest");
        numbers(c);
        persons(c);
        times(c);
        order(c);
        room(c);
        c.end();
    }

    private static void numbers(Checks c) {
        DoorActs x = Acts.withItem(0);
        int[] noItems = {0, -1, 2, 61, Integer.MIN_VALUE, Integer.MAX_VALUE};
        for (int item : noItems) {
            c.due("item " + item, Acts.damage(x, 0, item, 0), DoorActs.UNKNOWN);
        }
        int[] noDevices = {-1, 8, Integer.MIN_VALUE, Integer.MAX_VALUE};
        for (int device : noDevices) {
            c.due("device " + device, Acts.damage(x, device, 1, 0), DoorActs.OUTSIDE);
            c.due("UNKNOWN first", Acts.damage(x, device, 2, 0), DoorActs.UNKNOWN);
        }
        int[] noKinds = {-1, 6, Integer.MIN_VALUE, Integer.MAX_VALUE};
        for (int kind : noKinds) {
            c.due("kind " + kind, x.act(0, 1, kind, 1, -1, 0), DoorActs.OUTSIDE);
        }
        int[] noProofs = {-2, 400, Integer.MIN_VALUE, Integer.MAX_VALUE};
        for (int kind = 0; kind <= 5; kind++) {
            for (int proof : noProofs) {
                c.due("kind " + kind + ", proof " + proof, x.act(0, 1, kind, 1, proof, 0), DoorActs.OUTSIDE);
            }
        }
        c.due("nothing was changed", x.state(1), 0);
        c.due("proof 399, device 7", x.act(7, 1, Acts.DAMAGE, 99, 399, 0), 8);
    }

    private static void persons(Checks c) {
        for (int kind = 0; kind <= 5; kind++) {
            DoorActs x = Acts.withItem(0);
            c.due("kind " + kind + ", who -2", x.act(0, 1, kind, -2, -1, 0), DoorActs.OUTSIDE);
            c.due("kind " + kind + ", who 100", x.act(0, 1, kind, 100, -1, 0), DoorActs.OUTSIDE);
            boolean byPerson = kind == Acts.HAND || kind == Acts.REFUSE;
            int got = x.act(0, 1, kind, -1, -1, 0);
            c.due("kind " + kind + ", who -1", got == DoorActs.OUTSIDE, byPerson);
        }
    }

    private static void times(Checks c) {
        DoorActs x = Acts.withItem(0);
        x.item(0, 1);
        x.item(0, 1);
        c.due("t -1", Acts.damage(x, 0, 1, -1), DoorActs.OUTSIDE);
        c.due("t MIN", Acts.damage(x, 0, 1, Long.MIN_VALUE), DoorActs.OUTSIDE);
        c.due("t above 10^9", Acts.damage(x, 0, 1, 1000000001L), DoorActs.OUTSIDE);
        c.due("t MAX", Acts.damage(x, 0, 1, Long.MAX_VALUE), DoorActs.OUTSIDE);
        c.due("t 2^32", Acts.damage(x, 0, 1, 1L << 32), DoorActs.OUTSIDE);
        c.due("t 100", Acts.damage(x, 0, 1, 100), 8);
        c.due("a refused act's time does not count", Acts.damage(x, 0, 1, 500), DoorActs.STATE);
        c.due("t below that before", Acts.card(x, 0, 1, 99), DoorActs.OUTSIDE);
        c.due("with another item too", Acts.card(x, 0, 2, 99), DoorActs.OUTSIDE);
        c.due("t as before", Acts.card(x, 0, 1, 100), 5);
        c.due("another device's time is its own", Acts.card(x, 1, 2, 0), 5);
        c.due("t 10^9", Acts.damage(x, 0, 2, 1000000000L), 8);
        x.cut(1, true);
        c.due("off line: t 200", Acts.damage(x, 1, 3, 200), 8);
        c.due("off line: t below that before", Acts.card(x, 1, 3, 199), DoorActs.OUTSIDE);
        c.due("join", x.join(1), 1);
        c.due("joined: t below that before", Acts.card(x, 1, 3, 199), DoorActs.OUTSIDE);
        x.cut(1, true);
        c.due("off line: t 300", Acts.card(x, 1, 3, 300), 5);
        x.cut(1, false);
        c.due("its rows are gone, its act was before", Acts.card(x, 1, 3, 299), DoorActs.OUTSIDE);
        c.due("t as before", Acts.card(x, 1, 3, 300), 5);
    }

    private static void order(Checks c) {
        DoorActs x = Acts.withItem(0);
        x.cut(0, true);
        x.item(0, 1);
        c.due("UNKNOWN before OUTSIDE", x.act(0, 2, 9, -5, -5, -5), DoorActs.UNKNOWN);
        c.due("UNKNOWN before OUTSIDE", x.act(0, 3, 9, -5, -5, -5), DoorActs.UNKNOWN);
        Acts.hand(x, 1, 2, 1, -1, 0);
        c.due("OUTSIDE before STATE", Acts.hand(x, 1, 2, -1, -1, 0), DoorActs.OUTSIDE);
        c.due("STATE before WHO", Acts.refuse(x, 1, 2, 8, 0), DoorActs.STATE);
        c.due("STATE before PROOF", Acts.hand(x, 1, 2, 1, 0, 0), DoorActs.STATE);
    }

    private static void room(Checks c) {
        DoorActs x = new DoorActs();
        for (int i = 0; i < 32; i++) {
            x.item(0, 1);
        }
        x.cut(0, true);
        for (int item = 1; item <= 30; item++) {
            c.due("row " + item, Acts.damage(x, 0, item, item), 8);
        }
        x.item(0, 1);
        c.due("row 31", Acts.damage(x, 0, 31, 30), DoorActs.ROOM);
        c.due("ROOM before WHO", Acts.refuse(x, 0, 31, 2, 30), DoorActs.ROOM);
        c.due("ROOM before PROOF", Acts.hand(x, 0, 31, 1, 0, 30), DoorActs.ROOM);
        c.due("STATE before ROOM", Acts.damage(x, 0, 1, 30), DoorActs.STATE);
        c.due("OUTSIDE before ROOM", Acts.damage(x, 0, 31, 29), DoorActs.OUTSIDE);
        c.due("UNKNOWN before ROOM", Acts.damage(x, 0, 33, 30), DoorActs.UNKNOWN);
        c.due("another device has its own room", x.cut(1, true), true);
        c.due("another device has its own room", Acts.damage(x, 1, 31, 0), 8);
        c.due("join", x.join(0), 30);
        c.due("no rows are kept on line", Acts.damage(x, 0, 32, 30), 8);
        x.cut(0, true);
        c.due("room again", Acts.card(x, 0, 32, 30), 5);
        c.due("join", x.join(0), 1);
    }
}
