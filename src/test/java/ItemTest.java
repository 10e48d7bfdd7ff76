/** Promise 2. */
public final class ItemTest {
    public static void main(String[] args) {
        Checks c = new Checks("ItemTest");
        DoorActs x = new DoorActs();
        c.due("item(-1, 0)", x.item(-1, 0), DoorActs.OUTSIDE);
        c.due("item(6, 0)", x.item(6, 0), DoorActs.OUTSIDE);
        c.due("item(0, -1)", x.item(0, -1), DoorActs.OUTSIDE);
        c.due("item(0, 100)", x.item(0, 100), DoorActs.OUTSIDE);
        c.due("item(MIN, MAX)", x.item(Integer.MIN_VALUE, Integer.MAX_VALUE), DoorActs.OUTSIDE);
        for (int number = 1; number <= 60; number++) {
            c.due("item " + number, x.item(number % 6, number == 60 ? 99 : number % 2), number);
            c.due("it is out", x.state(number), 0);
            c.due("without cards", x.tries(number), 0);
            c.due("the next one is unknown", x.state(number + 1), DoorActs.UNKNOWN);
        }
        c.due("item 61", x.item(0, 0), DoorActs.ROOM);
        c.due("OUTSIDE before ROOM", x.item(6, 0), DoorActs.OUTSIDE);
        c.due("OUTSIDE before ROOM", x.item(0, 100), DoorActs.OUTSIDE);
        c.due("no item 61", x.state(61), DoorActs.UNKNOWN);
        c.due("the receiver of item 60", Acts.hand(x, 0, 60, 99, -1, 0), 1);
        c.due("no item goes away", x.item(0, 0), DoorActs.ROOM);
        c.end();
    }
}
