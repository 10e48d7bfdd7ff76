/** Promise 8. */
public final class TriesTest {
    public static void main(String[] args) {
        Checks c = new Checks("TriesTest");
        DoorActs x = Acts.withItem(0);
        x.item(0, 1);
        int[] noItems = {0, -1, 3, Integer.MIN_VALUE, Integer.MAX_VALUE};
        for (int item : noItems) {
            c.due("tries(" + item + ")", x.tries(item), DoorActs.UNKNOWN);
        }
        c.due("none", x.tries(1), 0);
        Acts.card(x, 0, 1, 0);
        c.due("one", x.tries(1), 1);
        Acts.card(x, 0, 1, 5);
        c.due("a refused one is none", x.tries(1), 1);
        Acts.card(x, 0, 1, 1440);
        c.due("two", x.tries(1), 2);
        c.due("another item's are its own", x.tries(2), 0);
        Acts.hand(x, 0, 1, 1, 4, 1440);
        c.due("handed over", x.tries(1), 2);
        Acts.wrong(x, 0, 1, 1440);
        c.due("wrong house", x.tries(1), 2);
        x.tick(9);
        c.due("gone back", x.tries(1), 2);
        x.cut(1, true);
        Acts.card(x, 1, 2, 0);
        c.due("off line", x.tries(2), 0);
        x.cut(1, false);
        c.due("without its rows", x.tries(2), 0);
        c.end();
    }
}
