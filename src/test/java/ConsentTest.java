/** Promise 3. */
public final class ConsentTest {
    public static void main(String[] args) {
        Checks c = new Checks("ConsentTest");
        toldAndTakenBack(c);
        wrongInputs(c);
        room(c);
        c.end();
    }

    private static void toldAndTakenBack(Checks c) {
        DoorActs x = new DoorActs();
        for (int kind = 0; kind <= 1; kind++) {
            c.due("told", x.consent(1, kind, 2), 1);
            c.due("for another one", x.consent(1, kind, 3), 1);
            c.due("the other way round", x.consent(2, kind, 1), 1);
            c.due("taken back", x.consent(1, kind, 2), 0);
            c.due("told again", x.consent(1, kind, 2), 1);
            c.due("for another one, taken back", x.consent(1, kind, 3), 0);
            c.due("the other way round, taken back", x.consent(2, kind, 1), 0);
        }
        c.due("left, told", x.consent(1, 2, 1), 1);
        c.due("left, of another person", x.consent(2, 2, 1), 1);
        c.due("left, taken back whatever the other is", x.consent(1, 2, Integer.MAX_VALUE), 0);
        c.due("left, told whatever the other is", x.consent(1, 2, -7), 1);
        c.due("the ends", x.consent(0, 0, 99), 1);
        c.due("the ends", x.consent(99, 1, 0), 1);
        c.due("the ends", x.consent(99, 2, 0), 1);
        c.due("the ends, taken back", x.consent(0, 0, 99), 0);
        noneIsAnother(c);
    }

    /** Consents whose numbers are next to one another's, or the same in another order. */
    private static void noneIsAnother(Checks c) {
        int[][] all = {{1, 0, 98}, {1, 0, 99}, {2, 0, 0}, {2, 0, 1}, {99, 0, 98}, {0, 1, 99}, {0, 1, 1}, {1, 1, 0},
            {99, 1, 98}, {0, 2, 0}, {1, 2, 0}, {98, 2, 0}, {99, 2, 0}, {10, 0, 1}, {1, 0, 10}, {11, 0, 0}, {0, 0, 11}};
        DoorActs x = new DoorActs();
        for (int want = 1; want >= 0; want--) {
            for (int[] one : all) {
                c.due("each is its own", x.consent(one[0], one[1], one[2]), want);
            }
        }
    }

    private static void wrongInputs(Checks c) {
        DoorActs x = new DoorActs();
        c.due("person -1", x.consent(-1, 0, 1), DoorActs.OUTSIDE);
        c.due("person 100", x.consent(100, 2, 1), DoorActs.OUTSIDE);
        c.due("kind -1", x.consent(1, -1, 2), DoorActs.OUTSIDE);
        c.due("kind 3", x.consent(1, 3, 2), DoorActs.OUTSIDE);
        c.due("other -1", x.consent(1, 0, -1), DoorActs.OUTSIDE);
        c.due("other 100", x.consent(1, 1, 100), DoorActs.OUTSIDE);
        c.due("oneself as a neighbour", x.consent(1, 0, 1), DoorActs.STATE);
        c.due("oneself by order", x.consent(1, 1, 1), DoorActs.STATE);
        c.due("OUTSIDE before STATE", x.consent(100, 0, 100), DoorActs.OUTSIDE);
        c.due("OUTSIDE before STATE", x.consent(1, 3, 1), DoorActs.OUTSIDE);
    }

    private static void room(Checks c) {
        DoorActs x = new DoorActs();
        for (int person = 0; person < 50; person++) {
            c.due("told", x.consent(person, 0, 50 + person), 1);
            c.due("told", x.consent(person, 2, 0), 1);
        }
        c.due("the 101st of kind 0", x.consent(0, 0, 1), DoorActs.ROOM);
        c.due("the 101st of kind 1", x.consent(0, 1, 1), DoorActs.ROOM);
        c.due("the 101st of kind 2", x.consent(60, 2, 1), DoorActs.ROOM);
        c.due("STATE before ROOM", x.consent(60, 1, 60), DoorActs.STATE);
        c.due("OUTSIDE before ROOM", x.consent(60, 1, 100), DoorActs.OUTSIDE);
        c.due("one is taken back", x.consent(7, 0, 57), 0);
        c.due("so there is room", x.consent(60, 2, 1), 1);
        c.due("for one", x.consent(7, 0, 57), DoorActs.ROOM);
        for (int person = 0; person < 50; person++) {
            c.due("each stood", x.consent(person, 0, 50 + person), person == 7 ? 1 : 0);
            c.due("each stood", x.consent(person, 2, 0), 0);
        }
    }
}
