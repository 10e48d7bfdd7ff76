/** The edges of days: where one ends and the next begins, the first and the last that there is, the seventh behind one. */
public final class DaysTest {
    private static final int STATE = DoorActs.STATE, OUTSIDE = DoorActs.OUTSIDE;
    private static final long LAST_TIME = 1000000000L, LAST_DAY_OF_TIMES = LAST_TIME / 1440;
    private static final Checks c = new Checks("DaysTest");

    public static void main(String[] args) {
        for (long day : new long[] {0, 1, 2, 6, 7, 365, LAST_DAY_OF_TIMES - 1}) {
            cardDays(day, false);
            cardDays(day, true);
            keptDays(day, false);
            keptDays(day, true);
            wrongHouseDays(day, false);
            wrongHouseDays(day, true);
            wrongHouseAcrossACut(day);
        }
        lastTime();
        cardsOfOtherDevices();
        cardRowsByTheStatesThen();
        goingBackOneByOne();
        theDayIsNotTheTime();
        c.end();
    }

    private static void cardDays(long day, boolean off) {
        String what = "card on day " + day + (off ? ", off line: " : ": ");
        DoorActs x = Acts.withItem(0);
        x.cut(2, off);
        c.due(what + "first minute", Acts.card(x, 2, 1, Acts.at(day, 0)), 5);
        c.due(what + "same minute", Acts.card(x, 2, 1, Acts.at(day, 0)), STATE);
        c.due(what + "last minute", Acts.card(x, 2, 1, Acts.at(day, 1439)), STATE);
        c.due(what + "next day's first minute", Acts.card(x, 2, 1, Acts.at(day + 1, 0)), 6);
        DoorActs y = Acts.withItem(0);
        y.cut(2, off);
        c.due(what + "last minute", Acts.card(y, 2, 1, Acts.at(day, 1439)), 5);
        c.due(what + "same minute", Acts.card(y, 2, 1, Acts.at(day, 1439)), STATE);
        c.due(what + "a minute later", Acts.card(y, 2, 1, Acts.at(day, 1440)), 6);
        if (off) {
            c.due(what + "join", y.join(2), 2);
        }
        c.due(what + "kept", y.state(1), 2);
    }

    private static void keptDays(long day, boolean off) {
        for (long minute : new long[] {0, 600}) {
            String what = "kept from day " + (day + 1) + (off ? ", off line: " : ": ");
            DoorActs x = Acts.withItem(0);
            x.cut(2, off);
            Acts.card(x, 2, 1, Acts.at(day, 0));
            Acts.card(x, 2, 1, Acts.at(day + 1, minute));
            if (off) {
                c.due(what + "join", x.join(2), 2);
            }
            c.due(what + "that day", x.tick(day + 1), 0);
            c.due(what + "the sixth day behind it", x.tick(day + 7), 0);
            c.due(what + "the seventh day behind it", x.tick(day + 8), 0);
            c.due(what + "kept", x.state(1), 2);
            c.due(what + "the seventh day told twice", x.tick(day + 8), 0);
            c.due(what + "the eighth", x.tick(day + 9), 1);
            c.due(what + "gone back", x.state(1), 8);
        }
    }

    private static void wrongHouseDays(long day, boolean off) {
        String what = "wrong house on day " + day + (off ? ", off line: " : ": ");
        DoorActs x = Acts.withItem(0);
        x.cut(2, off);
        Acts.hand(x, 2, 1, 1, -1, Acts.at(day, 0));
        c.due(what + "the next day", Acts.wrong(x, 2, 1, Acts.at(day + 1, 0)), STATE);
        c.due(what + "the day's last minute", Acts.wrong(x, 2, 1, Acts.at(day, 1439)), 9);
        Acts.hand(x, 2, 1, 1, -1, Acts.at(day, 1439));
        c.due(what + "a minute later is another day", Acts.wrong(x, 2, 1, Acts.at(day, 1440)), STATE);
        c.due(what + "the same minute", Acts.wrong(x, 2, 1, Acts.at(day, 1439)), 9);
        if (off) {
            c.due(what + "join", x.join(2), 4);
        }
        c.due(what + "out", x.state(1), 0);
    }

    private static void wrongHouseAcrossACut(long day) {
        String what = "across a cut on day " + day + ": ";
        DoorActs x = Acts.withItem(0);
        Acts.hand(x, 2, 1, 1, -1, Acts.at(day, 5));
        x.cut(2, true);
        c.due(what + "another day", Acts.wrong(x, 2, 1, Acts.at(day + 1, 0)), STATE);
        c.due(what + "that day", Acts.wrong(x, 2, 1, Acts.at(day, 6)), 9);
        c.due(what + "handed over again", Acts.hand(x, 2, 1, 1, -1, Acts.at(day, 7)), 1);
        c.due(what + "join", x.join(2), 2);
        c.due(what + "another day", Acts.wrong(x, 2, 1, Acts.at(day + 1, 0)), STATE);
        c.due(what + "another device", Acts.wrong(x, 3, 1, Acts.at(day, 8)), STATE);
        c.due(what + "that day", Acts.wrong(x, 2, 1, Acts.at(day, 8)), 9);
    }

    private static void lastTime() {
        DoorActs x = Acts.withItem(0);
        c.due("a minute before the last day", Acts.card(x, 0, 1, LAST_DAY_OF_TIMES * 1440 - 1), 5);
        c.due("a minute beyond", Acts.card(x, 1, 1, LAST_TIME + 1), OUTSIDE);
        c.due("the last minute", Acts.card(x, 1, 1, LAST_TIME), 6);
        c.due("the seventh day behind it", x.tick(LAST_DAY_OF_TIMES + 7), 0);
        c.due("the eighth", x.tick(LAST_DAY_OF_TIMES + 8), 1);
        DoorActs y = Acts.withItem(0);
        c.due("the last day", Acts.card(y, 0, 1, LAST_DAY_OF_TIMES * 1440), 5);
        c.due("no later one is left", Acts.card(y, 1, 1, LAST_TIME), STATE);
        c.due("handed over", Acts.hand(y, 1, 1, 1, -1, LAST_TIME), 1);
        c.due("wrong house", Acts.wrong(y, 1, 1, LAST_TIME), 9);
    }

    /** Each device has its own times, so a card may come from one that is behind. */
    private static void cardsOfOtherDevices() {
        DoorActs x = Acts.withItem(0);
        c.due("first card", Acts.card(x, 0, 1, Acts.at(5, 0)), 5);
        c.due("an earlier day", Acts.card(x, 1, 1, Acts.at(4, 1439)), STATE);
        c.due("day 0", Acts.card(x, 1, 1, 0), STATE);
        c.due("that day", Acts.card(x, 1, 1, Acts.at(5, 1439)), STATE);
        c.due("a later day", Acts.card(x, 1, 1, Acts.at(6, 0)), 6);
    }

    /** A first card for all on a day; then a device is joined that left two, on the days 4 and 5. */
    private static void cardRowsByTheStatesThen() {
        joinTwoCards(3, -1, 2, 11);
        joinTwoCards(4, -1, 2, 12);
        joinTwoCards(5, -1, 1, 0);
        joinTwoCards(6, -1, 1, 0);
        joinTwoCards(-1, 2, 2, 12);
    }

    private static void joinTwoCards(long dayForAll, int join, int tries, long keptTo) {
        String what = "two cards joined, for all on day " + dayForAll + ": ";
        DoorActs x = Acts.withItem(0);
        x.cut(2, true);
        c.due(what + "first", Acts.card(x, 2, 1, Acts.at(4, 0)), 5);
        c.due(what + "second", Acts.card(x, 2, 1, Acts.at(5, 0)), 6);
        if (dayForAll >= 0) {
            c.due(what + "first for all", Acts.card(x, 0, 1, Acts.at(dayForAll, 0)), 5);
        }
        c.due(what + "join", x.join(2), join);
        c.due(what + "tries", x.tries(1), tries);
        c.due(what + "state", x.state(1), tries);
        c.due(what + "clashes", x.clash(1, 0), tries == 1 ? 1 : -1);
        if (tries == 2) {
            c.due(what + "kept up to", x.tick(keptTo), 0);
            c.due(what + "and no longer", x.tick(keptTo + 1), 1);
        } else {
            c.due(what + "not kept", x.tick(1000000), 0);
        }
    }

    private static void goingBackOneByOne() {
        DoorActs x = new DoorActs();
        for (int item = 1; item <= 10; item++) {
            x.item(0, 1);
            Acts.card(x, 0, item, 0);
        }
        for (int item = 1; item <= 10; item++) {
            Acts.card(x, 0, item, Acts.at(item, 1439));
        }
        for (int day = 1; day <= 18; day++) {
            c.due("day " + day, x.tick(day), day <= 8 ? 0 : 1);
        }
        c.due("none is left", x.tick(1000000), 0);
    }

    private static void theDayIsNotTheTime() {
        DoorActs x = Acts.withItem(0);
        c.due("the last day there is", x.tick(1000000), 0);
        c.due("a card long before", Acts.card(x, 0, 1, 0), 5);
        c.due("the second one", Acts.card(x, 0, 1, 1440), 6);
        c.due("kept until a day is told", x.state(1), 2);
        c.due("no such day", x.tick(1000001), OUTSIDE);
        c.due("still kept", x.state(1), 2);
        c.due("the same day is told", x.tick(1000000), 1);
    }
}
