import java.util.ArrayList;
import java.util.List;
import java.util.Set;
import java.util.TreeSet;

/**
 * "A call that is refused changes nothing": at every place of a run of calls all calls that are refused there are
 * thrown in, by hundreds, and behind them the rest of the run answers as it does without them.
 */
public final class RefusedTest {
    private static final int MOST_CALLS = 512;
    private static final Checks c = new Checks("RefusedTest");
    private static final Set<Integer> seen = new TreeSet<>();

    public static void main(String[] args) {
        List<Call> day = aDay();
        nothingIsRefused(day);
        for (int place = 0; place <= day.size(); place++) {
            throwIn(day, place);
        }
        List<Call> full = allFull();
        nothingIsRefused(full);
        for (int place : new int[] {60, 160, 161, 190, 191, full.size()}) {
            throwIn(full, place);
        }
        for (int refusal : new int[] {-11, -12, -13, -14, -21, -22, -23}) {
            c.due("thrown in: a call that is refused by " + refusal, seen.contains(refusal), true);
        }
        c.end();
    }

    /** A run whose own calls were refused would not show what the others change. */
    private static void nothingIsRefused(List<Call> run) {
        Model model = new Model();
        for (Call call : run) {
            c.due(call + " is refused", call.isRefusedBy(model), false);
        }
    }

    private static void card(List<Call> calls, int device, int item, long t) {
        calls.add(Call.act(device, item, Acts.CARD, -1, -1, t));
    }

    /** One of everything: all services, consents, acts, two devices off line, clashes, cash and slips. */
    private static List<Call> aDay() {
        List<Call> calls = new ArrayList<>();
        for (int service = 0; service <= 5; service++) {
            calls.add(Call.item(service, 1));
        }
        calls.add(Call.consent(1, 0, 2));
        calls.add(Call.consent(1, 1, 3));
        calls.add(Call.consent(1, 2, 1));
        card(calls, 0, 1, 10);
        card(calls, 0, 2, 10);
        calls.add(Call.cut(1, true));
        calls.add(Call.item(0, 1));
        calls.add(Call.act(1, 1, Acts.HAND, 2, -1, 20));
        calls.add(Call.act(1, 3, Acts.HAND, 1, Acts.proof(1, 1), 21));
        card(calls, 1, 4, 22);
        calls.add(Call.act(0, 1, Acts.LEAVE, -1, -1, 30));
        calls.add(Call.act(0, 4, Acts.DAMAGE, -1, -1, 31));
        calls.add(Call.cut(2, true));
        calls.add(Call.act(2, 5, Acts.HAND, 3, Acts.proof(3, 0), 40));
        calls.add(Call.act(2, 5, Acts.WRONG, -1, -1, 41));
        calls.add(Call.act(2, 5, Acts.HAND, 1, Acts.proof(1, 0), 42));
        calls.add(Call.join(1));
        calls.add(Call.act(0, 1, Acts.WRONG, -1, -1, 44));
        calls.add(Call.cash(6, 1000));
        card(calls, 0, 2, 1450);
        calls.add(Call.tick(1));
        calls.add(Call.join(2));
        calls.add(Call.slip(5, 1));
        calls.add(Call.cash(6, 750));
        calls.add(Call.act(3, 6, Acts.HAND, 3, -1, 5));
        calls.add(Call.cut(4, true));
        calls.add(Call.act(4, 2, Acts.HAND, 1, Acts.proof(1, 3), 1500));
        calls.add(Call.act(4, 4, Acts.REFUSE, 3, -1, 1501));
        calls.add(Call.tick(9));
        calls.add(Call.join(4));
        calls.add(Call.slip(5, -1));
        calls.add(Call.cut(5, true));
        calls.add(Call.act(5, 7, Acts.DAMAGE, -1, -1, 3));
        calls.add(Call.cut(5, false));
        calls.add(Call.act(5, 7, Acts.DAMAGE, -1, -1, 3));
        calls.add(Call.consent(1, 1, 3));
        calls.add(Call.item(4, 3));
        return calls;
    }

    /** 60 items, 100 consents, a device with 30 rows; then each of these is used. */
    private static List<Call> allFull() {
        List<Call> calls = new ArrayList<>();
        for (int item = 1; item <= 60; item++) {
            calls.add(Call.item(item <= 40 ? 0 : item % 6, 1));
        }
        for (int i = 0; i < 100; i++) {
            calls.add(Call.consent(1 + i / 50, i / 50, 3 + i % 50));
        }
        calls.add(Call.cut(2, true));
        for (int item = 1; item <= 30; item++) {
            calls.add(Call.act(2, item, Acts.DAMAGE, -1, -1, item));
        }
        calls.add(Call.act(0, 30, Acts.DAMAGE, -1, -1, 7));
        calls.add(Call.join(2));
        calls.add(Call.consent(1, 0, 3));
        calls.add(Call.consent(1, 1, 3));
        calls.add(Call.act(2, 1, Acts.HAND, 3, -1, 30));
        calls.add(Call.cut(2, true));
        calls.add(Call.act(2, 2, Acts.HAND, 4, -1, 30));
        calls.add(Call.join(2));
        return calls;
    }

    /** Calls of all sorts; which of them are refused at a place, the model tells. */
    private static List<Call> pool() {
        List<Call> calls = new ArrayList<>();
        int[] persons = {-2, -1, 0, 1, 2, 3, 99, 100, Integer.MIN_VALUE, Integer.MAX_VALUE};
        int[] items = {0, 1, 2, 3, 4, 5, 6, 7, 8, 31, 60, 61};
        for (int person : persons) {
            calls.add(Call.item(person, 1));
            calls.add(Call.item(0, person));
            for (int kind = -1; kind <= 3; kind++) {
                calls.add(Call.consent(person, kind, 1));
                calls.add(Call.consent(1, kind, person));
                calls.add(Call.consent(person, kind, person));
            }
        }
        for (int device = -1; device <= 8; device++) {
            calls.add(Call.join(device));
            calls.add(Call.cut(device, true));
            calls.add(Call.cut(device, false));
            calls.add(Call.clash(device, 3));
            calls.add(Call.clash(device, 0));
            for (int item : items) {
                addActs(calls, device, item);
            }
        }
        for (int item : items) {
            for (int person : persons) {
                calls.add(Call.slip(item, person));
            }
            for (long cents : new long[] {Long.MIN_VALUE, -1, 0, 1, 751, 1751, 1000000, 1000001, Long.MAX_VALUE}) {
                calls.add(Call.cash(item, cents));
            }
            calls.add(Call.tries(item));
            calls.add(Call.state(item));
        }
        for (long day : new long[] {Long.MIN_VALUE, -1, 0, 1, 8, 1000001, Long.MAX_VALUE}) {
            calls.add(Call.tick(day));
        }
        return calls;
    }

    /** Those of the last time that there is would forbid the device every earlier one, if they counted. */
    private static void addActs(List<Call> calls, int device, int item) {
        for (int kind = -1; kind <= 6; kind++) {
            for (int who : new int[] {-1, 1, 3, 50, 100}) {
                calls.add(Call.act(device, item, kind, who, -1, 1000000000L));
                calls.add(Call.act(device, item, kind, who, Acts.proof(50, 3), 1000000000L));
            }
            calls.add(Call.act(device, item, kind, 1, Acts.proof(1, 2), 1000000000L));
            calls.add(Call.act(device, item, kind, 1, 400, 1000000000L));
            calls.add(Call.act(device, item, kind, 1, -1, 1000000001L));
            calls.add(Call.act(device, item, kind, 1, -1, -1));
            calls.add(Call.act(device, item, kind, 1, -1, 0));
        }
    }

    private static Model modelAt(List<Call> run, int place) {
        Model model = new Model();
        for (Call call : run.subList(0, place)) {
            call.on(model);
        }
        return model;
    }

    private static List<Call> refusedAt(List<Call> run, int place) {
        List<Call> refused = new ArrayList<>();
        Model model = modelAt(run, place);
        for (Call call : pool()) {
            if (call.isRefusedBy(model)) {
                refused.add(call);
            } else {
                model = modelAt(run, place);
            }
        }
        return refused;
    }

    private static void throwIn(List<Call> run, int place) {
        List<Call> refused = refusedAt(run, place);
        int atOnce = MOST_CALLS - run.size() - probes().size();
        for (int from = 0; from < refused.size(); from += atOnce) {
            throwIn(run, place, refused.subList(from, Math.min(refused.size(), from + atOnce)));
        }
    }

    private static void throwIn(List<Call> run, int place, List<Call> refused) {
        DoorActs spared = new DoorActs();
        DoorActs tried = new DoorActs();
        Model model = modelAt(run, place);
        for (int i = 0; i <= run.size(); i++) {
            if (i == place) {
                for (Call call : refused) {
                    int got = call.on(tried);
                    c.due("at " + place + " " + call, got, call.on(model));
                    seen.add(got);
                }
            }
            if (i < run.size()) {
                Call call = run.get(i);
                c.due("behind those at " + place + ": call " + i + " " + call, call.on(tried), call.on(spared));
            }
        }
        for (Call call : probes()) {
            c.due("behind those at " + place + ": " + call, call.on(tried), call.on(spared));
        }
    }

    private static List<Call> probes() {
        List<Call> calls = new ArrayList<>();
        for (int item = 1; item <= 8; item++) {
            calls.add(Call.state(item));
            calls.add(Call.tries(item));
        }
        for (int i = 0; i < 4; i++) {
            for (int side = 0; side <= 2; side++) {
                calls.add(Call.clash(i, side));
            }
        }
        calls.add(Call.tick(10));
        calls.add(Call.item(0, 0));
        return calls;
    }
}
