import java.util.Random;
import java.util.Set;
import java.util.TreeSet;

/**
 * Runs of 512 random calls from fixed seeds, each answered as the model answers it, and as an object answers it that
 * was spared the calls that are refused; and one run that is far longer.
 */
public final class ModelTest {
    private static final int RUNS = 3000, CALLS = 512, JOIN = 3;
    private static final int[] ODD = {-2, -1, 0, 1, 7, 8, 60, 61, 99, 100, 400, Integer.MIN_VALUE, Integer.MAX_VALUE};
    private static final String[] NAMES = {
        "item", "consent", "act", "join", "clash", "cut", "tries", "tick", "slip", "cash", "state"};

    public static void main(String[] args) {
        Checks c = new Checks("ModelTest");
        Set<String> seen = new TreeSet<>();
        for (int run = 0; run < RUNS; run++) {
            runAsModel(c, run, seen);
        }
        // A generator that never gets somewhere would prove nothing of it.
        String[] wanted = {"act 1", "act 2", "act 3", "act 4", "act 5", "act 6", "act 7", "act 8", "act 9", "act -11",
            "act -12", "act -13", "act -14", "act -21", "act -22", "act -23", "slip 1", "slip 2", "slip -13", "slip -21",
            "cash 0", "cash -13", "tick 1", "tick -12", "join 3", "join -1", "join -2", "clash -1", "item -14",
            "state 8", "state 18", "state 17", "state 16", "state 15", "state 14", "state 13", "tries 2"};
        for (String answer : wanted) {
            c.due("seen " + answer, seen.contains(answer), true);
        }
        behindTheLastCall(c);
        c.end();
    }

    private static void runAsModel(Checks c, int run, Set<String> seen) {
        Random random = new Random(run);
        DoorActs x = new DoorActs();
        DoorActs spared = new DoorActs();
        Model model = new Model();
        int itemsUsed = run % 5 == 0 ? 60 : 4;
        boolean crowded = run % 3 == 0;
        long now = 0;
        for (int i = 0; i < CALLS; i++) {
            now += random.nextInt(6) == 0 ? random.nextInt(2000) : random.nextInt(3);
            int[] n = i < itemsUsed / 2 ? new int[] {0, random.nextInt(6), random.nextInt(3)} : choose(random, itemsUsed, crowded);
            long t = chooseLong(random, n, now);
            Call call = call(n, t);
            int got = call.on(x);
            // Below zero a join may also tell of a clash.
            boolean refused = n[0] == JOIN ? !model.isOff(n[1]) : got < 0;
            int want = call.on(model);
            c.due("run " + run + ", call " + i + ", " + call, got, want);
            if (!refused) {
                c.due("run " + run + ", call " + i + ", " + call + ", without those refused", call.on(spared), want);
            }
            seen.add(NAMES[n[0]] + " " + got);
        }
    }

    private static int[] choose(Random random, int itemsUsed, boolean crowded) {
        int pick = random.nextInt(100);
        int call = pick < 8 ? 0 : pick < 14 ? 1 : pick < 70 ? 2 : pick < 74 ? (crowded && random.nextInt(20) != 0 ? 2 : 3) : pick < 79 ? 4 : pick < 83 ? 5
            : pick < 86 ? 6 : pick < 88 ? 7 : pick < 92 ? 8 : pick < 96 ? 9 : 10;
        int device = crowded ? random.nextInt(2) : random.nextInt(4);
        int item = 1 + random.nextInt(itemsUsed);
        int who = random.nextInt(3);
        int[] proofs = {-1, 4 * who, 4 * who + 1, 4 * who + 2, 4 * who + 2, random.nextInt(12)};
        int proof = proofs[random.nextInt(proofs.length)];
        int[] n = {call, device, item, random.nextInt(6), who, proof};
        if (call == 0) {
            n[1] = random.nextInt(6);
            n[2] = random.nextInt(3);
        } else if (call == 1) {
            n[1] = random.nextInt(3);
            n[2] = random.nextInt(3);
        } else if (call == 4) {
            n[1] = random.nextInt(12);
            n[2] = random.nextInt(3);
        } else if (call == 5) {
            n[2] = random.nextInt(crowded ? 30 : 2);
        } else if (call == 8 && random.nextInt(3) == 0) {
            n[4] = -1;
        }
        if (random.nextInt(25) == 0) {
            n[1 + random.nextInt(5)] = ODD[random.nextInt(ODD.length)];
        }
        return n;
    }

    /** The time of an act, the day of a tick or the cents of a cash, most often such as is not refused. */
    private static long chooseLong(Random random, int[] n, long now) {
        boolean odd = random.nextInt(12) == 0;
        if (n[0] == 7) {
            return now / 1440 + (odd ? -1 : random.nextInt(2));
        }
        if (n[0] == 9) {
            return odd ? 0 : 125 * random.nextInt(7) + random.nextInt(2);
        }
        return odd ? now - 1 : now;
    }

    private static Call call(int[] n, long t) {
        return switch (n[0]) {
            case 0 -> Call.item(n[1], n[2]);
            case 1 -> Call.consent(n[1], n[2], n[4]);
            case 2 -> Call.act(n[1], n[2], n[3], n[4], n[5], t);
            case JOIN -> Call.join(n[1]);
            case 4 -> Call.clash(n[1], n[2]);
            case 5 -> Call.cut(n[1], n[2] != 0);
            case 6 -> Call.tries(n[2]);
            case 7 -> Call.tick(t);
            case 8 -> Call.slip(n[2], n[4]);
            case 9 -> Call.cash(n[2], t);
            default -> Call.state(n[2]);
        };
    }

    /** What is answered there is free, but nothing may be thrown. */
    private static void behindTheLastCall(Checks c) {
        DoorActs x = Acts.withItem(0);
        Acts.hand(x, 0, 1, 1, -1, 0);
        Acts.wrong(x, 0, 1, 0);
        for (int i = 0; i < 2000; i++) {
            x.cut(1, true);
            Acts.hand(x, 0, 1, 1, -1, 0);
            Acts.hand(x, 1, 1, 1, -1, 0);
            x.join(1);
            Acts.wrong(x, 0, 1, 0);
        }
        c.due("the first clash is still there", x.clash(0, 2), 1);
    }
}
