import java.util.Arrays;

/** A call of the face with its numbers, so that one list of calls can be made on several objects. */
final class Call {
    private final String name;
    private final long[] n;

    private Call(String name, long... numbers) {
        this.name = name;
        this.n = numbers;
    }

    /** A call by its name; true is 1 and false 0. */
    static Call named(String name, long... numbers) {
        return new Call(name, numbers);
    }

    static Call item(int service, int receiver) {
        return new Call("item", service, receiver);
    }

    static Call consent(int person, int kind, int other) {
        return new Call("consent", person, kind, other);
    }

    static Call act(int device, int item, int kind, int who, int proof, long t) {
        return new Call("act", device, item, kind, who, proof, t);
    }

    static Call join(int device) {
        return new Call("join", device);
    }

    static Call clash(int i, int side) {
        return new Call("clash", i, side);
    }

    static Call cut(int device, boolean on) {
        return new Call("cut", device, on ? 1 : 0);
    }

    static Call tries(int item) {
        return new Call("tries", item);
    }

    static Call tick(long day) {
        return new Call("tick", day);
    }

    static Call slip(int item, int who) {
        return new Call("slip", item, who);
    }

    static Call cash(int item, long cents) {
        return new Call("cash", item, cents);
    }

    static Call state(int item) {
        return new Call("state", item);
    }

    private int whole(int i) {
        return (int) n[i];
    }

    int on(DoorActs x) {
        return switch (name) {
            case "item" -> x.item(whole(0), whole(1));
            case "consent" -> x.consent(whole(0), whole(1), whole(2));
            case "act" -> x.act(whole(0), whole(1), whole(2), whole(3), whole(4), n[5]);
            case "join" -> x.join(whole(0));
            case "clash" -> x.clash(whole(0), whole(1));
            case "cut" -> x.cut(whole(0), n[1] == 1) ? 1 : 0;
            case "tries" -> x.tries(whole(0));
            case "tick" -> x.tick(n[0]);
            case "slip" -> x.slip(whole(0), whole(1));
            case "cash" -> x.cash(whole(0), n[1]);
            default -> x.state(whole(0));
        };
    }

    int on(Model x) {
        return switch (name) {
            case "item" -> x.item(whole(0), whole(1));
            case "consent" -> x.consent(whole(0), whole(1), whole(2));
            case "act" -> x.act(whole(0), whole(1), whole(2), whole(3), whole(4), n[5]);
            case "join" -> x.join(whole(0));
            case "clash" -> x.clash(whole(0), whole(1));
            case "cut" -> x.cut(whole(0), n[1] == 1) ? 1 : 0;
            case "tries" -> x.tries(whole(0));
            case "tick" -> x.tick(n[0]);
            case "slip" -> x.slip(whole(0), whole(1));
            case "cash" -> x.cash(whole(0), n[1]);
            default -> x.state(whole(0));
        };
    }

    /** Makes the call on the model, and tells whether it was refused (a cut: whether nothing was another thing). */
    boolean isRefusedBy(Model x) {
        // Below zero a join may also tell of a clash, so it is known by the device's being on line.
        boolean onLine = name.equals("join") && !x.isOff(whole(0));
        int got = on(x);
        return name.equals("join") ? onLine : name.equals("cut") ? got == 0 : got < 0;
    }

    @Override
    public String toString() {
        return name + Arrays.toString(n);
    }
}
