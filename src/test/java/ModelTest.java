import java.util.function.IntSupplier;

/**
 * Runs of 512 calls, as many as the document tells of, on a net and on the plain one, all answers
 * compared. The numbers come from a row of its own, so that each run of this test makes the same calls.
 */
public final class ModelTest {
    private static final int RUNS = 400;
    private static final int CALLS = 512;

    private final BulletinNet net = new BulletinNet();
    private final PlainNet plain = new PlainNet();
    private final int run;
    private final boolean isStrange;
    private final boolean isSlow;
    private long seed;
    private int calls = 0;

    private ModelTest(int run) {
        this.run = run;
        this.seed = run * 7919L + 17;
        this.isStrange = run % 4 == 0;
        this.isSlow = run % 3 == 0;
    }

    public static void main(String[] args) {
        for (int run = 0; run < RUNS; run++) {
            new ModelTest(run).compare();
        }
        Check.end("ModelTest");
    }

    private int below(int bound) {
        seed = seed * 6364136223846793005L + 1442695040888963407L;
        return (int) ((seed >>> 33) % bound);
    }

    /** Mostly a number from 0 below the bound, in strange runs now and then one beside it. */
    private int number(int bound) {
        if (isStrange && below(12) == 0) {
            int[] beside = {-1, -2, bound, bound + 1, Integer.MIN_VALUE, Integer.MAX_VALUE, 30, 20, 12};
            return beside[below(beside.length)];
        }
        return bound > 0 ? below(bound) : 0;
    }

    private void compare() {
        int setUp = 8 + below(60);
        for (int i = 0; i < setUp; i++) {
            build();
        }
        while (calls < CALLS) {
            int kind = below(100);
            if (kind < 8) {
                build();
            } else if (kind < 22) {
                send();
            } else if (kind < 34) {
                letPass();
            } else if (kind < 42) {
                address();
            } else {
                ask();
            }
        }
    }

    private void build() {
        int kind = below(10);
        if (kind < 3) {
            int zone = number(4) + (isStrange ? 0 : 1);
            int network = number(3) * 5 + (isStrange ? 0 : 1);
            int node = number(5) * 7;
            int hub = below(3) == 0 ? -1 : number(plain.nodes());
            int hour = number(24);
            same("addNode", () -> net.addNode(zone, network, node, hub, hour),
                    () -> plain.addNode(zone, network, node, hub, hour));
        } else if (kind < 5) {
            int caller = number(plain.nodes());
            int other = number(plain.nodes());
            int hour = number(24);
            same("link", () -> net.link(caller, other, hour), () -> plain.link(caller, other, hour));
        } else if (kind < 9) {
            int link = number(plain.links());
            int area = number(3);
            boolean carries = below(5) > 0;
            same("carry", () -> net.carry(link, area, carries) ? 1 : 0,
                    () -> plain.carry(link, area, carries) ? 1 : 0);
        } else {
            int link = number(plain.links());
            boolean isDown = below(2) == 0;
            same("setDown", () -> net.setDown(link, isDown) ? 1 : 0,
                    () -> plain.setDown(link, isDown) ? 1 : 0);
        }
    }

    private void send() {
        if (below(2) == 0) {
            int area = number(3);
            int node = number(plain.nodes());
            same("post", () -> net.post(area, node), () -> plain.post(area, node));
        } else {
            int from = number(plain.nodes());
            int to = number(plain.nodes());
            same("mail", () -> net.mail(from, to), () -> plain.mail(from, to));
        }
    }

    private void letPass() {
        int hours = isStrange && below(10) == 0 ? number(260) : isSlow ? 1 + below(4) : 1 + below(40);
        int passed = run % 5 == 0 && below(2) == 0 ? 240 - below(3) : hours;
        same("pass", () -> net.pass(passed), () -> plain.pass(passed));
    }

    private void address() {
        int kind = below(10);
        if (kind == 0) {
            int node = number(plain.nodes());
            same("setHome", () -> net.setHome(node), () -> plain.setHome(node));
        } else if (kind < 3) {
            same("clearText", net::clearText, plain::clearText);
        } else if (kind < 7) {
            char character = "0123456789:/:/11005x".charAt(below(isStrange ? 20 : 19));
            same("type", () -> net.type(character), () -> plain.type(character));
        } else {
            typeAnAddress();
        }
    }

    private void typeAnAddress() {
        same("clearText", net::clearText, plain::clearText);
        String whole = (1 + below(4)) + ":" + (1 + 5 * below(3)) + "/" + 7 * below(5);
        int[] starts = {0, 2, whole.indexOf('/') + 1};
        for (char character : whole.substring(starts[below(3)]).toCharArray()) {
            same("type", () -> net.type(character), () -> plain.type(character));
        }
        same("find", net::find, plain::find);
    }

    private void ask() {
        int node = number(plain.nodes());
        int link = number(plain.links());
        int area = number(3);
        int item = number(below(3) == 0 ? 4 : 31);
        int place = number(30);
        boolean isCaller = below(2) == 0;
        switch (below(14)) {
            case 0 -> same("nodes", net::nodes, plain::nodes);
            case 1 -> same("links", net::links, plain::links);
            case 2 -> same("bundle", () -> net.bundle(link, isCaller), () -> plain.bundle(link, isCaller));
            case 3 -> same("calls", () -> net.calls(link), () -> plain.calls(link));
            case 4 -> same("gotAt", () -> net.gotAt(node, item), () -> plain.gotAt(node, item));
            case 5 -> same("seenBy", () -> net.seenBy(node, item), () -> plain.seenBy(node, item));
            case 6, 7 -> same("seenAt", () -> net.seenAt(node, item, place),
                    () -> plain.seenAt(node, item, place));
            case 8 -> same("doubles", () -> net.doubles(node), () -> plain.doubles(node));
            case 9 -> same("mailAt", () -> net.mailAt(item), () -> plain.mailAt(item));
            case 10 -> same("isLost", () -> net.isLost(item) ? 1 : 0, () -> plain.isLost(item) ? 1 : 0);
            case 11 -> same("clock", net::clock, plain::clock);
            case 12 -> same("cost", () -> net.cost(node), () -> plain.cost(node));
            default -> same("reach", () -> net.reach(area, node), () -> plain.reach(area, node));
        }
    }

    private void same(String what, IntSupplier call, IntSupplier plainCall) {
        if (calls < CALLS) {
            calls++;
            Check.is("run " + run + ": " + what, netAnswer(call), answer(plainCall));
        }
    }

    private static String netAnswer(IntSupplier call) {
        try {
            return String.valueOf(call.getAsInt());
        } catch (RuntimeException e) {
            return Check.thrown(e);
        }
    }

    private static String answer(IntSupplier call) {
        try {
            return String.valueOf(call.getAsInt());
        } catch (RuntimeException e) {
            return e.getClass().getName();
        }
    }
}
