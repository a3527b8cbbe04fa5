import java.util.function.IntSupplier;

/**
 * Runs of 512 calls, as many as the document tells of, on a net and on the plain one, all answers
 * compared. The numbers come from a row of its own, so that each run of this test makes the same calls.
 */
public final class ModelTest {
    private static final int RUNS = 400;
    private static final int FLOODS = 200;
    private static final int CALLS = 512;

    private final BulletinNet net = new BulletinNet();
    private final PlainNet plain = new PlainNet();
    private final int run;
    private final boolean isStrange;
    private final boolean isSlow;
    private long seed;
    private int calls = 0;

    private ModelTest(int run) {
        this.run = run;
        this.seed = run * 7919L + 17;
        this.isStrange = run % 4 == 0;
        this.isSlow = run % 3 == 0;
    }

    public static void main(String[] args) {
        for (int run = 0; run < RUNS; run++) {
            new ModelTest(run).compare();
        }
        for (int run = RUNS; run < RUNS + FLOODS; run++) {
            new ModelTest(run).compareFlood();
        }
        Check.end("ModelTest");
    }

    private int below(int bound) {
        seed = seed * 6364136223846793005L + 1442695040888963407L;
        return (int) ((seed >>> 33) % bound);
    }

    /** Mostly a number from 0 below the bound, in strange runs now and then one beside it. */
    private int number(int bound) {
        if (isStrange && below(12) == 0) {
            int[] beside = {-1, -2, bound, bound + 1, Integer.MIN_VALUE, Integer.MAX_VALUE, 30, 20, 12};
            return beside[below(beside.length)];
        }
        return bound > 0 ? below(bound) : 0;
    }

    private void compare() {
        int setUp = 8 + below(60);
        for (int i = 0; i < setUp; i++) {
            build();
        }
        while (calls < CALLS) {
            int kind = below(100);
            if (kind < 8) {
                build();
            } else if (kind < 22) {
                send();
            } else if (kind < 34) {
                letPass();
            } else if (kind < 42) {
                address();
            } else {
                ask();
            }
        }
    }

    /** A net of many rings, in which messages come by several ways, and then all there is to ask. */
    private void compareFlood() {
        int area = below(3);
        for (int node = 0; node < 12; node++) {
            int number = node;
            int hub = node == 0 || below(3) == 0 ? -1 : below(node);
            int hour = below(24);
            // Three zones with the same nets and node numbers, two and two of them.
            int zone = 1 + number / 4;
            int network = 1 + number % 2;
            int last = 7 * (number / 2 % 2);
            same("addNode", () -> net.addNode(zone, network, last, hub, hour),
                    () -> plain.addNode(zone, network, last, hub, hour));
        }
        for (int link = plain.links(); link < 20; link++) {
            int caller = below(12);
            int other = below(12);
            int hour = below(24);
            same("link", () -> net.link(caller, other, hour), () -> plain.link(caller, other, hour));
        }
        for (int link = 0; link < 20; link++) {
            change(link, area, below(6) > 0);
        }
        for (int item = 0; item < 30; item++) {
            sendAndPass(area);
        }
        askAll();
    }

    private void change(int link, int area, boolean carries) {
        same("carry", () -> net.carry(link, area, carries) ? 1 : 0,
                () -> plain.carry(link, area, carries) ? 1 : 0);
    }

    private void sendAndPass(int area) {
        int node = below(12);
        int to = below(12);
        int hours = 1 + below(8);
        same("post", () -> net.post(area, node), () -> plain.post(area, node));
        same("mail", () -> net.mail(node, to), () -> plain.mail(node, to));
        same("pass", () -> net.pass(hours), () -> plain.pass(hours));
        int link = below(20);
        if (below(3) == 0) {
            change(link, area, below(3) > 0);
        } else if (below(3) == 0) {
            boolean isDown = below(2) == 0;
            same("setDown", () -> net.setDown(link, isDown) ? 1 : 0,
                    () -> plain.setDown(link, isDown) ? 1 : 0);
        }
    }

    private void askAll() {
        for (int number = 0; number < 12; number++) {
            int node = number;
            same("doubles", () -> net.doubles(node), () -> plain.doubles(node));
            same("cost", () -> net.cost(node), () -> plain.cost(node));
        }
        for (int number = 0; number < 20; number++) {
            int link = number;
            same("calls", () -> net.calls(link), () -> plain.calls(link));
            same("bundle", () -> net.bundle(link, true), () -> plain.bundle(link, true));
            same("bundle", () -> net.bundle(link, false), () -> plain.bundle(link, false));
        }
        for (int number = 0; number < 30; number++) {
            int mail = number;
            same("mailAt", () -> net.mailAt(mail), () -> plain.mailAt(mail));
        }
        while (calls < CALLS) {
            int node = below(12);
            int message = below(30);
            int place = below(30);
            same("seenAt", () -> net.seenAt(node, message, place),
                    () -> plain.seenAt(node, message, place));
            same("seenBy", () -> net.seenBy(node, message), () -> plain.seenBy(node, message));
            same("gotAt", () -> net.gotAt(node, message), () -> plain.gotAt(node, message));
        }
    }

    private void build() {
        int kind = below(10);
        if (kind < 3) {
            int zone = number(4) + (isStrange ? 0 : 1);
            int network = number(3) * 5 + (isStrange ? 0 : 1);
            int node = number(5) * 7;
            int hub = below(3) == 0 ? -1 : number(plain.nodes());
            int hour = number(24);
            same("addNode", () -> net.addNode(zone, network, node, hub, hour),
                    () -> plain.addNode(zone, network, node, hub, hour));
        } else if (kind < 5) {
            int caller = number(plain.nodes());
            int other = number(plain.nodes());
            int hour = number(24);
            same("link", () -> net.link(caller, other, hour), () -> plain.link(caller, other, hour));
        } else if (kind < 9) {
            int link = number(plain.links());
            int area = number(3);
            boolean carries = below(5) > 0;
            same("carry", () -> net.carry(link, area, carries) ? 1 : 0,
                    () -> plain.carry(link, area, carries) ? 1 : 0);
        } else {
            int link = number(plain.links());
            boolean isDown = below(2) == 0;
            same("setDown", () -> net.setDown(link, isDown) ? 1 : 0,
                    () -> plain.setDown(link, isDown) ? 1 : 0);
        }
    }

    private void send() {
        if (below(2) == 0) {
            int area = number(3);
            int node = number(plain.nodes());
            same("post", () -> net.post(area, node), () -> plain.post(area, node));
        } else {
            int from = number(plain.nodes());
            int to = number(plain.nodes());
            same("mail", () -> net.mail(from, to), () -> plain.mail(from, to));
        }
    }

    private void letPass() {
        int hours = isStrange && below(10) == 0 ? number(260) : isSlow ? 1 + below(4) : 1 + below(40);
        int passed = run % 5 == 0 && below(2) == 0 ? 240 - below(3) : hours;
        same("pass", () -> net.pass(passed), () -> plain.pass(passed));
    }

    private void address() {
        int kind = below(10);
        if (kind == 0) {
            int node = number(plain.nodes());
            same("setHome", () -> net.setHome(node), () -> plain.setHome(node));
        } else if (kind < 3) {
            same("clearText", net::clearText, plain::clearText);
        } else if (kind < 7) {
            char character = "0123456789:/:/11005x".charAt(below(isStrange ? 20 : 19));
            same("type", () -> net.type(character), () -> plain.type(character));
        } else {
            typeAnAddress();
        }
    }

    private void typeAnAddress() {
        same("clearText", net::clearText, plain::clearText);
        String whole = (1 + below(4)) + ":" + (1 + 5 * below(3)) + "/" + 7 * below(5);
        int[] starts = {0, 2, whole.indexOf('/') + 1};
        for (char character : whole.substring(starts[below(3)]).toCharArray()) {
            same("type", () -> net.type(character), () -> plain.type(character));
        }
        same("find", net::find, plain::find);
    }

    private void ask() {
        int node = number(plain.nodes());
        int link = number(plain.links());
        int area = number(3);
        int item = number(below(3) == 0 ? 4 : 31);
        int place = number(30);
        boolean isCaller = below(2) == 0;
        switch (below(14)) {
            case 0 -> same("nodes", net::nodes, plain::nodes);
            case 1 -> same("links", net::links, plain::links);
            case 2 -> same("bundle", () -> net.bundle(link, isCaller), () -> plain.bundle(link, isCaller));
            case 3 -> same("calls", () -> net.calls(link), () -> plain.calls(link));
            case 4 -> same("gotAt", () -> net.gotAt(node, item), () -> plain.gotAt(node, item));
            case 5 -> same("seenBy", () -> net.seenBy(node, item), () -> plain.seenBy(node, item));
            case 6, 7 -> same("seenAt", () -> net.seenAt(node, item, place),
                    () -> plain.seenAt(node, item, place));
            case 8 -> same("doubles", () -> net.doubles(node), () -> plain.doubles(node));
            case 9 -> same("mailAt", () -> net.mailAt(item), () -> plain.mailAt(item));
            case 10 -> same("isLost", () -> net.isLost(item) ? 1 : 0, () -> plain.isLost(item) ? 1 : 0);
            case 11 -> same("clock", net::clock, plain::clock);
            case 12 -> same("cost", () -> net.cost(node), () -> plain.cost(node));
            default -> same("reach", () -> net.reach(area, node), () -> plain.reach(area, node));
        }
    }

    private void same(String what, IntSupplier call, IntSupplier plainCall) {
        if (calls < CALLS) {
            calls++;
            Check.is("run " + run + ": " + what, netAnswer(call), answer(plainCall));
        }
    }

    private static String netAnswer(IntSupplier call) {
        try {
            return String.valueOf(call.getAsInt());
        } catch (RuntimeException e) {
            return Check.thrown(e);
        }
    }

    private static String answer(IntSupplier call) {
        try {
            return String.valueOf(call.getAsInt());
        } catch (RuntimeException e) {
            return e.getClass().getName();
        }
    }
}
