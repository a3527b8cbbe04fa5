import java.util.function.IntUnaryOperator;

/**
 * The answers of a run of calls that asks for all there is, and then changes all that can be changed:
 * two nets that were made alike answer alike. With what makes a full net it takes less than 512 calls.
 */
final class Probe {
    private final BulletinNet net;
    private final StringBuilder text = new StringBuilder();

    private Probe(BulletinNet net) {
        this.net = net;
    }

    static String of(BulletinNet net) {
        Probe probe = new Probe(net);
        probe.askTheBuffer();
        probe.askLinks();
        probe.askNodes();
        probe.askMessages();
        probe.askMails();
        probe.letPass(1);
        probe.letPass(1);
        probe.changeLinks();
        probe.letPass(24);
        probe.fill();
        return probe.text.toString();
    }

    private void note(String what, int answer) {
        text.append(' ').append(what).append(' ').append(answer);
    }

    private void askTheBuffer() {
        try {
            note("find", net.find());
        } catch (IllegalStateException e) {
            text.append("no address");
        }
        note("clearText", net.clearText());
        if (net.nodes() > 0) {
            note("setHome", net.setHome(0));
        }
    }

    private void askLinks() {
        int links = net.links();
        note("\nlinks", links);
        for (int link = 0; link < links; link++) {
            note("calls", net.calls(link));
            note("bundle", net.bundle(link, true));
            note("bundle", net.bundle(link, false));
        }
    }

    private void askNodes() {
        int nodes = net.nodes();
        note("\nnodes", nodes);
        for (int node = 0; node < nodes; node++) {
            note("cost", net.cost(node));
            note("doubles", net.doubles(node));
        }
    }

    /** Each message is asked for at one node, so that the calls suffice. */
    private void askMessages() {
        int nodes = net.nodes();
        try {
            for (int message = 0; nodes > 0 && message <= 30; message++) {
                note("\ngotAt", net.gotAt(message % nodes, message));
                note("seenBy", net.seenBy(message % nodes, message));
            }
        } catch (IndexOutOfBoundsException e) {
            text.append(" no more messages");
        }
    }

    private void askMails() {
        try {
            for (int mail = 0; mail <= 30; mail++) {
                note("\nmailAt", net.mailAt(mail));
                note("isLost", net.isLost(mail) ? 1 : 0);
            }
        } catch (IndexOutOfBoundsException e) {
            text.append(" no more mails");
        }
    }

    private void letPass(int hours) {
        int clock = net.clock();
        int links = net.links();
        note("\nclock", clock);
        if (clock + hours <= 10000) {
            note("pass", net.pass(hours));
        }
        for (int link = 0; link < links; link++) {
            note("calls", net.calls(link));
        }
    }

    private void changeLinks() {
        int links = net.links();
        for (int link = 0; link < links; link++) {
            for (int area = 0; area < 3; area++) {
                note("carry", net.carry(link, area, true) ? 1 : 0);
            }
            note("setDown", net.setDown(link, false) ? 1 : 0);
        }
    }

    private void fill() {
        untilFull("addNode", count -> net.addNode(9, 98, count, BulletinNet.NONE, 0), 12);
        untilFull("link", count -> net.link(0, 1, count), 20);
        untilFull("mail", count -> net.mail(0, 1), 30);
        untilFull("post", count -> net.post(0, 0), 30);
        note("gotAt", net.gotAt(0, 0));
        note("seenBy", net.seenBy(0, 0));
    }

    private void untilFull(String what, IntUnaryOperator call, int most) {
        try {
            for (int count = 0; count <= most; count++) {
                note("\n" + what, call.applyAsInt(count));
            }
        } catch (IllegalStateException e) {
            text.append(" full");
        }
    }
}
