/** Nets and texts that several tests start from. */
final class Nets {
    static final int NONE = BulletinNet.NONE;
    static final Class<?> INDEX = IndexOutOfBoundsException.class;
    static final Class<?> ARGUMENT = IllegalArgumentException.class;
    static final Class<?> STATE = IllegalStateException.class;

    private Nets() {
    }

    /** Nodes 0 to count-1 of the addresses 1:1/0, 1:1/1 and so on, without hubs and links. */
    static BulletinNet loose(int count) {
        BulletinNet net = new BulletinNet();
        for (int node = 0; node < count; node++) {
            net.addNode(1, 1, node, NONE, 0);
        }
        return net;
    }

    /** A net with one link from 0 to 1, called at that hour, that carries area 0. */
    static BulletinNet pair(int hour) {
        BulletinNet net = loose(2);
        net.link(0, 1, hour);
        net.carry(0, 0, true);
        return net;
    }

    /**
     * A tree: 0 is the hub of 1 and 2, 1 of 3 and 4, 3 of 5; 6 stands alone. The link of node n to
     * its hub is n - 1, and it is called at the hour n.
     */
    static BulletinNet tree() {
        BulletinNet net = new BulletinNet();
        int[] hubs = {NONE, 0, 0, 1, 1, 3};
        for (int node = 0; node < hubs.length; node++) {
            net.addNode(2, 5, node, hubs[node], node);
        }
        net.addNode(2, 5, 6, NONE, 0);
        return net;
    }

    /** Two nodes and as many links from 0 to 1 as are wanted, called at the hours 0, 1 and so on. */
    static BulletinNet linked(int links) {
        BulletinNet net = loose(2);
        for (int link = 0; link < links; link++) {
            net.link(0, 1, link);
        }
        return net;
    }

    /** A net of 12 nodes round node 0, over the links 0 to 10, which all carry area 0. */
    static BulletinNet wheel() {
        BulletinNet net = loose(12);
        for (int node = 1; node < 12; node++) {
            net.link(0, node, node);
            net.carry(node - 1, 0, true);
        }
        return net;
    }

    /**
     * A net that has all it can hold, in the midst of its work: 12 nodes, 20 links, 30 messages, 30
     * mails and 10 characters, a link that is down, links that wait, and bundles that are not empty.
     */
    static BulletinNet full() {
        BulletinNet net = wheel();
        for (int node = 1; node < 10; node++) {
            net.link(node, node + 1, 0);
            net.carry(10 + node, 1, true);
        }
        net.setDown(12, true);
        net.setHome(5);
        for (int item = 0; item < 30; item++) {
            net.post(item % 3, item % 12);
            net.mail(item % 12, (item + 1) % 12);
            if (item % 10 == 9) {
                net.pass(1);
            }
        }
        write(net, "1:1/7/1:1/");
        return net;
    }

    /** Lets the hours pass that are missing until the clock stands there. */
    static void passTo(BulletinNet net, int clock) {
        while (net.clock() < clock) {
            net.pass(Math.min(240, clock - net.clock()));
        }
    }

    static void write(BulletinNet net, String text) {
        net.clearText();
        for (char character : text.toCharArray()) {
            net.type(character);
        }
    }

    /** The seen-by as it is written; two spaces behind one another are behind its end. */
    static String seenText(BulletinNet net, int node, int message) {
        StringBuilder text = new StringBuilder();
        boolean isAtEnd = false;
        for (int place = 0; place < 100 && !isAtEnd; place++) {
            text.append(net.seenAt(node, message, place));
            isAtEnd = text.length() > 1 && text.toString().endsWith("  ");
        }
        return text.toString().stripTrailing();
    }
}
