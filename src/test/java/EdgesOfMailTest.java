import java.util.function.Supplier;

/** The boundary cases of promises 15, 20 and 21, and of the words on mail and hubs they rest on. */
public final class EdgesOfMailTest {
    private static final int NONE = BulletinNet.NONE;

    public static void main(String[] args) {
        promise15NodesFrom0ToTheLast();
        promise15BothAreTheSame();
        promise15ThirtyMailsFrom0();
        promise15WhichExceptionComesFirst();
        promise15TheLowestOfTwentyLinks();
        promise15ALinkBeforeTheWayByHubs();
        promise15OnlyWhoIsBelow();
        promise15LinksThatComeWhileItIsOnItsWay();
        promise15LinksThatAreDown();
        promise20MailsFrom0ToTheLast();
        promise20UpTheLongestWay();
        promise20DownTheLongestWay();
        promise20UpAndDown();
        promise20AtTheEndOfTheClock();
        promise21MailsFrom0ToTheLast();
        promise21LostWithoutAHub();
        promise21LostAtTheTop();
        promise21NotLost();
        Check.end("EdgesOfMailTest");
    }

    private static void promise15NodesFrom0ToTheLast() {
        BulletinNet net = Nets.loose(12);
        net.link(11, 0, 0);
        Edge.is(15, "from the first to the last", net.mail(0, 11), 0);
        Edge.is(15, "from the last to the first", net.mail(11, 0), 1);
        Edge.is(15, "the bundle of the last", net.bundle(0, true), 1);
        Edge.is(15, "the bundle of the first", net.bundle(0, false), 1);
        for (int nodes : new int[] {1, 2, 12}) {
            for (int node : Edge.beyond(0, nodes - 1)) {
                Edge.refused(15, "from " + node, Nets.INDEX, () -> Nets.loose(nodes), x -> x.mail(node, 0));
                Edge.refused(15, "to " + node, Nets.INDEX, () -> Nets.loose(nodes), x -> x.mail(0, node));
            }
        }
        Edge.refused(15, "without nodes", Nets.INDEX, BulletinNet::new, x -> x.mail(0, 1));
    }

    private static void promise15BothAreTheSame() {
        for (int node = 0; node < 12; node++) {
            int same = node;
            Edge.refused(15, "from and to one node", Nets.ARGUMENT, Nets::wheel, x -> x.mail(same, same));
        }
    }

    private static BulletinNet mailed(int mails) {
        BulletinNet net = Nets.loose(3);
        net.link(0, 1, 0);
        for (int mail = 0; mail < mails; mail++) {
            net.mail(mail % 3, (mail + 1) % 3);
        }
        return net;
    }

    private static void promise15ThirtyMailsFrom0() {
        BulletinNet net = Nets.pair(0);
        for (int mail = 0; mail < 30; mail++) {
            Edge.is(15, "mail", net.mail(mail % 2, 1 - mail % 2), mail);
        }
        Edge.is(15, "post behind 30 mails", net.post(0, 0), 0);
        Edge.refused(15, "a mail too many", Nets.STATE, () -> mailed(30), x -> x.mail(0, 1));
        Edge.refused(15, "one that would be lost", Nets.STATE, () -> mailed(30), x -> x.mail(2, 1));
        Edge.refused(15, "in a full net", Nets.STATE, Nets::full, x -> x.mail(11, 0));
        Edge.refused(15, "a refused one takes no number", Nets.ARGUMENT, () -> mailed(29),
                x -> x.mail(1, 1));
        Edge.refused(15, "mails that arrived or are lost count", Nets.STATE, () -> {
            BulletinNet passed = mailed(30);
            passed.pass(240);
            return passed;
        }, x -> x.mail(0, 1));
    }

    private static void promise15WhichExceptionComesFirst() {
        Supplier<BulletinNet> few = () -> mailed(0);
        Edge.refused(15, "no node before the same", Nets.INDEX, few, x -> x.mail(3, 3));
        Edge.refused(15, "no node before the same", Nets.INDEX, few, x -> x.mail(-1, -1));
        Supplier<BulletinNet> full = () -> mailed(30);
        Edge.refused(15, "no from before mails", Nets.INDEX, full, x -> x.mail(3, 0));
        Edge.refused(15, "no to before mails", Nets.INDEX, full, x -> x.mail(0, -1));
        Edge.refused(15, "neither before mails", Nets.INDEX, full, x -> x.mail(3, 3));
        Edge.refused(15, "the same before mails", Nets.ARGUMENT, full, x -> x.mail(2, 2));
    }

    private static void promise15TheLowestOfTwentyLinks() {
        BulletinNet net = Nets.loose(12);
        for (int link = 0; link < 19; link++) {
            net.link(link % 10, link % 10 + 1, 0);
        }
        net.link(11, 0, 0);
        net.mail(0, 11);
        net.mail(11, 0);
        net.mail(0, 1);
        net.mail(9, 8);
        Edge.is(15, "over the last link", net.bundle(19, false), 1);
        Edge.is(15, "over it the other way", net.bundle(19, true), 1);
        Edge.is(15, "over the first of two", net.bundle(0, true), 1);
        Edge.is(15, "not over the second", net.bundle(10, true), 0);
        Edge.is(15, "over the lowest back", net.bundle(8, false), 1);
        Edge.is(15, "not over the second back", net.bundle(18, false), 0);
    }

    private static void promise15ALinkBeforeTheWayByHubs() {
        BulletinNet net = Nets.tree();
        net.link(5, 0, 0);
        net.link(6, 5, 0);
        net.mail(5, 0);
        Edge.is(15, "not to the hub", net.bundle(4, true), 0);
        Edge.is(15, "over the link up", net.bundle(5, true), 1);
        net.mail(0, 5);
        Edge.is(15, "not down by hubs", net.bundle(0, false), 0);
        Edge.is(15, "over the link down", net.bundle(5, false), 1);
        net.mail(5, 6);
        Edge.is(15, "over a link to one that stands alone", net.bundle(6, false), 1);
        net.mail(6, 5);
        Edge.is(15, "and from it", net.bundle(6, true), 1);
        net.mail(6, 3);
        Edge.is(21, "a link to another node is no way", net.isLost(4), true);
        net.mail(3, 6);
        Edge.is(15, "nor one of a node below", net.bundle(2, true), 1);
    }

    private static void promise15OnlyWhoIsBelow() {
        BulletinNet net = Nets.tree();
        net.mail(1, 5);
        Edge.is(15, "below the node below", net.bundle(2, false), 1);
        net.mail(1, 4);
        Edge.is(15, "the other one below", net.bundle(3, false), 1);
        net.mail(1, 2);
        Edge.is(15, "below the hub alone: to the hub", net.bundle(0, true), 1);
        net.mail(4, 5);
        Edge.is(15, "below the one beside: to the hub", net.bundle(3, true), 1);
        net.mail(3, 0);
        Edge.is(15, "above the hub: to the hub", net.bundle(2, true), 1);
        net.mail(0, 2);
        Edge.is(15, "from the top", net.bundle(1, false), 1);
        net.mail(0, 6);
        Edge.is(21, "from the top to one that is not below", net.isLost(6), true);
        for (int link = 0; link < 5; link++) {
            Edge.is(15, "in no other bundle", net.bundle(link, true) + net.bundle(link, false),
                    link == 2 || link == 3 ? 2 : link == 4 ? 0 : 1);
        }
    }

    /** What is in a bundle stays there; the node that it comes to goes by the links that it has then. */
    private static void promise15LinksThatComeWhileItIsOnItsWay() {
        BulletinNet up = Nets.tree();
        up.mail(5, 2);
        up.link(5, 2, 20);
        up.link(3, 2, 12);
        Edge.is(15, "it stays in its bundle", up.bundle(4, true), 1);
        Edge.is(15, "not in that of a new link", up.bundle(5, true), 0);
        Nets.passTo(up, 6);
        Edge.is(15, "the next node takes its new link", up.bundle(6, true), 1);
        Edge.is(15, "not the one to its hub", up.bundle(2, true), 0);
        Nets.passTo(up, 13);
        Edge.is(20, "it came over that", up.mailAt(0), 2);
        BulletinNet down = Nets.tree();
        down.mail(0, 5);
        down.link(5, 1, 9);
        Nets.passTo(down, 2);
        Edge.is(15, "the node below takes its new link", down.bundle(5, false), 1);
        Edge.is(15, "not the one to the node below it", down.bundle(2, false), 0);
        BulletinNet saved = Nets.tree();
        saved.mail(1, 6);
        saved.link(6, 0, 9);
        Nets.passTo(saved, 2);
        Edge.is(21, "not lost at the top, which has a link now", saved.isLost(0), false);
        Edge.is(15, "over that link", saved.bundle(5, false), 1);
    }

    /** A link that is down is a way like any other one: up, down, and to the node itself. */
    private static void promise15LinksThatAreDown() {
        BulletinNet net = Nets.tree();
        for (int link = 0; link < 5; link++) {
            net.setDown(link, true);
        }
        net.link(5, 0, 7);
        net.setDown(5, true);
        int[][] ways = {{3, 2}, {0, 4}, {4, 1}, {1, 4}, {5, 0}, {0, 5}};
        int[] links = {2, 0, 3, 3, 5, 5};
        boolean[] byCaller = {true, false, true, false, true, false};
        for (int mail = 0; mail < ways.length; mail++) {
            net.mail(ways[mail][0], ways[mail][1]);
            int bundle = net.bundle(links[mail], byCaller[mail]);
            Edge.is(15, "mail " + mail + " over a link that is down", bundle, 1);
            Edge.is(21, "it is not lost", net.isLost(mail), false);
        }
        net.pass(240);
        for (int mail = 0; mail < ways.length; mail++) {
            Edge.is(20, "it stays where it is", net.mailAt(mail), ways[mail][0]);
            Edge.is(21, "it is not lost there", net.isLost(mail), false);
        }
        BulletinNet far = Nets.tree();
        far.setDown(2, true);
        far.mail(5, 2);
        far.mail(0, 5);
        Nets.passTo(far, 24);
        Edge.is(15, "on its way up before one that is down", far.bundle(2, true), 1);
        Edge.is(15, "on its way down before it", far.bundle(2, false), 1);
        Edge.is(21, "neither is lost", far.isLost(0) || far.isLost(1), false);
    }

    private static void promise20MailsFrom0ToTheLast() {
        for (int mails = 1; mails <= 30; mails++) {
            int made = mails;
            Edge.is(20, "the last mail", mailed(mails).mailAt(mails - 1), (mails - 1) % 3);
            Edge.refused(20, "the mail behind", Nets.INDEX, () -> mailed(made), x -> x.mailAt(made));
        }
        for (int mail : Edge.beyond(0, 29)) {
            Edge.refused(20, "mail " + mail, Nets.INDEX, Nets::full, x -> x.mailAt(mail));
        }
        Edge.refused(20, "no mail", Nets.INDEX, () -> mailed(0), x -> x.mailAt(0));
    }

    /** Each node is the hub of the next one, which calls it at the hour that is told for it. */
    private static BulletinNet chain(boolean isUpward) {
        BulletinNet net = new BulletinNet();
        for (int node = 0; node < 12; node++) {
            net.addNode(1, 1, node, node - 1, isUpward ? 11 - node : node - 1);
        }
        return net;
    }

    private static void promise20UpTheLongestWay() {
        BulletinNet net = chain(true);
        net.mail(11, 0);
        for (int node = 11; node > 0; node--) {
            Edge.is(20, "on the way up", net.mailAt(0), node);
            Edge.is(20, "in its bundle", net.bundle(node - 1, true), 1);
            net.pass(1);
        }
        Edge.is(20, "arrived", net.mailAt(0), 0);
        Edge.is(21, "not lost", net.isLost(0), false);
        BulletinNet slow = chain(false);
        slow.mail(11, 0);
        for (int node = 11; node > 0; node--) {
            Edge.is(20, "a day a step", slow.mailAt(0), node);
            slow.pass(24);
        }
        Edge.is(20, "arrived late", slow.mailAt(0), 0);
    }

    private static void promise20DownTheLongestWay() {
        BulletinNet net = chain(false);
        net.mail(0, 11);
        for (int node = 0; node < 11; node++) {
            Edge.is(20, "on the way down", net.mailAt(0), node);
            Edge.is(20, "in its bundle", net.bundle(node, false), 1);
            net.pass(1);
        }
        Edge.is(20, "arrived", net.mailAt(0), 11);
        net.pass(240);
        Edge.is(20, "it stays", net.mailAt(0), 11);
        Edge.is(21, "not lost", net.isLost(0), false);
        for (int link = 0; link < 11; link++) {
            Edge.is(20, "in no bundle", net.bundle(link, true) + net.bundle(link, false), 0);
        }
    }

    private static void promise20UpAndDown() {
        BulletinNet net = Nets.tree();
        net.mail(5, 4);
        int[] clocks = {0, 5, 6, 27, 28, 29};
        int[] places = {5, 5, 3, 3, 1, 4};
        for (int i = 0; i < clocks.length; i++) {
            Nets.passTo(net, clocks[i]);
            Edge.is(20, "from 5 to 4 at clock " + clocks[i], net.mailAt(0), places[i]);
        }
        net.mail(3, 2);
        Edge.is(20, "where it was posted", net.mailAt(1), 3);
        Nets.passTo(net, 240);
        Edge.is(20, "from 3 to 2", net.mailAt(1), 2);
    }

    private static void promise20AtTheEndOfTheClock() {
        BulletinNet net = Nets.pair(15);
        Nets.passTo(net, 9999);
        net.mail(0, 1);
        net.pass(1);
        net.mail(0, 1);
        Edge.is(20, "come in the last hour", net.mailAt(0), 1);
        Edge.is(20, "posted at the end of the clock", net.mailAt(1), 0);
        Edge.is(21, "not lost there", net.isLost(1), false);
    }

    private static void promise21MailsFrom0ToTheLast() {
        for (int mails = 1; mails <= 30; mails++) {
            int made = mails;
            Edge.is(21, "the last mail", mailed(mails).isLost(mails - 1), mails % 3 != 1);
            Edge.refused(21, "the mail behind", Nets.INDEX, () -> mailed(made), x -> x.isLost(made));
        }
        for (int mail : Edge.beyond(0, 29)) {
            Edge.refused(21, "mail " + mail, Nets.INDEX, Nets::full, x -> x.isLost(mail));
        }
        Edge.refused(21, "no mail", Nets.INDEX, () -> mailed(0), x -> x.isLost(0));
    }

    private static void promise21LostWithoutAHub() {
        BulletinNet net = Nets.loose(3);
        net.link(1, 2, 0);
        net.mail(0, 1);
        Edge.is(21, "no link and no hub", net.isLost(0), true);
        Edge.is(20, "lost where it was posted", net.mailAt(0), 0);
        net.mail(1, 0);
        Edge.is(21, "no link to that node", net.isLost(1), true);
        Edge.is(20, "lost at that node", net.mailAt(1), 1);
        Edge.is(20, "in no bundle", net.bundle(0, true), 0);
        net.link(0, 1, 0);
        net.pass(240);
        Edge.is(21, "it stays lost", net.isLost(0), true);
        Edge.is(20, "it stays where it was lost", net.mailAt(0), 0);
        Edge.is(20, "the next one is put on the link", net.mail(0, 1), 2);
        Edge.is(21, "it is not lost", net.isLost(2), false);
    }

    private static void promise21LostAtTheTop() {
        BulletinNet net = new BulletinNet();
        for (int node = 0; node < 11; node++) {
            net.addNode(1, 1, node, node - 1, 10 - node);
        }
        net.addNode(1, 1, 11, NONE, 0);
        net.mail(10, 11);
        for (int node = 10; node > 0; node--) {
            Edge.is(20, "on the way to the top", net.mailAt(0), node);
            Edge.is(21, "not lost on the way", net.isLost(0), false);
            net.pass(1);
        }
        Edge.is(20, "at the top", net.mailAt(0), 0);
        Edge.is(21, "lost at the top", net.isLost(0), true);
        Edge.is(20, "in no bundle there", net.bundle(0, false), 0);
    }

    private static void promise21NotLost() {
        BulletinNet net = Nets.pair(0);
        net.setDown(0, true);
        net.mail(0, 1);
        net.pass(240);
        Edge.is(21, "in a bundle of a link that is down", net.isLost(0), false);
        Edge.is(20, "still there", net.mailAt(0), 0);
        net.setDown(0, false);
        net.pass(1);
        Edge.is(21, "arrived", net.isLost(0), false);
        Edge.is(20, "arrived there", net.mailAt(0), 1);
    }
}
