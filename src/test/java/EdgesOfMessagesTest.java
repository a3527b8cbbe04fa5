import java.util.function.Supplier;

/** The boundary cases of promises 14 and 16 to 19, and of the words on areas they rest on. */
public final class EdgesOfMessagesTest {
    private static final int NONE = BulletinNet.NONE;

    public static void main(String[] args) {
        promise14AreasFrom0To2();
        promise14NodesFrom0ToTheLast();
        promise14ThirtyMessagesFrom0();
        promise14WhichExceptionComesFirst();
        promise14FromNoTargetToEleven();
        promise14TheLowestOfSeveralLinksAlone();
        promise14OnlyLinksThatCarryTheArea();
        promise14NoEndThatIsInTheSet();
        promise16NodesAndMessagesFrom0ToTheLast();
        promise16HoursFrom0ToTheEndOfTheClock();
        promise16WithoutTheMessage();
        promise17NodesAndMessagesFrom0ToTheLast();
        promise17FromTheEmptySetToTheFullOne();
        promise18NodesMessagesAndPlacesFrom0();
        promise18TheShortestAndTheLongest();
        promise18NetsAndNodeNumbersRise();
        promise18SeveralZones();
        promise18WithoutTheMessage();
        promise19NodesFrom0ToTheLast();
        promise19ADoubleAndNothingElse();
        promise19ADoubleWithAnotherSet();
        promise19WhatIsNoDouble();
        Check.end("EdgesOfMessagesTest");
    }

    private static void promise14AreasFrom0To2() {
        BulletinNet net = Nets.linked(3);
        for (int area = 0; area < 3; area++) {
            net.carry(area, area, true);
        }
        for (int area = 0; area < 3; area++) {
            Edge.is(14, "post in area " + area, net.post(area, 0), area);
            for (int link = 0; link < 3; link++) {
                Edge.is(14, "the bundle of link " + link, net.bundle(link, true), link <= area ? 1 : 0);
            }
        }
        for (int area : Edge.beyond(0, 2)) {
            Edge.refused(14, "area " + area, Nets.INDEX, Nets::wheel, x -> x.post(area, 0));
        }
    }

    private static void promise14NodesFrom0ToTheLast() {
        for (int nodes = 1; nodes <= 12; nodes++) {
            int made = nodes;
            Edge.is(14, "at the first node", Nets.loose(nodes).post(0, 0), 0);
            Edge.is(14, "at the last node", Nets.loose(nodes).post(0, nodes - 1), 0);
            Edge.refused(14, "at the node behind", Nets.INDEX, () -> Nets.loose(made), x -> x.post(0, made));
        }
        for (int node : Edge.beyond(0, 11)) {
            Edge.refused(14, "at node " + node, Nets.INDEX, Nets::wheel, x -> x.post(0, node));
        }
        Edge.refused(14, "without nodes", Nets.INDEX, BulletinNet::new, x -> x.post(0, 0));
    }

    private static BulletinNet posted(int messages) {
        BulletinNet net = Nets.pair(0);
        for (int message = 0; message < messages; message++) {
            net.post(message % 3, message % 2);
        }
        return net;
    }

    private static void promise14ThirtyMessagesFrom0() {
        BulletinNet net = Nets.pair(0);
        for (int message = 0; message < 30; message++) {
            Edge.is(14, "post", net.post(message % 3, message % 2), message);
        }
        Edge.is(14, "mail behind 30 messages", net.mail(0, 1), 0);
        for (int area = 0; area < 3; area++) {
            int refused = area;
            Edge.refused(14, "a message too many", Nets.STATE, () -> posted(30), x -> x.post(refused, 1));
        }
        Edge.refused(14, "in a full net", Nets.STATE, Nets::full, x -> x.post(2, 11));
        Edge.refused(14, "a refused one takes no number", Nets.INDEX, () -> posted(29), x -> x.post(3, 0));
        Edge.refused(14, "messages that came everywhere count", Nets.STATE, () -> {
            BulletinNet passed = posted(30);
            passed.pass(240);
            return passed;
        }, x -> x.post(0, 0));
    }

    private static void promise14WhichExceptionComesFirst() {
        Supplier<BulletinNet> full = () -> posted(30);
        for (int number : Edge.beyond(0, 2)) {
            Edge.refused(14, "area " + number + " before messages", Nets.INDEX, full, x -> x.post(number, 0));
            Edge.refused(14, "node " + number + " before messages", Nets.INDEX, full, x -> x.post(0, number));
        }
        Edge.refused(14, "node 2 before messages", Nets.INDEX, full, x -> x.post(0, 2));
    }

    private static void promise14FromNoTargetToEleven() {
        BulletinNet alone = Nets.loose(12);
        for (int node = 0; node < 12; node++) {
            Edge.is(14, "post alone", alone.post(0, node), node);
            Edge.is(17, "the set of itself alone", alone.seenBy(node, node), 1 << node);
        }
        BulletinNet wheel = Nets.wheel();
        wheel.post(0, 0);
        Edge.is(17, "the set of all", wheel.seenBy(0, 0), 4095);
        for (int link = 0; link < 11; link++) {
            Edge.is(14, "one for each target", wheel.bundle(link, true), 1);
            Edge.is(14, "none from it", wheel.bundle(link, false), 0);
        }
        wheel.pass(24);
        for (int node = 1; node < 12; node++) {
            Edge.is(17, "the set of all comes with it", wheel.seenBy(node, 0), 4095);
            Edge.is(14, "nobody else is left to have it", wheel.bundle(node - 1, false), 0);
        }
    }

    private static void promise14TheLowestOfSeveralLinksAlone() {
        BulletinNet net = Nets.linked(20);
        for (int link = 19; link >= 0; link--) {
            net.carry(link, 0, true);
            int message = net.post(0, 0);
            Edge.is(14, "over the lowest that carries it", net.bundle(link, true), 1);
            Edge.is(17, "the set", net.seenBy(0, message), 3);
        }
        for (int link = 0; link < 20; link++) {
            Edge.is(14, "over that alone", net.bundle(link, true), 1);
        }
        net.carry(0, 0, false);
        net.setDown(1, true);
        net.post(0, 0);
        Edge.is(14, "the lowest, though it is down", net.bundle(1, true), 2);
        BulletinNet round = Nets.loose(3);
        round.link(1, 0, 0);
        round.link(0, 2, 0);
        round.link(0, 1, 0);
        round.link(2, 0, 0);
        for (int link = 0; link < 4; link++) {
            round.carry(link, 0, true);
        }
        round.post(0, 0);
        Edge.is(14, "also from the end that is called", round.bundle(0, false), 1);
        Edge.is(14, "a second target", round.bundle(1, true), 1);
        Edge.is(14, "no second copy for the first", round.bundle(2, true), 0);
        Edge.is(14, "no second copy for the second", round.bundle(3, false), 0);
    }

    private static void promise14OnlyLinksThatCarryTheArea() {
        for (int area = 0; area < 3; area++) {
            BulletinNet net = Nets.linked(1);
            for (int other = 0; other < 3; other++) {
                net.carry(0, other, other != area);
            }
            net.post(area, 0);
            Edge.is(14, "an area that it does not carry", net.bundle(0, true), 0);
            Edge.is(17, "the set then", net.seenBy(0, 0), 1);
            net.carry(0, area, true);
            net.post(area, 0);
            Edge.is(14, "one that it carries", net.bundle(0, true), 1);
            Edge.is(17, "the set of that", net.seenBy(0, 1), 3);
        }
        BulletinNet far = Nets.loose(4);
        far.carry(far.link(2, 3, 0), 0, true);
        far.post(0, 0);
        Edge.is(14, "a link of others", far.bundle(0, true) + far.bundle(0, false), 0);
        Edge.is(17, "the set without them", far.seenBy(0, 0), 1);
    }

    /** Three nodes joined by three links: the first tells each other one that both have seen it. */
    private static void promise14NoEndThatIsInTheSet() {
        BulletinNet net = Nets.loose(4);
        net.link(0, 1, 0);
        net.link(0, 2, 1);
        net.link(1, 2, 5);
        net.link(2, 3, 6);
        net.link(1, 0, 7);
        for (int link = 0; link < 5; link++) {
            net.carry(link, 0, true);
        }
        net.post(0, 0);
        Edge.is(17, "the set of the first", net.seenBy(0, 0), 0b0111);
        net.pass(1);
        Edge.is(17, "the set of the second as it came", net.seenBy(1, 0), 0b0111);
        Edge.is(14, "not to one in the set", net.bundle(2, true), 0);
        Edge.is(14, "not back", net.bundle(0, false), 0);
        Edge.is(14, "not back over another link", net.bundle(4, true), 0);
        net.pass(1);
        Edge.is(17, "the set of the third with its target", net.seenBy(2, 0), 0b1111);
        Edge.is(14, "to the one that is not in it", net.bundle(3, true), 1);
        net.pass(5);
        Edge.is(17, "the set of the last", net.seenBy(3, 0), 0b1111);
        Edge.is(17, "the set of the first as it was", net.seenBy(0, 0), 0b0111);
        for (int node = 0; node < 4; node++) {
            Edge.is(19, "no doubles", net.doubles(node), 0);
        }
    }

    /** Asks one of the calls on a node and a message: 16 gotAt, 17 seenBy, 18 seenAt at place 0. */
    private static int asked(int promise, BulletinNet net, int node, int message) {
        if (promise == 16) {
            return net.gotAt(node, message);
        }
        return promise == 17 ? net.seenBy(node, message) : net.seenAt(node, message, 0);
    }

    private static void nodesAndMessagesFrom0ToTheLast(int promise, int with, int without) {
        for (int nodes : new int[] {2, 7, 12}) {
            Supplier<BulletinNet> maker = () -> {
                BulletinNet net = Nets.loose(nodes);
                net.post(0, 0);
                return net;
            };
            Edge.is(promise, "the first node", asked(promise, maker.get(), 0, 0), with);
            Edge.is(promise, "the last node", asked(promise, maker.get(), nodes - 1, 0), without);
            for (int node : Edge.beyond(0, nodes - 1)) {
                Edge.refused(promise, "node " + node, Nets.INDEX, maker, x -> asked(promise, x, node, 0));
            }
        }
        for (int messages = 1; messages <= 30; messages++) {
            int made = messages;
            Edge.is(promise, "the last message", asked(promise, posted(made), (made - 1) % 2, made - 1)
                    != without, true);
            Edge.refused(promise, "the message behind", Nets.INDEX, () -> posted(made),
                    x -> asked(promise, x, 0, made));
        }
        for (int message : Edge.beyond(0, 29)) {
            Edge.refused(promise, "message " + message, Nets.INDEX, Nets::full,
                    x -> asked(promise, x, 0, message));
            Edge.refused(promise, "node and message " + message, Nets.INDEX, Nets::full,
                    x -> asked(promise, x, message, message));
        }
        Edge.refused(promise, "no message", Nets.INDEX, () -> Nets.loose(2), x -> asked(promise, x, 0, 0));
    }

    private static void promise16NodesAndMessagesFrom0ToTheLast() {
        nodesAndMessagesFrom0ToTheLast(16, 0, NONE);
    }

    private static void promise16HoursFrom0ToTheEndOfTheClock() {
        BulletinNet net = Nets.pair(15);
        net.post(0, 0);
        Edge.is(16, "posted in hour 0", net.gotAt(0, 0), 0);
        net.pass(16);
        Edge.is(16, "come in hour 15", net.gotAt(1, 0), 15);
        net.post(0, 1);
        Edge.is(16, "posted in hour 16", net.gotAt(1, 1), 16);
        net.pass(7);
        net.post(0, 0);
        net.pass(1);
        net.post(0, 0);
        Edge.is(16, "posted in hour 23", net.gotAt(0, 2), 23);
        Edge.is(16, "posted in hour 24, not 0", net.gotAt(0, 3), 24);
        net.pass(16);
        Edge.is(16, "come in hour 39, not 15", net.gotAt(1, 2), 39);
        Edge.is(16, "the other way in that hour", net.gotAt(0, 1), 39);
        Nets.passTo(net, 9999);
        net.post(0, 0);
        net.pass(1);
        net.post(0, 1);
        Edge.is(16, "posted in the last hour but one", net.gotAt(0, 4), 9999);
        Edge.is(16, "come in the last hour that passes", net.gotAt(1, 4), 9999);
        Edge.is(16, "posted at the end of the clock", net.gotAt(1, 5), 10000);
        Edge.is(16, "it never comes", net.gotAt(0, 5), NONE);
    }

    private static void promise16WithoutTheMessage() {
        BulletinNet net = Nets.pair(3);
        net.post(0, 0);
        Edge.is(16, "a node in the set without it", net.gotAt(1, 0), NONE);
        net.pass(3);
        Edge.is(16, "before the call", net.gotAt(1, 0), NONE);
        net.pass(1);
        Edge.is(16, "behind the call", net.gotAt(1, 0), 3);
        net.addNode(1, 1, 2, 0, 0);
        Edge.is(16, "a node that came later", net.gotAt(2, 0), NONE);
    }

    private static void promise17NodesAndMessagesFrom0ToTheLast() {
        nodesAndMessagesFrom0ToTheLast(17, 1, 0);
    }

    private static void promise17FromTheEmptySetToTheFullOne() {
        BulletinNet net = Nets.loose(12);
        for (int node = 0; node < 11; node++) {
            net.carry(net.link(node, node + 1, 11 - node), 0, true);
        }
        for (int node = 0; node < 12; node++) {
            Edge.is(17, "of another area", net.seenBy(node, net.post(1, node)), 1 << node);
        }
        int message = net.post(0, 0);
        for (int node = 1; node < 12; node++) {
            Edge.is(17, "before it comes", net.seenBy(node, message), 0);
            net.pass(node == 1 ? 12 : 24);
            Edge.is(17, "all that are ahead and one more", net.seenBy(node, message),
                    (1 << Math.min(node + 2, 12)) - 1);
        }
        Edge.is(17, "at the first as it was", net.seenBy(0, message), 3);
    }

    private static void promise18NodesMessagesAndPlacesFrom0() {
        nodesAndMessagesFrom0ToTheLast(18, '1', ' ');
        Supplier<BulletinNet> maker = () -> {
            BulletinNet net = Nets.wheel();
            net.post(0, 0);
            return net;
        };
        String due = "1/0 1 2 3 4 5 6 7 8 9 10 11";
        for (int place = 0; place < due.length(); place++) {
            Edge.is(18, "place " + place, maker.get().seenAt(0, 0, place), due.charAt(place));
        }
        for (int place : new int[] {27, 28, 255, 256, 65535, 65536, 65537, Integer.MAX_VALUE}) {
            Edge.is(18, "a space at place " + place, maker.get().seenAt(0, 0, place), ' ');
        }
        for (int place : new int[] {-1, -2, -256, -65536, Integer.MIN_VALUE}) {
            Edge.refused(18, "place " + place, Nets.INDEX, maker, x -> x.seenAt(0, 0, place));
            Edge.refused(18, "place " + place + " without it", Nets.INDEX, maker,
                    x -> x.seenAt(1, 0, place));
            Edge.refused(18, "place " + place + " of no node", Nets.INDEX, maker,
                    x -> x.seenAt(12, 0, place));
            Edge.refused(18, "place " + place + " of no message", Nets.INDEX, maker,
                    x -> x.seenAt(0, 1, place));
        }
    }

    /** What node 0 has seen of a message that it posts, with all these nodes as targets. */
    private static void isWritten(String what, String due, int[][] addresses) {
        BulletinNet net = new BulletinNet();
        for (int node = 0; node < addresses.length; node++) {
            int[] address = addresses[node];
            net.addNode(address[0], address[1], address[2], node == 0 ? NONE : 0, 0);
            if (node > 0) {
                net.carry(node - 1, 2, true);
            }
        }
        net.post(2, 0);
        for (int place = 0; place < due.length(); place++) {
            Edge.is(18, what + " at " + place, net.seenAt(0, 0, place), due.charAt(place));
        }
        Edge.is(18, what + ", the space behind", net.seenAt(0, 0, due.length()), ' ');
        Edge.is(18, what + ", the space behind that", net.seenAt(0, 0, due.length() + 1), ' ');
        Edge.is(18, what + ", far behind", net.seenAt(0, 0, 100), ' ');
    }

    private static void promise18TheShortestAndTheLongest() {
        isWritten("the smallest numbers", "1/0", new int[][] {{1, 1, 0}});
        isWritten("the largest numbers", "99/99", new int[][] {{9, 99, 99}});
        isWritten("both", "1/0 99/99", new int[][] {{9, 99, 99}, {1, 1, 0}});
        int[][] longest = new int[12][];
        int[][] oneNet = new int[12][];
        StringBuilder due = new StringBuilder();
        StringBuilder dueOfOneNet = new StringBuilder("99/");
        for (int node = 0; node < 12; node++) {
            longest[node] = new int[] {1, 99 - node, 99 - node};
            oneNet[node] = new int[] {1, 99, 99 - node};
            due.append(88 + node).append('/').append(88 + node).append(' ');
            dueOfOneNet.append(88 + node).append(' ');
        }
        isWritten("twelve of twelve nets", due.toString().strip(), longest);
        isWritten("twelve of one net", dueOfOneNet.toString().strip(), oneNet);
        Edge.is(18, "the longest has this many characters", due.toString().strip().length(), 71);
    }

    private static void promise18NetsAndNodeNumbersRise() {
        isWritten("nets as numbers, not as texts", "2/10 9/1 10/2 11/0",
                new int[][] {{1, 10, 2}, {1, 9, 1}, {1, 11, 0}, {1, 2, 10}});
        isWritten("node numbers as numbers", "5/2 9 10 11 20",
                new int[][] {{1, 5, 11}, {1, 5, 9}, {1, 5, 20}, {1, 5, 10}, {1, 5, 2}});
        isWritten("the net first", "1/99 2/0", new int[][] {{1, 2, 0}, {1, 1, 99}});
        isWritten("the net again behind another", "1/5 6 2/5 6 3/5",
                new int[][] {{1, 3, 5}, {1, 1, 6}, {1, 2, 6}, {1, 2, 5}, {1, 1, 5}});
    }

    private static void promise18SeveralZones() {
        isWritten("both the same in two zones", "1/0 0", new int[][] {{1, 1, 0}, {2, 1, 0}});
        isWritten("the higher zone first", "1/0 0", new int[][] {{9, 1, 0}, {1, 1, 0}});
        isWritten("the net alone the same", "1/0 1", new int[][] {{1, 1, 1}, {2, 1, 0}});
        isWritten("the node number alone the same", "1/7 2/7", new int[][] {{1, 2, 7}, {2, 1, 7}});
        isWritten("all nine zones", "4/4 4 4 4 4 4 4 4 4", new int[][] {{1, 4, 4}, {2, 4, 4}, {3, 4, 4},
            {4, 4, 4}, {5, 4, 4}, {6, 4, 4}, {7, 4, 4}, {8, 4, 4}, {9, 4, 4}});
        isWritten("among others", "3/9 10 10 11 12/9", new int[][] {{5, 3, 10}, {1, 12, 9}, {1, 3, 11},
            {7, 3, 9}, {2, 3, 10}});
    }

    private static void promise18WithoutTheMessage() {
        BulletinNet net = Nets.pair(0);
        net.post(0, 0);
        for (int place : new int[] {0, 1, 2, 70, 71, Integer.MAX_VALUE}) {
            Edge.is(18, "a space without it at " + place, net.seenAt(1, 0, place), ' ');
        }
        net.pass(1);
        Edge.is(18, "when it has come", net.seenAt(1, 0, 0), '1');
    }

    private static void promise19NodesFrom0ToTheLast() {
        for (int nodes = 1; nodes <= 12; nodes++) {
            int made = nodes;
            Edge.is(19, "none at the first", Nets.loose(nodes).doubles(0), 0);
            Edge.is(19, "none at the last", Nets.loose(nodes).doubles(nodes - 1), 0);
            Edge.refused(19, "the node behind", Nets.INDEX, () -> Nets.loose(made), x -> x.doubles(made));
        }
        for (int node : Edge.beyond(0, 11)) {
            Edge.refused(19, "node " + node, Nets.INDEX, Nets::full, x -> x.doubles(node));
        }
        Edge.refused(19, "without nodes", Nets.INDEX, BulletinNet::new, x -> x.doubles(0));
    }

    /** Node 0 tells 1 and 2, which both tell 3; behind 3 stands 4, which is to be told once. */
    private static void promise19ADoubleAndNothingElse() {
        BulletinNet net = Nets.loose(6);
        int[][] links = {{0, 1}, {0, 2}, {1, 3}, {2, 3}, {3, 4}, {3, 5}};
        for (int link = 0; link < 6; link++) {
            net.link(links[link][0], links[link][1], link);
            net.carry(link, 0, link < 5);
        }
        net.post(0, 0);
        net.pass(3);
        Edge.is(16, "come by the first way", net.gotAt(3, 0), 2);
        Edge.is(17, "its set", net.seenBy(3, 0), 0b11111);
        Edge.is(19, "no double yet", net.doubles(3), 0);
        net.carry(5, 0, true);
        net.pass(1);
        Edge.is(19, "a double by the second way", net.doubles(3), 1);
        Edge.is(16, "the hour as it was", net.gotAt(3, 0), 2);
        Edge.is(17, "the set as it was", net.seenBy(3, 0), 0b11111);
        Edge.is(19, "no second copy", net.bundle(4, true), 1);
        Edge.is(19, "none for a target that is new", net.bundle(5, true), 0);
        Edge.is(19, "none back", net.bundle(3, false), 0);
        net.pass(44);
        for (int node = 0; node < 6; node++) {
            Edge.is(19, "doubles of " + node, net.doubles(node), node == 3 ? 1 : 0);
        }
        net.post(0, 0);
        net.pass(48);
        Edge.is(19, "a second message, a second double", net.doubles(3), 2);
    }

    /** The copy that comes second knows a node that the first one does not: nothing of it is kept. */
    private static void promise19ADoubleWithAnotherSet() {
        BulletinNet net = Nets.loose(6);
        int[][] links = {{0, 1}, {0, 2}, {1, 3}, {3, 2}, {2, 4}, {3, 4}, {3, 5}};
        for (int link = 0; link < 7; link++) {
            net.link(links[link][0], links[link][1], link);
            net.carry(link, 0, link < 5);
        }
        net.post(0, 0);
        net.pass(3);
        Edge.is(17, "the set of the one that came first", net.seenBy(3, 0), 0b01111);
        Edge.is(17, "the set that the second one brings", net.seenBy(2, 0), 0b11111);
        net.carry(5, 0, true);
        net.carry(6, 0, true);
        net.pass(1);
        Edge.is(19, "the second one is a double", net.doubles(3), 1);
        Edge.is(17, "its set is not kept", net.seenBy(3, 0), 0b01111);
        Edge.is(18, "nor written", Nets.seenText(net, 3, 0), "1/0 1 2 3");
        Edge.is(16, "nor its hour", net.gotAt(3, 0), 2);
        Edge.is(19, "it goes on to none of the new links", net.bundle(5, true) + net.bundle(6, true), 0);
        Edge.is(19, "the sender has no double", net.doubles(2), 0);
        Edge.is(17, "the sender's set as it was", net.seenBy(2, 0), 0b11111);
    }

    private static void promise19WhatIsNoDouble() {
        BulletinNet net = Nets.pair(0);
        net.post(0, 0);
        net.post(0, 0);
        net.post(0, 1);
        net.mail(0, 1);
        net.mail(0, 1);
        net.pass(240);
        Edge.is(19, "of two messages and mails", net.doubles(1), 0);
        Edge.is(19, "of one's own messages", net.doubles(0), 0);
    }
}
