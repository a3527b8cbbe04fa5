/** Promises 14 and 16 to 19: post, gotAt, seenBy, seenAt, doubles. */
public final class MessagesTest {
    private static final int NONE = BulletinNet.NONE;

    public static void main(String[] args) {
        messagesAreNumbered();
        theExceptionsOfPost();
        postingFillsBundlesForTargets();
        onlyLinksThatCarryTheArea();
        severalLinksToOneTarget();
        notBackOverTheLinkItCameOver();
        theSetTravels();
        aRingGivesDoubles();
        aMessageThatComesIsTossedByTheLinksOfThen();
        theHourOfGetting();
        theWrittenSet();
        theWrittenSetOverZones();
        nodesThatComeLater();
        thingsThatAreNotThere();
        Check.end("MessagesTest");
    }

    private static void messagesAreNumbered() {
        BulletinNet net = Nets.loose(2);
        for (int message = 0; message < 30; message++) {
            Check.is("post", net.post(message % 3, message % 2), message);
        }
        Check.fails("a message too many", Nets.STATE, () -> net.post(0, 0));
        Check.fails("first no such area", Nets.INDEX, () -> net.post(3, 0));
        Check.fails("first no such node", Nets.INDEX, () -> net.post(0, 2));
        Check.is("mails count for themselves", net.mail(0, 1), 0);
    }

    private static void theExceptionsOfPost() {
        BulletinNet net = Nets.loose(2);
        for (int number : new int[] {-1, 3, 12, 32, Integer.MIN_VALUE, Integer.MAX_VALUE}) {
            Check.fails("post in " + number, Nets.INDEX, () -> net.post(number, 0));
            Check.fails("post at " + number, Nets.INDEX, () -> net.post(0, number));
        }
        Check.fails("post at 2", Nets.INDEX, () -> net.post(0, 2));
        Check.is("post", net.post(2, 1), 0);
    }

    /** A star of four links round node 0; the links 0 and 2 lead from it, 1 and 3 to it. */
    private static BulletinNet star() {
        BulletinNet net = Nets.loose(5);
        net.link(0, 1, 1);
        net.link(2, 0, 2);
        net.link(0, 3, 3);
        net.link(4, 0, 4);
        for (int link = 0; link < 4; link++) {
            net.carry(link, 1, true);
        }
        return net;
    }

    private static void postingFillsBundlesForTargets() {
        BulletinNet net = star();
        net.post(1, 0);
        Check.is("the set with all targets", net.seenBy(0, 0), 31);
        Check.is("to 1", net.bundle(0, true), 1);
        Check.is("to 2", net.bundle(1, false), 1);
        Check.is("to 3", net.bundle(2, true), 1);
        Check.is("to 4", net.bundle(3, false), 1);
        Check.is("not to 0", net.bundle(0, false) + net.bundle(1, true), 0);
        net.post(1, 3);
        Check.is("the set of a leaf", net.seenBy(3, 1), 9);
        Check.is("the leaf's bundle", net.bundle(2, false), 1);
    }

    private static void onlyLinksThatCarryTheArea() {
        BulletinNet net = star();
        net.post(0, 0);
        Check.is("an area that none carries", net.seenBy(0, 0), 1);
        net.carry(2, 0, true);
        net.setDown(2, true);
        net.post(0, 0);
        Check.is("one that a link carries that is down", net.seenBy(0, 1), 9);
        Check.is("its bundle", net.bundle(2, true), 1);
        net.post(2, 0);
        Check.is("the third area", net.seenBy(0, 2), 1);
    }

    private static void severalLinksToOneTarget() {
        BulletinNet net = Nets.loose(2);
        net.link(0, 1, 0);
        net.link(1, 0, 1);
        net.link(0, 1, 2);
        net.carry(1, 0, true);
        net.carry(2, 0, true);
        net.post(0, 0);
        Check.is("not over the one that does not carry it", net.bundle(0, true), 0);
        Check.is("over the lowest that does", net.bundle(1, false), 1);
        Check.is("over that alone", net.bundle(2, true), 0);
        Check.is("the set", net.seenBy(0, 0), 3);
    }

    private static void notBackOverTheLinkItCameOver() {
        BulletinNet net = Nets.loose(3);
        net.link(0, 1, 0);
        net.link(1, 2, 1);
        net.link(0, 1, 5);
        for (int link = 0; link < 3; link++) {
            net.carry(link, 0, true);
        }
        net.post(0, 0);
        net.pass(1);
        Check.is("not back", net.bundle(0, false), 0);
        Check.is("not back by another link", net.bundle(2, false), 0);
        Check.is("on", net.bundle(1, true), 1);
        Check.is("the set at 1", net.seenBy(1, 0), 7);
        net.pass(1);
        Check.is("the set at 2", net.seenBy(2, 0), 7);
        Check.is("nothing more", net.bundle(1, false), 0);
        Check.is("the set at 0 as it was", net.seenBy(0, 0), 3);
    }

    /** In a line of nodes each one knows those behind it and the one ahead. */
    private static void theSetTravels() {
        BulletinNet net = Nets.loose(12);
        for (int node = 0; node < 11; node++) {
            net.link(node, node + 1, node);
            net.carry(node, 2, true);
        }
        net.post(2, 0);
        Check.is("all calls of the day", net.pass(24), 11);
        for (int node = 0; node < 12; node++) {
            Check.is("got in the hour ahead", net.gotAt(node, 0), Math.max(0, node - 1));
            Check.is("seen by", net.seenBy(node, 0), (1 << Math.min(12, node + 2)) - 1);
            Check.is("doubles", net.doubles(node), 0);
        }
        net.post(2, 11);
        net.pass(24);
        Check.is("a day a link upward", net.seenBy(10, 1), 0b111000000000);
        Check.is("not yet two", net.seenBy(9, 1), 0);
    }

    /** Four nodes in a ring: the one opposite gets the message from both sides. */
    private static void aRingGivesDoubles() {
        BulletinNet net = Nets.loose(4);
        net.link(0, 1, 0);
        net.link(1, 2, 1);
        net.link(0, 3, 2);
        net.link(3, 2, 3);
        for (int link = 0; link < 4; link++) {
            net.carry(link, 0, true);
        }
        net.post(0, 0);
        net.pass(2);
        Check.is("2 has it from 1", net.seenBy(2, 0), 0b1111);
        Check.is("3 is in the set, it does not go on", net.bundle(3, false), 0);
        net.pass(1);
        Check.is("3 has it from 0", net.seenBy(3, 0), 0b1111);
        Check.is("the set of 1", net.seenBy(1, 0), 0b1111);
        Check.is("3 has one for 2", net.bundle(3, true), 1);
        net.pass(1);
        Check.is("doubles of 2", net.doubles(2), 1);
        Check.is("doubles of 3", net.doubles(3), 0);
        Check.is("doubles of 0", net.doubles(0), 0);
        Check.is("the set of 2 as it was", net.seenBy(2, 0), 0b1111);
        Check.is("the hour of 2 as it was", net.gotAt(2, 0), 1);
        Check.is("nothing is left", net.bundle(3, true) + net.bundle(3, false), 0);
    }

    private static void aMessageThatComesIsTossedByTheLinksOfThen() {
        BulletinNet net = Nets.loose(3);
        net.link(0, 1, 0);
        net.link(1, 2, 1);
        net.carry(0, 0, true);
        net.post(0, 0);
        net.carry(1, 0, true);
        net.link(0, 2, 9);
        net.carry(2, 0, true);
        net.pass(1);
        Check.is("carried since it was posted", net.seenBy(1, 0), 7);
        Check.is("the first node does not toss again", net.seenBy(0, 0), 3);
        net.pass(1);
        Check.is("got by 2", net.gotAt(2, 0), 1);
        Check.is("not sent to 0, which has seen it", net.bundle(2, false), 0);
    }

    private static void theHourOfGetting() {
        BulletinNet net = Nets.pair(7);
        net.pass(30);
        net.post(0, 0);
        Check.is("got where it was posted", net.gotAt(0, 0), 30);
        Check.is("not yet elsewhere", net.gotAt(1, 0), NONE);
        net.pass(1);
        Check.is("not in that hour", net.gotAt(1, 0), NONE);
        net.pass(1);
        Check.is("the hour of the clock", net.gotAt(1, 0), 31);
        net.pass(24);
        Check.is("it stays", net.gotAt(1, 0), 31);
        Check.is("also at the first", net.gotAt(0, 0), 30);
    }

    /** Links from the first node to all others, all of which carry area 0. */
    private static void joinAll(BulletinNet net) {
        for (int node = 1; node < net.nodes(); node++) {
            net.carry(net.link(0, node, 0), 0, true);
        }
    }

    private static void theWrittenSet() {
        BulletinNet net = new BulletinNet();
        int[][] addresses = {{40, 2}, {9, 99}, {40, 0}, {9, 5}, {30, 11}, {30, 4}, {1, 1}};
        for (int[] address : addresses) {
            net.addNode(1, address[0], address[1], NONE, 0);
        }
        joinAll(net);
        net.post(0, 0);
        String due = "1/1 9/5 99 30/4 11 40/0 2";
        Check.is("written", Nets.seenText(net, 0, 0), due);
        for (int place = 0; place < due.length(); place++) {
            Check.is("the character at " + place, net.seenAt(0, 0, place), due.charAt(place));
        }
        for (int place : new int[] {due.length(), due.length() + 1, 100, Integer.MAX_VALUE}) {
            Check.is("a space at " + place, net.seenAt(0, 0, place), ' ');
        }
        for (int place : new int[] {0, 1, 50, Integer.MAX_VALUE}) {
            Check.is("a space without the message", net.seenAt(1, 0, place), ' ');
        }
        for (int place : new int[] {-1, Integer.MIN_VALUE}) {
            Check.fails("the place " + place, Nets.INDEX, () -> net.seenAt(0, 0, place));
            Check.fails("the place without it", Nets.INDEX, () -> net.seenAt(1, 0, place));
        }
        net.post(1, 3);
        Check.is("one alone", Nets.seenText(net, 3, 1), "9/5");
        net.post(0, 4);
        Check.is("two", Nets.seenText(net, 4, 2), "30/11 40/2");
    }

    private static void theWrittenSetOverZones() {
        BulletinNet net = new BulletinNet();
        int[][] addresses = {{3, 7, 7}, {1, 7, 8}, {2, 7, 7}, {9, 7, 6}, {1, 7, 7}, {4, 8, 7}, {2, 8, 7}};
        for (int[] address : addresses) {
            net.addNode(address[0], address[1], address[2], NONE, 0);
        }
        joinAll(net);
        net.post(0, 0);
        Check.is("once for each node", Nets.seenText(net, 0, 0), "7/6 7 7 7 8 8/7 7");
        net.post(0, 2);
        Check.is("twice the same", Nets.seenText(net, 2, 1), "7/7 7");
        net.post(0, 6);
        Check.is("the same node number alone", Nets.seenText(net, 6, 2), "7/7 8/7");
        BulletinNet same = new BulletinNet();
        for (int node = 0; node < 12; node++) {
            same.addNode(1 + node % 9, 50 + node / 9, 3, NONE, 0);
        }
        joinAll(same);
        same.post(2, 9);
        Check.is("no link that carries it", Nets.seenText(same, 9, 0), "51/3");
        same.post(0, 0);
        Check.is("all zones", Nets.seenText(same, 0, 1), "50/3 3 3 3 3 3 3 3 3 51/3 3 3");
        BulletinNet full = new BulletinNet();
        for (int node = 0; node < 12; node++) {
            full.addNode(1, 99 - node, 99, NONE, 0);
        }
        joinAll(full);
        full.post(0, 0);
        Check.is("the longest", Nets.seenText(full, 0, 0),
                "88/99 89/99 90/99 91/99 92/99 93/99 94/99 95/99 96/99 97/99 98/99 99/99");
        Check.is("its last character", full.seenAt(0, 0, 70), '9');
        Check.is("the one behind", full.seenAt(0, 0, 71), ' ');
    }

    private static void nodesThatComeLater() {
        BulletinNet net = Nets.loose(1);
        net.post(0, 0);
        net.addNode(1, 1, 1, 0, 0);
        Check.is("gotAt of a later node", net.gotAt(1, 0), NONE);
        Check.is("seenBy of a later node", net.seenBy(1, 0), 0);
        Check.is("seenAt of a later node", net.seenAt(1, 0, 0), ' ');
        Check.is("doubles of a later node", net.doubles(1), 0);
    }

    private static void thingsThatAreNotThere() {
        BulletinNet net = Nets.loose(2);
        net.post(0, 0);
        for (int number : new int[] {-1, 2, 12, 30, Integer.MIN_VALUE, Integer.MAX_VALUE}) {
            Check.fails("gotAt node " + number, Nets.INDEX, () -> net.gotAt(number, 0));
            Check.fails("gotAt message " + number, Nets.INDEX, () -> net.gotAt(0, number));
            Check.fails("seenBy node " + number, Nets.INDEX, () -> net.seenBy(number, 0));
            Check.fails("seenBy message " + number, Nets.INDEX, () -> net.seenBy(0, number));
            Check.fails("seenAt node " + number, Nets.INDEX, () -> net.seenAt(number, 0, 0));
            Check.fails("seenAt message " + number, Nets.INDEX, () -> net.seenAt(0, number, 0));
            Check.fails("doubles of " + number, Nets.INDEX, () -> net.doubles(number));
        }
        Check.fails("the message 1", Nets.INDEX, () -> net.gotAt(0, 1));
        Check.fails("the set of message 1", Nets.INDEX, () -> net.seenBy(0, 1));
        Check.fails("the text of message 1", Nets.INDEX, () -> net.seenAt(0, 1, 0));
    }
}
