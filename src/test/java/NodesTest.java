/** Promises 1 to 7: a new object, addNode, setHome, type, clearText, find, nodes. */
public final class NodesTest {
    private static final int NONE = BulletinNet.NONE;

    public static void main(String[] args) {
        aNewNetIsEmpty();
        nodesAreNumberedAndCounted();
        aHubGivesALink();
        addressesHaveRanges();
        hubAndHourAreLookedAt();
        addressesAndRoomRunOut();
        linksRunOutForNodesWithHubs();
        theFirstExceptionOfAddNode();
        theHomeNode();
        typing();
        clearing();
        wholeAddressesAreFound();
        missingPartsAreCompleted();
        textsThatAreNoAddress();
        addressesOutOfRangeAreNotFound();
        findingWithoutNodes();
        Check.end("NodesTest");
    }

    private static void aNewNetIsEmpty() {
        BulletinNet net = new BulletinNet();
        Check.is("nodes of a new net", net.nodes(), 0);
        Check.is("links of a new net", net.links(), 0);
        Check.is("clock of a new net", net.clock(), 0);
        Check.is("buffer of a new net", net.clearText(), 0);
        Check.fails("mailAt of a new net", Nets.INDEX, () -> net.mailAt(0));
        Check.is("NONE", BulletinNet.NONE, -1);
        BulletinNet other = new BulletinNet();
        other.addNode(1, 1, 1, NONE, 0);
        Nets.write(other, "1");
        Check.is("nodes of one net", net.nodes(), 0);
        Check.is("text of one net", net.clearText(), 0);
    }

    private static void nodesAreNumberedAndCounted() {
        BulletinNet net = new BulletinNet();
        for (int node = 0; node < 12; node++) {
            Check.is("addNode", net.addNode(3, 7, node, NONE, 0), node);
            Check.is("nodes", net.nodes(), node + 1);
        }
        Check.is("links without hubs", net.links(), 0);
    }

    private static void aHubGivesALink() {
        BulletinNet net = Nets.loose(1);
        Check.is("addNode with a hub", net.addNode(1, 2, 3, 0, 5), 1);
        Check.is("links", net.links(), 1);
        Check.is("the hub's link carries no area", net.reach(0, 0), 1);
        Check.is("carry", net.carry(0, 0, true), true);
        Check.is("reach", net.reach(0, 0), 3);
        net.post(0, 1);
        Check.is("the new node is the caller", net.bundle(0, true), 1);
        Check.is("the hub is the other one", net.bundle(0, false), 0);
        Check.is("pass to the hour", net.pass(5), 0);
        Check.is("pass the hour", net.pass(1), 1);
        Check.is("the new node pays", net.cost(1), 6);
        Check.is("the hub does not", net.cost(0), 0);
        Check.is("hour 0 with a hub", net.addNode(1, 2, 4, 1, 0), 2);
        Check.is("hour 23 with a hub", net.addNode(1, 2, 5, 2, 23), 3);
        Check.is("links of three hubs", net.links(), 3);
    }

    private static void addressesHaveRanges() {
        BulletinNet net = new BulletinNet();
        int[][] wrong = {{0, 1, 1}, {10, 1, 1}, {-1, 1, 1}, {1, 0, 1}, {1, 100, 1}, {1, -1, 1},
            {1, 1, -1}, {1, 1, 100}, {Integer.MIN_VALUE, 1, 1}, {1, Integer.MAX_VALUE, 1},
            {1, 1, Integer.MAX_VALUE}, {1, 1, Integer.MIN_VALUE}};
        for (int[] a : wrong) {
            Check.fails("addNode out of range", Nets.ARGUMENT,
                    () -> net.addNode(a[0], a[1], a[2], NONE, 0));
        }
        Check.is("the lowest address", net.addNode(1, 1, 0, NONE, 0), 0);
        Check.is("the highest address", net.addNode(9, 99, 99, NONE, 0), 1);
    }

    private static void hubAndHourAreLookedAt() {
        BulletinNet net = Nets.loose(2);
        for (int hub : new int[] {-2, 2, 3, 12, Integer.MIN_VALUE, Integer.MAX_VALUE}) {
            Check.fails("addNode with hub " + hub, Nets.INDEX, () -> net.addNode(1, 2, 1, hub, 0));
        }
        for (int hour : new int[] {-1, 24, Integer.MIN_VALUE, Integer.MAX_VALUE}) {
            Check.fails("addNode at hour " + hour, Nets.ARGUMENT, () -> net.addNode(1, 2, 1, 1, hour));
        }
        Check.is("hour -1 without a hub", net.addNode(1, 2, 1, NONE, -1), 2);
        Check.is("hour 24 without a hub", net.addNode(1, 2, 2, NONE, 24), 3);
        Check.is("links", net.links(), 0);
    }

    private static void addressesAndRoomRunOut() {
        BulletinNet net = Nets.loose(11);
        Check.fails("the same address", Nets.STATE, () -> net.addNode(1, 1, 4, NONE, 0));
        Check.fails("the same address with a hub", Nets.STATE, () -> net.addNode(1, 1, 4, 3, 0));
        Check.is("another zone alone", net.addNode(2, 1, 4, NONE, 0), 11);
        Check.fails("a node too many", Nets.STATE, () -> net.addNode(3, 1, 4, NONE, 0));
        Check.fails("a node with a hub too many", Nets.STATE, () -> net.addNode(3, 1, 4, 0, 0));
        BulletinNet small = Nets.loose(1);
        Check.is("another net alone", small.addNode(1, 2, 0, NONE, 0), 1);
        Check.is("another node number alone", small.addNode(1, 1, 1, NONE, 0), 2);
    }

    private static void linksRunOutForNodesWithHubs() {
        BulletinNet net = Nets.loose(2);
        for (int link = 0; link < 19; link++) {
            net.link(0, 1, 0);
        }
        Check.is("the last link", net.addNode(2, 2, 2, 1, 0), 2);
        Check.is("links", net.links(), 20);
        Check.fails("a hub without a link left", Nets.STATE, () -> net.addNode(2, 2, 3, 0, 0));
        Check.is("no hub, no link", net.addNode(2, 2, 3, NONE, 0), 3);
        Check.is("links as before", net.links(), 20);
    }

    private static void theFirstExceptionOfAddNode() {
        BulletinNet net = Nets.loose(12);
        Check.fails("hub before zone", Nets.INDEX, () -> net.addNode(0, 1, 1, 12, 0));
        Check.fails("hub before hour", Nets.INDEX, () -> net.addNode(1, 1, 1, -2, 99));
        Check.fails("hub before room", Nets.INDEX, () -> net.addNode(1, 1, 1, 12, 0));
        Check.fails("zone before room", Nets.ARGUMENT, () -> net.addNode(10, 1, 1, NONE, 0));
        Check.fails("hour before room", Nets.ARGUMENT, () -> net.addNode(1, 1, 1, 0, 24));
        Check.fails("room", Nets.STATE, () -> net.addNode(1, 1, 1, 0, 23));
    }

    private static void theHomeNode() {
        BulletinNet net = new BulletinNet();
        Check.fails("setHome without nodes", Nets.INDEX, () -> net.setHome(0));
        net.addNode(1, 1, 1, NONE, 0);
        net.addNode(2, 3, 4, NONE, 0);
        Check.is("the first home", net.setHome(1), 0);
        for (int node : new int[] {-1, 2, Integer.MIN_VALUE, Integer.MAX_VALUE}) {
            Check.fails("setHome " + node, Nets.INDEX, () -> net.setHome(node));
        }
        Check.is("the home again", net.setHome(1), 1);
        Check.is("the home before", net.setHome(0), 1);
        Check.is("the home before that", net.setHome(0), 0);
    }

    private static void typing() {
        BulletinNet net = new BulletinNet();
        String good = "0123456789:/";
        for (char character : ".;-+x aA\n\0\u0130\uff11".toCharArray()) {
            Check.fails("type of " + (int) character, Nets.ARGUMENT, () -> net.type(character));
        }
        Check.is("nothing was typed", net.clearText(), 0);
        for (int i = 0; i < 10; i++) {
            Check.is("type", net.type(good.charAt(i)), i + 1);
        }
        Check.fails("an eleventh character", Nets.STATE, () -> net.type('1'));
        Check.fails("an eleventh colon", Nets.STATE, () -> net.type(':'));
        Check.fails("another character first", Nets.ARGUMENT, () -> net.type('x'));
        Check.is("what was typed", net.clearText(), 10);
        Check.is("a colon", net.type(':'), 1);
        Check.is("a slash", net.type('/'), 2);
    }

    private static void clearing() {
        BulletinNet net = Nets.loose(3);
        Nets.write(net, "2");
        Check.is("find", net.find(), 2);
        Check.is("find leaves the text", net.find(), 2);
        net.addNode(4, 4, 2, NONE, 0);
        net.setHome(3);
        net.link(0, 1, 0);
        net.pass(30);
        Check.is("only type changes it", net.find(), 3);
        Check.is("clearText", net.clearText(), 1);
        Check.is("clearText of nothing", net.clearText(), 0);
        Check.is("type behind nothing", net.type('1'), 1);
        Check.is("find after clearing", net.find(), NONE);
    }

    private static BulletinNet addresses() {
        BulletinNet net = new BulletinNet();
        net.addNode(2, 30, 4, NONE, 0);
        net.addNode(2, 30, 40, NONE, 0);
        net.addNode(2, 31, 4, NONE, 0);
        net.addNode(3, 30, 4, NONE, 0);
        net.addNode(3, 5, 0, NONE, 0);
        net.addNode(9, 99, 99, NONE, 0);
        return net;
    }

    private static void isFound(BulletinNet net, String text, int due) {
        Nets.write(net, text);
        Check.is("find of " + text, net.find(), due);
    }

    private static void isNoAddress(BulletinNet net, String text) {
        Nets.write(net, text);
        Check.fails("find of '" + text + "'", Nets.STATE, () -> net.find());
    }

    private static void wholeAddressesAreFound() {
        BulletinNet net = addresses();
        String[] texts = {"2:30/4", "2:30/40", "2:31/4", "3:30/4", "3:5/0", "9:99/99"};
        for (int home = 0; home < 6; home++) {
            net.setHome(home);
            for (int node = 0; node < texts.length; node++) {
                isFound(net, texts[node], node);
            }
        }
        isFound(net, "02:30/04", 0);
        isFound(net, "03:05/00", 4);
        isFound(net, "3:05/0", 4);
        isFound(net, "09:99/99", 5);
        isFound(net, "2:30/5", NONE);
        isFound(net, "4:30/4", NONE);
        isFound(net, "2:3/4", NONE);
        isFound(net, "2:30/41", NONE);
    }

    private static void missingPartsAreCompleted() {
        BulletinNet net = addresses();
        isFound(net, "30/4", 0);
        isFound(net, "4", 0);
        isFound(net, "04", 0);
        isFound(net, "40", 1);
        isFound(net, "31/04", 2);
        isFound(net, "0", NONE);
        isFound(net, "5/0", NONE);
        net.setHome(2);
        isFound(net, "4", 2);
        isFound(net, "40", NONE);
        isFound(net, "30/40", 1);
        net.setHome(4);
        isFound(net, "4", NONE);
        isFound(net, "0", 4);
        isFound(net, "00", 4);
        isFound(net, "30/4", 3);
        isFound(net, "05/0", 4);
        isFound(net, "31/4", NONE);
    }

    private static void textsThatAreNoAddress() {
        BulletinNet net = addresses();
        String[] texts = {"", ":", "/", "2:", "2:30", "2:30/", ":30/4", "2:/4", "30/", "/4", ":4",
            "2:4", "30:4/2:1", "2/30/4", "2:30:4", "2/30:4", "2/30:", "004", "030/4", "30/004",
            "002:30/4", "2:030/4", "2:30/004", "100", "2::30/4", "2:30//4", "30//4", "2:30/4:",
            "2:30/4/", "/30/4", "1234567890", "::::::::::", "//////////", "2:30/4/1", "2:30/4:1"};
        for (String text : texts) {
            isNoAddress(net, text);
        }
    }

    private static void addressesOutOfRangeAreNotFound() {
        BulletinNet net = addresses();
        isFound(net, "0:30/4", NONE);
        isFound(net, "10:30/4", NONE);
        isFound(net, "32:30/4", NONE);
        isFound(net, "00:00/00", NONE);
        isFound(net, "99:99/99", NONE);
        isFound(net, "0/4", NONE);
        isFound(net, "2:0/4", NONE);
    }

    private static void findingWithoutNodes() {
        BulletinNet net = new BulletinNet();
        isNoAddress(net, "");
        isNoAddress(net, "4");
        isNoAddress(net, "30/4");
        isNoAddress(net, "2:30");
        isFound(net, "2:30/4", NONE);
        net.addNode(2, 30, 4, NONE, 0);
        isFound(net, "2:30/4", 0);
        isFound(net, "4", 0);
    }
}
