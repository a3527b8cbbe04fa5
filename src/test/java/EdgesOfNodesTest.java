import java.util.function.Consumer;
import java.util.function.Supplier;

/** The boundary cases of promises 1 to 7, and of the words on nodes and addresses they rest on. */
public final class EdgesOfNodesTest {
    private static final int NONE = BulletinNet.NONE;

    public static void main(String[] args) {
        promise1ANewNetHasNothing();
        promise1TheBufferOfANewNetIsEmpty();
        promise1EachNetIsForItself();
        promise2TwelveNodesFrom0();
        promise2ZonesFrom1To9();
        promise2NetsFrom1To99();
        promise2NodeNumbersFrom0To99();
        promise2HubsThatWereEnteredBefore();
        promise2HoursFrom0To23();
        promise2HoursAreNotUsedWithoutAHub();
        promise2AnAddressIsTakenOnce();
        promise2TheTwentiethLink();
        promise2WhichExceptionComesFirst();
        promise3HomesFrom0ToTheLast();
        promise3TheHomeIs0AtFirst();
        promise4DigitsColonAndSlash();
        promise4TenCharacters();
        promise5FromNoneToTenCharacters();
        promise5OnlyTypeChangesTheText();
        promise6OneDigitOrTwo();
        promise6AZeroAhead();
        promise6TheSmallestAndTheLargestAddress();
        promise6PartsMissingFromTheLeft();
        promise6TextsThatAreNoAddress();
        promise6PartsMissingWithoutNodes();
        promise6ARefusedFindLeavesTheText();
        promise7FromNoneToTwelve();
        Check.end("EdgesOfNodesTest");
    }

    private static void promise1ANewNetHasNothing() {
        BulletinNet net = new BulletinNet();
        Edge.is(1, "nodes", net.nodes(), 0);
        Edge.is(1, "links", net.links(), 0);
        Edge.is(1, "clock", net.clock(), 0);
        notThere("setHome", x -> x.setHome(0));
        notThere("addNode with a hub", x -> x.addNode(1, 1, 1, 0, 0));
        notThere("link", x -> x.link(0, 0, 0));
        notThere("carry", x -> x.carry(0, 0, true));
        notThere("setDown", x -> x.setDown(0, true));
        notThere("bundle of the caller", x -> x.bundle(0, true));
        notThere("bundle of the other one", x -> x.bundle(0, false));
        notThere("calls", x -> x.calls(0));
        notThere("post", x -> x.post(0, 0));
        notThere("mail", x -> x.mail(0, 0));
        notThere("gotAt", x -> x.gotAt(0, 0));
        notThere("seenBy", x -> x.seenBy(0, 0));
        notThere("seenAt", x -> x.seenAt(0, 0, 0));
        notThere("doubles", x -> x.doubles(0));
        notThere("mailAt", x -> x.mailAt(0));
        notThere("isLost", x -> x.isLost(0));
        notThere("cost", x -> x.cost(0));
        notThere("reach", x -> x.reach(0, 0));
    }

    private static void notThere(String what, Consumer<BulletinNet> call) {
        Edge.refused(1, what + " of a new net", Nets.INDEX, BulletinNet::new, call);
    }

    private static void promise1TheBufferOfANewNetIsEmpty() {
        Edge.is(1, "clearText", new BulletinNet().clearText(), 0);
        Edge.is(1, "the first character", new BulletinNet().type('1'), 1);
        Edge.refused(1, "find", Nets.STATE, BulletinNet::new, x -> x.find());
    }

    private static void promise1EachNetIsForItself() {
        BulletinNet net = new BulletinNet();
        Nets.full();
        Edge.is(1, "a net beside a full one", Probe.of(net), Probe.of(new BulletinNet()));
    }

    private static void promise2TwelveNodesFrom0() {
        BulletinNet net = new BulletinNet();
        for (int node = 0; node < 12; node++) {
            Edge.is(2, "addNode", net.addNode(1, 1, node, NONE, 0), node);
        }
        Supplier<BulletinNet> full = () -> Nets.loose(12);
        Edge.refused(2, "a node too many", Nets.STATE, full, x -> x.addNode(1, 1, 12, NONE, 0));
        Edge.refused(2, "one with a hub too many", Nets.STATE, full, x -> x.addNode(1, 1, 12, 11, 0));
        Edge.refused(2, "in a full net", Nets.STATE, Nets::full, x -> x.addNode(1, 1, 12, NONE, 0));
        BulletinNet almost = Nets.loose(11);
        almost.addNode(1, 1, 11, 10, 0);
        Edge.is(2, "the last one with a hub", almost.nodes(), 12);
        Edge.is(2, "its bit", almost.reach(0, 11), 1 << 11);
        Edge.is(2, "the first one's bit", almost.reach(0, 0), 1);
        BulletinNet refused = Nets.loose(1);
        refuse(refused, x -> x.addNode(0, 1, 1, NONE, 0));
        Edge.is(2, "a refused node takes no number", refused.addNode(1, 1, 1, NONE, 0), 1);
    }

    private static void refuse(BulletinNet net, Consumer<BulletinNet> call) {
        try {
            call.accept(net);
            Edge.is(2, "answers of calls to be refused", 1, 0);
        } catch (RuntimeException e) {
            Edge.is(2, "throws itself", Check.thrown(e).startsWith("java"), true);
        }
    }

    private static void promise2ZonesFrom1To9() {
        BulletinNet net = new BulletinNet();
        for (int zone = 1; zone <= 9; zone++) {
            Edge.is(2, "zone " + zone, net.addNode(zone, 1, 1, NONE, 0), zone - 1);
        }
        for (int zone : Edge.beyond(1, 9)) {
            Edge.refused(2, "zone " + zone, Nets.ARGUMENT, () -> Nets.loose(2),
                    x -> x.addNode(zone, 2, 2, NONE, 0));
            Edge.refused(2, "zone " + zone + " with a hub", Nets.ARGUMENT, () -> Nets.loose(2),
                    x -> x.addNode(zone, 2, 2, 0, 0));
        }
    }

    private static void promise2NetsFrom1To99() {
        for (int from = 1; from <= 99; from += 12) {
            BulletinNet net = new BulletinNet();
            for (int number = from; number < from + 12 && number <= 99; number++) {
                Edge.is(2, "net " + number, net.addNode(1, number, 1, NONE, 0), number - from);
            }
        }
        for (int number : Edge.beyond(1, 99)) {
            Edge.refused(2, "net " + number, Nets.ARGUMENT, () -> Nets.loose(2),
                    x -> x.addNode(2, number, 2, NONE, 0));
        }
    }

    private static void promise2NodeNumbersFrom0To99() {
        for (int from = 0; from <= 99; from += 12) {
            BulletinNet net = new BulletinNet();
            for (int number = from; number < from + 12 && number <= 99; number++) {
                Edge.is(2, "node number " + number, net.addNode(1, 1, number, NONE, 0), number - from);
            }
        }
        for (int number : Edge.beyond(0, 99)) {
            Edge.refused(2, "node number " + number, Nets.ARGUMENT, () -> Nets.loose(2),
                    x -> x.addNode(2, 2, number, NONE, 0));
        }
    }

    private static void promise2HubsThatWereEnteredBefore() {
        for (int nodes = 1; nodes < 12; nodes++) {
            BulletinNet last = Nets.loose(nodes);
            Edge.is(2, "the last node as hub", last.addNode(2, 1, 1, nodes - 1, 0), nodes);
            last.carry(0, 0, true);
            Edge.is(2, "it is that hub", last.reach(0, nodes), 3 << (nodes - 1));
            BulletinNet first = Nets.loose(nodes);
            Edge.is(2, "the first node as hub", first.addNode(2, 1, 1, 0, 0), nodes);
            int itself = nodes;
            Edge.refused(2, "itself as hub", Nets.INDEX, () -> Nets.loose(itself),
                    x -> x.addNode(2, 1, 1, itself, 0));
        }
        Edge.is(2, "no hub", Nets.loose(2).addNode(2, 1, 1, NONE, 0), 2);
        for (int hub : Edge.beyond(NONE, 1)) {
            Edge.refused(2, "hub " + hub, Nets.INDEX, () -> Nets.loose(2), x -> x.addNode(2, 1, 1, hub, 0));
        }
        Edge.refused(2, "a hub without nodes", Nets.INDEX, BulletinNet::new, x -> x.addNode(1, 1, 1, 0, 0));
    }

    private static void promise2HoursFrom0To23() {
        for (int hour = 0; hour < 24; hour++) {
            BulletinNet net = Nets.loose(1);
            Edge.is(2, "hour " + hour, net.addNode(1, 1, 1, 0, hour), 1);
            Edge.is(2, "the link of hour " + hour, net.links(), 1);
            if (hour > 0) {
                Edge.is(2, "calls before hour " + hour, net.pass(hour), 0);
            }
            Edge.is(2, "calls in hour " + hour, net.pass(1), 1);
            Edge.is(2, "the new node is the caller", net.cost(1) > 0 && net.cost(0) == 0, true);
        }
        for (int hour : Edge.beyond(0, 23)) {
            Edge.refused(2, "hour " + hour, Nets.ARGUMENT, () -> Nets.loose(2),
                    x -> x.addNode(1, 2, 1, 0, hour));
        }
    }

    private static void promise2HoursAreNotUsedWithoutAHub() {
        BulletinNet net = new BulletinNet();
        int node = 0;
        for (int hour : Edge.beyond(0, 23)) {
            Edge.is(2, "hour " + hour + " without a hub", net.addNode(1, 1, node, NONE, hour), node);
            node++;
        }
        Edge.is(2, "links without a hub", net.links(), 0);
    }

    private static void promise2AnAddressIsTakenOnce() {
        Supplier<BulletinNet> maker = () -> {
            BulletinNet net = new BulletinNet();
            net.addNode(1, 1, 0, NONE, 0);
            net.addNode(5, 50, 50, NONE, 0);
            net.addNode(9, 99, 99, NONE, 0);
            return net;
        };
        Edge.refused(2, "the first one's address", Nets.STATE, maker, x -> x.addNode(1, 1, 0, NONE, 0));
        Edge.refused(2, "the middle one's address", Nets.STATE, maker, x -> x.addNode(5, 50, 50, 0, 0));
        Edge.refused(2, "the last one's address", Nets.STATE, maker, x -> x.addNode(9, 99, 99, 2, 23));
        BulletinNet net = maker.get();
        Edge.is(2, "another zone alone", net.addNode(6, 50, 50, NONE, 0), 3);
        Edge.is(2, "another net alone", net.addNode(5, 51, 50, NONE, 0), 4);
        Edge.is(2, "another node number alone", net.addNode(5, 50, 51, NONE, 0), 5);
        Edge.is(2, "net and node number changed round", net.addNode(5, 51, 51, NONE, 0), 6);
    }

    private static void promise2TheTwentiethLink() {
        BulletinNet net = Nets.linked(19);
        Edge.is(2, "with 19 links", net.addNode(2, 2, 2, 0, 0), 2);
        Edge.is(2, "it has the last one", net.links(), 20);
        Edge.refused(2, "a hub with 20 links", Nets.STATE, () -> Nets.linked(20),
                x -> x.addNode(2, 2, 2, 0, 0));
        BulletinNet full = Nets.linked(20);
        Edge.is(2, "no hub with 20 links", full.addNode(2, 2, 2, NONE, 0), 2);
        Edge.is(2, "it gets none", full.links(), 20);
    }

    private static void promise2WhichExceptionComesFirst() {
        Supplier<BulletinNet> few = () -> Nets.loose(2);
        Edge.refused(2, "hub before zone", Nets.INDEX, few, x -> x.addNode(0, 2, 2, 2, 0));
        Edge.refused(2, "hub before net", Nets.INDEX, few, x -> x.addNode(2, 100, 2, 2, 0));
        Edge.refused(2, "hub before node number", Nets.INDEX, few, x -> x.addNode(2, 2, -1, -2, 0));
        Edge.refused(2, "hub before hour", Nets.INDEX, few, x -> x.addNode(2, 2, 2, 2, 24));
        Edge.refused(2, "hub before address", Nets.INDEX, few, x -> x.addNode(1, 1, 0, -2, 0));
        Edge.refused(2, "hour before address", Nets.ARGUMENT, few, x -> x.addNode(1, 1, 0, 0, -1));
        Supplier<BulletinNet> nodes = () -> Nets.loose(12);
        Edge.refused(2, "hub before nodes", Nets.INDEX, nodes, x -> x.addNode(2, 2, 2, 12, 0));
        Edge.refused(2, "zone before nodes", Nets.ARGUMENT, nodes, x -> x.addNode(10, 2, 2, NONE, 0));
        Edge.refused(2, "net before nodes", Nets.ARGUMENT, nodes, x -> x.addNode(2, 0, 2, NONE, 0));
        Edge.refused(2, "node number before nodes", Nets.ARGUMENT, nodes, x -> x.addNode(2, 2, 100, 0, 0));
        Edge.refused(2, "hour before nodes", Nets.ARGUMENT, nodes, x -> x.addNode(2, 2, 2, 11, 24));
        Supplier<BulletinNet> links = () -> Nets.linked(20);
        Edge.refused(2, "hub before links", Nets.INDEX, links, x -> x.addNode(2, 2, 2, 2, 0));
        Edge.refused(2, "zone before links", Nets.ARGUMENT, links, x -> x.addNode(0, 2, 2, 0, 0));
        Edge.refused(2, "hour before links", Nets.ARGUMENT, links, x -> x.addNode(2, 2, 2, 0, -1));
    }

    private static void promise3HomesFrom0ToTheLast() {
        for (int nodes = 1; nodes <= 12; nodes++) {
            BulletinNet net = Nets.loose(nodes);
            int before = 0;
            for (int node = nodes - 1; node >= 0; node--) {
                Edge.is(3, "the home before", net.setHome(node), before);
                before = node;
            }
            int made = nodes;
            for (int node : Edge.beyond(0, nodes - 1)) {
                Edge.refused(3, "setHome " + node, Nets.INDEX, () -> homeAt(made), x -> x.setHome(node));
            }
        }
        Edge.refused(3, "setHome without nodes", Nets.INDEX, BulletinNet::new, x -> x.setHome(0));
        Edge.refused(3, "setHome in a full net", Nets.INDEX, Nets::full, x -> x.setHome(12));
    }

    /** The last node is home, and the buffer has its node number alone. */
    private static BulletinNet homeAt(int nodes) {
        BulletinNet net = Nets.loose(nodes);
        net.setHome(nodes - 1);
        Nets.write(net, String.valueOf(nodes - 1));
        return net;
    }

    private static void promise3TheHomeIs0AtFirst() {
        BulletinNet net = new BulletinNet();
        net.addNode(3, 4, 5, NONE, 0);
        net.addNode(6, 7, 5, NONE, 0);
        Nets.write(net, "5");
        Edge.is(3, "find by the first home", net.find(), 0);
        Edge.is(3, "the first home", net.setHome(1), 0);
        Edge.is(3, "find by the second", net.find(), 1);
        Edge.is(3, "the same home again", net.setHome(1), 1);
        Edge.is(3, "back", net.setHome(0), 1);
        Edge.is(3, "find by the first again", net.find(), 0);
    }

    private static void promise4DigitsColonAndSlash() {
        BulletinNet net = new BulletinNet();
        for (char character : "0123456789:/".toCharArray()) {
            Edge.is(4, "type " + character, net.type(character), 1);
            Edge.is(4, "clearText behind it", net.clearText(), 1);
        }
        for (int c = 0; c < 65536; c++) {
            // A new net for each 256, for one net answers 512 calls.
            net = c % 256 == 0 ? new BulletinNet() : net;
            if (c < '/' || c > ':') {
                Edge.is(4, "character " + c, thrownByType(net, (char) c), Nets.ARGUMENT.getName());
            }
            if (c % 256 == 255) {
                Edge.is(4, "the text behind what was refused", net.clearText(), 0);
            }
        }
        for (char character : new char[] {'.', ';', ' ', 'a', 0, 'x' + 256, '0' + 256, 65535}) {
            Edge.refused(4, "character " + (int) character, Nets.ARGUMENT, EdgesOfNodesTest::typed,
                    x -> x.type(character));
        }
    }

    private static String thrownByType(BulletinNet net, char character) {
        try {
            return "nothing, but answers " + net.type(character);
        } catch (RuntimeException e) {
            return Check.thrown(e);
        }
    }

    /** Three nodes, and the address of the last one in the buffer. */
    private static BulletinNet typed() {
        BulletinNet net = Nets.loose(3);
        Nets.write(net, "1:1/2");
        return net;
    }

    private static void promise4TenCharacters() {
        BulletinNet net = new BulletinNet();
        for (int length = 1; length <= 10; length++) {
            Edge.is(4, "type", net.type(length % 2 == 0 ? ':' : '7'), length);
        }
        for (char character : "0123456789:/".toCharArray()) {
            Edge.refused(4, "an eleventh " + character, Nets.STATE, EdgesOfNodesTest::tenTyped,
                    x -> x.type(character));
        }
        for (char character : new char[] {'.', ';', 'x', 0, 65535}) {
            Edge.refused(4, "first the character " + (int) character, Nets.ARGUMENT,
                    EdgesOfNodesTest::tenTyped, x -> x.type(character));
        }
    }

    private static BulletinNet tenTyped() {
        BulletinNet net = Nets.loose(3);
        Nets.write(net, "1:1/2/1:1/");
        return net;
    }

    private static void promise5FromNoneToTenCharacters() {
        for (int length = 0; length <= 10; length++) {
            BulletinNet net = new BulletinNet();
            for (int i = 0; i < length; i++) {
                net.type('1');
            }
            Edge.is(5, "clearText of " + length, net.clearText(), length);
            Edge.is(5, "clearText again", net.clearText(), 0);
            Edge.is(5, "there is room again", net.type('1'), 1);
        }
        BulletinNet net = tenTyped();
        Edge.is(5, "clearText of a full buffer", net.clearText(), 10);
        for (int length = 1; length <= 10; length++) {
            Edge.is(5, "type behind it", net.type('/'), length);
        }
    }

    private static void promise5OnlyTypeChangesTheText() {
        BulletinNet net = typed();
        Edge.is(5, "find", net.find(), 2);
        Edge.is(5, "find leaves the text", net.find(), 2);
        net.setHome(1);
        net.addNode(1, 1, 3, 0, 0);
        net.link(0, 1, 0);
        net.carry(0, 0, true);
        net.setDown(1, true);
        net.post(0, 0);
        net.mail(0, 1);
        net.pass(240);
        Edge.is(5, "find behind all other calls", net.find(), 2);
        Edge.is(5, "type behind them", net.type('0'), 6);
        Edge.is(5, "clearText behind them", net.clearText(), 6);
    }

    private static BulletinNet addresses() {
        BulletinNet net = new BulletinNet();
        net.addNode(1, 1, 0, NONE, 0);
        net.addNode(9, 99, 99, NONE, 0);
        net.addNode(1, 1, 9, NONE, 0);
        net.addNode(1, 1, 10, NONE, 0);
        net.addNode(1, 9, 9, NONE, 0);
        net.addNode(1, 10, 9, NONE, 0);
        net.addNode(2, 1, 9, NONE, 0);
        return net;
    }

    private static void isFound(String text, int home, int due) {
        BulletinNet net = addresses();
        net.setHome(home);
        Nets.write(net, text);
        Edge.is(6, "find of " + text + " from node " + home, net.find(), due);
    }

    private static void isNoAddress(String text) {
        Edge.refused(6, "find of '" + text + "'", Nets.STATE, () -> {
            BulletinNet net = addresses();
            Nets.write(net, text);
            return net;
        }, x -> x.find());
        BulletinNet empty = new BulletinNet();
        Nets.write(empty, text);
        Edge.is(6, "'" + text + "' without nodes", thrownByFind(empty), Nets.STATE.getName());
        Edge.is(6, "'" + text + "' stays", empty.clearText(), text.length());
    }

    private static String thrownByFind(BulletinNet net) {
        try {
            return "nothing, but answers " + net.find();
        } catch (RuntimeException e) {
            return Check.thrown(e);
        }
    }

    private static void promise6OneDigitOrTwo() {
        isFound("9", 0, 2);
        isFound("10", 0, 3);
        isFound("9/9", 0, 4);
        isFound("10/9", 0, 5);
        isFound("1:9/9", 1, 4);
        isFound("1:10/9", 1, 5);
        isFound("11", 0, NONE);
        isFound("99:99/99", 1, NONE);
        isFound("10:1/9", 0, NONE);
        isFound("11:1/9", 0, NONE);
        for (String text : new String[] {"100", "009", "010", "999", "100/9", "001/9", "1:001/9", "1:100/9",
            "001:1/9", "100:1/9", "1:1/009", "1:1/100", "1/009", "0000000009", "1:1/000009"}) {
            isNoAddress(text);
        }
    }

    private static void promise6AZeroAhead() {
        isFound("09", 0, 2);
        isFound("09/09", 0, 4);
        isFound("01:09/09", 1, 4);
        isFound("01:10/9", 1, 5);
        isFound("02:01/09", 1, 6);
        isFound("00", 0, 0);
        isFound("0", 0, 0);
        isFound("01:01/00", 1, 0);
        isFound("90", 0, NONE);
        isFound("1:90/9", 0, NONE);
        isFound("00/9", 0, NONE);
        isFound("0/9", 0, NONE);
        isFound("00:1/9", 0, NONE);
        isFound("0:1/9", 0, NONE);
        isFound("0:0/0", 0, NONE);
    }

    private static void promise6TheSmallestAndTheLargestAddress() {
        for (int home = 0; home < 7; home++) {
            isFound("1:1/0", home, 0);
            isFound("9:99/99", home, 1);
            isFound("09:99/99", home, 1);
            isFound("9:99/98", home, NONE);
            isFound("8:99/99", home, NONE);
            isFound("9:98/99", home, NONE);
            isFound("1:1/1", home, NONE);
        }
        BulletinNet net = Nets.loose(12);
        Nets.write(net, "1:1/11");
        Edge.is(6, "the last of twelve", net.find(), 11);
    }

    private static void promise6PartsMissingFromTheLeft() {
        isFound("1/9", 0, 2);
        isFound("1/9", 6, 6);
        isFound("1/9", 1, NONE);
        isFound("99/99", 1, 1);
        isFound("99/99", 0, NONE);
        isFound("99", 1, 1);
        isFound("99", 0, NONE);
        isFound("9", 6, 6);
        isFound("9", 4, 4);
        isFound("9", 5, 5);
        isFound("9", 1, NONE);
        isFound("0", 3, 0);
        for (String text : new String[] {"1:", "1:1", "1:1/", "1/", ":1/9", "/9", ":/9", ":1/", "1:/9", ":9",
            "1:9"}) {
            isNoAddress(text);
        }
    }

    private static void promise6TextsThatAreNoAddress() {
        for (String text : new String[] {"", ":", "/", "::", "//", ":/", "/:", "1::1/9", "1:1//9", "1//9",
            "1:1/9:", "1:1/9/", "/1/9", ":1:1/9", "1/1:9", "1/1/9", "1:1:9", "1:1/9/9", "1:1/9:9", "1:1:1/9",
            "1234567890", "::::::::::", "//////////", "01:01/09:0", "1:1/9/1:1/"}) {
            isNoAddress(text);
        }
        // A part that is 0 is there like any other one.
        for (String text : new String[] {"0:1:1/9", "00:1:1/9", "0:0:0/0", "0/1/9", "00/1/9", "0/0/0",
            "0/1:1/9", "1:0/1/9", "1:00/1/9", "0:0/0/0", "0:", "0/", "0:0", "0:0/", ":0", "/0", ":0/0",
            "0:/0"}) {
            isNoAddress(text);
        }
    }

    private static void promise6PartsMissingWithoutNodes() {
        for (String text : new String[] {"9", "0", "00", "99", "1/9", "99/99", "01/09"}) {
            Edge.refused(6, "find of " + text + " without nodes", Nets.STATE, () -> {
                BulletinNet net = new BulletinNet();
                Nets.write(net, text);
                return net;
            }, x -> x.find());
        }
        for (String text : new String[] {"1:1/0", "9:99/99", "01:01/00", "0:0/0"}) {
            BulletinNet net = new BulletinNet();
            Nets.write(net, text);
            Edge.is(6, "find of " + text + " without nodes", net.find(), NONE);
        }
    }

    private static void promise6ARefusedFindLeavesTheText() {
        BulletinNet net = addresses();
        Nets.write(net, "1:1/");
        Edge.is(6, "find of 1:1/", thrownByFind(net), Nets.STATE.getName());
        Edge.is(6, "type behind it", net.type('9'), 5);
        Edge.is(6, "find of 1:1/9", net.find(), 2);
        BulletinNet empty = new BulletinNet();
        Nets.write(empty, "5");
        Edge.is(6, "find of 5 without nodes", thrownByFind(empty), Nets.STATE.getName());
        empty.addNode(7, 8, 5, NONE, 0);
        Edge.is(6, "find of 5 with one", empty.find(), 0);
        Edge.is(6, "its length", empty.clearText(), 1);
        BulletinNet none = addresses();
        Nets.write(none, "8:8/8");
        Edge.is(6, "find of an address that no node has", none.find(), NONE);
        none.addNode(8, 8, 8, NONE, 0);
        Edge.is(6, "find of it when a node has it", none.find(), 7);
    }

    private static void promise7FromNoneToTwelve() {
        BulletinNet net = new BulletinNet();
        Edge.is(7, "nodes of none", net.nodes(), 0);
        for (int node = 0; node < 12; node++) {
            net.addNode(1, 1, node, node == 0 ? NONE : node - 1, 0);
            Edge.is(7, "nodes", net.nodes(), node + 1);
        }
        refuse(net, x -> x.addNode(2, 1, 1, NONE, 0));
        Edge.is(7, "nodes behind a refused one", net.nodes(), 12);
        BulletinNet refused = Nets.loose(3);
        refuse(refused, x -> x.addNode(1, 1, 2, NONE, 0));
        refuse(refused, x -> x.addNode(0, 1, 5, NONE, 0));
        refuse(refused, x -> x.addNode(1, 1, 5, 3, 0));
        Edge.is(7, "nodes behind three refused ones", refused.nodes(), 3);
    }
}
