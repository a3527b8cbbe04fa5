import java.util.ArrayList;

/**
 * A bulletin net by telephone: nodes with addresses, links that are called at told hours, mail that
 * goes by hubs, and messages of areas that spread with lists of who has seen them.
 */
public final class BulletinNet {
    public static final int NONE = -1;

    private static final int MOST_NODES = 12;
    private static final int MOST_LINKS = 20;
    private static final int MOST_MESSAGES = 30;
    private static final int MOST_MAILS = 30;
    private static final int MOST_CHARACTERS = 10;
    private static final int MOST_DIGITS = 2;
    private static final int AREAS = 3;
    private static final int HOURS_OF_DAY = 24;
    private static final int MOST_HOURS = 240;
    private static final int LAST_CLOCK = 10000;

    private final ArrayList<Node> allNodes;
    private final ArrayList<Link> allLinks;
    private final ArrayList<Message> allMessages;
    private final ArrayList<Mail> allMails;
    private final StringBuilder buffer;
    private int homeNumber;
    private int hoursPassed;

    public BulletinNet() {
        allNodes = new ArrayList<>();
        allLinks = new ArrayList<>();
        allMessages = new ArrayList<>();
        allMails = new ArrayList<>();
        buffer = new StringBuilder();
        homeNumber = 0;
        hoursPassed = 0;
    }

    // ---- nodes and addresses

    public int addNode(int zone, int net, int node, int hub, int hour)
            throws IndexOutOfBoundsException, IllegalArgumentException, IllegalStateException {
        Node above = nodeOf(hub);
        if (above == null && hub != NONE) {
            throw new IndexOutOfBoundsException("no such hub");
        }
        if (!isAddress(zone, net, node)) {
            throw new IllegalArgumentException("zone, net or node is out of range");
        }
        if (above != null && !isHour(hour)) {
            throw new IllegalArgumentException("hour is out of range");
        }
        Address address = new Address(zone, net, node);
        if (allNodes.size() >= MOST_NODES || numberOf(address) != NONE) {
            throw new IllegalStateException("too many nodes, or the address is taken");
        }
        if (above != null && allLinks.size() >= MOST_LINKS) {
            throw new IllegalStateException("too many links");
        }
        Node entered = new Node(allNodes.size(), address, above);
        allNodes.add(entered);
        if (above != null) {
            allLinks.add(new Link(entered, above, hour));
        }
        return entered.number;
    }

    public int setHome(int node) throws IndexOutOfBoundsException {
        if (nodeOf(node) == null) {
            throw new IndexOutOfBoundsException("no such node");
        }
        int before = homeNumber;
        homeNumber = node;
        return before;
    }

    public int type(char character) throws IllegalArgumentException, IllegalStateException {
        if (!isDigit(character) && character != ':' && character != '/') {
            throw new IllegalArgumentException("no digit, colon or slash");
        }
        if (buffer.length() >= MOST_CHARACTERS) {
            throw new IllegalStateException("the buffer is full");
        }
        buffer.append(character);
        return buffer.length();
    }

    public int clearText() {
        int before = buffer.length();
        buffer.setLength(0);
        return before;
    }

    public int find() throws IllegalStateException {
        Address typed = typedAddress();
        if (typed == null) {
            throw new IllegalStateException("the text is no address");
        }
        if (typed.isWhole()) {
            return numberOf(typed);
        }
        Node home = nodeOf(homeNumber);
        if (home == null) {
            throw new IllegalStateException("no home node to complete the address");
        }
        return numberOf(typed.completedBy(home.address));
    }

    public int nodes() {
        return allNodes.size();
    }

    // ---- links

    public int link(int caller, int other, int hour)
            throws IndexOutOfBoundsException, IllegalArgumentException, IllegalStateException {
        Node calling = nodeOf(caller);
        Node called = nodeOf(other);
        if (calling == null || called == null) {
            throw new IndexOutOfBoundsException("no such caller or other");
        }
        if (calling == called || !isHour(hour)) {
            throw new IllegalArgumentException("both are the same, or hour is out of range");
        }
        if (allLinks.size() >= MOST_LINKS) {
            throw new IllegalStateException("too many links");
        }
        allLinks.add(new Link(calling, called, hour));
        return allLinks.size() - 1;
    }

    public boolean carry(int link, int area, boolean carries) throws IndexOutOfBoundsException {
        Link asked = linkOf(link);
        if (asked == null || !isArea(area)) {
            throw new IndexOutOfBoundsException("no such link or area");
        }
        boolean changes = asked.isCarrying(area) != carries;
        if (changes) {
            asked.areas = asked.areas ^ (1 << area);
        }
        return changes;
    }

    public boolean setDown(int link, boolean isDown) throws IndexOutOfBoundsException {
        Link asked = linkOf(link);
        if (asked == null) {
            throw new IndexOutOfBoundsException("no such link");
        }
        boolean changes = asked.isDown != isDown;
        asked.isDown = isDown;
        return changes;
    }

    public int links() {
        return allLinks.size();
    }

    public int bundle(int link, boolean isCaller) throws IndexOutOfBoundsException {
        Link asked = linkOf(link);
        if (asked == null) {
            throw new IndexOutOfBoundsException("no such link");
        }
        return isCaller ? asked.callerBundle.size() : asked.otherBundle.size();
    }

    public int calls(int link) throws IndexOutOfBoundsException {
        Link asked = linkOf(link);
        if (asked == null) {
            throw new IndexOutOfBoundsException("no such link");
        }
        return asked.callCount;
    }

    // ---- messages and mail

    public int post(int area, int node) throws IndexOutOfBoundsException, IllegalStateException {
        Node poster = nodeOf(node);
        if (!isArea(area) || poster == null) {
            throw new IndexOutOfBoundsException("no such area or node");
        }
        if (allMessages.size() >= MOST_MESSAGES) {
            throw new IllegalStateException("too many messages");
        }
        Message posted = new Message(area);
        allMessages.add(posted);
        toss(posted, poster, null, 0);
        return allMessages.size() - 1;
    }

    public int mail(int from, int to)
            throws IndexOutOfBoundsException, IllegalArgumentException, IllegalStateException {
        Node sender = nodeOf(from);
        Node receiver = nodeOf(to);
        if (sender == null || receiver == null) {
            throw new IndexOutOfBoundsException("no such from or to");
        }
        if (sender == receiver) {
            throw new IllegalArgumentException("both are the same");
        }
        if (allMails.size() >= MOST_MAILS) {
            throw new IllegalStateException("too many mails");
        }
        Mail posted = new Mail(sender, receiver);
        allMails.add(posted);
        forward(posted, sender);
        return allMails.size() - 1;
    }

    public int gotAt(int node, int message) throws IndexOutOfBoundsException {
        Node asked = nodeOf(node);
        Message sought = messageOf(message);
        if (asked == null || sought == null) {
            throw new IndexOutOfBoundsException("no such node or message");
        }
        return sought.hourAt(asked);
    }

    public int seenBy(int node, int message) throws IndexOutOfBoundsException {
        Node asked = nodeOf(node);
        Message sought = messageOf(message);
        if (asked == null || sought == null) {
            throw new IndexOutOfBoundsException("no such node or message");
        }
        return sought.seenSetAt(asked);
    }

    public char seenAt(int node, int message, int place) throws IndexOutOfBoundsException {
        Node asked = nodeOf(node);
        Message sought = messageOf(message);
        if (asked == null || sought == null || place < 0) {
            throw new IndexOutOfBoundsException("no such node, message or place");
        }
        StringBuilder line = writtenSet(sought.seenSetAt(asked));
        return place < line.length() ? line.charAt(place) : ' ';
    }

    public int doubles(int node) throws IndexOutOfBoundsException {
        Node asked = nodeOf(node);
        if (asked == null) {
            throw new IndexOutOfBoundsException("no such node");
        }
        return asked.doubleCount;
    }

    public int mailAt(int mail) throws IndexOutOfBoundsException {
        Mail sought = mailOf(mail);
        if (sought == null) {
            throw new IndexOutOfBoundsException("no such mail");
        }
        return sought.place.number;
    }

    public boolean isLost(int mail) throws IndexOutOfBoundsException {
        Mail sought = mailOf(mail);
        if (sought == null) {
            throw new IndexOutOfBoundsException("no such mail");
        }
        return sought.hasNoWay;
    }

    // ---- hours

    public int pass(int hours) throws IllegalArgumentException, IllegalStateException {
        if (hours < 1 || hours > MOST_HOURS) {
            throw new IllegalArgumentException("hours is out of range");
        }
        if (hoursPassed + hours > LAST_CLOCK) {
            throw new IllegalStateException("the clock would be too high");
        }
        int made = 0;
        for (int i = 0; i < hours; i++) {
            made += passOneHour();
        }
        return made;
    }

    public int clock() {
        return hoursPassed;
    }

    public int cost(int node) throws IndexOutOfBoundsException {
        Node asked = nodeOf(node);
        if (asked == null) {
            throw new IndexOutOfBoundsException("no such node");
        }
        return asked.costs;
    }

    public int reach(int area, int node) throws IndexOutOfBoundsException {
        Node start = nodeOf(node);
        if (!isArea(area) || start == null) {
            throw new IndexOutOfBoundsException("no such area or node");
        }
        int reached = start.asSet();
        // A round that adds no node is the last: there are at most as many rounds as nodes.
        for (int i = 0; i < allNodes.size(); i++) {
            int before = reached;
            reached = withNeighbours(reached, area);
            if (reached == before) {
                return reached;
            }
        }
        return reached;
    }

    // ---- what a call's arguments name; null if there is none

    private Node nodeOf(int number) {
        return number >= 0 && number < allNodes.size() ? allNodes.get(number) : null;
    }

    private Link linkOf(int number) {
        return number >= 0 && number < allLinks.size() ? allLinks.get(number) : null;
    }

    private Message messageOf(int number) {
        return number >= 0 && number < allMessages.size() ? allMessages.get(number) : null;
    }

    private Mail mailOf(int number) {
        return number >= 0 && number < allMails.size() ? allMails.get(number) : null;
    }

    private static boolean isArea(int area) {
        return area >= 0 && area < AREAS;
    }

    private static boolean isHour(int hour) {
        return hour >= 0 && hour < HOURS_OF_DAY;
    }

    private static boolean isDigit(char character) {
        return character >= '0' && character <= '9';
    }

    private static boolean isAddress(int zone, int net, int node) {
        return zone >= 1 && zone <= 9 && net >= 1 && net <= 99 && node >= 0 && node <= 99;
    }

    // ---- addresses

    private int numberOf(Address address) {
        for (int i = 0; i < allNodes.size(); i++) {
            if (allNodes.get(i).address.isLike(address)) {
                return i;
            }
        }
        return NONE;
    }

    /** The address in the buffer, with NONE for the parts that are missing; null if it is none. */
    private Address typedAddress() {
        int zone = NONE;
        int net = NONE;
        int part = 0;
        int digits = 0;
        for (int i = 0; i < buffer.length(); i++) {
            char character = buffer.charAt(i);
            if (isDigit(character)) {
                digits++;
                part = 10 * part + (character - '0');
            } else if (digits == 0 || net != NONE || (character == ':' && zone != NONE)) {
                return null;
            } else {
                if (character == ':') {
                    zone = part;
                } else {
                    net = part;
                }
                part = 0;
                digits = 0;
            }
            if (digits > MOST_DIGITS) {
                return null;
            }
        }
        if (digits == 0 || (zone != NONE && net == NONE)) {
            return null;
        }
        return new Address(zone, net, part);
    }

    private StringBuilder writtenSet(int set) {
        StringBuilder line = new StringBuilder();
        int left = set;
        int netAhead = NONE;
        for (int i = 0; i < allNodes.size(); i++) {
            Node next = firstWritten(left);
            if (next == null) {
                return line;
            }
            left = left & ~next.asSet();
            if (line.length() > 0) {
                line.append(' ');
            }
            if (next.address.net != netAhead) {
                line.append(next.address.net);
                line.append('/');
            }
            line.append(next.address.node);
            netAhead = next.address.net;
        }
        return line;
    }

    private Node firstWritten(int set) {
        Node first = null;
        for (int i = 0; i < allNodes.size(); i++) {
            Node node = allNodes.get(i);
            boolean isInSet = (set & node.asSet()) != 0;
            if (isInSet && (first == null || node.address.isWrittenAhead(first.address))) {
                first = node;
            }
        }
        return first;
    }

    // ---- messages

    private void toss(Message message, Node node, Link cameOver, int seenBefore) {
        // With each target in the set at once, a later link to the same target is passed over.
        int seen = seenBefore | node.asSet();
        for (int i = 0; i < allLinks.size(); i++) {
            Link link = allLinks.get(i);
            Node target = link.farEnd(node);
            if (target != null && link != cameOver && link.isCarrying(message.area)
                    && (seen & target.asSet()) == 0) {
                link.bundleOf(node).add(message);
                seen = seen | target.asSet();
            }
        }
        message.keepAt(node, hoursPassed, seen);
    }

    private int withNeighbours(int set, int area) {
        int grown = set;
        for (int i = 0; i < allLinks.size(); i++) {
            Link link = allLinks.get(i);
            int ends = link.caller.asSet() | link.other.asSet();
            if (link.isCarrying(area) && (grown & ends) != 0) {
                grown = grown | ends;
            }
        }
        return grown;
    }

    // ---- mail

    private void forward(Mail mail, Node node) {
        mail.place = node;
        if (node == mail.receiver) {
            return;
        }
        Link way = lowestLink(node, mail.receiver);
        if (way == null) {
            way = lowestLink(node, nextByHubs(node, mail.receiver));
        }
        if (way == null) {
            mail.hasNoWay = true;
        } else {
            way.bundleOf(node).add(mail);
        }
    }

    /** The node below this one that is the receiver or above it, otherwise the hub, null without. */
    private static Node nextByHubs(Node node, Node receiver) {
        for (Node step = receiver; step != null; step = step.hub) {
            if (step.hub == node) {
                return step;
            }
        }
        return node.hub;
    }

    private Link lowestLink(Node node, Node far) {
        for (int i = 0; i < allLinks.size(); i++) {
            Link link = allLinks.get(i);
            if (far != null && link.farEnd(node) == far) {
                return link;
            }
        }
        return null;
    }

    // ---- calls

    private int passOneHour() {
        int hour = hoursPassed % HOURS_OF_DAY;
        int made = 0;
        for (int i = 0; i < allLinks.size(); i++) {
            Link link = allLinks.get(i);
            if (link.hour == hour) {
                link.isWanted = true;
            }
            if (link.isWanted && !link.isDown && isFree(link.caller) && isFree(link.other)) {
                callOver(link, hour);
                made++;
            }
        }
        hoursPassed++;
        return made;
    }

    private boolean isFree(Node node) {
        return node.lastCallAt != hoursPassed;
    }

    private void callOver(Link link, int hour) {
        link.isWanted = false;
        link.callCount++;
        link.caller.lastCallAt = hoursPassed;
        link.other.lastCallAt = hoursPassed;
        // Both counts are taken ahead: what the call itself puts into the bundles waits.
        int up = link.callerBundle.size();
        int back = link.otherBundle.size();
        handOver(link, link.caller, link.other, up);
        handOver(link, link.other, link.caller, back);
        link.caller.costs += tariff(hour) * (1 + (up + back + 3) / 4);
    }

    private void handOver(Link link, Node from, Node to, int count) {
        ArrayList<Parcel> bundle = link.bundleOf(from);
        for (int i = 0; i < count && !bundle.isEmpty(); i++) {
            Parcel parcel = bundle.remove(0);
            if (parcel instanceof Message message) {
                receive(message, from, to, link);
            } else if (parcel instanceof Mail mail) {
                forward(mail, to);
            }
        }
    }

    private void receive(Message message, Node from, Node to, Link link) {
        if (message.isAt(to)) {
            to.doubleCount++;
        } else {
            toss(message, to, link, message.seenSetAt(from));
        }
    }

    private static int tariff(int hour) {
        if (hour >= 8 && hour <= 17) {
            return 10;
        }
        return hour >= 18 && hour <= 21 ? 6 : 3;
    }

    // ---- the things of the net

    private static final class Address {
        final int zone;
        final int net;
        final int node;

        Address(int zone, int net, int node) {
            this.zone = zone;
            this.net = net;
            this.node = node;
        }

        boolean isWhole() {
            return zone != NONE && net != NONE;
        }

        Address completedBy(Address home) {
            return new Address(zone != NONE ? zone : home.zone, net != NONE ? net : home.net, node);
        }

        boolean isLike(Address that) {
            return zone == that.zone && net == that.net && node == that.node;
        }

        boolean isWrittenAhead(Address that) {
            return net < that.net || (net == that.net && node < that.node);
        }
    }

    private static final class Node {
        final int number;
        final Address address;
        final Node hub;
        int lastCallAt;
        int costs;
        int doubleCount;

        Node(int number, Address address, Node hub) {
            this.number = number;
            this.address = address;
            this.hub = hub;
            this.lastCallAt = NONE;
        }

        int asSet() {
            return 1 << number;
        }
    }

    private static final class Link {
        final Node caller;
        final Node other;
        final int hour;
        final ArrayList<Parcel> callerBundle;
        final ArrayList<Parcel> otherBundle;
        int areas;
        int callCount;
        boolean isDown;
        boolean isWanted;

        Link(Node caller, Node other, int hour) {
            this.caller = caller;
            this.other = other;
            this.hour = hour;
            this.callerBundle = new ArrayList<>();
            this.otherBundle = new ArrayList<>();
        }

        boolean isCarrying(int area) {
            return (areas & (1 << area)) != 0;
        }

        /** The end that is not this node; null if this node is no end. */
        Node farEnd(Node near) {
            if (near == caller) {
                return other;
            }
            return near == other ? caller : null;
        }

        ArrayList<Parcel> bundleOf(Node end) {
            return end == caller ? callerBundle : otherBundle;
        }
    }

    /** What a bundle holds. */
    private abstract static class Parcel {
    }

    /**
     * A message, and what each node has of it. The set on a copy is the seen-by of the node that
     * sends it, which never changes again: so a bundle holds the message itself for a copy.
     */
    private static final class Message extends Parcel {
        final int area;
        private final int[] gotHours;
        private final int[] seenSets;

        Message(int area) {
            this.area = area;
            this.gotHours = new int[MOST_NODES];
            this.seenSets = new int[MOST_NODES];
        }

        boolean isAt(Node node) {
            return seenSetAt(node) != 0;
        }

        int seenSetAt(Node node) {
            int n = node.number;
            return n >= 0 && n < seenSets.length ? seenSets[n] : 0;
        }

        int hourAt(Node node) {
            int n = node.number;
            return isAt(node) && n >= 0 && n < gotHours.length ? gotHours[n] : NONE;
        }

        void keepAt(Node node, int hour, int seen) {
            int n = node.number;
            if (n >= 0 && n < gotHours.length && n < seenSets.length) {
                gotHours[n] = hour;
                seenSets[n] = seen;
            }
        }
    }

    private static final class Mail extends Parcel {
        final Node receiver;
        Node place;
        boolean hasNoWay;

        Mail(Node sender, Node receiver) {
            this.receiver = receiver;
            this.place = sender;
        }
    }
}
