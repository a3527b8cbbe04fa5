import java.util.ArrayList;
import java.util.Collections;
import java.util.List;
import java.util.TreeSet;
import java.util.regex.Matcher;
import java.util.regex.Pattern;

/**
 * The document once more, as slowly and plainly as it can be told: copies carry their sets, ways of
 * mail are looked for by words of the Terms. Nothing of it is taken from BulletinNet.
 */
final class PlainNet {
    private static final Pattern ADDRESS =
            Pattern.compile("(?:(?:([0-9]{1,2}):)?([0-9]{1,2})/)?([0-9]{1,2})");

    private final List<int[]> addresses = new ArrayList<>();
    private final List<Integer> hubs = new ArrayList<>();
    private final List<PlainLink> links = new ArrayList<>();
    private final List<Integer> areaOf = new ArrayList<>();
    private final List<int[]> mails = new ArrayList<>();
    private final int[][] hourOf = new int[12][30];
    private final int[][] setOf = new int[12][30];
    private final int[] doubles = new int[12];
    private final int[] costs = new int[12];
    private String text = "";
    private int home = 0;
    private int clock = 0;

    private static final class PlainLink {
        int[] ends;
        int hour;
        boolean[] carries = new boolean[3];
        boolean down;
        boolean waits;
        int calls;
        List<List<Copy>> bundles = List.of(new ArrayList<>(), new ArrayList<>());

        PlainLink(int caller, int other, int hour) {
            this.ends = new int[] {caller, other};
            this.hour = hour;
        }

        int sideOf(int node) {
            return ends[0] == node ? 0 : ends[1] == node ? 1 : -1;
        }

        boolean joins(int a, int b) {
            return sideOf(a) >= 0 && sideOf(b) >= 0 && a != b;
        }
    }

    private record Copy(boolean isMail, int number, int set) {
    }

    private static void need(boolean holds, RuntimeException otherwise) {
        if (!holds) {
            throw otherwise;
        }
    }

    private void needIndex(boolean holds) {
        need(holds, new IndexOutOfBoundsException());
    }

    private static void needArgument(boolean holds) {
        need(holds, new IllegalArgumentException());
    }

    private static void needState(boolean holds) {
        need(holds, new IllegalStateException());
    }

    private static boolean in(int value, int from, int to) {
        return from <= value && value <= to;
    }

    private boolean isNode(int node) {
        return in(node, 0, addresses.size() - 1);
    }

    private int nodeWith(int zone, int net, int node) {
        for (int[] address : addresses) {
            if (address[0] == zone && address[1] == net && address[2] == node) {
                return addresses.indexOf(address);
            }
        }
        return -1;
    }

    int addNode(int zone, int net, int node, int hub, int hour) {
        needIndex(hub == -1 || isNode(hub));
        needArgument(in(zone, 1, 9) && in(net, 1, 99) && in(node, 0, 99));
        needArgument(hub == -1 || in(hour, 0, 23));
        needState(addresses.size() < 12 && nodeWith(zone, net, node) < 0);
        needState(hub == -1 || links.size() < 20);
        addresses.add(new int[] {zone, net, node});
        hubs.add(hub);
        if (hub != -1) {
            links.add(new PlainLink(addresses.size() - 1, hub, hour));
        }
        return addresses.size() - 1;
    }

    int setHome(int node) {
        needIndex(isNode(node));
        int before = home;
        home = node;
        return before;
    }

    int type(char character) {
        needArgument("0123456789:/".indexOf(character) >= 0);
        needState(text.length() < 10);
        text += character;
        return text.length();
    }

    int clearText() {
        int before = text.length();
        text = "";
        return before;
    }

    int find() {
        Matcher parts = ADDRESS.matcher(text);
        needState(parts.matches());
        needState(parts.group(1) != null || !addresses.isEmpty());
        int[] whole = new int[3];
        for (int part = 0; part < 3; part++) {
            String typed = parts.group(part + 1);
            whole[part] = typed != null ? Integer.parseInt(typed) : addresses.get(home)[part];
        }
        return nodeWith(whole[0], whole[1], whole[2]);
    }

    int nodes() {
        return addresses.size();
    }

    int link(int caller, int other, int hour) {
        needIndex(isNode(caller) && isNode(other));
        needArgument(caller != other && in(hour, 0, 23));
        needState(links.size() < 20);
        links.add(new PlainLink(caller, other, hour));
        return links.size() - 1;
    }

    private boolean isLink(int link) {
        return in(link, 0, links.size() - 1);
    }

    boolean carry(int link, int area, boolean carries) {
        needIndex(isLink(link) && in(area, 0, 2));
        boolean before = links.get(link).carries[area];
        links.get(link).carries[area] = carries;
        return before != carries;
    }

    boolean setDown(int link, boolean isDown) {
        needIndex(isLink(link));
        boolean before = links.get(link).down;
        links.get(link).down = isDown;
        return before != isDown;
    }

    int links() {
        return links.size();
    }

    int bundle(int link, boolean isCaller) {
        needIndex(isLink(link));
        return links.get(link).bundles.get(isCaller ? 0 : 1).size();
    }

    int calls(int link) {
        needIndex(isLink(link));
        return links.get(link).calls;
    }

    int post(int area, int node) {
        needIndex(in(area, 0, 2) && isNode(node));
        needState(areaOf.size() < 30);
        areaOf.add(area);
        toss(areaOf.size() - 1, node, null, 0);
        return areaOf.size() - 1;
    }

    private void toss(int message, int node, PlainLink over, int set) {
        int area = areaOf.get(message);
        TreeSet<Integer> targets = new TreeSet<>();
        for (PlainLink link : links) {
            if (link.sideOf(node) >= 0 && link.carries[area] && link != over) {
                int end = link.ends[1 - link.sideOf(node)];
                if ((set >> end & 1) == 0) {
                    targets.add(end);
                }
            }
        }
        int seen = set | 1 << node;
        for (int target : targets) {
            seen |= 1 << target;
        }
        hourOf[node][message] = clock;
        setOf[node][message] = seen;
        for (PlainLink link : links) {
            if (link.sideOf(node) >= 0 && link.carries[area] && link != over
                    && targets.remove(link.ends[1 - link.sideOf(node)])) {
                link.bundles.get(link.sideOf(node)).add(new Copy(false, message, seen));
            }
        }
    }

    int mail(int from, int to) {
        needIndex(isNode(from) && isNode(to));
        needArgument(from != to);
        needState(mails.size() < 30);
        mails.add(new int[] {from, to, 0});
        putOn(mails.size() - 1, from);
        return mails.size() - 1;
    }

    private boolean isBelow(int node, int above) {
        int hub = hubs.get(node);
        return hub != -1 && (hub == above || isBelow(hub, above));
    }

    private PlainLink lowest(int node, int far) {
        for (PlainLink link : links) {
            if (link.joins(node, far)) {
                return link;
            }
        }
        return null;
    }

    private void putOn(int mail, int node) {
        int to = mails.get(mail)[1];
        mails.get(mail)[0] = node;
        if (node == to) {
            return;
        }
        PlainLink way = lowest(node, to);
        if (way == null && isBelow(to, node)) {
            for (int next = 0; next < addresses.size(); next++) {
                if (hubs.get(next) == node && (next == to || isBelow(to, next))) {
                    way = lowest(node, next);
                }
            }
        } else if (way == null && hubs.get(node) != -1) {
            way = lowest(node, hubs.get(node));
        }
        if (way == null) {
            mails.get(mail)[2] = 1;
        } else {
            way.bundles.get(way.sideOf(node)).add(new Copy(true, mail, 0));
        }
    }

    private void needMessage(int node, int message) {
        needIndex(isNode(node) && in(message, 0, areaOf.size() - 1));
    }

    int gotAt(int node, int message) {
        needMessage(node, message);
        return setOf[node][message] == 0 ? -1 : hourOf[node][message];
    }

    int seenBy(int node, int message) {
        needMessage(node, message);
        return setOf[node][message];
    }

    char seenAt(int node, int message, int place) {
        needMessage(node, message);
        needIndex(place >= 0);
        List<Integer> keys = new ArrayList<>();
        for (int other = 0; other < addresses.size(); other++) {
            if ((setOf[node][message] >> other & 1) == 1) {
                keys.add(addresses.get(other)[1] * 100 + addresses.get(other)[2]);
            }
        }
        Collections.sort(keys);
        StringBuilder line = new StringBuilder();
        int net = 0;
        for (int key : keys) {
            line.append(key / 100 == net ? "" : key / 100 + "/").append(key % 100).append(' ');
            net = key / 100;
        }
        return place < line.length() ? line.charAt(place) : ' ';
    }

    int doubles(int node) {
        needIndex(isNode(node));
        return doubles[node];
    }

    int mailAt(int mail) {
        needIndex(in(mail, 0, mails.size() - 1));
        return mails.get(mail)[0];
    }

    boolean isLost(int mail) {
        needIndex(in(mail, 0, mails.size() - 1));
        return mails.get(mail)[2] == 1;
    }

    int pass(int hours) {
        needArgument(in(hours, 1, 240));
        needState(clock + hours <= 10000);
        int calls = 0;
        for (int hour = 0; hour < hours; hour++) {
            calls += oneHour();
        }
        return calls;
    }

    private int oneHour() {
        int calls = 0;
        TreeSet<Integer> busy = new TreeSet<>();
        for (PlainLink link : links) {
            boolean wants = link.hour == clock % 24 || link.waits;
            boolean can = !link.down && !busy.contains(link.ends[0]) && !busy.contains(link.ends[1]);
            link.waits = wants && !can;
            if (wants && can) {
                busy.add(link.ends[0]);
                busy.add(link.ends[1]);
                makeCall(link);
                calls++;
            }
        }
        clock++;
        return calls;
    }

    private void makeCall(PlainLink link) {
        link.calls++;
        List<List<Copy>> sent = List.of(List.copyOf(link.bundles.get(0)), List.copyOf(link.bundles.get(1)));
        link.bundles.get(0).clear();
        link.bundles.get(1).clear();
        for (int side = 0; side < 2; side++) {
            for (Copy copy : sent.get(side)) {
                arrive(copy, link.ends[1 - side], link);
            }
        }
        int n = sent.get(0).size() + sent.get(1).size();
        int hour = clock % 24;
        int tariff = in(hour, 8, 17) ? 10 : in(hour, 18, 21) ? 6 : 3;
        costs[link.ends[0]] += tariff * (1 + (n + 3) / 4);
    }

    private void arrive(Copy copy, int node, PlainLink link) {
        if (copy.isMail()) {
            putOn(copy.number(), node);
        } else if (setOf[node][copy.number()] != 0) {
            doubles[node]++;
        } else {
            toss(copy.number(), node, link, copy.set());
        }
    }

    int clock() {
        return clock;
    }

    int cost(int node) {
        needIndex(isNode(node));
        return costs[node];
    }

    int reach(int area, int node) {
        needIndex(in(area, 0, 2) && isNode(node));
        return reach(area, node, 0);
    }

    private int reach(int area, int node, int found) {
        int set = found | 1 << node;
        for (PlainLink link : links) {
            if (link.carries[area] && link.sideOf(node) >= 0) {
                int end = link.ends[1 - link.sideOf(node)];
                if ((set >> end & 1) == 0) {
                    set = reach(area, end, set);
                }
            }
        }
        return set;
    }
}
