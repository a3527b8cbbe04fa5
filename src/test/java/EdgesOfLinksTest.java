import java.util.function.Supplier;

/** The boundary cases of promises 8 to 13, and of the words on links and bundles they rest on. */
public final class EdgesOfLinksTest {
    public static void main(String[] args) {
        promise8CallersAndOthersFrom0ToTheLast();
        promise8BothAreTheSame();
        promise8HoursFrom0To23();
        promise8TwentyLinksFrom0();
        promise8WhichExceptionComesFirst();
        promise9AreasFrom0To2NoneAtFirst();
        promise9LinksFrom0ToTheLast();
        promise9WhatIsInBundlesStays();
        promise10LinksFrom0ToTheLastUpAtFirst();
        promise11FromNoneToTwenty();
        promise12LinksFrom0ToTheLast();
        promise12FromNoneToAllThereIs();
        promise12TheFullestCall();
        promise13LinksFrom0ToTheLast();
        promise13FromNoneToTheEndOfTheClock();
        promise13CallsThatWereNotMade();
        Check.end("EdgesOfLinksTest");
    }

    private static void promise8CallersAndOthersFrom0ToTheLast() {
        BulletinNet net = Nets.loose(12);
        Edge.is(8, "from the first to the last", net.link(0, 11, 0), 0);
        Edge.is(8, "from the last to the first", net.link(11, 0, 0), 1);
        Edge.is(8, "from the last to the one ahead", net.link(11, 10, 0), 2);
        net.mail(0, 11);
        net.mail(11, 10);
        Edge.is(8, "the first is the caller", net.bundle(0, true), 1);
        Edge.is(8, "the last is the caller", net.bundle(2, true), 1);
        for (int nodes : new int[] {2, 5, 12}) {
            for (int node : Edge.beyond(0, nodes - 1)) {
                Edge.refused(8, "link from " + node, Nets.INDEX, () -> Nets.loose(nodes),
                        x -> x.link(node, 0, 0));
                Edge.refused(8, "link to " + node, Nets.INDEX, () -> Nets.loose(nodes),
                        x -> x.link(0, node, 0));
            }
        }
        Edge.refused(8, "link without nodes", Nets.INDEX, BulletinNet::new, x -> x.link(0, 1, 0));
        Edge.refused(8, "link to NONE", Nets.INDEX, () -> Nets.loose(2), x -> x.link(1, BulletinNet.NONE, 0));
    }

    private static void promise8BothAreTheSame() {
        for (int node = 0; node < 12; node++) {
            int same = node;
            Edge.refused(8, "link of one node", Nets.ARGUMENT, () -> Nets.loose(12),
                    x -> x.link(same, same, 0));
        }
        BulletinNet net = Nets.loose(2);
        net.link(0, 1, 5);
        Edge.is(8, "the same ends and hour again", net.link(0, 1, 5), 1);
        Edge.is(8, "the other way round", net.link(1, 0, 5), 2);
    }

    private static void promise8HoursFrom0To23() {
        for (int hour = 0; hour < 24; hour++) {
            BulletinNet net = Nets.loose(2);
            Edge.is(8, "hour " + hour, net.link(0, 1, hour), 0);
            Edge.is(8, "calls of a day", net.pass(24), 1);
            Edge.is(8, "calls before hour " + hour, hour == 0 ? 0 : net.pass(hour), 0);
            Edge.is(8, "calls in hour " + hour, net.pass(1), 1);
        }
        for (int hour : Edge.beyond(0, 23)) {
            Edge.refused(8, "hour " + hour, Nets.ARGUMENT, () -> Nets.loose(2), x -> x.link(0, 1, hour));
        }
    }

    private static void promise8TwentyLinksFrom0() {
        BulletinNet net = Nets.loose(3);
        for (int link = 0; link < 20; link++) {
            Edge.is(8, "link", net.link(link % 3, (link + 1) % 3, 0), link);
        }
        Edge.refused(8, "a link too many", Nets.STATE, () -> Nets.linked(20), x -> x.link(1, 0, 23));
        Edge.refused(8, "in a full net", Nets.STATE, Nets::full, x -> x.link(0, 11, 0));
        BulletinNet hubs = new BulletinNet();
        hubs.addNode(1, 1, 0, BulletinNet.NONE, 0);
        for (int node = 1; node < 12; node++) {
            hubs.addNode(1, 1, node, 0, 0);
        }
        for (int link = 11; link < 20; link++) {
            Edge.is(8, "behind those of hubs", hubs.link(link - 11, 11, 0), link);
        }
        Edge.is(8, "with those of hubs", thrownByLink(hubs), Nets.STATE.getName());
        Edge.refused(8, "a refused one takes no number", Nets.ARGUMENT, () -> Nets.linked(19),
                x -> x.link(0, 0, 0));
    }

    private static String thrownByLink(BulletinNet net) {
        try {
            return "nothing, but answers " + net.link(0, 1, 0);
        } catch (RuntimeException e) {
            return Check.thrown(e);
        }
    }

    private static void promise8WhichExceptionComesFirst() {
        Supplier<BulletinNet> few = () -> Nets.loose(2);
        Edge.refused(8, "no node before the same", Nets.INDEX, few, x -> x.link(2, 2, 0));
        Edge.refused(8, "no node before the same", Nets.INDEX, few, x -> x.link(-1, -1, 0));
        Edge.refused(8, "no caller before the hour", Nets.INDEX, few, x -> x.link(2, 0, 24));
        Edge.refused(8, "no other before the hour", Nets.INDEX, few, x -> x.link(0, 2, -1));
        Supplier<BulletinNet> links = () -> Nets.linked(20);
        Edge.refused(8, "no caller before links", Nets.INDEX, links, x -> x.link(2, 0, 0));
        Edge.refused(8, "no other before links", Nets.INDEX, links, x -> x.link(0, -1, 0));
        Edge.refused(8, "the same before links", Nets.ARGUMENT, links, x -> x.link(1, 1, 0));
        Edge.refused(8, "the hour before links", Nets.ARGUMENT, links, x -> x.link(0, 1, 24));
    }

    private static void promise9AreasFrom0To2NoneAtFirst() {
        for (int area = 0; area < 3; area++) {
            BulletinNet net = Nets.linked(1);
            Edge.is(9, "not carried at first, no change", net.carry(0, area, false), false);
            Edge.is(9, "carried", net.carry(0, area, true), true);
            Edge.is(9, "carried again, no change", net.carry(0, area, true), false);
            for (int other = 0; other < 3; other++) {
                Edge.is(9, "reach in area " + other, net.reach(other, 0), other == area ? 3 : 1);
            }
            Edge.is(9, "not carried any more", net.carry(0, area, false), true);
            Edge.is(9, "not carried again, no change", net.carry(0, area, false), false);
            Edge.is(9, "reach then", net.reach(area, 0), 1);
        }
        for (int area : Edge.beyond(0, 2)) {
            for (boolean carries : new boolean[] {true, false}) {
                Edge.refused(9, "area " + area, Nets.INDEX, () -> Nets.linked(2),
                        x -> x.carry(1, area, carries));
                Edge.refused(9, "area " + area + " in a full net", Nets.INDEX, Nets::full,
                        x -> x.carry(11, area, carries));
            }
        }
        BulletinNet hub = Nets.loose(1);
        hub.addNode(1, 1, 1, 0, 0);
        for (int area = 0; area < 3; area++) {
            Edge.is(9, "a hub's link carries none at first", hub.carry(0, area, true), true);
        }
        Edge.is(9, "all three at once", hub.reach(0, 0) + hub.reach(1, 0) + hub.reach(2, 0), 9);
    }

    private static void promise9LinksFrom0ToTheLast() {
        for (int links = 1; links <= 20; links++) {
            BulletinNet net = Nets.linked(links);
            Edge.is(9, "the last link", net.carry(links - 1, 0, true), true);
            Edge.is(9, "the first one carries it too", net.carry(0, 0, true), links > 1);
            int made = links;
            Edge.refused(9, "the link behind", Nets.INDEX, () -> Nets.linked(made),
                    x -> x.carry(made, 0, true));
        }
        for (int link : Edge.beyond(0, 19)) {
            Edge.refused(9, "link " + link, Nets.INDEX, () -> Nets.linked(20), x -> x.carry(link, 0, true));
            Edge.refused(9, "link and area " + link, Nets.INDEX, () -> Nets.linked(20),
                    x -> x.carry(link, link, false));
        }
    }

    private static void promise9WhatIsInBundlesStays() {
        BulletinNet net = Nets.pair(0);
        net.post(0, 0);
        net.post(0, 1);
        net.carry(0, 0, false);
        Edge.is(9, "the caller's bundle stays", net.bundle(0, true), 1);
        Edge.is(9, "the other one's bundle stays", net.bundle(0, false), 1);
        net.post(0, 0);
        Edge.is(9, "nothing comes to it", net.bundle(0, true), 1);
        net.carry(0, 0, true);
        Edge.is(9, "what was posted is not put in later", net.bundle(0, true), 1);
        net.carry(0, 0, false);
        net.pass(1);
        Edge.is(9, "it goes over", net.gotAt(1, 0), 0);
        Edge.is(9, "also the other way", net.gotAt(0, 1), 0);
        Edge.is(9, "what was not in it does not", net.gotAt(1, 2), BulletinNet.NONE);
    }

    private static void promise10LinksFrom0ToTheLastUpAtFirst() {
        for (int links = 1; links <= 20; links++) {
            int made = links;
            for (boolean isDown : new boolean[] {true, false}) {
                Edge.refused(10, "the link behind", Nets.INDEX, () -> Nets.linked(made),
                        x -> x.setDown(made, isDown));
            }
            BulletinNet net = Nets.linked(links);
            Edge.is(10, "up at first, no change", net.setDown(links - 1, false), false);
            Edge.is(10, "down", net.setDown(links - 1, true), true);
            Edge.is(10, "down again, no change", net.setDown(links - 1, true), false);
            Edge.is(10, "the first one is up", net.setDown(0, false), links == 1);
            Edge.is(10, "up", net.setDown(links - 1, false), links > 1);
            Edge.is(10, "up again, no change", net.setDown(links - 1, false), false);
        }
        for (int link : Edge.beyond(0, 19)) {
            Edge.refused(10, "link " + link, Nets.INDEX, Nets::full, x -> x.setDown(link, true));
            Edge.refused(10, "link " + link, Nets.INDEX, Nets::full, x -> x.setDown(link, false));
        }
        Edge.refused(10, "no link", Nets.INDEX, () -> Nets.loose(2), x -> x.setDown(0, false));
    }

    private static void promise11FromNoneToTwenty() {
        BulletinNet net = Nets.loose(2);
        Edge.is(11, "links of none", net.links(), 0);
        for (int link = 0; link < 20; link++) {
            if (link % 2 == 0) {
                net.link(0, 1, 0);
            } else {
                net.addNode(2, 2, link, 0, 0);
            }
            Edge.is(11, "links", net.links(), link + 1);
        }
        Edge.is(11, "one too many", thrownByLink(net), Nets.STATE.getName());
        Edge.is(11, "links behind a refused one", net.links(), 20);
        Edge.is(11, "links without hubs", Nets.loose(12).links(), 0);
    }

    private static void promise12LinksFrom0ToTheLast() {
        for (boolean isCaller : new boolean[] {true, false}) {
            for (int links = 1; links <= 20; links++) {
                int made = links;
                Edge.is(12, "the last link's", Nets.linked(links).bundle(links - 1, isCaller), 0);
                Edge.refused(12, "the link behind", Nets.INDEX, () -> Nets.linked(made),
                        x -> x.bundle(made, isCaller));
            }
            for (int link : Edge.beyond(0, 19)) {
                Edge.refused(12, "link " + link, Nets.INDEX, Nets::full, x -> x.bundle(link, isCaller));
            }
        }
    }

    private static void promise12FromNoneToAllThereIs() {
        BulletinNet net = Nets.pair(0);
        Edge.is(12, "the caller's at first", net.bundle(0, true), 0);
        Edge.is(12, "the other one's at first", net.bundle(0, false), 0);
        for (int item = 0; item < 30; item++) {
            net.post(0, 1);
            Edge.is(12, "a message more", net.bundle(0, false), 2 * item + 1);
            net.mail(1, 0);
            Edge.is(12, "a mail more", net.bundle(0, false), 2 * item + 2);
        }
        Edge.is(12, "the caller's stays empty", net.bundle(0, true), 0);
        net.pass(1);
        Edge.is(12, "none behind the call", net.bundle(0, false), 0);
        Edge.is(12, "nor at the other end", net.bundle(0, true), 0);
        Edge.is(12, "all messages came", net.gotAt(0, 29), 0);
        Edge.is(12, "all mails came", net.mailAt(29), 0);
        Edge.is(12, "the cost of 60", net.cost(0), 3 * (1 + 63 / 4));
    }

    /**
     * A ring of five: each message of node 0 comes to 2 and 3 by both ways, which then have a copy for
     * one another; with all mails of 2 for 3 no bundles of one link can be fuller.
     */
    private static void promise12TheFullestCall() {
        BulletinNet net = Nets.loose(5);
        net.link(0, 1, 0);
        net.link(0, 4, 1);
        net.link(1, 2, 2);
        net.link(4, 3, 3);
        net.link(2, 3, 9);
        for (int link = 0; link < 5; link++) {
            net.carry(link, 1, true);
        }
        for (int item = 0; item < 30; item++) {
            net.post(1, 0);
            net.mail(2, 3);
        }
        net.pass(9);
        Edge.is(12, "the caller's", net.bundle(4, true), 60);
        Edge.is(12, "the other one's", net.bundle(4, false), 30);
        net.pass(1);
        Edge.is(12, "the caller's behind the call", net.bundle(4, true), 0);
        Edge.is(12, "the other one's behind the call", net.bundle(4, false), 0);
        Edge.is(19, "doubles of the one", net.doubles(2), 30);
        Edge.is(19, "doubles of the other", net.doubles(3), 30);
        Edge.is(19, "doubles of those between", net.doubles(0) + net.doubles(1) + net.doubles(4), 0);
        Edge.is(24, "the cost of 90", net.cost(2), 10 * (1 + 93 / 4));
        Edge.is(24, "the other one pays nothing for it", net.cost(3), 0);
        Edge.is(20, "all mails came", net.mailAt(0) + net.mailAt(29), 6);
    }

    private static void promise13LinksFrom0ToTheLast() {
        for (int links = 1; links <= 20; links++) {
            int made = links;
            Edge.is(13, "the last link's", Nets.linked(links).calls(links - 1), 0);
            Edge.refused(13, "the link behind", Nets.INDEX, () -> Nets.linked(made), x -> x.calls(made));
        }
        for (int link : Edge.beyond(0, 19)) {
            Edge.refused(13, "link " + link, Nets.INDEX, Nets::full, x -> x.calls(link));
        }
    }

    private static void promise13FromNoneToTheEndOfTheClock() {
        BulletinNet net = Nets.loose(4);
        net.link(0, 1, 15);
        net.link(2, 3, 16);
        Edge.is(13, "none at first", net.calls(0), 0);
        net.pass(15);
        Edge.is(13, "none before its hour", net.calls(0), 0);
        net.pass(1);
        Edge.is(13, "one behind it", net.calls(0), 1);
        Edge.is(13, "none of the other", net.calls(1), 0);
        Nets.passTo(net, 10000);
        Edge.is(13, "of hour 15 at the end", net.calls(0), 417);
        Edge.is(13, "of hour 16 at the end", net.calls(1), 416);
    }

    private static void promise13CallsThatWereNotMade() {
        BulletinNet net = Nets.linked(1);
        net.link(0, 1, 0);
        net.setDown(0, true);
        net.pass(1);
        Edge.is(13, "down", net.calls(0), 0);
        Edge.is(13, "the other one", net.calls(1), 1);
        net.setDown(0, false);
        net.pass(23);
        Edge.is(13, "called late", net.calls(0), 1);
        net.pass(1);
        Edge.is(13, "at its hour", net.calls(0), 2);
        Edge.is(13, "busy", net.calls(1), 1);
    }
}
