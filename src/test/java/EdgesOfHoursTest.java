import java.util.function.Supplier;

/** The boundary cases of promises 22 to 25, and of the words on hours and costs they rest on. */
public final class EdgesOfHoursTest {
    private static final int NONE = BulletinNet.NONE;

    public static void main(String[] args) {
        promise22HoursFrom1To240();
        promise22TheClockUpTo10000();
        promise22WhichExceptionComesFirst();
        promise22FromNoCallToTheMost();
        promise22TheHourOfTheDayWrapsAround();
        promise22AnEndThatHasHadACall();
        promise22WhoIsNotCalledIsNotBusy();
        promise22WantedInTheHourBefore();
        promise22WantedOverMidnight();
        promise22WantedOnceHoweverOften();
        promise22DownWhenItWasWanted();
        promise22TakenDownWhenItWaits();
        promise22LinksOfThisHourThatAreNew();
        promise22RisingNumbers();
        promise22WhatComesWaitsForTheNextCall();
        promise22BothBundlesGoOver();
        promise23FromNoneTo10000();
        promise24NodesFrom0ToTheLast();
        promise24TheTariffOfEachHour();
        promise24FromNoneToManyOverACall();
        promise24WhateverGoesOverCounts();
        promise24TheCallerAlonePays();
        promise25AreasAndNodesFrom0ToTheLast();
        promise25FromItselfToAll();
        promise25OnlyLinksThatCarryTheArea();
        promise25NotWhatIsInBundles();
        fiveHundredAndTwelveCalls();
        Check.end("EdgesOfHoursTest");
    }

    private static void promise22HoursFrom1To240() {
        for (int hours : new int[] {1, 2, 23, 24, 25, 127, 128, 239, 240}) {
            BulletinNet net = Nets.pair(0);
            Edge.is(22, "pass of " + hours, net.pass(hours), (hours + 23) / 24);
            Edge.is(23, "the clock behind it", net.clock(), hours);
        }
        for (int hours : Edge.beyond(1, 240)) {
            Edge.refused(22, "pass of " + hours, Nets.ARGUMENT, Nets::full, x -> x.pass(hours));
            Edge.refused(22, "pass of " + hours + " in a new net", Nets.ARGUMENT, BulletinNet::new,
                    x -> x.pass(hours));
        }
    }

    private static BulletinNet at(int clock) {
        BulletinNet net = Nets.pair(16);
        net.post(0, 0);
        Nets.passTo(net, clock);
        return net;
    }

    private static void promise22TheClockUpTo10000() {
        Edge.is(22, "the most hours to the end", at(9760).pass(240), 10);
        Edge.is(22, "the last two hours", at(9998).pass(2), 0);
        Edge.is(22, "the last hour", at(9999).pass(1), 0);
        BulletinNet last = at(9999);
        last.pass(1);
        Edge.is(23, "the last clock", last.clock(), 10000);
        Edge.refused(22, "240 hours above", Nets.STATE, () -> at(10000), x -> x.pass(240));
        Edge.refused(22, "an hour above", Nets.STATE, () -> at(10000), x -> x.pass(1));
        Edge.refused(22, "two hours from 9999", Nets.STATE, () -> at(9999), x -> x.pass(2));
        Edge.refused(22, "240 hours from 9761", Nets.STATE, () -> at(9761), x -> x.pass(240));
        BulletinNet net = at(9761);
        refuse(net, 240);
        Edge.is(22, "what is left can pass", net.pass(239), 9);
        Edge.is(23, "the clock then", net.clock(), 10000);
    }

    private static void refuse(BulletinNet net, int hours) {
        try {
            Edge.is(22, "a pass to be refused answers", net.pass(hours), NONE);
        } catch (RuntimeException e) {
            Edge.is(22, "it throws", Check.thrown(e), Nets.STATE.getName());
        }
    }

    private static void promise22WhichExceptionComesFirst() {
        for (int hours : Edge.beyond(1, 240)) {
            Edge.refused(22, hours + " hours at the end", Nets.ARGUMENT, () -> at(10000), x -> x.pass(hours));
            Edge.refused(22, hours + " hours near it", Nets.ARGUMENT, () -> at(9761), x -> x.pass(hours));
        }
    }

    private static void promise22FromNoCallToTheMost() {
        Edge.is(22, "calls of a new net", new BulletinNet().pass(240), 0);
        Edge.is(22, "calls without links", Nets.loose(12).pass(240), 0);
        BulletinNet net = Nets.loose(12);
        for (int node = 0; node < 12; node += 2) {
            net.link(node, node + 1, 3);
        }
        Edge.is(22, "hours without calls", net.pass(3), 0);
        Edge.is(22, "six calls in an hour", net.pass(1), 6);
        Edge.is(22, "none in the next", net.pass(1), 0);
        Edge.is(22, "six a day", net.pass(240), 60);
        BulletinNet many = Nets.linked(20);
        Edge.is(22, "twenty a day, an hour each", many.pass(20), 20);
        Edge.is(22, "none in the rest of the day", many.pass(4), 0);
        Edge.is(22, "twenty a day", many.pass(240), 200);
    }

    private static void promise22TheHourOfTheDayWrapsAround() {
        BulletinNet net = Nets.loose(4);
        net.link(0, 1, 0);
        net.link(2, 3, 23);
        for (int day = 0; day < 3; day++) {
            Edge.is(22, "hour 0 of day " + day, net.pass(1), 1);
            Edge.is(13, "the link of hour 0", net.calls(0), day + 1);
            Edge.is(22, "hours 1 to 22 of day " + day, net.pass(22), 0);
            Edge.is(22, "hour 23 of day " + day, net.pass(1), 1);
            Edge.is(13, "the link of hour 23", net.calls(1), day + 1);
        }
        Nets.passTo(net, 9984);
        Edge.is(13, "calls in 416 days", net.calls(0) + net.calls(1), 832);
        Edge.is(22, "hour 0 of the last day", net.pass(1), 1);
    }

    private static void promise22AnEndThatHasHadACall() {
        int[][] ends = {{0, 2}, {2, 0}, {1, 2}, {2, 1}, {0, 1}, {1, 0}};
        for (int[] end : ends) {
            BulletinNet net = Nets.loose(3);
            net.link(0, 1, 4);
            net.link(end[0], end[1], 4);
            net.pass(4);
            Edge.is(22, "one of two links with a common end", net.pass(1), 1);
            Edge.is(13, "the lower one", net.calls(0), 1);
            Edge.is(13, "not the higher one", net.calls(1), 0);
            Edge.is(22, "the other one an hour later", net.pass(1), 1);
            Edge.is(13, "the higher one", net.calls(1), 1);
            Edge.is(22, "none then", net.pass(22), 0);
            Edge.is(22, "the next day alike", net.pass(1), 1);
        }
        BulletinNet apart = Nets.loose(4);
        apart.link(0, 1, 4);
        apart.link(2, 3, 4);
        Edge.is(22, "two links without a common end", apart.pass(5), 2);
        BulletinNet next = Nets.loose(3);
        next.link(0, 1, 4);
        next.link(1, 2, 5);
        Edge.is(22, "a call in the hour before is none in this", next.pass(6), 2);
    }

    private static void promise22WhoIsNotCalledIsNotBusy() {
        BulletinNet down = Nets.loose(3);
        down.link(0, 1, 0);
        down.link(1, 2, 0);
        down.setDown(0, true);
        Edge.is(22, "an end of a link that is down is free", down.pass(1), 1);
        Edge.is(13, "the other link", down.calls(1), 1);
        BulletinNet row = Nets.loose(4);
        row.link(0, 1, 0);
        row.link(1, 2, 0);
        row.link(2, 3, 0);
        Edge.is(22, "an end of a link that is busy is free", row.pass(1), 2);
        Edge.is(13, "the link behind it", row.calls(2), 1);
        Edge.is(22, "the busy one an hour later", row.pass(1), 1);
    }

    private static void promise22WantedInTheHourBefore() {
        BulletinNet net = Nets.loose(2);
        for (int link = 0; link < 20; link++) {
            net.link(0, 1, 2);
        }
        Edge.is(22, "before the hour", net.pass(2), 0);
        for (int link = 0; link < 20; link++) {
            Edge.is(13, "not called yet", net.calls(link), 0);
            Edge.is(22, "one an hour", net.pass(1), 1);
            Edge.is(13, "the lowest that waits", net.calls(link), 1);
        }
        Edge.is(22, "none waits any more", net.pass(4), 0);
        Edge.is(22, "the next day alike", net.pass(24), 20);
        BulletinNet apart = Nets.linked(1);
        apart.link(0, 1, 0);
        Edge.is(22, "hour 0 in one pass", apart.pass(1), 1);
        Edge.is(22, "what waits is called in the next pass", apart.pass(1), 1);
        Edge.is(22, "hours 0 and 1 in one pass", apart.pass(22) + apart.pass(2), 2);
    }

    private static void promise22WantedOverMidnight() {
        BulletinNet net = Nets.loose(2);
        net.link(0, 1, 23);
        net.link(0, 1, 23);
        net.link(0, 1, 0);
        Edge.is(22, "the first day", net.pass(24), 2);
        Edge.is(13, "the first at hour 23", net.calls(0), 1);
        Edge.is(13, "the second waits over midnight", net.calls(1), 0);
        Edge.is(22, "hour 0", net.pass(1), 1);
        Edge.is(13, "the second at hour 0", net.calls(1), 1);
        Edge.is(13, "the third waits for it", net.calls(2), 1);
        Edge.is(22, "hour 1", net.pass(1), 1);
        Edge.is(13, "the third at hour 1", net.calls(2), 2);
        Edge.is(24, "hours 23, 0, 0 and 1", net.cost(0), 12);
    }

    /** A link that waits until its hour comes again is called once in it, and not again behind it. */
    private static void promise22WantedOnceHoweverOften() {
        BulletinNet net = Nets.linked(1);
        net.setDown(0, true);
        Edge.is(22, "two days down", net.pass(48), 0);
        net.setDown(0, false);
        Edge.is(22, "its hour", net.pass(1), 1);
        Edge.is(22, "no call is made up for", net.pass(23), 0);
        Edge.is(13, "called once", net.calls(0), 1);
    }

    private static void promise22DownWhenItWasWanted() {
        BulletinNet net = Nets.pair(6);
        net.setDown(0, true);
        Edge.is(22, "down in its hour", net.pass(7), 0);
        net.setDown(0, false);
        Edge.is(22, "up in the next", net.pass(1), 1);
        Edge.is(22, "not again", net.pass(22), 0);
        net.setDown(0, true);
        Edge.is(22, "down for its hour and two more", net.pass(3), 0);
        net.setDown(0, false);
        Edge.is(22, "wanted in each of them", net.pass(1), 1);
        net.setDown(0, true);
        Edge.is(22, "down when it is not wanted", net.pass(3), 0);
        net.setDown(0, false);
        Edge.is(22, "not wanted then either", net.pass(1), 0);
        Nets.passTo(net, 78);
        net.setDown(0, true);
        net.setDown(0, false);
        Edge.is(22, "down and up within its hour", net.pass(1), 1);
    }

    /** The second of two links of one hour was busy in it: going down and up does not end its wait. */
    private static void promise22TakenDownWhenItWaits() {
        for (int hours = 0; hours <= 30; hours++) {
            BulletinNet net = Nets.loose(2);
            net.link(0, 1, 0);
            net.link(1, 0, 0);
            Edge.is(22, "the first of both", net.pass(1), 1);
            net.setDown(1, true);
            net.setDown(0, true);
            Edge.is(22, "both down for " + hours, hours == 0 ? 0 : net.pass(hours), 0);
            net.setDown(1, false);
            Edge.is(22, "the second is still wanted behind " + hours, net.pass(1), 1);
            Edge.is(13, "it was called", net.calls(1), 1);
            Edge.is(13, "the first one was not", net.calls(0), 1);
        }
    }

    private static void promise22LinksOfThisHourThatAreNew() {
        BulletinNet net = Nets.loose(6);
        net.pass(5);
        net.link(0, 1, 5);
        net.link(2, 3, 4);
        net.link(4, 5, 6);
        net.addNode(2, 2, 2, 1, 4);
        Edge.is(22, "of the hour that is now", net.pass(1), 1);
        Edge.is(13, "that link", net.calls(0), 1);
        Edge.is(22, "of the next hour", net.pass(1), 1);
        Edge.is(13, "that link then", net.calls(2), 1);
        Edge.is(22, "of the hour before: a day later", net.pass(21), 0);
        Edge.is(22, "both of them", net.pass(1), 2);
    }

    private static void promise22RisingNumbers() {
        BulletinNet net = Nets.loose(2);
        net.link(0, 1, 1);
        net.link(0, 1, 0);
        net.link(0, 1, 0);
        net.pass(1);
        Edge.is(13, "hour 0: the lower of two", net.calls(1), 1);
        net.pass(1);
        Edge.is(13, "hour 1: the lowest, though another waits", net.calls(0), 1);
        Edge.is(13, "hour 1: the other waits on", net.calls(2), 0);
        net.pass(1);
        Edge.is(13, "hour 2: the other", net.calls(2), 1);
    }

    /** The links of the others are called in the same hour: what comes now goes on in the next call. */
    private static void promise22WhatComesWaitsForTheNextCall() {
        BulletinNet net = Nets.loose(4);
        net.link(0, 1, 0);
        net.link(1, 2, 1);
        net.link(2, 3, 1);
        for (int link = 0; link < 3; link++) {
            net.carry(link, 0, true);
        }
        net.post(0, 0);
        net.pass(1);
        Edge.is(12, "it waits at 1", net.bundle(1, true), 1);
        net.pass(1);
        Edge.is(12, "it waits at 2", net.bundle(2, true), 1);
        Edge.is(16, "not at 3 in the same hour", net.gotAt(3, 0), NONE);
        net.pass(1);
        Edge.is(16, "at 3 in the next", net.gotAt(3, 0), 2);
    }

    private static void promise22BothBundlesGoOver() {
        BulletinNet net = Nets.loose(4);
        net.link(0, 1, 0);
        net.link(1, 2, 1);
        net.link(3, 0, 1);
        for (int link = 0; link < 3; link++) {
            net.carry(link, 0, true);
        }
        for (int item = 0; item < 15; item++) {
            net.post(0, 0);
            net.post(0, 1);
            net.mail(0, 1);
            net.mail(1, 0);
        }
        net.pass(1);
        Edge.is(12, "the caller's is empty", net.bundle(0, true), 0);
        Edge.is(12, "the other one's is empty", net.bundle(0, false), 0);
        Edge.is(12, "all messages are on the way to 2", net.bundle(1, true), 30);
        Edge.is(12, "all messages are on the way to 3", net.bundle(2, false), 30);
        for (int message = 0; message < 30; message++) {
            Edge.is(16, "come in hour 0", net.gotAt(1 - message % 2, message), 0);
            Edge.is(20, "the mail too", net.mailAt(message), 1 - message % 2);
        }
    }

    private static void promise23FromNoneTo10000() {
        BulletinNet net = new BulletinNet();
        Edge.is(23, "at first", net.clock(), 0);
        net.pass(1);
        Edge.is(23, "behind an hour", net.clock(), 1);
        net.pass(240);
        Edge.is(23, "behind the most", net.clock(), 241);
        Nets.passTo(net, 10000);
        Edge.is(23, "at the end", net.clock(), 10000);
        refuse(net, 1);
        Edge.is(23, "behind what was refused", net.clock(), 10000);
    }

    private static void promise24NodesFrom0ToTheLast() {
        for (int nodes = 1; nodes <= 12; nodes++) {
            int made = nodes;
            Edge.is(24, "of the first", Nets.loose(nodes).cost(0), 0);
            Edge.is(24, "of the last", Nets.loose(nodes).cost(nodes - 1), 0);
            Edge.refused(24, "of the node behind", Nets.INDEX, () -> Nets.loose(made), x -> x.cost(made));
        }
        for (int node : Edge.beyond(0, 11)) {
            Edge.refused(24, "of node " + node, Nets.INDEX, Nets::full, x -> x.cost(node));
        }
        Edge.refused(24, "without nodes", Nets.INDEX, BulletinNet::new, x -> x.cost(0));
        BulletinNet last = Nets.loose(12);
        last.link(11, 10, 0);
        last.pass(1);
        Edge.is(24, "of the last when it has called", last.cost(11), 3);
    }

    private static void promise24TheTariffOfEachHour() {
        int[] dues = {3, 3, 3, 3, 3, 3, 3, 3, 10, 10, 10, 10, 10, 10, 10, 10, 10, 10, 6, 6, 6, 6, 3, 3};
        int sum = 0;
        for (int hour = 0; hour < 24; hour++) {
            BulletinNet net = Nets.pair(hour);
            net.pass(24);
            Edge.is(24, "hour " + hour, net.cost(0), dues[hour]);
            net.pass(240);
            Edge.is(24, "hour " + hour + " of eleven days", net.cost(0), 11 * dues[hour]);
            sum += dues[hour];
        }
        Edge.is(24, "a day of tariffs", sum, 100 + 24 + 30);
        BulletinNet late = Nets.pair(7);
        late.setDown(0, true);
        late.pass(8);
        late.setDown(0, false);
        late.pass(1);
        Edge.is(24, "the hour of the call, not that of the link", late.cost(0), 10);
    }

    private static void promise24FromNoneToManyOverACall() {
        for (int count = 0; count <= 60; count++) {
            BulletinNet net = Nets.pair(9);
            for (int item = 0; item < count; item++) {
                // Both kinds and both ways count alike.
                int from = item / 2 % 2;
                if (item % 2 == 0) {
                    net.post(0, from);
                } else {
                    net.mail(from, 1 - from);
                }
            }
            net.pass(24);
            int due = count == 0 ? 1 : 2 + (count - 1) / 4;
            Edge.is(24, "of " + count, net.cost(0), 10 * due);
            net.pass(24);
            Edge.is(24, "and of an empty call", net.cost(0), 10 * due + 10);
        }
    }

    /** Doubles, and mails that are lost where they come to, went over the call like all others. */
    private static void promise24WhateverGoesOverCounts() {
        for (int count = 0; count <= 9; count++) {
            BulletinNet net = Nets.loose(5);
            int[][] ends = {{0, 1}, {0, 2}, {1, 3}, {2, 3}};
            for (int link = 0; link < 4; link++) {
                net.link(ends[link][0], ends[link][1], link);
                net.carry(link, 0, true);
            }
            for (int item = 0; item < count; item++) {
                net.post(0, 0);
            }
            net.pass(24);
            Edge.is(19, "doubles of " + count, net.doubles(3), count);
            Edge.is(24, "a call of doubles alone, " + count, net.cost(2), 3 * (1 + (count + 3) / 4));
            BulletinNet tree = Nets.tree();
            for (int item = 0; item < count; item++) {
                tree.mail(2, 6);
            }
            tree.pass(24);
            Edge.is(24, "a call of mails that are lost, " + count, tree.cost(2), 3 * (1 + (count + 3) / 4));
            for (int item = 0; item < count; item++) {
                Edge.is(21, "lost at the hub", tree.isLost(item) && tree.mailAt(item) == 0, true);
            }
        }
    }

    private static void promise24TheCallerAlonePays() {
        BulletinNet net = Nets.loose(3);
        net.link(0, 1, 0);
        net.link(1, 2, 8);
        net.pass(24);
        Edge.is(24, "the first caller", net.cost(0), 3);
        Edge.is(24, "called and calling", net.cost(1), 10);
        Edge.is(24, "called alone", net.cost(2), 0);
        net.setDown(1, true);
        net.pass(24);
        Edge.is(24, "a call that is not made", net.cost(1), 10);
        BulletinNet hub = new BulletinNet();
        hub.addNode(1, 1, 0, NONE, 0);
        hub.addNode(1, 1, 1, 0, 18);
        hub.pass(24);
        Edge.is(24, "the hub pays nothing", hub.cost(0), 0);
        Edge.is(24, "the node below it does", hub.cost(1), 6);
    }

    private static void promise25AreasAndNodesFrom0ToTheLast() {
        for (int area = 0; area < 3; area++) {
            Edge.is(25, "area " + area, Nets.wheel().reach(area, 11), area == 0 ? 4095 : 1 << 11);
        }
        for (int area : Edge.beyond(0, 2)) {
            Edge.refused(25, "area " + area, Nets.INDEX, Nets::full, x -> x.reach(area, 0));
        }
        for (int nodes = 1; nodes <= 12; nodes++) {
            int made = nodes;
            Edge.is(25, "the last node", Nets.loose(nodes).reach(0, nodes - 1), 1 << (nodes - 1));
            Edge.refused(25, "the node behind", Nets.INDEX, () -> Nets.loose(made), x -> x.reach(0, made));
        }
        for (int node : Edge.beyond(0, 11)) {
            Edge.refused(25, "node " + node, Nets.INDEX, Nets::full, x -> x.reach(2, node));
            Edge.refused(25, "node and area " + node, Nets.INDEX, Nets::full, x -> x.reach(node, node));
        }
        Edge.refused(25, "without nodes", Nets.INDEX, BulletinNet::new, x -> x.reach(0, 0));
    }

    private static void promise25FromItselfToAll() {
        Supplier<BulletinNet> backwards = () -> {
            BulletinNet net = Nets.loose(12);
            for (int node = 11; node > 0; node--) {
                net.carry(net.link(node - 1, node, 0), 2, true);
            }
            return net;
        };
        BulletinNet net = backwards.get();
        for (int node = 0; node < 12; node++) {
            Edge.is(25, "the longest way, from " + node, net.reach(2, node), 4095);
            Edge.is(25, "itself alone", net.reach(1, node), 1 << node);
        }
        net.setDown(5, true);
        Edge.is(25, "whether down or not", net.reach(2, 0), 4095);
        net.pass(1);
        Edge.is(25, "also behind an hour", net.reach(2, 11), 4095);
        Edge.refused(25, "it posts nothing", Nets.INDEX, backwards, x -> {
            x.reach(2, 0);
            x.reach(3, 0);
        });
        BulletinNet ring = backwards.get();
        ring.carry(ring.link(0, 11, 0), 2, true);
        ring.carry(3, 2, false);
        Edge.is(25, "round the other way", ring.reach(2, 7), 4095);
    }

    private static void promise25OnlyLinksThatCarryTheArea() {
        BulletinNet net = Nets.wheel();
        for (int link = 0; link < 11; link++) {
            net.carry(link, 0, false);
            Edge.is(25, "without the links up to " + link, net.reach(0, 0), 4095 & -1 << (link + 2) | 1);
            Edge.is(25, "the node that is cut off", net.reach(0, link + 1), 2 << link);
        }
        net.carry(4, 1, true);
        Edge.is(25, "in another area", net.reach(1, 5), 0b100001);
        Edge.is(25, "not in this one", net.reach(0, 5), 0b100000);
        net.carry(5, 2, true);
        Edge.is(25, "not over links of several areas", net.reach(1, 0), 0b100001);
    }

    /** A copy in a bundle stays when its link does not carry the area any more; reach asks the links. */
    private static void promise25NotWhatIsInBundles() {
        BulletinNet net = Nets.pair(0);
        net.post(0, 0);
        net.post(0, 1);
        net.carry(0, 0, false);
        Edge.is(25, "the caller, with a copy in its bundle", net.reach(0, 0), 0b01);
        Edge.is(25, "the other one, with a copy in its bundle", net.reach(0, 1), 0b10);
        net.pass(1);
        Edge.is(16, "the copy came nevertheless", net.gotAt(1, 0), 0);
        Edge.is(25, "the caller then", net.reach(0, 0), 0b01);
        net.carry(0, 0, true);
        Edge.is(25, "both when it carries it again", net.reach(0, 0), 0b11);
    }

    /** The document tells what 512 calls answer: the last of them must be answered like the others. */
    private static void fiveHundredAndTwelveCalls() {
        BulletinNet net = new BulletinNet();
        for (int node = 0; node < 12; node++) {
            net.addNode(1, 1, node, node - 1, node);
        }
        for (int link = 11; link < 20; link++) {
            net.link(link - 11, link - 9, link);
        }
        for (int link = 0; link < 20; link++) {
            net.carry(link, 0, true);
        }
        for (int item = 0; item < 30; item++) {
            net.post(0, item % 12);
            net.mail(item % 12, (item + 5) % 12);
        }
        int calls = 0;
        for (int day = 0; day < 410; day++) {
            calls += net.pass(24);
        }
        Edge.is(22, "calls of 410 days", calls, 410 * 20);
        Edge.is(23, "the 512th call", net.clock(), 9840);
        BulletinNet typed = new BulletinNet();
        for (int call = 1; call <= 512; call++) {
            Edge.is(4, "call " + call, call % 11 == 0 ? typed.clearText() : typed.type('1'),
                    call % 11 == 0 ? 10 : call % 11);
        }
    }
}
