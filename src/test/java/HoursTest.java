/** Promises 22 to 25: pass, clock, cost, reach. */
public final class HoursTest {
    private static final int NONE = BulletinNet.NONE;

    public static void main(String[] args) {
        theClockGrows();
        theExceptionsOfPass();
        theClockEnds();
        linksAreCalledAtTheirHour();
        aBusyEndWaitsAnHour();
        risingNumbersGoFirst();
        waitingLinksThatAreCalledOnce();
        aLinkThatIsDownWaitsOn();
        linksMadeInAnHour();
        bothBundlesGoOver();
        aMessageWaitsForTheNextCall();
        aNodeHasOneCallInAnHour();
        tariffs();
        theCallerPaysByTheNumber();
        bothWaysAreCounted();
        costsOfNodesThatAreNotThere();
        reaching();
        theExceptionsOfReach();
        Check.end("HoursTest");
    }

    private static void theClockGrows() {
        BulletinNet net = new BulletinNet();
        Check.is("pass of an empty net", net.pass(1), 0);
        Check.is("clock", net.clock(), 1);
        Check.is("pass of the most", net.pass(240), 0);
        Check.is("clock after it", net.clock(), 241);
        Check.is("pass", net.pass(7), 0);
        Check.is("clock after that", net.clock(), 248);
    }

    private static void theExceptionsOfPass() {
        BulletinNet net = Nets.pair(0);
        for (int hours : new int[] {0, -1, 241, Integer.MIN_VALUE, Integer.MAX_VALUE}) {
            Check.fails("pass of " + hours, Nets.ARGUMENT, () -> net.pass(hours));
        }
    }

    private static void theClockEnds() {
        BulletinNet net = Nets.pair(15);
        Nets.passTo(net, 9999);
        Check.fails("two hours too many", Nets.STATE, () -> net.pass(2));
        Check.fails("first the hours", Nets.ARGUMENT, () -> net.pass(241));
        Check.fails("first no hours", Nets.ARGUMENT, () -> net.pass(0));
        Check.is("the last hour", net.pass(1), 1);
        Check.is("clock", net.clock(), 10000);
        Check.fails("an hour too many", Nets.STATE, () -> net.pass(1));
        Check.fails("many hours too many", Nets.STATE, () -> net.pass(240));
        Check.is("calls", net.calls(0), 417);
        Check.is("cost", net.cost(0), 4170);
        Check.is("posting goes on", net.post(0, 0), 0);
        Check.is("got at the end", net.gotAt(0, 0), 10000);
        BulletinNet other = new BulletinNet();
        Nets.passTo(other, 9760);
        Check.is("just to the end", other.pass(240), 0);
    }

    private static void linksAreCalledAtTheirHour() {
        BulletinNet net = Nets.pair(23);
        net.link(0, 1, 0);
        Check.is("hour 0", net.pass(1), 1);
        Check.is("the link of hour 0", net.calls(1), 1);
        Check.is("hours 1 to 22", net.pass(22), 0);
        Check.is("hour 23", net.pass(1), 1);
        Check.is("the link of hour 23", net.calls(0), 1);
        Check.is("ten days", net.pass(240), 20);
        Check.is("calls of one", net.calls(0), 11);
        Check.is("calls of the other", net.calls(1), 11);
    }

    private static void aBusyEndWaitsAnHour() {
        BulletinNet net = Nets.loose(4);
        net.link(0, 1, 2);
        net.link(2, 0, 2);
        net.link(1, 3, 2);
        Check.is("hours 0 and 1", net.pass(2), 0);
        Check.is("hour 2", net.pass(1), 1);
        Check.is("calls of 0", net.calls(0), 1);
        Check.is("the caller was free, the other busy", net.calls(1), 0);
        Check.is("the other was free, the caller busy", net.calls(2), 0);
        Check.is("hour 3", net.pass(1), 2);
        Check.is("calls of 1", net.calls(1), 1);
        Check.is("calls of 2", net.calls(2), 1);
        Check.is("hours 4 to 25", net.pass(22), 0);
        Check.is("the next hour 2", net.pass(1), 1);
    }

    /** The three links of one pair: each call makes the others wait one hour more. */
    private static void risingNumbersGoFirst() {
        BulletinNet net = Nets.loose(2);
        net.link(0, 1, 5);
        net.link(1, 0, 4);
        net.link(0, 1, 4);
        net.pass(4);
        net.pass(1);
        Check.is("hour 4: the lower of both", net.calls(1), 1);
        Check.is("hour 4: not the higher", net.calls(2), 0);
        net.pass(1);
        Check.is("hour 5: the lowest of those due and waiting", net.calls(0), 1);
        Check.is("hour 5: the one that waits is busy again", net.calls(2), 0);
        Check.is("hour 6", net.pass(1), 1);
        Check.is("hour 6: it waited on", net.calls(2), 1);
        Check.is("hour 7", net.pass(1), 0);
    }

    private static void waitingLinksThatAreCalledOnce() {
        BulletinNet net = Nets.loose(2);
        net.link(0, 1, 0);
        net.setDown(0, true);
        net.pass(24);
        net.setDown(0, false);
        Check.is("due and waiting", net.pass(1), 1);
        Check.is("once", net.pass(23), 0);
        Check.is("calls", net.calls(0), 1);
    }

    private static void aLinkThatIsDownWaitsOn() {
        BulletinNet net = Nets.pair(6);
        net.setDown(0, true);
        Check.is("down for days", net.pass(100), 0);
        net.setDown(0, false);
        Check.is("up at hour 4", net.pass(1), 1);
        Check.is("not in hour 5", net.pass(1), 0);
        Check.is("in hour 6", net.pass(1), 1);
        net.setDown(0, true);
        net.setDown(0, false);
        Check.is("it does not wait when it was down for no hour", net.pass(1), 0);
        net.setDown(0, true);
        net.pass(5);
        net.setDown(0, false);
        Check.is("nor when its hour was not among them", net.pass(1), 0);
    }

    private static void linksMadeInAnHour() {
        BulletinNet net = Nets.loose(3);
        net.pass(10);
        net.link(0, 1, 10);
        net.link(1, 2, 9);
        Check.is("the hour that is now", net.pass(1), 1);
        Check.is("calls", net.calls(0), 1);
        Check.is("the hour that was waits a day", net.pass(22), 0);
        Check.is("then it is called", net.pass(1), 1);
        Check.is("calls of the other", net.calls(1), 1);
    }

    private static void bothBundlesGoOver() {
        BulletinNet net = Nets.loose(3);
        net.link(0, 1, 0);
        net.link(2, 1, 1);
        net.carry(0, 0, true);
        net.carry(1, 0, true);
        net.mail(1, 2);
        net.post(0, 0);
        net.post(0, 1);
        net.pass(1);
        Check.is("the other one got it", net.gotAt(1, 0), 0);
        Check.is("the caller got it", net.gotAt(0, 1), 0);
        Check.is("both bundles are empty", net.bundle(0, true) + net.bundle(0, false), 0);
        Check.is("all three are in the bundle for 2", net.bundle(1, false), 3);
        net.pass(1);
        Check.is("the cost of three", net.cost(2), 6);
        Check.is("2 got both", net.gotAt(2, 0) + net.gotAt(2, 1), 2);
    }

    private static void aMessageWaitsForTheNextCall() {
        BulletinNet net = Nets.loose(4);
        net.link(1, 2, 0);
        net.link(0, 1, 0);
        net.link(2, 3, 0);
        for (int link = 0; link < 3; link++) {
            net.carry(link, 0, true);
        }
        net.post(0, 0);
        Check.is("hour 0: 1 and 2 alone", net.pass(1), 1);
        Check.is("hour 1: both that waited", net.pass(1), 2);
        Check.is("1 got it", net.gotAt(1, 0), 1);
        Check.is("it waits at 1", net.bundle(0, true), 1);
        Check.is("a day without calls", net.pass(22), 0);
        net.pass(1);
        Check.is("2 got it", net.gotAt(2, 0), 24);
        Check.is("3 not yet", net.gotAt(3, 0), NONE);
        net.pass(1);
        Check.is("3 got it", net.gotAt(3, 0), 25);
    }

    private static void aNodeHasOneCallInAnHour() {
        BulletinNet net = Nets.loose(3);
        net.link(0, 1, 0);
        net.link(1, 2, 0);
        net.mail(0, 1);
        Check.is("one call an hour for each node", net.pass(1), 1);
        Check.is("the other waits", net.calls(1), 0);
        Check.is("and is called in the next", net.pass(1), 1);
    }

    private static void tariffs() {
        for (int hour = 0; hour < 24; hour++) {
            BulletinNet net = Nets.pair(hour);
            net.pass(24);
            int due = hour < 8 || hour > 21 ? 3 : hour < 18 ? 10 : 6;
            Check.is("the cost at " + hour, net.cost(0), due);
            Check.is("the other one pays nothing", net.cost(1), 0);
            net.pass(24);
            Check.is("the cost at " + hour + " twice", net.cost(0), 2 * due);
        }
        BulletinNet late = Nets.pair(17);
        late.setDown(0, true);
        late.pass(18);
        late.setDown(0, false);
        late.pass(1);
        Check.is("the hour of the call, not of the link", late.cost(0), 6);
    }

    private static void theCallerPaysByTheNumber() {
        for (int count = 0; count <= 30; count++) {
            BulletinNet net = Nets.pair(12);
            for (int i = 0; i < count; i++) {
                if (i % 2 == 0) {
                    net.post(0, 0);
                } else {
                    net.mail(0, 1);
                }
            }
            net.pass(24);
            int units = 1;
            for (int left = count; left > 0; left -= 4) {
                units++;
            }
            Check.is("the cost of " + count, net.cost(0), 10 * units);
        }
    }

    private static void bothWaysAreCounted() {
        BulletinNet net = Nets.pair(0);
        for (int i = 0; i < 3; i++) {
            net.mail(0, 1);
            net.mail(1, 0);
        }
        net.pass(1);
        Check.is("three each way", net.cost(0), 9);
        net.post(0, 0);
        net.post(0, 1);
        net.pass(24);
        Check.is("and one each way", net.cost(0), 15);
        Check.is("the other one pays nothing", net.cost(1), 0);
        net.link(1, 0, 18);
        net.pass(24);
        Check.is("until it calls", net.cost(1), 6);
    }

    private static void costsOfNodesThatAreNotThere() {
        BulletinNet net = Nets.pair(0);
        for (int node : new int[] {-1, 2, 12, Integer.MIN_VALUE, Integer.MAX_VALUE}) {
            Check.fails("cost of " + node, Nets.INDEX, () -> net.cost(node));
        }
    }

    private static void reaching() {
        BulletinNet net = Nets.loose(12);
        for (int node = 11; node > 0; node--) {
            int link = node % 2 == 0 ? net.link(node, node - 1, 0) : net.link(node - 1, node, 0);
            net.carry(link, 1, true);
        }
        for (int node = 0; node < 12; node++) {
            Check.is("reach of a long line", net.reach(1, node), 4095);
            Check.is("reach without links", net.reach(0, node), 1 << node);
        }
        net.setDown(3, true);
        Check.is("over a link that is down", net.reach(1, 0), 4095);
        net.carry(3, 1, false);
        Check.is("the lower part", net.reach(1, 0), 0b000011111111);
        Check.is("the upper part", net.reach(1, 11), 0b111100000000);
        net.carry(3, 2, true);
        Check.is("another area", net.reach(2, 7), 0b000110000000);
        net.link(0, 11, 0);
        Check.is("a link that carries nothing", net.reach(1, 11), 0b111100000000);
        net.carry(11, 1, true);
        Check.is("a ring", net.reach(1, 5), 4095);
        Check.is("nothing is posted by it", net.bundle(0, true) + net.bundle(11, true), 0);
    }

    private static void theExceptionsOfReach() {
        BulletinNet net = Nets.loose(2);
        for (int number : new int[] {-1, 3, 12, 32, Integer.MIN_VALUE, Integer.MAX_VALUE}) {
            Check.fails("reach in " + number, Nets.INDEX, () -> net.reach(number, 0));
            Check.fails("reach from " + number, Nets.INDEX, () -> net.reach(0, number));
        }
        Check.fails("reach from 2", Nets.INDEX, () -> net.reach(0, 2));
        BulletinNet empty = new BulletinNet();
        Check.fails("reach in an empty net", Nets.INDEX, () -> empty.reach(0, 0));
    }
}
