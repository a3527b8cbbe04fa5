/** Promises 8 to 13: link, carry, setDown, links, bundle, calls. */
public final class LinksTest {
    public static void main(String[] args) {
        linksAreNumberedAndCounted();
        theExceptionsOfLink();
        theLastLink();
        carrying();
        carryingLeavesBundles();
        goingDown();
        bundlesOfBothEnds();
        callsAreCounted();
        linksThatAreNotThere();
        Check.end("LinksTest");
    }

    private static void linksAreNumberedAndCounted() {
        BulletinNet net = Nets.tree();
        Check.is("links of the tree", net.links(), 5);
        Check.is("link", net.link(6, 0, 23), 5);
        Check.is("the same link again", net.link(6, 0, 0), 6);
        Check.is("the other way round", net.link(0, 6, 0), 7);
        Check.is("links", net.links(), 8);
        net.carry(5, 2, true);
        net.post(2, 6);
        Check.is("the caller's bundle", net.bundle(5, true), 1);
        Check.is("a link with a hub behind it", net.addNode(7, 7, 7, 6, 0), 7);
        Check.is("links with that", net.links(), 9);
    }

    private static void theExceptionsOfLink() {
        BulletinNet net = Nets.loose(2);
        for (int node : new int[] {-1, 2, Integer.MIN_VALUE, Integer.MAX_VALUE}) {
            Check.fails("link from " + node, Nets.INDEX, () -> net.link(node, 1, 0));
            Check.fails("link to " + node, Nets.INDEX, () -> net.link(1, node, 0));
            Check.fails("link twice " + node, Nets.INDEX, () -> net.link(node, node, 0));
            Check.fails("link to none at 24", Nets.INDEX, () -> net.link(0, node, 24));
        }
        for (int hour : new int[] {-1, 24, Integer.MIN_VALUE, Integer.MAX_VALUE}) {
            Check.fails("link at " + hour, Nets.ARGUMENT, () -> net.link(0, 1, hour));
        }
        Check.fails("link to itself", Nets.ARGUMENT, () -> net.link(1, 1, 0));
        Check.is("links", net.links(), 0);
    }

    private static void theLastLink() {
        BulletinNet net = Nets.loose(3);
        for (int link = 0; link < 20; link++) {
            Check.is("link", net.link(link % 3, (link + 1) % 3, link), link);
        }
        Check.fails("a link too many", Nets.STATE, () -> net.link(0, 1, 0));
        Check.fails("first no such node", Nets.INDEX, () -> net.link(0, 3, 0));
        Check.fails("first the same node", Nets.ARGUMENT, () -> net.link(0, 0, 0));
        Check.fails("first the hour", Nets.ARGUMENT, () -> net.link(0, 1, 24));
        Check.is("links", net.links(), 20);
    }

    private static void carrying() {
        BulletinNet net = Nets.loose(3);
        net.link(0, 1, 0);
        net.link(1, 2, 0);
        for (int area = 0; area < 3; area++) {
            Check.is("none at first", net.carry(0, area, false), false);
            Check.is("reach at first", net.reach(area, 0), 1);
        }
        Check.is("carry", net.carry(0, 1, true), true);
        Check.is("carry again", net.carry(0, 1, true), false);
        Check.is("reach in the area", net.reach(1, 0), 3);
        Check.is("reach in the area below", net.reach(0, 0), 1);
        Check.is("reach in the area above", net.reach(2, 0), 1);
        Check.is("another area", net.carry(0, 2, true), true);
        Check.is("another link", net.carry(1, 1, true), true);
        Check.is("reach over both", net.reach(1, 0), 7);
        Check.is("no longer", net.carry(0, 1, false), true);
        Check.is("no longer again", net.carry(0, 1, false), false);
        Check.is("the other area stays", net.carry(0, 2, true), false);
        Check.is("the other link stays", net.carry(1, 1, true), false);
        for (int area : new int[] {-1, 3, 32, Integer.MIN_VALUE, Integer.MAX_VALUE}) {
            Check.fails("carry " + area, Nets.INDEX, () -> net.carry(0, area, true));
            Check.fails("carry not " + area, Nets.INDEX, () -> net.carry(0, area, false));
        }
    }

    private static void carryingLeavesBundles() {
        BulletinNet net = Nets.pair(0);
        net.post(0, 0);
        net.carry(0, 0, false);
        Check.is("what is in the bundle stays", net.bundle(0, true), 1);
        net.post(0, 0);
        Check.is("nothing comes to it", net.bundle(0, true), 1);
        net.pass(1);
        Check.is("what was in it comes", net.gotAt(1, 0), 0);
        Check.is("what was not does not", net.gotAt(1, 1), -1);
        net.carry(0, 0, true);
        Check.is("nothing comes into it late", net.bundle(0, true), 0);
    }

    private static void goingDown() {
        BulletinNet net = Nets.pair(3);
        Check.is("up at first", net.setDown(0, false), false);
        Check.is("down", net.setDown(0, true), true);
        Check.is("down again", net.setDown(0, true), false);
        net.post(0, 0);
        Check.is("down links get messages", net.bundle(0, true), 1);
        Check.is("down links are not called", net.pass(24), 0);
        Check.is("down links reach", net.reach(0, 0), 3);
        Check.is("up", net.setDown(0, false), true);
        Check.is("up again", net.setDown(0, false), false);
        Check.is("called now", net.pass(1), 1);
        net.link(0, 1, 0);
        Check.is("the other link is up", net.setDown(1, false), false);
    }

    private static void bundlesOfBothEnds() {
        BulletinNet net = Nets.pair(5);
        Check.is("empty at first", net.bundle(0, true), 0);
        Check.is("empty at the other end", net.bundle(0, false), 0);
        net.mail(0, 1);
        net.mail(0, 1);
        net.post(0, 1);
        net.mail(1, 0);
        net.post(0, 0);
        net.post(0, 1);
        net.post(0, 1);
        Check.is("of the caller", net.bundle(0, true), 3);
        Check.is("of the other one", net.bundle(0, false), 4);
        net.pass(5);
        Check.is("before the call", net.bundle(0, true), 3);
        net.pass(1);
        Check.is("after the call", net.bundle(0, true), 0);
        Check.is("after the call at the other end", net.bundle(0, false), 0);
    }

    private static void callsAreCounted() {
        BulletinNet net = Nets.tree();
        Check.is("none at first", net.calls(4), 0);
        Check.is("five in a day", net.pass(24), 5);
        net.pass(2);
        Check.is("called twice", net.calls(0), 2);
        for (int link = 1; link < 5; link++) {
            Check.is("called once", net.calls(link), 1);
        }
    }

    private static void linksThatAreNotThere() {
        BulletinNet net = Nets.tree();
        for (int link : new int[] {-1, 5, 20, Integer.MIN_VALUE, Integer.MAX_VALUE}) {
            Check.fails("carry over " + link, Nets.INDEX, () -> net.carry(link, 0, true));
            Check.fails("setDown of " + link, Nets.INDEX, () -> net.setDown(link, true));
            Check.fails("bundle of " + link, Nets.INDEX, () -> net.bundle(link, true));
            Check.fails("other bundle of " + link, Nets.INDEX, () -> net.bundle(link, false));
            Check.fails("calls of " + link, Nets.INDEX, () -> net.calls(link));
        }
        BulletinNet empty = new BulletinNet();
        Check.fails("calls of no link", Nets.INDEX, () -> empty.calls(0));
        Check.fails("carry over no link", Nets.INDEX, () -> empty.carry(0, 0, true));
        Check.fails("setDown of no link", Nets.INDEX, () -> empty.setDown(0, true));
        Check.fails("bundle of no link", Nets.INDEX, () -> empty.bundle(0, true));
    }
}
