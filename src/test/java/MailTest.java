/** Promises 15, 20 and 21: mail, mailAt, isLost. */
public final class MailTest {
    public static void main(String[] args) {
        mailsAreNumbered();
        theExceptionsOfMail();
        upByTheHub();
        downToTheNodeBelow();
        downSeveralSteps();
        anOwnLinkGoesFirst();
        theLowestLinkToTheNode();
        aLinkOfAnotherNodeOnTheWay();
        lostAtOnce();
        lostOnTheWay();
        linksThatAreDownOrCarryNothing();
        laterLinksDoNotMoveIt();
        mailIsNoDouble();
        mailsThatAreNotThere();
        Check.end("MailTest");
    }

    private static void isAt(BulletinNet net, int mail, int node, boolean lost) {
        Check.is("mailAt(" + mail + ")", net.mailAt(mail), node);
        Check.is("isLost(" + mail + ")", net.isLost(mail), lost);
    }

    private static void mailsAreNumbered() {
        BulletinNet net = Nets.pair(0);
        for (int mail = 0; mail < 30; mail++) {
            Check.is("mail", net.mail(mail % 2, 1 - mail % 2), mail);
        }
        Check.fails("a mail too many", Nets.STATE, () -> net.mail(0, 1));
        Check.fails("first no such node", Nets.INDEX, () -> net.mail(0, 2));
        Check.fails("first the same node", Nets.ARGUMENT, () -> net.mail(1, 1));
        Check.is("messages count for themselves", net.post(0, 0), 0);
        Check.is("the caller's bundle", net.bundle(0, true), 16);
        net.pass(1);
        Check.is("room is not made by arriving", net.mailAt(0), 1);
        Check.fails("a mail too many still", Nets.STATE, () -> net.mail(0, 1));
    }

    private static void theExceptionsOfMail() {
        BulletinNet net = Nets.loose(3);
        for (int node : new int[] {-1, 3, 12, Integer.MIN_VALUE, Integer.MAX_VALUE}) {
            Check.fails("mail from " + node, Nets.INDEX, () -> net.mail(node, 0));
            Check.fails("mail to " + node, Nets.INDEX, () -> net.mail(0, node));
            Check.fails("mail twice " + node, Nets.INDEX, () -> net.mail(node, node));
        }
        Check.fails("mail to itself", Nets.ARGUMENT, () -> net.mail(2, 2));
        Check.is("the first mail", net.mail(2, 0), 0);
    }

    private static void upByTheHub() {
        BulletinNet net = Nets.tree();
        net.mail(5, 2);
        isAt(net, 0, 5, false);
        Check.is("in the bundle for the hub", net.bundle(4, true), 1);
        Nets.passTo(net, 6);
        isAt(net, 0, 3, false);
        Check.is("in that for the next hub", net.bundle(2, true), 1);
        Nets.passTo(net, 24 + 4);
        isAt(net, 0, 1, false);
        Nets.passTo(net, 48 + 2);
        isAt(net, 0, 0, false);
        Check.is("down by the other's bundle", net.bundle(1, false), 1);
        net.pass(1);
        isAt(net, 0, 2, false);
        Check.is("nothing is left", net.bundle(1, true) + net.bundle(1, false), 0);
    }

    private static void downToTheNodeBelow() {
        BulletinNet net = Nets.tree();
        net.mail(1, 4);
        Check.is("over the link of 4", net.bundle(3, false), 1);
        net.mail(1, 3);
        Check.is("over the link of 3", net.bundle(2, false), 1);
        net.pass(24);
        isAt(net, 0, 4, false);
        isAt(net, 1, 3, false);
    }

    private static void downSeveralSteps() {
        BulletinNet net = Nets.tree();
        net.mail(0, 5);
        Check.is("first to 1", net.bundle(0, false), 1);
        Nets.passTo(net, 2);
        isAt(net, 0, 1, false);
        Check.is("then to 3", net.bundle(2, false), 1);
        Nets.passTo(net, 4);
        isAt(net, 0, 3, false);
        Check.is("then to 5", net.bundle(4, false), 1);
        Nets.passTo(net, 6);
        isAt(net, 0, 5, false);
    }

    private static void anOwnLinkGoesFirst() {
        BulletinNet net = Nets.tree();
        net.link(2, 5, 10);
        net.mail(2, 5);
        net.mail(5, 2);
        Check.is("from the caller", net.bundle(5, true), 1);
        Check.is("from the other one", net.bundle(5, false), 1);
        net.link(0, 5, 20);
        net.mail(0, 5);
        Check.is("also instead of going down", net.bundle(6, true), 1);
        Nets.passTo(net, 21);
        isAt(net, 0, 5, false);
        isAt(net, 1, 2, false);
        isAt(net, 2, 5, false);
    }

    private static void theLowestLinkToTheNode() {
        BulletinNet net = Nets.loose(3);
        net.link(0, 2, 0);
        net.link(1, 0, 3);
        net.link(0, 1, 1);
        net.mail(0, 1);
        Check.is("the lowest, though it is called later", net.bundle(1, false), 1);
        Check.is("not the one behind", net.bundle(2, true), 0);
        BulletinNet tree = Nets.tree();
        tree.link(0, 1, 20);
        tree.mail(0, 3);
        Check.is("the lowest to the node below", tree.bundle(0, false), 1);
        tree.link(5, 3, 20);
        tree.mail(5, 6);
        Check.is("the lowest to the hub", tree.bundle(4, true), 1);
    }

    private static void aLinkOfAnotherNodeOnTheWay() {
        BulletinNet net = Nets.tree();
        net.link(3, 6, 12);
        net.mail(5, 6);
        Nets.passTo(net, 6);
        isAt(net, 0, 3, false);
        Check.is("over the link of 3", net.bundle(5, true), 1);
        net.mail(4, 6);
        Nets.passTo(net, 13);
        isAt(net, 0, 6, false);
        isAt(net, 1, 4, false);
        Nets.passTo(net, 24 + 5);
        isAt(net, 1, 1, false);
        net.pass(48);
        isAt(net, 1, 0, true);
    }

    private static void lostAtOnce() {
        BulletinNet net = Nets.tree();
        net.mail(6, 0);
        isAt(net, 0, 6, true);
        net.mail(0, 6);
        isAt(net, 1, 0, true);
        net.link(0, 6, 1);
        net.pass(48);
        isAt(net, 0, 6, true);
        isAt(net, 1, 0, true);
        Check.is("the next is not lost", net.mail(6, 0), 2);
        isAt(net, 2, 6, false);
    }

    private static void lostOnTheWay() {
        BulletinNet net = Nets.tree();
        net.mail(3, 6);
        isAt(net, 0, 3, false);
        Nets.passTo(net, 4);
        isAt(net, 0, 1, false);
        Nets.passTo(net, 24 + 1);
        isAt(net, 0, 1, false);
        net.pass(1);
        isAt(net, 0, 0, true);
        Check.is("it is in no bundle", net.bundle(0, false) + net.bundle(1, false), 0);
        net.pass(100);
        isAt(net, 0, 0, true);
    }

    private static void linksThatAreDownOrCarryNothing() {
        BulletinNet net = Nets.pair(0);
        net.carry(0, 0, false);
        net.setDown(0, true);
        net.link(0, 1, 0);
        net.mail(0, 1);
        Check.is("the lowest, though it is down", net.bundle(0, true), 1);
        net.pass(24);
        isAt(net, 0, 0, false);
        Check.is("the other link was called", net.calls(1), 1);
        net.setDown(0, false);
        net.pass(1);
        isAt(net, 0, 1, false);
    }

    private static void laterLinksDoNotMoveIt() {
        BulletinNet net = Nets.tree();
        net.mail(2, 5);
        net.link(2, 5, 0);
        net.pass(1);
        isAt(net, 0, 2, false);
        Check.is("it stays in its bundle", net.bundle(1, true), 1);
        net.mail(2, 5);
        Check.is("the next takes the link", net.bundle(5, true), 1);
    }

    private static void mailIsNoDouble() {
        BulletinNet net = Nets.pair(0);
        net.mail(0, 1);
        net.mail(0, 1);
        net.pass(1);
        Check.is("doubles", net.doubles(1), 0);
    }

    private static void mailsThatAreNotThere() {
        BulletinNet net = Nets.pair(0);
        net.mail(0, 1);
        for (int mail : new int[] {-1, 1, 30, Integer.MIN_VALUE, Integer.MAX_VALUE}) {
            Check.fails("mailAt of " + mail, Nets.INDEX, () -> net.mailAt(mail));
            Check.fails("isLost of " + mail, Nets.INDEX, () -> net.isLost(mail));
        }
    }
}
