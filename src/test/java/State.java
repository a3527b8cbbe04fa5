/** All that can be asked of a net without changing it, as one text. */
final class State {
    private State() {
    }

    static String of(BulletinNet net) {
        StringBuilder text = new StringBuilder();
        text.append("clock ").append(net.clock());
        for (int link = 0; link < net.links(); link++) {
            text.append("\nlink ").append(link).append(": ").append(net.bundle(link, true));
            text.append(' ').append(net.bundle(link, false)).append(' ').append(net.calls(link));
        }
        int messages = messages(net);
        for (int node = 0; node < net.nodes(); node++) {
            text.append("\nnode ").append(node).append(": ").append(net.cost(node));
            text.append(' ').append(net.doubles(node));
            for (int area = 0; area < 3; area++) {
                text.append(' ').append(net.reach(area, node));
            }
            for (int message = 0; message < messages; message++) {
                text.append(' ').append(net.gotAt(node, message)).append('=');
                text.append(net.seenBy(node, message)).append('=').append(seenText(net, node, message));
            }
        }
        for (int mail = 0; mail < mails(net); mail++) {
            text.append("\nmail ").append(mail).append(": ").append(net.mailAt(mail));
            text.append(' ').append(net.isLost(mail));
        }
        return text.append("\nfind ").append(found(net)).toString();
    }

    /** The seen-by as it is written, without the spaces behind it. */
    static String seenText(BulletinNet net, int node, int message) {
        StringBuilder text = new StringBuilder();
        for (int place = 0; place < 80; place++) {
            text.append(net.seenAt(node, message, place));
        }
        return text.toString().stripTrailing();
    }

    private static int messages(BulletinNet net) {
        int count = 0;
        while (net.nodes() > 0) {
            try {
                net.gotAt(0, count);
            } catch (IndexOutOfBoundsException e) {
                return count;
            }
            count++;
        }
        return 0;
    }

    private static int mails(BulletinNet net) {
        for (int count = 0;; count++) {
            try {
                net.mailAt(count);
            } catch (IndexOutOfBoundsException e) {
                return count;
            }
        }
    }

    private static String found(BulletinNet net) {
        try {
            return String.valueOf(net.find());
        } catch (IllegalStateException e) {
            return "no address";
        }
    }
}
