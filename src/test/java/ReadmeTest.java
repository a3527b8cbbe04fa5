import java.io.IOException;
import java.nio.file.Files;
import java.nio.file.Path;

/** The example of README.md answers what is said there, and README.md names every call and test. */
public final class ReadmeTest {
    public static void main(String[] args) throws IOException {
        theExample();
        theNames(Files.readString(Path.of("README.md")));
        Check.end("ReadmeTest");
    }

    private static void theExample() {
        BulletinNet net = new BulletinNet();
        int hub = net.addNode(2, 30, 0, BulletinNet.NONE, 0);
        int leaf = net.addNode(2, 30, 4, hub, 1);
        Check.is("carry", net.carry(0, 0, true), true);
        int message = net.post(0, leaf);
        int letter = net.mail(hub, leaf);
        Check.is("pass", net.pass(2), 1);
        Check.is("gotAt", net.gotAt(hub, message), 1);
        Check.is("seenBy", net.seenBy(hub, message), 3);
        Check.is("seenAt", Nets.seenText(net, hub, message), "30/0 4");
        Check.is("mailAt", net.mailAt(letter), leaf);
        Check.is("cost", net.cost(leaf), 6);
        Check.is("type", net.type('4'), 1);
        Check.is("find", net.find(), leaf);
    }

    private static void theNames(String text) throws IOException {
        for (var method : BulletinNet.class.getMethods()) {
            if (method.getDeclaringClass() == BulletinNet.class) {
                String call = "`" + method.getName() + "(";
                Check.is("README.md tells of " + call, text.contains(call), true);
            }
        }
        try (var files = Files.list(Path.of("src/test/java"))) {
            for (Path file : files.toList()) {
                String name = "`" + file.getFileName().toString().replace(".java", "") + "`";
                Check.is("README.md tells of " + name, text.contains(name), true);
            }
        }
    }
}
