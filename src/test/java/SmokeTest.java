public final class SmokeTest { public static void main(String[] a) { Check.is("nodes", new BulletinNet().nodes(), 0); Check.end("SmokeTest"); } }
