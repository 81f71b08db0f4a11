import java.util.Random;

/**
 * All promises: scripts and calls at random, behind each of which all that Snapshothall tells is compared with what
 * PlainHall tells, where the document is done a second time. With two numbers: the seeds from the first up to the second.
 */
public final class PlainTest {
    private static final int SESSIONS = 4, MOST_BYTES = 700;

    private final Random random;
    private final PlainHall plain = new PlainHall();
    private final Snapshothall hall = new Snapshothall();
    private final PlainScripts scripts;
    private final StringBuilder log = new StringBuilder();

    private PlainTest(long seed) {
        random = new Random(seed * 0x9E3779B97F4A7C15L + 5);
        scripts = new PlainScripts(random, plain);
    }

    public static void main(String[] args) {
        long from = args.length == 2 ? Long.parseLong(args[0]) : 0;
        long to = args.length == 2 ? Long.parseLong(args[1]) : 400;
        for (long seed = from; seed < to; seed++) {
            new PlainTest(seed).play();
        }
        Calls.end("PlainTest");
    }

    private boolean happens(double share) {
        return random.nextDouble() < share;
    }

    private void due(String what, Object got, Object want) {
        Calls.due(what, got, want);
        if (!got.equals(want)) {
            Calls.end("PlainTest behind " + log);
        }
    }

    private void play() {
        boolean hasFuses = random.nextInt(3) == 0;
        int sessions = 1 + random.nextInt(SESSIONS);
        int most = random.nextInt(3) == 0 ? 12 : 1;
        for (int i = 10 + random.nextInt(random.nextInt(8) == 0 ? 300 : 50); i > 0; i--) {
            if (hasFuses) {
                cut();
            }
            StringBuilder script = new StringBuilder();
            for (int s = random.nextInt(most); s >= 0; s--) {
                int session = random.nextInt(sessions);
                String one = session + ":" + scripts.statement(plain.sessions[session]) + ";";
                script.append(script.length() + one.length() <= MOST_BYTES ? one : "");
            }
            perform(happens(0.02) ? mutated(script.toString()) : script.toString());
            if (happens(0.1)) {
                compare();
            }
        }
        for (int s = 0; s < SESSIONS; s++) {
            perform(plain.sessions[s].transaction == null ? "" : s + ":commit;");
        }
        compare();
    }

    private String mutated(String script) {
        int at = random.nextInt(script.length() + 1);
        String[] pieces = {"", " ", ",", "(", "a", "1", ";", "not ", "'"};
        String mutated = script.substring(0, at) + pieces[random.nextInt(pieces.length)]
                + script.substring(Math.min(script.length(), at + random.nextInt(3)));
        return mutated.substring(0, Math.min(MOST_BYTES, mutated.length()));
    }

    private void cut() {
        if (happens(0.08)) {
            int cells = happens(0.2) ? 0 : 1 + random.nextInt(60);
            boolean isBehind = random.nextBoolean();
            log.append("-- a fuse of ").append(cells).append(isBehind ? " behind\n" : "\n");
            due("fuse", hall.setFuse(cells, isBehind), plain.setFuse(cells, isBehind));
        }
        if (plain.isDown && happens(0.5)) {
            log.append("-- restart\n");
            due("restart", hall.restart(), plain.restart());
        }
        if (!plain.isDown && !plain.isBusy() && happens(0.05)) {
            log.append("-- checkpoint\n");
            due("checkpoint", hall.checkpoint(), plain.checkpoint());
        }
    }

    private void perform(String script) {
        log.append(script).append('\n');
        Calls.type(hall, script);
        int fault = PlainText.fault(script);
        due("fault", hall.fault(), fault);
        if (fault != PlainHall.NONE) {
            hall.clearText();
            return;
        }
        due("run", hall.run(), plain.run(script));
        due("outcome", Calls.outcome(hall), plain.outcome());
    }

    private void compare() {
        due("what is kept", Calls.kept(hall), plain.kept());
        Boolean want = plain.isSerial();
        due("isSerial", isSerial(), "" + want);
        if (plain.isPromisedToBeSerial() && want != null) {
            due("isSerial as promised", want, true);
        }
    }

    private String isSerial() {
        try {
            return "" + hall.isSerial();
        } catch (IllegalStateException e) {
            return "null";
        }
    }
}
