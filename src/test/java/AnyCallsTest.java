import java.util.Arrays;
import java.util.Random;

/**
 * Rule 7 of LANGUAGE.md: no call ever throws or fails to end, for any arguments in any state. The calls
 * are drawn (always the same ones), far more of them than the 512 on some objects; and what can be said
 * of any answer in any state is looked at on the way.
 */
public final class AnyCallsTest {
    private static final int LOWEST = Integer.MIN_VALUE;
    private static final int HIGHEST = Integer.MAX_VALUE;
    private static final int[] ODD = {
        LOWEST, LOWEST + 1, -65536, -257, -256, -100, -64, -21, -20, -14, -2, -1, 0, 1, 2, 3, 4, 5, 6, 7, 8, 9, 10, 15,
        16, 17, 20, 21, 31, 32, 33, 63, 64, 65, 80, 82, 99, 100, 127, 128, 255, 256, 511, 512, 1023, 1024, 2047, 2048,
        4095, 4096, 65535, 65536, 1 << 30, HIGHEST - 16, HIGHEST - 2, HIGHEST - 1, HIGHEST};
    private static final int[] EDGES = {
        LOWEST, -2, -1, 0, 1, 2, 5, 6, 8, 16, 99, 100, 2048, 4096, HIGHEST - 1, HIGHEST};
    private static final int SECONDS = 300;

    private final SnapshotFiles files;
    private final Random random;
    private String call = "";

    private AnyCallsTest(SnapshotFiles files, int seed) {
        this.files = files;
        random = new Random(seed);
    }

    public static void main(String[] args) {
        endAfterAWhile();
        for (int seed = 0; seed < 40; seed++) {
            Check.part("rule 7, every call with odd arguments, seed " + seed);
            new AnyCallsTest(new SnapshotFiles(), seed).guarded(seed * 25, true);
        }
        for (int seed = 0; seed < 5; seed++) {
            Check.part("rule 7, where there is no room, seed " + seed);
            new AnyCallsTest(Scenes.full().uncounted(), seed).guarded(seed * 1000, true);
            new AnyCallsTest(Scenes.roomForOneChain().uncounted(), seed).guarded(seed * 1000, true);
            new AnyCallsTest(Scenes.twentyNodes().uncounted(), seed).guarded(seed * 1000, true);
        }
        for (int seed = 0; seed < 2000; seed++) {
            Check.part("rule 7, drawn calls, seed " + seed);
            new AnyCallsTest(new SnapshotFiles(), seed).guarded(seed == 0 ? 300000 : 700, false);
        }
        Check.end();
    }

    /** A call that does not end must not hang the tests. */
    private static void endAfterAWhile() {
        Thread watch = new Thread(() -> {
            try {
                Thread.sleep(SECONDS * 1000L);
            } catch (InterruptedException stopped) {
                return;
            }
            System.out.println("a call does not end");
            Runtime.getRuntime().halt(1);
        });
        watch.setDaemon(true);
        watch.start();
    }

    private void guarded(int drawn, boolean every) {
        try {
            for (int i = 0; i < drawn; i++) {
                drawnCall();
                lookAround();
            }
            if (every) {
                everyCall();
            }
        } catch (RuntimeException | StackOverflowError thrown) {
            Check.same(call + " threw " + thrown + "; a throw", 1, 0);
        }
    }

    private void everyCall() {
        for (int a : EDGES) {
            one("say", a);
            one("hangUp", a > 1 || a < 0 ? a : 2);
            one("reply", a);
            one("waiting", a);
            for (int b : EDGES) {
                two("member", a, b);
                two("flush", a, b);
                two("fid", a, b);
                for (int c : EDGES) {
                    for (int d : EDGES) {
                        send(a, b, c, d);
                    }
                }
                two("serve", a, b);
            }
        }
        everyRequest();
        for (int a : EDGES) {
            one("sync", a);
            one("hangUp", a);
            one("snapshot", 0);
        }
        one("crash", 0);
        lookAround();
    }

    private void everyRequest() {
        for (int kind = 0; kind < 10; kind++) {
            for (int a : EDGES) {
                for (int b : EDGES) {
                    request(kind, random.nextInt(6));
                    request(kind, random.nextInt(6), a);
                    request(kind, random.nextInt(6), a, b);
                    request(kind, random.nextInt(6), b, a, EDGES[random.nextInt(EDGES.length)]);
                    request(kind, random.nextInt(6), a, EDGES[random.nextInt(EDGES.length)], b, b);
                }
            }
            lookAround();
        }
    }

    private void request(int kind, int fid, int... numbers) {
        int connection = random.nextInt(2);
        for (int number : numbers) {
            one("say", number);
        }
        send(connection, 7, kind, fid);
        two("serve", connection, 7);
    }

    private int number(int below) {
        return random.nextInt(12) == 0 ? ODD[random.nextInt(ODD.length)] : random.nextInt(below);
    }

    private void drawnCall() {
        switch (random.nextInt(40)) {
            case 0: two("member", number(4), number(4)); break;
            case 1: one("say", number(5000)); break;
            case 2: send(number(2), number(8), number(10), number(6)); break;
            case 3: two("serve", number(2), number(8)); break;
            case 4: two("flush", number(2), number(8)); break;
            case 5: one(random.nextInt(8) == 0 ? "hangUp" : "waiting", number(2)); break;
            case 6: one("sync", random.nextInt(4) > 0 ? -1 : number(9)); break;
            case 7: one(random.nextInt(9) == 0 ? "snapshot" : "reply", number(9)); break;
            case 8: one(random.nextInt(9) == 0 ? "crash" : "say", number(256)); break;
            default: drawnRequest(); break;
        }
    }

    private void drawnRequest() {
        int fid = random.nextInt(6);
        switch (random.nextInt(10)) {
            case 0: case 1: request(0, fid, number(4), number(3)); break;
            case 2: request(1, fid, number(6), number(4), number(4), number(4)); break;
            case 3: request(1, fid, number(6), number(4)); break;
            case 4: request(2, fid, random.nextInt(3) + 16 * random.nextInt(2) + 64 * random.nextInt(2)); break;
            case 5: request(3, fid, 1 + number(9), number(2048) | 2559, 0); break;
            case 6: request(3, fid, 1 + number(9), number(2048), number(3)); break;
            case 7: request(4 + random.nextInt(2), fid, number(17), number(9)); break;
            case 8: request(9, fid, number(12) - 1, number(2048) - 1, number(18) - 1, number(5) - 1); break;
            default: request(6 + random.nextInt(3), fid); break;
        }
    }

    private void one(String name, int a) {
        call = name + "(" + a + ")";
        switch (name) {
            case "say": files.say(a); break;
            case "hangUp": among(files.hangUp(a) ? 1 : 0, a == 0 || a == 1 ? 1 : 0); break;
            case "reply": files.reply(a); break;
            case "waiting": within(files.waiting(a), a == 0 || a == 1 ? 0 : -1, a == 0 || a == 1 ? 8 : -1); break;
            case "sync": within(files.sync(a), 0, a < 0 ? 21 : Math.min(a, 21)); break;
            case "snapshot": among(files.snapshot(), -1, 1, 2, 3, 4); break;
            default: files.crash(); break;
        }
    }

    private void two(String name, int a, int b) {
        call = name + "(" + a + ", " + b + ")";
        switch (name) {
            case "member": files.member(a, b); break;
            case "flush": files.flush(a, b); break;
            case "fid": among(files.fid(a, b), -1, 0, 1, 2, 5, 6); break;
            default: served(files.serve(a, b)); break;
        }
    }

    private void send(int a, int b, int c, int d) {
        call = "send(" + a + ", " + b + ", " + c + ", " + d + ")";
        files.send(a, b, c, d);
    }

    private void served(int answer) {
        if (answer != -20) {
            within(answer, -13, 8);
            within(files.reply(-1), 0, answer < 0 ? 0 : 8);
        }
    }

    private void lookAround() {
        call = "what tells the state";
        within(files.blocks(), files.nodes(), 64);
        within(files.nodes(), 1, 20);
        within(files.reply(-1), 0, 8);
        for (int connection = 0; connection < 2; connection++) {
            within(files.waiting(connection), 0, 8);
            for (int fid = 0; fid < 6; fid++) {
                among(files.fid(connection, fid), 0, 1, 2, 5, 6);
            }
        }
    }

    private void within(int got, int lowest, int highest) {
        boolean holds = got >= lowest && got <= highest;
        Check.yes(holds ? "" : call + " answered " + got + ", between " + lowest + " and " + highest, holds);
    }

    private void among(int got, int... due) {
        boolean holds = false;
        for (int one : due) {
            holds |= one == got;
        }
        Check.yes(holds ? "" : call + " answered " + got + ", one of " + Arrays.toString(due), holds);
    }
}
