import java.util.List;
import java.util.Random;
import java.util.TreeMap;

/** Long runs of drawn calls, always the same ones, on the program and on the model side by side. */
public final class ModelTest {
    private static final int RUNS = 6000;
    private static final int MOST_CALLS = 512;
    private static final int[] MODES = {
        0, 0666, 0777, 0600, 0644, 0755, 0766, 0700, 0070, 0007, 512 + 0666, 1024 + 0666, 1536 + 0777};
    private static final int[] OPEN_MODES = {0, 0, 0, 1, 2, 2, 16, 17, 18, 64, 65, 66, 82, 3, -1};
    private static final int[] GOOD_KINDS = {2, 3, 3, 3, 3, 7, 8, 9, 9};
    private static final int[] ODD = {-2, -1, 0, 1, 7, 8, 16, 17, 99, 100, 255, 256, 2047, 2048, 4095, 4096,
        Integer.MAX_VALUE, Integer.MIN_VALUE};

    private final Random random;
    private final SnapshotFiles files = new SnapshotFiles();
    private final Model model = new Model();
    private final TreeMap<String, Integer> seen;
    private final int run;
    private final boolean calm;
    private int calls = 0;

    private ModelTest(int run, TreeMap<String, Integer> seen) {
        this.run = run;
        this.seen = seen;
        random = new Random(run);
        calm = run % 2 == 0;
    }

    public static void main(String[] args) {
        TreeMap<String, Integer> seen = new TreeMap<>();
        for (int run = 0; run < RUNS; run++) {
            new ModelTest(run, seen).play();
        }
        if (args.length > 0) {
            System.out.println(seen);
        }
        allAnswersWereSeen(seen);
        Check.end();
    }

    /** A run in which an answer never came would say nothing about it. */
    private static void allAnswersWereSeen(TreeMap<String, Integer> seen) {
        Check.part("answers seen");
        int[][] due = {
            {-2, -7, 0},
            {-7, -1, -8, -2, -13, -4, -5, -3, 0, 1, 2, 3},
            {-1, -8, -13, -7, -4, -9, -5, -10, -11, 0},
            {-1, -8, -13, -4, -9, -7, -5, -6, -11, 0},
            {-1, -8, -13, -7, 0, 1, 8},
            {-1, -8, -13, -7, -11, 0, 1, 2, 3},
            {-1, -7, 0},
            {-1, -7, -13, -9, -5, -12, -11, 0},
            {-1, -7, -13, 0},
            {-1, -13, -9, -7, -5, -6, -11, 0}};
        for (int kind = 0; kind < due.length; kind++) {
            for (int answer : due[kind]) {
                Check.yes("kind " + kind + " answered " + answer, seen.containsKey(kind + " " + answer));
            }
        }
        Check.yes("there were 64 blocks", seen.containsKey("blocks 64"));
        Check.yes("there were 20 nodes", seen.containsKey("nodes 20"));
    }

    private void play() {
        if (run % 3 == 0) {
            growChains();
        }
        while (calls < MOST_CALLS - 40) {
            int choice = random.nextInt(100);
            if (choice < 86) {
                request();
            } else {
                other(choice);
            }
        }
    }

    /** Deep chains with open files, from which few writes fill all blocks. */
    private void growChains() {
        for (int chain = 0; chain < 3; chain++) {
            ask(0, 0, chain, 0, 0);
            for (int depth = 0; depth < 5; depth++) {
                ask(0, 1, chain, 5);
                ask(0, 3, 5, 1 + chain, 2048 + 0777, 0);
                ask(0, 6, 5);
                ask(0, 1, chain, chain, 1 + chain);
            }
            ask(0, 3, chain, 1, 0666, random.nextBoolean() ? 66 : 2);
        }
        for (int i = 0; i < 3; i++) {
            int most = i + random.nextInt(4);
            same("snapshot", files.snapshot(), model.snapshot());
            for (int chain = 0; chain < most && chain < 3; chain++) {
                ask(0, 5, chain, 0, random.nextInt(256));
            }
            compareAll();
        }
        ask(0, 0, 4, 0, 0);
        ask(0, 1, 4, 4, 3, 3, 3);
        ask(0, 1, 4, 4, 3, 3, 1);
        ask(0, 2, 4, from(OPEN_MODES));
    }

    private int number(int below) {
        return random.nextInt(50) == 0 ? ODD[random.nextInt(ODD.length)] : random.nextInt(below);
    }

    private int from(int[] row) {
        return random.nextInt(50) == 0 ? ODD[random.nextInt(ODD.length)] : row[random.nextInt(row.length)];
    }

    private int mode() {
        return from(MODES) + (random.nextInt(2) == 0 ? 2048 : 0);
    }

    private int user() {
        return random.nextInt(3) > 0 ? 0 : number(4);
    }

    private void other(int choice) {
        int connection = number(2);
        int tag = number(8);
        calls++;
        switch (choice) {
            case 88: same("flush", files.flush(connection, tag) ? 1 : 0, model.flush(connection, tag) ? 1 : 0); break;
            case 89: rarely(connection); break;
            case 90: sync(); break;
            case 91: snapshotRarely(); break;
            case 92: crashRarely(); break;
            case 93: same("serve", files.serve(connection, tag), model.serve(connection, tag)); break;
            case 94: say(ODD[random.nextInt(ODD.length)]); break;
            case 95: join(); break;
            default: sendAhead(connection, tag); break;
        }
        compareAll();
    }

    private void rarely(int connection) {
        if (random.nextInt(4) == 0) {
            same("hangUp", files.hangUp(connection) ? 1 : 0, model.hangUp(connection) ? 1 : 0);
        }
    }

    private void sync() {
        int most = random.nextInt(calm ? 60 : 6) == 0 ? number(8) : -1;
        same("sync", files.sync(most), model.sync(most));
    }

    private void snapshotRarely() {
        if (random.nextInt(3) == 0) {
            same("snapshot", files.snapshot(), model.snapshot());
        }
    }

    private void crashRarely() {
        if (random.nextInt(calm ? 60 : 6) == 0) {
            files.crash();
            model.crash();
        }
    }

    private void join() {
        int user = number(4);
        int group = number(4);
        same("member", files.member(user, group) ? 1 : 0, model.member(user, group) ? 1 : 0);
    }

    private void say(int number) {
        calls++;
        same("say", files.say(number) ? 1 : 0, model.say(number) ? 1 : 0);
    }

    private void sendAhead(int connection, int tag) {
        int kind = number(10);
        int fid = number(6);
        boolean sent = model.send(connection, tag, kind, fid);
        same("send", files.send(connection, tag, kind, fid) ? 1 : 0, sent ? 1 : 0);
    }

    private void request() {
        int connection = random.nextInt(5) == 0 ? 1 : 0;
        int fid = random.nextInt(6);
        int kind = random.nextInt(13);
        boolean free = model.fid(connection, fid) == 0;
        if (random.nextInt(free ? 10 : 4) > 0) {
            if (!goSomewhere(connection, fid)) {
                return;
            }
            if (random.nextInt(3) == 0) {
                useOpen(connection, fid);
                return;
            }
            kind = GOOD_KINDS[random.nextInt(GOOD_KINDS.length)];
        }
        switch (kind) {
            case 0: ask(connection, 0, fid, user(), number(3)); break;
            case 1: case 10: walk(connection, fid); break;
            case 2: ask(connection, 2, fid, from(OPEN_MODES)); break;
            case 3: case 11: create(connection, fid); break;
            case 4: read(connection, fid); break;
            case 5: case 12: write(connection, fid); break;
            case 6: ask(connection, 6, fid); break;
            case 7: removeRarely(connection, fid); break;
            case 8: ask(connection, 8, fid); break;
            default: wstat(connection, fid); break;
        }
    }

    /** Takes a fid to a node that the model has; false if a right is missing on the way. */
    private boolean goSomewhere(int connection, int fid) {
        int tree = random.nextInt(3) > 0 ? 0 : random.nextInt(model.countSnapshots() + 1);
        if (model.fid(connection, fid) > 0) {
            ask(connection, 6, fid);
        }
        ask(connection, 0, fid, user(), tree);
        List<Integer> route = model.routeTo(tree, random);
        for (int i = 0; i < route.size(); i += 3) {
            int count = Math.min(3, route.size() - i);
            int[] numbers = new int[count + 1];
            numbers[0] = fid;
            for (int j = 0; j < count; j++) {
                numbers[j + 1] = route.get(i + j);
            }
            if (ask(connection, 1, fid, numbers) < 0) {
                return false;
            }
        }
        return true;
    }

    private void useOpen(int connection, int fid) {
        if (random.nextInt(4) == 0) {
            ask(connection, 3, fid, 1 + number(9), from(MODES), random.nextBoolean() ? 2 : from(OPEN_MODES));
        } else {
            ask(connection, 2, fid, from(OPEN_MODES));
        }
        int most = 1 + random.nextInt(5);
        for (int i = 0; i < most; i++) {
            if (random.nextBoolean()) {
                read(connection, fid);
            } else {
                write(connection, fid);
            }
        }
    }

    private void read(int connection, int fid) {
        int offset = random.nextInt(3) > 0 ? 0 : number(9);
        ask(connection, 4, fid, offset, random.nextBoolean() ? 8 : number(9));
    }

    private void create(int connection, int fid) {
        int title = 1 + number(random.nextInt(3) == 0 ? 9 : 4);
        if (random.nextBoolean()) {
            ask(connection, 3, fid, title, 2048 + from(MODES), 0);
        } else {
            ask(connection, 3, fid, title, mode(), from(OPEN_MODES));
        }
    }

    private void walk(int connection, int fid) {
        int[] numbers = new int[1 + random.nextInt(4)];
        numbers[0] = random.nextInt(2) == 0 ? fid : number(6);
        for (int i = 1; i < numbers.length; i++) {
            numbers[i] = number(4);
        }
        ask(connection, 1, fid, numbers);
    }

    private void write(int connection, int fid) {
        int[] numbers = new int[1 + random.nextInt(4)];
        numbers[0] = number(16);
        for (int i = 1; i < numbers.length; i++) {
            numbers[i] = number(256);
        }
        ask(connection, 5, fid, numbers);
    }

    private void removeRarely(int connection, int fid) {
        if (random.nextInt(3) == 0) {
            ask(connection, random.nextInt(8) == 0 ? 8 : 7, fid, random.nextInt(9) == 0 ? new int[] {0} : new int[0]);
        }
    }

    private void wstat(int connection, int fid) {
        int title = random.nextBoolean() ? -1 : 1 + number(9);
        int mode = random.nextInt(3) > 0 ? -1 : from(MODES);
        int length = random.nextInt(3) > 0 ? -1 : number(17);
        int group = random.nextInt(3) > 0 ? -1 : number(4);
        ask(connection, 9, fid, title, mode, length, group);
    }

    private int ask(int connection, int kind, int fid, int... numbers) {
        for (int number : numbers) {
            say(number);
        }
        calls += 2;
        boolean sent = model.send(connection, 7, kind, fid);
        same("send", files.send(connection, 7, kind, fid) ? 1 : 0, sent ? 1 : 0);
        int want = model.serve(connection, 7);
        same("kind " + kind, files.serve(connection, 7), want);
        seen.merge(kind + " " + want, 1, Integer::sum);
        compareAll();
        return want;
    }

    /** Asks all that changes nothing; these questions do not count as calls, as the program counts none. */
    private void compareAll() {
        same("blocks", files.blocks(), model.blocks());
        same("nodes", files.nodes(), model.nodes());
        seen.merge("blocks " + model.blocks(), 1, Integer::sum);
        seen.merge("nodes " + model.nodes(), 1, Integer::sum);
        for (int i = -2; i < 9; i++) {
            same("reply(" + i + ")", files.reply(i), model.reply(i));
        }
        for (int connection = 0; connection < 2; connection++) {
            same("waiting", files.waiting(connection), model.waiting(connection));
            for (int fid = 0; fid < 6; fid++) {
                same("fid", files.fid(connection, fid), model.fid(connection, fid));
            }
        }
    }

    private void same(String what, long got, long want) {
        Check.part("run " + run + ", call " + calls);
        Check.same(what, got, want);
    }
}
