import java.util.Arrays;

/**
 * One SnapshotFiles with short words for requests; every answer is checked on the way. All calls go
 * through here and are counted, as nothing is promised behind the 512th.
 */
final class Bench {
    static final int ATTACH = 0;
    static final int WALK = 1;
    static final int OPEN = 2;
    static final int CREATE = 3;
    static final int READ = 4;
    static final int WRITE = 5;
    static final int CLUNK = 6;
    static final int REMOVE = 7;
    static final int STAT = 8;
    static final int WSTAT = 9;

    static final int APPEND = 512;
    static final int ALONE = 1024;
    static final int DIR = 2048;
    static final int ALL = 0777;

    private static final String[] KINDS = {
        "ATTACH", "WALK", "OPEN", "CREATE", "READ", "WRITE", "CLUNK", "REMOVE", "STAT", "WSTAT"};

    private static final int MOST_CALLS = 512;

    private final SnapshotFiles files = new SnapshotFiles();
    private int calls = 0;

    private SnapshotFiles called() {
        calls++;
        if (calls == MOST_CALLS + 1) {
            Check.same("how often one object is called", calls, MOST_CALLS);
        }
        return files;
    }

    /** The object itself, for tests that look at no answer that is free. */
    SnapshotFiles uncounted() {
        return files;
    }

    boolean member(int user, int group) {
        return called().member(user, group);
    }

    boolean say(int number) {
        return called().say(number);
    }

    boolean send(int connection, int tag, int kind, int fid) {
        return called().send(connection, tag, kind, fid);
    }

    int serve(int connection, int tag) {
        return called().serve(connection, tag);
    }

    boolean flush(int connection, int tag) {
        return called().flush(connection, tag);
    }

    boolean hangUp(int connection) {
        return called().hangUp(connection);
    }

    int reply(int i) {
        return called().reply(i);
    }

    int waiting(int connection) {
        return called().waiting(connection);
    }

    int fid(int connection, int fid) {
        return called().fid(connection, fid);
    }

    int sync(int most) {
        return called().sync(most);
    }

    int snapshot() {
        return called().snapshot();
    }

    void crash() {
        called().crash();
    }

    int blocks() {
        return called().blocks();
    }

    int nodes() {
        return called().nodes();
    }

    /** Serves a request of connection 0. */
    void ask(int want, int kind, int fid, int... numbers) {
        askFrom(0, want, kind, fid, numbers);
    }

    void askFrom(int connection, int want, int kind, int fid, int... numbers) {
        String what = KINDS[kind] + " of fid " + fid + " with " + Arrays.toString(numbers);
        for (int number : numbers) {
            Check.yes("say for " + what, say(number));
        }
        Check.yes("send for " + what, send(connection, 7, kind, fid));
        Check.same(what, serve(connection, 7), want);
        if (want < 0) {
            Check.same("reply(-1) after " + what, reply(-1), 0);
            Check.same("reply(0) after " + what, reply(0), 0);
        }
    }

    /** The whole reply to the latest request. */
    void replied(int... want) {
        int[] got = new int[Math.max(0, reply(-1))];
        for (int i = 0; i < got.length; i++) {
            got[i] = reply(i);
        }
        Check.same("the reply", got, want);
    }

    /** What STAT tells: path, version, mode, length, owner, group, title. */
    void stat(int fid, int... want) {
        ask(0, STAT, fid);
        replied(want);
    }

    /** Makes a node in a directory of the present tree, for a user, with no fid left at it. */
    void make(int user, int title, int mode, int... directory) {
        reach(user, 5, directory);
        ask(0, CREATE, 5, title, mode, 0);
        ask(0, CLUNK, 5);
    }

    /** Puts a fid of connection 0 at a node of the present tree; there are at most six titles. */
    void reach(int user, int fid, int... titles) {
        reachIn(0, user, fid, titles);
    }

    void reachIn(int tree, int user, int fid, int... titles) {
        ask(0, ATTACH, fid, user, tree);
        for (int from = 0; from < titles.length; from += 3) {
            int count = Math.min(3, titles.length - from);
            int[] numbers = new int[count + 1];
            numbers[0] = fid;
            System.arraycopy(titles, from, numbers, 1, count);
            ask(count, WALK, fid, numbers);
        }
    }

    /** A file with some bytes, open for both on a fid. */
    void makeOpen(int user, int fid, int title, int mode, int... bytes) {
        ask(0, ATTACH, fid, user, 0);
        ask(0, CREATE, fid, title, mode, 2);
        for (int i = 0; i < bytes.length; i++) {
            ask(1, WRITE, fid, i, bytes[i]);
        }
    }

    void blocks(int want) {
        Check.same("blocks()", blocks(), want);
    }

    void nodes(int want) {
        Check.same("nodes()", nodes(), want);
    }

    void fid(int want, int connection, int fid) {
        Check.same("fid(" + connection + ", " + fid + ")", fid(connection, fid), want);
    }
}
