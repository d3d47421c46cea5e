/** The trees: what a change copies, what syncs and snapshots share, and when there is no room. */
public final class TreesTest {
    private static final int DIR = Bench.DIR;
    private static final int ALL = Bench.ALL;
    private static final int APPEND = Bench.APPEND;

    public static void main(String[] args) {
        aWriteCopiesAllAbove();
        aCopyIsTheSame();
        whatOpenCopies();
        whatCreateCopies();
        whatRemoveCopies();
        whatWstatCopies();
        aSnapshotStays();
        savedAndSnapshotsShare();
        noRoomForBlocks();
        noRoomOnClose();
        Check.end();
    }

    /** The directories 1 and 1/2 with the files 1/2/3 and 1/4, and the file 5; six blocks when synced. */
    private static Bench smallTree() {
        Bench bench = new Bench();
        bench.make(0, 1, DIR | ALL);
        bench.make(0, 2, DIR | ALL, 1);
        bench.make(0, 3, 0666, 1, 2);
        bench.make(0, 4, 0666, 1);
        bench.make(0, 5, 0666);
        bench.blocks(7);
        Check.same("sync", bench.sync(-1), 7);
        bench.blocks(6);
        return bench;
    }

    private static void aWriteCopiesAllAbove() {
        Check.part("a write copies");
        Bench bench = smallTree();
        bench.reach(0, 0, 1, 2, 3);
        bench.ask(0, Bench.OPEN, 0, 2);
        bench.blocks(6);
        bench.ask(0, Bench.WRITE, 0, 3);
        bench.blocks(6);
        bench.ask(1, Bench.WRITE, 0, 0, 1);
        bench.blocks(10);
        bench.ask(1, Bench.WRITE, 0, 1, 1);
        bench.blocks(10);
        bench.reach(0, 1, 1, 4);
        bench.ask(0, Bench.OPEN, 1, 1);
        bench.ask(1, Bench.WRITE, 1, 0, 1);
        bench.blocks(11);
        bench.reach(0, 2, 5);
        bench.ask(0, Bench.OPEN, 2, 1);
        bench.ask(1, Bench.WRITE, 2, 0, 1);
        bench.blocks(12);
        Check.same("sync", bench.sync(-1), 7);
        bench.blocks(6);
        bench.ask(1, Bench.WRITE, 2, 0, 1);
        bench.blocks(8);
        Check.same("sync, cut", bench.sync(1), 1);
        bench.blocks(6);
    }

    private static void aCopyIsTheSame() {
        Check.part("a copy is the same");
        Bench bench = smallTree();
        bench.makeOpen(2, 0, 8, APPEND | 0640, 5, 6, 7);
        bench.ask(0, Bench.WSTAT, 0, -1, -1, -1, 2);
        bench.ask(0, Bench.ATTACH, 1, 3, 0);
        bench.ask(0, Bench.CREATE, 1, 9, DIR | Bench.ALONE | ALL, 0);
        bench.ask(0, Bench.WSTAT, 1, -1, -1, -1, 3);
        for (int i = 1; i <= 3; i++) {
            Check.same("snapshot", bench.snapshot(), i);
            bench.ask(1, Bench.WRITE, 0, 0, i);
            bench.make(1, i, 0, 9);
        }
        bench.ask(0, Bench.STAT, 0);
        bench.replied(6, 6, APPEND | 0640, 6, 2, 2, 8);
        bench.ask(6, Bench.READ, 0, 0, 8);
        bench.replied(5, 6, 7, 1, 2, 3);
        bench.ask(0, Bench.STAT, 1);
        bench.replied(7, 3, DIR | Bench.ALONE | ALL, 0, 3, 3, 9);
    }

    private static void whatOpenCopies() {
        Check.part("what OPEN copies");
        Bench bench = smallTree();
        bench.reach(0, 0, 5);
        bench.ask(0, Bench.OPEN, 0, 66);
        bench.blocks(6);
        bench.reach(0, 1, 5);
        bench.ask(0, Bench.OPEN, 1, 16);
        bench.blocks(8);
        bench.make(0, 6, APPEND | 0666, 1, 2);
        bench.blocks(11);
        Check.same("sync", bench.sync(-1), 6);
        bench.blocks(7);
        bench.reach(0, 2, 1, 2, 6);
        bench.ask(0, Bench.OPEN, 2, 18);
        bench.blocks(7);
    }

    private static void whatCreateCopies() {
        Check.part("what CREATE copies");
        Bench bench = smallTree();
        bench.make(0, 6, 0, 1);
        bench.blocks(9);
        bench.make(0, 7, 0, 1, 2);
        bench.blocks(11);
        Check.same("writes", bench.sync(2), 2);
        bench.nodes(6);
        bench.blocks(6);
    }

    private static void whatRemoveCopies() {
        Check.part("what REMOVE copies");
        Bench bench = smallTree();
        bench.reach(0, 0, 1, 2, 3);
        bench.ask(0, Bench.REMOVE, 0);
        bench.blocks(9);
        bench.nodes(5);
        bench.reach(0, 0, 1, 2);
        bench.ask(0, Bench.REMOVE, 0);
        bench.blocks(8);
        bench.nodes(4);
        Check.same("sync", bench.sync(-1), 3);
        bench.blocks(4);
    }

    private static void whatWstatCopies() {
        Check.part("what WSTAT copies");
        Bench bench = smallTree();
        bench.reach(0, 0, 1, 4);
        bench.ask(0, Bench.WSTAT, 0, -1, -1, -1, -1);
        bench.blocks(6);
        bench.ask(0, Bench.WSTAT, 0, 4, -1, -1, -1);
        bench.blocks(6);
        int[][] changes = {{5, -1, -1, -1}, {-1, 0666, -1, -1}, {-1, -1, 0, -1}, {-1, -1, -1, 0}};
        for (int[] change : changes) {
            bench.ask(0, Bench.WSTAT, 0, change);
            bench.blocks(9);
            Check.same("sync", bench.sync(-1), 4);
            bench.blocks(6);
        }
        bench.reach(0, 1, 1);
        bench.ask(0, Bench.WSTAT, 1, -1, 0777, -1, -1);
        bench.blocks(8);
        bench.reach(0, 2);
        bench.ask(0, Bench.WSTAT, 2, -1, 0777, -1, -1);
        bench.blocks(8);
    }

    private static void aSnapshotStays() {
        Check.part("a snapshot stays");
        Bench bench = smallTree();
        Check.same("snapshot", bench.snapshot(), 1);
        bench.reach(0, 0, 1, 2, 3);
        bench.ask(0, Bench.OPEN, 0, 2);
        bench.ask(3, Bench.WRITE, 0, 0, 1, 2, 3);
        bench.ask(0, Bench.WSTAT, 0, 9, 0600, 2, 0);
        bench.reach(0, 1, 1, 4);
        bench.ask(0, Bench.REMOVE, 1);
        bench.make(0, 8, 0, 1);
        Check.same("sync", bench.sync(-1), 6);
        bench.reachIn(1, 3, 2, 1, 2, 3);
        bench.ask(0, Bench.STAT, 2);
        bench.replied(3, 0, 0666, 0, 0, 0, 3);
        bench.reachIn(1, 3, 3, 1);
        bench.replied(1, 2, DIR | ALL);
        bench.ask(0, Bench.OPEN, 3, 0);
        bench.ask(2, Bench.READ, 3, 0, 8);
        bench.replied(2, 4);
        bench.reach(3, 4, 1);
        bench.replied(1, 4, DIR | ALL);
        bench.ask(0, Bench.OPEN, 4, 0);
        bench.ask(2, Bench.READ, 4, 0, 8);
        bench.replied(2, 8);
        bench.ask(0, Bench.OPEN, 2, 0);
        bench.ask(-8, Bench.WRITE, 2, 0, 1);
        bench.ask(0, Bench.READ, 2, 0, 8);
    }

    private static void savedAndSnapshotsShare() {
        Check.part("the saved tree and snapshots share");
        Bench bench = smallTree();
        Check.same("snapshot", bench.snapshot(), 1);
        Check.same("snapshot", bench.snapshot(), 2);
        bench.blocks(6);
        bench.reach(0, 0, 5);
        bench.ask(0, Bench.OPEN, 0, 1);
        bench.ask(1, Bench.WRITE, 0, 0, 1);
        bench.blocks(8);
        Check.same("sync", bench.sync(-1), 3);
        bench.blocks(8);
        bench.ask(1, Bench.WRITE, 0, 0, 1);
        bench.blocks(10);
        Check.same("snapshot", bench.snapshot(), 3);
        bench.blocks(8);
        bench.ask(1, Bench.WRITE, 0, 0, 2);
        Check.same("snapshot", bench.snapshot(), 4);
        bench.blocks(10);
        bench.ask(1, Bench.WRITE, 0, 0, 3);
        bench.blocks(12);
        bench.crash();
        bench.blocks(10);
    }

    private static Bench fullBlocks() {
        Bench bench = Scenes.roomForOneChain();
        bench.ask(1, Bench.WRITE, 0, 0, 9);
        bench.blocks(64);
        return bench;
    }

    private static void noRoomForBlocks() {
        Check.part("no room for blocks");
        Bench bench = fullBlocks();
        bench.ask(1, Bench.WRITE, 0, 1, 9);
        bench.ask(-11, Bench.WRITE, 1, 1, 9);
        bench.ask(0, Bench.WRITE, 1, 1);
        bench.ask(-11, Bench.WSTAT, 1, -1, 0600, -1, -1);
        bench.ask(-11, Bench.WSTAT, 1, 7, -1, -1, -1);
        bench.ask(0, Bench.WSTAT, 1, 9, -1, -1, -1);
        bench.ask(0, Bench.WSTAT, 0, -1, 0600, 1, 0);
        bench.ask(0, Bench.ATTACH, 3, 0, 0);
        bench.ask(-11, Bench.CREATE, 3, 7, 0, 0);
        bench.ask(-6, Bench.CREATE, 3, 1, 0, 0);
        bench.ask(0, Bench.WSTAT, 3, -1, 0777, -1, -1);
        bench.ask(3, Bench.WALK, 3, 3, 2, 2, 2);
        bench.ask(3, Bench.WALK, 3, 3, 2, 2, 9);
        bench.ask(-11, Bench.OPEN, 3, 16);
        bench.fid(1, 0, 3);
        bench.ask(-11, Bench.REMOVE, 3);
        bench.fid(0, 0, 3);
        bench.nodes(19);
        bench.blocks(64);
        bench.ask(0, Bench.REMOVE, 0);
        bench.nodes(18);
        bench.blocks(63);
        bench.ask(0, Bench.ATTACH, 3, 0, 0);
        bench.ask(0, Bench.CREATE, 3, 7, 0, 0);
        bench.blocks(64);
        Check.same("writes", bench.sync(100), 8);
        bench.blocks(64);
        Check.same("snapshot", bench.snapshot(), 4);
        bench.ask(-11, Bench.REMOVE, 3);
        bench.crash();
        bench.blocks(64);
    }

    private static void noRoomOnClose() {
        Check.part("no room on close");
        Bench bench = fullBlocks();
        bench.ask(0, Bench.CLUNK, 1);
        bench.fid(0, 0, 1);
        bench.nodes(19);
        Check.yes("hangUp", bench.hangUp(0));
        bench.fid(0, 0, 2);
        bench.nodes(18);
        bench.blocks(63);
    }
}
