/** Promises 11 to 15: syncs that a crash cuts or not, snapshots, crashes, and what is counted. */
public final class SavingTest {
    private static final int DIR = Bench.DIR;
    private static final int ALL = Bench.ALL;

    public static void main(String[] args) {
        syncNegative();
        syncOfMoreThanTheWrites();
        syncOfLessThanTheWrites();
        syncOfJustTheWrites();
        syncOfNothing();
        syncCountsNewBlocksAlone();
        syncDoesNotCountASnapshotsBlocks();
        snapshotIsASync();
        snapshotOfFour();
        snapshotRefusedIsNoSync();
        snapshotIsForEver();
        crashBringsTheSavedTree();
        crashFreesAll();
        crashRemovesNothingOnClose();
        crashLeavesSnapshots();
        blocksInAllTrees();
        nodesOfThePresentTree();
        Check.end();
    }

    /** A file 1 that was never saved, open for both on fid 0: two blocks to write, and the mark. */
    private static Bench threeWrites() {
        Bench bench = new Bench();
        bench.makeOpen(0, 0, 1, 0666, 7);
        bench.blocks(3);
        Check.yes("send", bench.send(1, 2, Bench.STAT, 0));
        Check.yes("say", bench.say(0));
        return bench;
    }

    private static void thereWasACrash(Bench bench, int nodes) {
        bench.nodes(nodes);
        bench.fid(0, 0, 0);
        Check.same("waiting(1)", bench.waiting(1), 0);
        Check.same("reply(-1)", bench.reply(-1), 0);
        for (int i = 0; i < 4; i++) {
            Check.yes("say, as nothing is said", bench.say(0));
        }
    }

    private static void thereWasNoCrash(Bench bench) {
        bench.nodes(2);
        bench.fid(2, 0, 0);
        Check.same("waiting(1)", bench.waiting(1), 1);
        for (int i = 0; i < 3; i++) {
            Check.yes("say, as one is said", bench.say(1));
        }
        Check.no("say, as four are said", bench.say(1));
        bench.crash();
        bench.nodes(2);
    }

    private static void syncNegative() {
        for (int most : new int[] {-1, -2, -3, Integer.MIN_VALUE}) {
            Check.part("promise 11: a negative number: any number of writes, no crash: " + most);
            Bench bench = threeWrites();
            Check.same("sync", bench.sync(most), 3);
            bench.blocks(2);
            thereWasNoCrash(bench);
        }
    }

    private static void syncOfMoreThanTheWrites() {
        for (int most : new int[] {4, 5, Integer.MAX_VALUE}) {
            Check.part("promise 11: more than the writes: they are done, no crash: " + most);
            Bench bench = threeWrites();
            Check.same("sync", bench.sync(most), 3);
            bench.blocks(2);
            thereWasNoCrash(bench);
        }
    }

    private static void syncOfLessThanTheWrites() {
        for (int most = 0; most < 3; most++) {
            Check.part("promise 11: less than the writes: a crash, and the saved tree is the old one: " + most);
            Bench bench = threeWrites();
            Check.same("sync", bench.sync(most), most);
            bench.blocks(1);
            thereWasACrash(bench, 1);
            bench.crash();
            bench.nodes(1);
        }
    }

    private static void syncOfJustTheWrites() {
        Check.part("promise 11: just the writes: a crash after the mark");
        Bench bench = threeWrites();
        Check.same("sync", bench.sync(3), 3);
        bench.blocks(2);
        thereWasACrash(bench, 2);
        bench.crash();
        bench.reach(0, 0, 1);
        bench.stat(0, 1, 1, 0666, 1, 0, 0, 1);
    }

    private static void syncOfNothing() {
        Check.part("promise 11: the mark is a write, where no block is new");
        Bench bench = new Bench();
        bench.reach(0, 0);
        Check.same("sync(2)", bench.sync(2), 1);
        bench.fid(1, 0, 0);
        Check.same("sync(-1)", bench.sync(-1), 1);
        bench.fid(1, 0, 0);
        Check.same("sync(1)", bench.sync(1), 1);
        bench.fid(0, 0, 0);
        bench.reach(0, 0);
        Check.same("sync(0)", bench.sync(0), 0);
        bench.fid(0, 0, 0);
    }

    private static void syncCountsNewBlocksAlone() {
        Check.part("promise 11: the writes are each new block of the present tree, then the mark");
        Bench bench = new Bench();
        bench.make(0, 1, DIR | ALL);
        bench.make(0, 2, DIR | ALL);
        bench.makeOpen(0, 0, 3, 0666);
        Check.same("sync(-1)", bench.sync(-1), 5);
        bench.make(0, 4, 0, 1);
        Check.same("sync(-1): the root, 1 and 1/4", bench.sync(-1), 4);
        bench.ask(1, Bench.WRITE, 0, 0, 1);
        bench.ask(1, Bench.WRITE, 0, 0, 2);
        Check.same("sync(-1): the root and 3", bench.sync(-1), 3);
        bench.ask(0, Bench.REMOVE, 0);
        Check.same("sync(-1): the root", bench.sync(-1), 2);
        Check.part("promise 11: what came and went is no write, but its directories are");
        bench.makeOpen(0, 0, 3, 0666);
        bench.ask(0, Bench.REMOVE, 0);
        Check.same("sync(-1): the root", bench.sync(-1), 2);
    }

    private static void syncDoesNotCountASnapshotsBlocks() {
        Check.part("promise 11: blocks that neither the saved tree nor a snapshot has");
        Bench bench = new Bench();
        bench.makeOpen(0, 0, 1, 0666);
        Check.same("snapshot()", bench.snapshot(), 1);
        Check.same("sync(-1)", bench.sync(-1), 1);
        bench.ask(1, Bench.WRITE, 0, 0, 1);
        Check.same("snapshot()", bench.snapshot(), 2);
        Check.same("sync(-1)", bench.sync(-1), 1);
        bench.ask(1, Bench.WRITE, 0, 0, 1);
        Check.same("sync(2)", bench.sync(2), 2);
        bench.reach(0, 0, 1);
        bench.stat(0, 1, 1, 0666, 1, 0, 0, 1);
    }

    private static void snapshotIsASync() {
        Check.part("promise 12: a sync without crash");
        Bench bench = threeWrites();
        Check.same("snapshot()", bench.snapshot(), 1);
        bench.blocks(2);
        thereWasNoCrash(bench);
    }

    private static void snapshotOfFour() {
        Check.part("promise 12: its number; -1, refused, if four are there");
        Bench bench = new Bench();
        for (int number = 1; number <= 4; number++) {
            Check.same("snapshot()", bench.snapshot(), number);
        }
        Check.same("snapshot()", bench.snapshot(), -1);
        bench.crash();
        Check.same("snapshot()", bench.snapshot(), -1);
    }

    private static void snapshotRefusedIsNoSync() {
        Check.part("promise 12: a refused one is no sync and no crash");
        Bench bench = new Bench();
        for (int number = 1; number <= 4; number++) {
            Check.same("snapshot()", bench.snapshot(), number);
        }
        bench.makeOpen(0, 0, 1, 0666);
        Check.same("snapshot()", bench.snapshot(), -1);
        bench.blocks(3);
        bench.fid(2, 0, 0);
        bench.reachIn(4, 0, 1);
        bench.ask(-3, Bench.WALK, 1, 1, 1);
        bench.crash();
        bench.nodes(1);
    }

    private static void snapshotIsForEver() {
        Check.part("promise 12: a snapshot is the present tree for ever");
        Bench bench = new Bench();
        bench.make(0, 1, DIR | ALL);
        bench.makeOpen(0, 0, 2, 0666, 5);
        Check.same("snapshot()", bench.snapshot(), 1);
        bench.ask(1, Bench.WRITE, 0, 0, 6);
        bench.ask(0, Bench.WSTAT, 0, 9, 0600, 3, 0);
        bench.make(0, 3, 0, 1);
        Check.same("sync(-1)", bench.sync(-1), 5);
        bench.reach(0, 1, 9);
        bench.ask(0, Bench.REMOVE, 1);
        Check.same("snapshot()", bench.snapshot(), 2);
        bench.crash();
        bench.reachIn(1, 0, 0, 2);
        bench.stat(0, 2, 1, 0666, 1, 0, 0, 2);
        bench.ask(0, Bench.OPEN, 0, 0);
        bench.ask(1, Bench.READ, 0, 0, 8);
        bench.replied(5);
        bench.reachIn(1, 0, 1, 1);
        bench.ask(-3, Bench.WALK, 1, 2, 3);
        bench.reachIn(2, 0, 2, 1, 3);
        bench.reachIn(2, 0, 3);
        bench.ask(-3, Bench.WALK, 3, 4, 2);
        Check.part("promise 12: a fid in a snapshot stays there when others come");
        Check.same("snapshot()", bench.snapshot(), 3);
        bench.fid(6, 0, 0);
        bench.stat(0, 2, 1, 0666, 1, 0, 0, 2);
    }

    private static void crashBringsTheSavedTree() {
        Check.part("promise 13: the present tree becomes the saved one");
        Bench bench = new Bench();
        bench.makeOpen(0, 0, 1, 0666, 1);
        Check.same("sync(-1)", bench.sync(-1), 3);
        bench.ask(1, Bench.WRITE, 0, 0, 2);
        bench.make(0, 2, 0);
        bench.nodes(3);
        bench.crash();
        bench.nodes(2);
        bench.blocks(2);
        bench.reach(0, 0, 1);
        bench.stat(0, 1, 1, 0666, 1, 0, 0, 1);
        bench.ask(0, Bench.OPEN, 0, 0);
        bench.ask(1, Bench.READ, 0, 0, 8);
        bench.replied(1);
        Check.part("promise 13: a node that was removed and not saved is there again");
        bench.ask(0, Bench.REMOVE, 0);
        bench.nodes(1);
        bench.crash();
        bench.nodes(2);
    }

    private static void crashFreesAll() {
        Check.part("promise 13: all fids are free, no requests wait, nothing is said, there is no reply");
        Bench bench = new Bench();
        Check.same("snapshot()", bench.snapshot(), 1);
        for (int connection = 0; connection < 2; connection++) {
            for (int fid = 0; fid < 6; fid++) {
                bench.askFrom(connection, 0, Bench.ATTACH, fid, 0, fid % 2);
            }
            bench.askFrom(connection, 0, Bench.OPEN, 0, 0);
            bench.askFrom(connection, 0, Bench.OPEN, 5, 0);
            for (int tag = 0; tag < 8; tag++) {
                Check.yes("send", bench.send(connection, tag, Bench.STAT, 0));
            }
        }
        Check.yes("say", bench.say(0));
        Check.same("reply(-1)", bench.reply(-1), 2);
        bench.crash();
        Check.same("reply(-1)", bench.reply(-1), 0);
        for (int connection = 0; connection < 2; connection++) {
            for (int fid = 0; fid < 6; fid++) {
                bench.fid(0, connection, fid);
            }
            Check.same("waiting", bench.waiting(connection), 0);
            Check.same("serve", bench.serve(connection, 0), -20);
        }
        Check.yes("send", bench.send(0, 0, Bench.WALK, 0));
        Check.same("WALK without numbers", bench.serve(0, 0), -7);
        Check.part("promise 13: what was ALONE and open is not open any more");
        bench.makeOpen(0, 0, 1, Bench.ALONE | 0666);
        Check.same("sync(-1)", bench.sync(-1), 3);
        bench.crash();
        bench.reach(0, 1, 1);
        bench.ask(0, Bench.OPEN, 1, 0);
    }

    private static void crashRemovesNothingOnClose() {
        Check.part("promise 13: a crash clunks no fid");
        Bench bench = new Bench();
        bench.reach(0, 0);
        bench.ask(0, Bench.CREATE, 0, 1, 0666, 64);
        Check.same("sync(-1)", bench.sync(-1), 3);
        bench.crash();
        bench.nodes(2);
        Check.same("sync(-1)", bench.sync(-1), 1);
    }

    private static void crashLeavesSnapshots() {
        Check.part("promise 13: snapshots, members and paths outlast a crash");
        Bench bench = new Bench();
        bench.make(1, 1, 0640);
        Check.same("snapshot()", bench.snapshot(), 1);
        Check.yes("member(2, 0)", bench.member(2, 0));
        bench.make(0, 2, 0);
        bench.crash();
        bench.reachIn(1, 2, 0, 1);
        bench.ask(0, Bench.OPEN, 0, 0);
        bench.makeOpen(0, 1, 3, 0);
        bench.stat(1, 3, 0, 0, 0, 0, 0, 3);
        Check.same("snapshot()", bench.snapshot(), 2);
    }

    private static void blocksInAllTrees() {
        Check.part("promise 14: how many blocks there are in all trees");
        Bench bench = new Bench();
        bench.blocks(1);
        bench.makeOpen(0, 0, 1, 0666);
        bench.blocks(3);
        Check.same("snapshot()", bench.snapshot(), 1);
        bench.blocks(2);
        bench.ask(1, Bench.WRITE, 0, 0, 1);
        bench.blocks(4);
        Check.same("sync(-1)", bench.sync(-1), 3);
        bench.blocks(4);
        bench.ask(1, Bench.WRITE, 0, 0, 2);
        bench.blocks(6);
        Check.part("promise 14: blocks that no tree has any more are none");
        Check.same("sync(-1)", bench.sync(-1), 3);
        bench.blocks(4);
        bench.ask(1, Bench.WRITE, 0, 0, 3);
        bench.crash();
        bench.blocks(4);
        Check.part("promise 14: blocks that a cut sync wrote are none");
        bench.makeOpen(0, 0, 2, 0666);
        bench.blocks(6);
        Check.same("sync(2)", bench.sync(2), 2);
        bench.blocks(4);
    }

    private static void nodesOfThePresentTree() {
        Check.part("promise 15: how many nodes the present tree has");
        Bench bench = new Bench();
        bench.nodes(1);
        bench.make(0, 1, DIR | ALL);
        bench.make(0, 2, 0, 1);
        bench.nodes(3);
        Check.same("snapshot()", bench.snapshot(), 1);
        bench.nodes(3);
        bench.reach(0, 0, 1, 2);
        bench.ask(0, Bench.WSTAT, 0, 3, -1, -1, -1);
        bench.nodes(3);
        bench.ask(0, Bench.REMOVE, 0);
        bench.nodes(2);
        Check.same("sync(-1)", bench.sync(-1), 3);
        bench.nodes(2);
        bench.reach(0, 0, 1);
        bench.ask(0, Bench.REMOVE, 0);
        bench.nodes(1);
        bench.crash();
        bench.nodes(2);
    }
}
