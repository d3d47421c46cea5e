import java.util.Arrays;

/** Every boundary that the document's "Terms" name, each with a test of its own. */
public final class TermsTest {
    private static final int DIR = Bench.DIR;
    private static final int ALL = Bench.ALL;
    private static final int APPEND = Bench.APPEND;
    private static final int ALONE = Bench.ALONE;
    private static final int LOWEST = Integer.MIN_VALUE;
    private static final int HIGHEST = Integer.MAX_VALUE;

    public static void main(String[] args) {
        users();
        membersOfTheirOwnGroups();
        paths();
        pathsAfterCrashes();
        titles();
        rights();
        fileLengths();
        bytes();
        eightNodesInADirectory();
        titlesAreInOrder();
        theRoot();
        sixDirectoriesAbove();
        twentyNodes();
        fileVersions();
        directoryVersions();
        theFirstTrees();
        fourSnapshots();
        treesShareBlocks();
        whatIsChangedGetsBlocks();
        ownBlocksAreKept();
        exactlySixtyFourBlocks();
        justEnoughRoom();
        noRoomForAnyChange();
        whatGoesDoesNotCount();
        connectionsAndTags();
        fids();
        fidsOfConnections();
        fourNumbers();
        openModes();
        whatOpenModesLet();
        nothingIsDone();
        Check.end();
    }

    private static void users() {
        Check.part("users 0 .. 3");
        Bench bench = new Bench();
        for (int user = 0; user < 4; user++) {
            bench.ask(0, Bench.ATTACH, user, user, 0);
        }
        for (int wrong : new int[] {-1, 4, LOWEST, HIGHEST}) {
            bench.ask(-7, Bench.ATTACH, 4, wrong, 0);
        }
        bench.ask(0, Bench.CREATE, 3, 1, 0, 0);
        bench.stat(3, 1, 0, 0, 0, 3, 0, 1);
    }

    private static void membersOfTheirOwnGroups() {
        Check.part("user u is a member of group u, and of those that member() says");
        Bench bench = new Bench();
        for (int user = 0; user < 4; user++) {
            bench.makeOpen(user, user, 1 + user, 0);
            for (int group = 0; group < 4; group++) {
                bench.ask(group == user ? 0 : -5, Bench.WSTAT, user, -1, -1, -1, group);
            }
        }
        Check.yes("member(1, 3)", bench.member(1, 3));
        bench.ask(0, Bench.WSTAT, 1, -1, -1, -1, 3);
        bench.ask(-5, Bench.WSTAT, 3, -1, -1, -1, 1);
        bench.ask(-5, Bench.WSTAT, 1, -1, -1, -1, 2);
    }

    private static void paths() {
        Check.part("paths 1, 2, .. in the order in which they were ever created");
        Bench bench = new Bench();
        bench.makeOpen(0, 0, 9, 0);
        bench.stat(0, 1, 0, 0, 0, 0, 0, 9);
        bench.makeOpen(0, 1, 3, 0);
        bench.stat(1, 2, 0, 0, 0, 0, 0, 3);
        bench.reach(0, 2);
        bench.ask(-6, Bench.CREATE, 2, 3, 0, 0);
        bench.ask(-7, Bench.CREATE, 2, 0, 0, 0);
        bench.ask(0, Bench.REMOVE, 1);
        bench.ask(0, Bench.CREATE, 2, 3, 0, 0);
        bench.replied(3, 0);
        Check.part("a CREATE without room takes no path");
        for (int title = 10; title < 16; title++) {
            bench.make(0, title, 0);
        }
        bench.reach(0, 3);
        bench.ask(-11, Bench.CREATE, 3, 20, 0, 0);
        bench.ask(0, Bench.REMOVE, 2);
        bench.ask(0, Bench.CREATE, 3, 20, 0, 0);
        bench.replied(10, 0);
    }

    private static void pathsAfterCrashes() {
        Check.part("paths of what a crash took do not come again");
        Bench bench = new Bench();
        bench.makeOpen(0, 0, 1, 0);
        bench.crash();
        bench.makeOpen(0, 0, 1, 0);
        bench.stat(0, 2, 0, 0, 0, 0, 0, 1);
        Check.same("sync(0)", bench.sync(0), 0);
        bench.makeOpen(0, 0, 1, 0);
        bench.stat(0, 3, 0, 0, 0, 0, 0, 1);
    }

    private static void titles() {
        Check.part("titles 1 .. 99");
        Bench bench = new Bench();
        bench.reach(0, 0);
        for (int wrong : new int[] {0, -1, 100, LOWEST, HIGHEST}) {
            bench.ask(-7, Bench.CREATE, 0, wrong, 0, 0);
        }
        bench.nodes(1);
        bench.make(0, 1, 0);
        bench.make(0, 99, 0);
        bench.nodes(3);
        bench.ask(1, Bench.WALK, 0, 1, 1);
        bench.stat(1, 1, 0, 0, 0, 0, 0, 1);
        bench.ask(1, Bench.WALK, 0, 2, 99);
        bench.stat(2, 2, 0, 0, 0, 0, 0, 99);
        Check.part("the root has the title 0");
        bench.stat(0, 0, 2, DIR | ALL, 0, 0, 0, 0);
    }

    private static void rights() {
        Check.part("a user has the rights of others, and those of the owner, and those of the group");
        int owner = 1;
        int member = 0;
        int other = 2;
        mayRead(owner, 0004, 0400, 0444, 0404);
        mayRead(member, 0004, 0040, 0444, 0044);
        mayRead(other, 0004, 0444);
        mayNotRead(owner, 0, 0040, 0333, 0373);
        mayNotRead(member, 0, 0400, 0333, 0733);
        mayNotRead(other, 0, 0400, 0040, 0440, 0773);
        Check.part("who is owner and a member has the rights of both");
        Bench bench = new Bench();
        bench.make(0, 1, 0420);
        bench.reach(0, 0, 1);
        bench.ask(0, Bench.OPEN, 0, 2);
    }

    /** A file of user 1 and group 0, of which user 0 alone is a member. */
    private static void tryToRead(int user, int answer, int rights) {
        Bench bench = new Bench();
        bench.make(1, 1, rights);
        bench.reach(user, 0, 1);
        bench.ask(answer, Bench.OPEN, 0, 0);
    }

    private static void mayRead(int user, int... modes) {
        for (int mode : modes) {
            tryToRead(user, 0, mode);
        }
    }

    private static void mayNotRead(int user, int... modes) {
        for (int mode : modes) {
            tryToRead(user, -5, mode);
        }
    }

    private static void fileLengths() {
        Check.part("a file has 0 to 16 bytes");
        Bench bench = new Bench();
        bench.makeOpen(0, 0, 1, 0666);
        bench.stat(0, 1, 0, 0666, 0, 0, 0, 1);
        bench.ask(3, Bench.WRITE, 0, 13, 1, 2, 3);
        bench.stat(0, 1, 1, 0666, 16, 0, 0, 1);
        bench.ask(-11, Bench.WRITE, 0, 16, 1);
        bench.ask(-11, Bench.WRITE, 0, 15, 1, 2);
        bench.ask(-11, Bench.WRITE, 0, 14, 1, 2, 3);
        bench.ask(-7, Bench.WSTAT, 0, -1, -1, 17, -1);
        bench.stat(0, 1, 1, 0666, 16, 0, 0, 1);
        bench.ask(0, Bench.WSTAT, 0, -1, -1, 0, -1);
        bench.stat(0, 1, 2, 0666, 0, 0, 0, 1);
        bench.ask(0, Bench.READ, 0, 0, 8);
    }

    private static void bytes() {
        Check.part("bytes are 0 .. 255");
        Bench bench = new Bench();
        bench.makeOpen(0, 0, 1, 0666);
        bench.ask(3, Bench.WRITE, 0, 0, 0, 255, 128);
        bench.ask(3, Bench.READ, 0, 0, 8);
        bench.replied(0, 255, 128);
        for (int wrong : new int[] {-1, 256, LOWEST, HIGHEST}) {
            bench.ask(-7, Bench.WRITE, 0, 0, wrong);
            bench.ask(-7, Bench.WRITE, 0, 0, 7, wrong);
            bench.ask(-7, Bench.WRITE, 0, 0, 7, 7, wrong);
        }
        bench.ask(3, Bench.READ, 0, 0, 8);
        bench.replied(0, 255, 128);
    }

    private static void eightNodesInADirectory() {
        Check.part("a directory has at most 8 nodes");
        Bench bench = new Bench();
        for (int title = 1; title <= 8; title++) {
            bench.make(0, title, title == 8 ? DIR | ALL : 0);
        }
        bench.reach(0, 0);
        bench.ask(-11, Bench.CREATE, 0, 9, 0, 0);
        bench.ask(-11, Bench.CREATE, 0, 9, DIR, 0);
        bench.nodes(9);
        Check.part("8 nodes above are none in the directory");
        bench.make(0, 9, 0, 8);
        bench.nodes(10);
        Check.part("a directory of 8 has room when one goes");
        bench.reach(0, 1, 3);
        bench.ask(0, Bench.REMOVE, 1);
        bench.ask(0, Bench.CREATE, 0, 9, 0, 0);
    }

    private static void titlesAreInOrder() {
        Check.part("nodes with different titles, in the order of these");
        Bench bench = new Bench();
        for (int title : new int[] {50, 99, 1, 98, 2}) {
            bench.make(0, title, 0);
        }
        bench.reach(0, 0);
        bench.ask(-6, Bench.CREATE, 0, 50, 0, 0);
        bench.ask(0, Bench.OPEN, 0, 0);
        bench.ask(5, Bench.READ, 0, 0, 8);
        bench.replied(1, 2, 50, 98, 99);
        bench.reach(0, 1, 50);
        bench.ask(0, Bench.WSTAT, 1, 97, -1, -1, -1);
        bench.ask(0, Bench.WSTAT, 1, 3, -1, -1, -1);
        bench.ask(5, Bench.READ, 0, 0, 8);
        bench.replied(1, 2, 3, 98, 99);
    }

    private static void theRoot() {
        Check.part("the root is a directory with all nine rights, owner 0 and group 0");
        Bench bench = new Bench();
        bench.reach(3, 0);
        bench.stat(0, 0, 0, 2559, 0, 0, 0, 0);
        bench.ask(-5, Bench.WSTAT, 0, -1, 0777, -1, -1);
        bench.reach(0, 1);
        bench.ask(0, Bench.WSTAT, 1, -1, 0777, -1, 0);
        bench.ask(1, Bench.WALK, 0, 2, 0);
        bench.ask(0, Bench.OPEN, 2, 0);
        bench.ask(0, Bench.CREATE, 0, 1, 0, 0);
    }

    private static void sixDirectoriesAbove() {
        Check.part("a node has at most 6 directories above it");
        Bench bench = new Bench();
        int[] above = {1, 2, 3, 4, 5, 6};
        for (int depth = 0; depth < 6; depth++) {
            int[] titles = new int[depth];
            System.arraycopy(above, 0, titles, 0, depth);
            bench.make(0, above[depth], DIR | ALL, titles);
        }
        bench.make(0, 9, 0, 1, 2, 3, 4, 5);
        bench.nodes(8);
        bench.reach(0, 0, above);
        bench.ask(-11, Bench.CREATE, 0, 1, 0, 0);
        bench.ask(-11, Bench.CREATE, 0, 1, DIR, 0);
        bench.nodes(8);
        bench.fid(1, 0, 0);
    }

    private static void twentyNodes() {
        Check.part("the present tree has at most 20 nodes, the root is one");
        Bench bench = Scenes.twentyNodes();
        bench.reach(0, 0, 8);
        bench.ask(-11, Bench.CREATE, 0, 9, 0, 0);
        bench.ask(-11, Bench.CREATE, 0, 9, DIR, 0);
        bench.nodes(20);
        Check.part("snapshots' nodes are none of the present tree");
        Check.same("snapshot()", bench.snapshot(), 1);
        bench.nodes(20);
        bench.ask(1, Bench.WALK, 0, 1, 1);
        bench.ask(0, Bench.REMOVE, 1);
        bench.nodes(19);
        bench.ask(0, Bench.CREATE, 0, 9, 0, 0);
        bench.nodes(20);
        bench.reach(0, 1, 8);
        bench.ask(-11, Bench.CREATE, 1, 10, 0, 0);
    }

    private static void fileVersions() {
        Bench bench = new Bench();
        bench.makeOpen(0, 0, 1, 0666);
        Check.part("a version is 0 at first");
        bench.stat(0, 1, 0, 0666, 0, 0, 0, 1);
        Check.part("a file's version grows by 1 with each WRITE of some bytes");
        bench.ask(3, Bench.WRITE, 0, 0, 1, 2, 3);
        bench.ask(1, Bench.WRITE, 0, 0, 1);
        bench.ask(0, Bench.WRITE, 0, 0);
        bench.ask(-11, Bench.WRITE, 0, 16, 1);
        bench.stat(0, 1, 2, 0666, 3, 0, 0, 1);
        Check.part("a file's version grows by 1 with TRUNCATE");
        bench.reach(0, 1, 1);
        bench.ask(0, Bench.OPEN, 1, 16);
        bench.stat(0, 1, 3, 0666, 0, 0, 0, 1);
        bench.reach(0, 2, 1);
        bench.ask(0, Bench.OPEN, 2, 16);
        bench.stat(0, 1, 4, 0666, 0, 0, 0, 1);
        Check.part("a file's version grows by 1 when a WSTAT says a length");
        bench.ask(0, Bench.WSTAT, 0, -1, -1, 0, -1);
        bench.stat(0, 1, 5, 0666, 0, 0, 0, 1);
        bench.ask(0, Bench.WSTAT, 0, -1, -1, 5, -1);
        bench.stat(0, 1, 6, 0666, 5, 0, 0, 1);
        Check.part("a file's version stays with another title, mode, group, and with OPEN and READ");
        bench.ask(0, Bench.WSTAT, 0, 2, APPEND | 0666, -1, 0);
        bench.reach(0, 3, 2);
        bench.ask(0, Bench.OPEN, 3, 2);
        bench.ask(5, Bench.READ, 3, 0, 8);
        bench.stat(0, 1, 6, APPEND | 0666, 5, 0, 0, 2);
        Check.part("a file's version stays with TRUNCATE and APPEND");
        bench.reach(0, 4, 2);
        bench.ask(0, Bench.OPEN, 4, 18);
        bench.replied(1, 6);
        bench.stat(0, 1, 6, APPEND | 0666, 5, 0, 0, 2);
    }

    private static void directoryVersions() {
        Bench bench = new Bench();
        bench.make(0, 1, DIR | ALL);
        bench.reach(0, 0, 1);
        Check.part("a directory's version grows when a node of it comes");
        bench.make(0, 2, 0666, 1);
        bench.make(0, 3, DIR | ALL, 1);
        bench.stat(0, 1, 2, DIR | ALL, 0, 0, 0, 1);
        Check.part("a directory's version stays with what is done below its nodes and in them");
        bench.make(0, 4, 0666, 1, 3);
        bench.reach(0, 1, 1, 2);
        bench.ask(0, Bench.OPEN, 1, 18);
        bench.ask(1, Bench.WRITE, 1, 0, 1);
        bench.ask(0, Bench.WSTAT, 1, -1, 0666, 3, 0);
        bench.stat(0, 1, 2, DIR | ALL, 0, 0, 0, 1);
        Check.part("a directory's version grows when a node of it gets another title");
        bench.ask(0, Bench.WSTAT, 1, 2, -1, -1, -1);
        bench.stat(0, 1, 2, DIR | ALL, 0, 0, 0, 1);
        bench.ask(0, Bench.WSTAT, 1, 5, -1, -1, -1);
        bench.stat(0, 1, 3, DIR | ALL, 0, 0, 0, 1);
        Check.part("a directory's version grows when a node of it goes");
        bench.ask(0, Bench.REMOVE, 1);
        bench.stat(0, 1, 4, DIR | ALL, 0, 0, 0, 1);
        Check.part("a directory's version stays with another title and mode of its own");
        bench.ask(0, Bench.WSTAT, 0, 9, 0755, -1, 0);
        bench.stat(0, 1, 4, DIR | 0755, 0, 0, 0, 9);
    }

    private static void theFirstTrees() {
        Check.part("at first the present and the saved tree have the root alone");
        Bench bench = new Bench();
        bench.nodes(1);
        bench.blocks(1);
        bench.crash();
        bench.nodes(1);
        bench.blocks(1);
        bench.reach(0, 0);
        bench.stat(0, 0, 0, DIR | ALL, 0, 0, 0, 0);
        bench.ask(-7, Bench.ATTACH, 1, 0, 1);
        bench = new Bench();
        Check.same("sync(-1) writes the mark alone", bench.sync(-1), 1);
    }

    private static void fourSnapshots() {
        Check.part("at most 4 snapshots");
        Bench bench = new Bench();
        for (int number = 1; number <= 4; number++) {
            bench.ask(-7, Bench.ATTACH, 0, 0, number);
            Check.same("snapshot()", bench.snapshot(), number);
            bench.ask(0, Bench.ATTACH, 0, 0, number);
            bench.ask(0, Bench.CLUNK, 0);
        }
        Check.same("snapshot()", bench.snapshot(), -1);
        bench.ask(-7, Bench.ATTACH, 0, 0, 5);
    }

    private static void treesShareBlocks() {
        Check.part("where one tree is made from another one they have the same blocks");
        Bench bench = new Bench();
        bench.make(0, 1, 0666);
        bench.blocks(3);
        Check.same("sync(-1)", bench.sync(-1), 3);
        bench.blocks(2);
        for (int number = 1; number <= 4; number++) {
            Check.same("snapshot()", bench.snapshot(), number);
            bench.blocks(2);
        }
        bench.crash();
        bench.blocks(2);
    }

    private static void whatIsChangedGetsBlocks() {
        Check.part("what is changed, and all directories above that, get new blocks");
        int[][] changes = {
            {Bench.WRITE, 0, 1}, {Bench.OPEN, 16}, {Bench.WSTAT, 9, -1, -1, -1}, {Bench.WSTAT, -1, 0, -1, -1},
            {Bench.WSTAT, -1, -1, 0, -1}, {Bench.WSTAT, -1, -1, -1, 0}, {Bench.REMOVE}};
        for (int[] change : changes) {
            Bench bench = new Bench();
            bench.make(0, 1, DIR | ALL);
            bench.make(0, 2, DIR | ALL, 1);
            bench.make(0, 3, 0666, 1, 2);
            bench.make(0, 4, 0666, 1, 2);
            Check.same("snapshot()", bench.snapshot(), 1);
            bench.reach(0, 0, 1, 2, 3);
            if (change[0] == Bench.WRITE) {
                bench.ask(0, Bench.OPEN, 0, 1);
            }
            bench.blocks(5);
            int[] numbers = new int[change.length - 1];
            System.arraycopy(change, 1, numbers, 0, numbers.length);
            bench.ask(change[0] == Bench.WRITE ? 1 : 0, change[0], 0, numbers);
            boolean goes = change[0] == Bench.REMOVE;
            bench.blocks(goes ? 8 : 9);
            Check.same("sync(-1)", bench.sync(-1), goes ? 4 : 5);
        }
        Check.part("a new node's directory, and all above that, get new blocks");
        Bench bench = new Bench();
        bench.make(0, 1, DIR | ALL);
        bench.make(0, 2, 0, 1);
        Check.same("sync(-1)", bench.sync(-1), 4);
        bench.make(0, 3, 0, 1);
        bench.blocks(6);
        Check.same("sync(-1)", bench.sync(-1), 4);
    }

    private static void ownBlocksAreKept() {
        Check.part("where the saved tree and the snapshots have not the blocks, there are no new ones");
        Bench bench = new Bench();
        bench.makeOpen(0, 0, 1, 0666);
        bench.blocks(3);
        for (int i = 0; i < 3; i++) {
            bench.ask(1, Bench.WRITE, 0, i, i);
            bench.ask(0, Bench.WSTAT, 0, 2 + i, -1, -1, -1);
            bench.blocks(3);
        }
        bench.make(0, 1, 0);
        bench.blocks(4);
        bench.ask(0, Bench.REMOVE, 0);
        bench.blocks(3);
        Check.part("a snapshot's block that the saved tree has no more is not changed");
        bench = new Bench();
        bench.makeOpen(0, 0, 1, 0666, 1);
        Check.same("snapshot()", bench.snapshot(), 1);
        bench.ask(1, Bench.WRITE, 0, 0, 2);
        Check.same("sync(-1)", bench.sync(-1), 3);
        bench.ask(1, Bench.WRITE, 0, 0, 3);
        bench.blocks(6);
        bench.reachIn(1, 0, 1, 1);
        bench.ask(0, Bench.OPEN, 1, 0);
        bench.ask(1, Bench.READ, 1, 0, 8);
        bench.replied(1);
        Check.part("the saved tree's block that no snapshot has is not changed");
        bench.crash();
        bench.reach(0, 0, 1);
        bench.ask(0, Bench.OPEN, 0, 0);
        bench.ask(1, Bench.READ, 0, 0, 8);
        bench.replied(2);
    }

    private static void exactlySixtyFourBlocks() {
        Check.part("there are at most 64 blocks: 64 go, 65 do not");
        Bench bench = Scenes.roomForOneChain();
        bench.ask(1, Bench.WRITE, 0, 0, 4);
        bench.blocks(64);
        bench.ask(-11, Bench.WRITE, 1, 0, 4);
        bench.ask(1, Bench.WRITE, 0, 0, 5);
        bench.ask(0, Bench.REMOVE, 0);
        bench.blocks(63);
        bench.reach(0, 0);
        bench.ask(0, Bench.CREATE, 0, 9, 0, 0);
        bench.blocks(64);
        bench.reach(0, 3, 1);
        bench.ask(-11, Bench.CREATE, 3, 9, 0, 0);
    }

    /** In the chain 1 of the scene: its last directory and its file, and what needs how many blocks there. */
    private static void justEnoughRoom() {
        int[][] requests = {
            {6, Bench.OPEN, 16}, {6, Bench.OPEN, 17}, {6, Bench.WRITE, 0, 1}, {6, Bench.CREATE, 8, 0, 0},
            {5, Bench.REMOVE}, {6, Bench.WSTAT, 8, -1, -1, -1}, {6, Bench.WSTAT, -1, 0, -1, -1},
            {6, Bench.WSTAT, -1, -1, 0, -1}, {6, Bench.WSTAT, -1, -1, -1, 0}};
        for (int[] request : requests) {
            Check.part("64 blocks are just enough for kind " + request[1]);
            Bench bench = roomFor(request[0]);
            bench.ask(request[1] == Bench.WRITE ? 1 : 0, request[1], fidFor(bench, request[1]), numbersOf(request));
            bench.blocks(64);
            Check.part("64 blocks are one too few for kind " + request[1]);
            bench = roomFor(request[0] - 1);
            int blocks = bench.blocks();
            bench.ask(-11, request[1], fidFor(bench, request[1]), numbersOf(request));
            bench.blocks(blocks);
            bench.nodes(19);
        }
    }

    /** The scene with room for at most six more blocks, as a directory of the chain 3 got new ones. */
    private static Bench roomFor(int blocks) {
        Bench bench = Scenes.roomForOneChain();
        int[] titles = new int[6 - blocks];
        Arrays.fill(titles, 3);
        bench.reach(0, 4, titles);
        bench.ask(0, Bench.WSTAT, 4, -1, 0777, -1, -1);
        bench.blocks(64 - blocks);
        return bench;
    }

    /** The chain's file is open on fid 0 already; other kinds need a fid that is not. */
    private static int fidFor(Bench bench, int kind) {
        if (kind == Bench.WRITE) {
            return 0;
        }
        bench.reach(0, 5, 1, 1, 1, 1, 1);
        if (kind != Bench.CREATE) {
            bench.ask(1, Bench.WALK, 5, 5, 9);
        }
        return 5;
    }

    private static int[] numbersOf(int[] request) {
        return Arrays.copyOfRange(request, 2, request.length);
    }

    private static void noRoomForAnyChange() {
        Check.part("a request for which 64 blocks would be too few has no room");
        Bench bench = Scenes.full();
        bench.reach(0, 0, 1, 4, 5, 6, 9);
        bench.ask(-11, Bench.OPEN, 0, 17);
        bench.fid(1, 0, 0);
        bench.ask(0, Bench.OPEN, 0, 66);
        bench.ask(-11, Bench.WRITE, 0, 0, 1);
        bench.ask(-11, Bench.WSTAT, 0, 8, -1, -1, -1);
        bench.ask(-11, Bench.WSTAT, 0, -1, 0, -1, -1);
        bench.ask(-11, Bench.WSTAT, 0, -1, -1, 0, -1);
        bench.ask(-11, Bench.WSTAT, 0, -1, -1, -1, 0);
        bench.reach(0, 1);
        bench.ask(-11, Bench.WSTAT, 1, -1, 0777, -1, -1);
        bench.ask(-11, Bench.CREATE, 1, 9, 0, 0);
        bench.fid(1, 0, 1);
        Check.part("what changes nothing needs no room");
        bench.ask(0, Bench.WRITE, 0, 0);
        bench.ask(0, Bench.WSTAT, 0, -1, -1, -1, -1);
        bench.ask(0, Bench.WSTAT, 0, 9, -1, -1, -1);
        bench.ask(1, Bench.READ, 0, 0, 8);
        bench.replied(4);
        Check.part("no room to remove on close");
        bench.ask(0, Bench.CLUNK, 0);
        bench.fid(0, 0, 0);
        bench.nodes(16);
        bench.reach(0, 0, 1, 4, 5, 6, 9);
        bench.stat(0, 5, 3, ALONE | 0666, 1, 0, 0, 9);
        bench.blocks(64);
        Check.same("sync(-1)", bench.sync(-1), 1);
    }

    private static void whatGoesDoesNotCount() {
        Check.part("what it takes away does not count");
        Bench bench = Scenes.full();
        bench.reach(0, 0, 1, 4, 5, 6, 9);
        bench.ask(-11, Bench.REMOVE, 0);
        bench.fid(0, 0, 0);
        bench.nodes(16);
        bench.reach(0, 0, 1, 4, 5, 6, 9);
        bench.stat(0, 5, 3, ALONE | 0666, 1, 0, 0, 9);
    }

    private static void connectionsAndTags() {
        Check.part("connections 0, 1 and tags 0 .. 7");
        Bench bench = new Bench();
        for (int connection = 0; connection < 2; connection++) {
            for (int tag = 0; tag < 8; tag++) {
                Check.yes("send", bench.send(connection, tag, Bench.STAT, 0));
                Check.same("waiting", bench.waiting(connection), tag + 1);
            }
        }
        for (int wrong : new int[] {-1, 8, LOWEST, HIGHEST}) {
            Check.no("send", bench.send(0, wrong, Bench.STAT, 0));
            Check.same("serve", bench.serve(0, wrong), -20);
            Check.no("flush", bench.flush(0, wrong));
        }
        for (int connection = 0; connection < 2; connection++) {
            for (int tag = 7; tag >= 0; tag--) {
                Check.same("serve", bench.serve(connection, tag), -1);
                Check.same("waiting", bench.waiting(connection), tag);
            }
        }
    }

    private static void fids() {
        Check.part("fids 0 .. 5");
        Bench bench = new Bench();
        for (int fid = 0; fid < 6; fid++) {
            bench.ask(0, Bench.ATTACH, fid, 0, 0);
            bench.fid(1, 0, fid);
        }
        for (int wrong : new int[] {-1, 6, LOWEST, HIGHEST}) {
            Check.no("send", bench.send(0, 0, Bench.STAT, wrong));
            bench.fid(-1, 0, wrong);
            bench.ask(-7, Bench.WALK, 0, wrong);
        }
    }

    private static void fidsOfConnections() {
        Check.part("each connection has fids of its own");
        Bench bench = new Bench();
        bench.ask(0, Bench.ATTACH, 3, 0, 0);
        bench.fid(0, 1, 3);
        bench.askFrom(1, -1, Bench.STAT, 3);
        bench.askFrom(1, 0, Bench.ATTACH, 3, 1, 0);
        bench.askFrom(1, 0, Bench.CREATE, 3, 1, 0, 0);
        bench.fid(1, 0, 3);
        bench.fid(2, 1, 3);
        bench.ask(0, Bench.CLUNK, 3);
        bench.fid(2, 1, 3);
    }

    private static void fourNumbers() {
        Check.part("up to four numbers");
        Bench bench = new Bench();
        bench.makeOpen(0, 0, 1, 0666);
        bench.ask(3, Bench.WRITE, 0, 0, 7, 8, 9);
        for (int i = 0; i < 4; i++) {
            Check.yes("say", bench.say(i));
        }
        Check.no("say", bench.say(4));
        Check.yes("send", bench.send(0, 0, Bench.WRITE, 0));
        Check.same("WRITE", bench.serve(0, 0), 3);
        bench.ask(3, Bench.READ, 0, 0, 8);
        bench.replied(1, 2, 3);
    }

    private static void openModes() {
        Check.part("open modes: 0, 1 or 2, 16 more, 64 more, and no others");
        for (int part = 0; part < 4; part++) {
            Bench bench = new Bench();
            bench.make(0, 1, 0600);
            bench.reach(0, 0, 1);
            for (int mode = part * 40 - 5; mode < part * 40 + 35; mode++) {
                int lowest = mode & 3;
                boolean is = mode >= 0 && lowest < 3 && mode - lowest == (mode & 80);
                if (!is) {
                    bench.ask(-7, Bench.OPEN, 0, mode);
                }
            }
        }
        Bench bench = new Bench();
        bench.make(0, 1, 0600);
        bench.reach(0, 0, 1);
        for (int mode : new int[] {0, 1, 2, 16, 17, 18, 64, 65, 66, 80, 81, 82}) {
            bench.ask(0, Bench.WALK, 0, 1);
            bench.ask(0, Bench.OPEN, 1, mode);
            bench.ask(0, Bench.CLUNK, 1);
            if ((mode & 64) != 0) {
                bench.ask(-13, Bench.STAT, 0);
                bench.ask(0, Bench.CLUNK, 0);
                bench.make(0, 1, 0600);
                bench.reach(0, 0, 1);
            }
        }
        for (int wrong : new int[] {128, 256, 512, 1024, 4096, LOWEST, LOWEST + 2, HIGHEST, -64, -128}) {
            bench.ask(-7, Bench.OPEN, 0, wrong);
        }
    }

    private static void whatOpenModesLet() {
        Check.part("0 for READing, 1 for WRITing, 2 for both, whatever more there is");
        for (int more : new int[] {0, 16, 64, 80}) {
            Bench bench = new Bench();
            for (int lowest = 0; lowest < 3; lowest++) {
                bench.reach(0, lowest);
                bench.ask(0, Bench.CREATE, lowest, 1 + lowest, 0, more + lowest);
                bench.ask(lowest == 0 ? -8 : 1, Bench.WRITE, lowest, 0, 9);
                bench.ask(lowest == 1 ? -8 : lowest == 2 ? 1 : 0, Bench.READ, lowest, 0, 8);
            }
        }
    }

    /** One request for each answer below 0; then all is as it was. */
    private static void nothingIsDone() {
        Check.part("below 0 nothing is done");
        Bench bench = new Bench();
        bench.makeOpen(0, 0, 1, ALONE | 0600, 5);
        bench.make(0, 2, DIR | 0700);
        bench.make(0, 3, 0, 2);
        Check.same("snapshot()", bench.snapshot(), 1);
        bench.makeOpen(0, 1, 4, 0600, 6);
        bench.reach(0, 2, 4);
        bench.ask(0, Bench.REMOVE, 2);
        bench.reach(0, 2);
        bench.reachIn(1, 0, 3, 1);
        bench.reach(1, 4, 2);
        bench.ask(-1, Bench.WALK, 5, 5);
        bench.ask(-2, Bench.WALK, 2, 4);
        bench.ask(-3, Bench.WALK, 2, 5, 9);
        bench.ask(-4, Bench.CREATE, 3, 1, 0, 0);
        bench.ask(-5, Bench.CREATE, 4, 9, 0, 0);
        bench.ask(-6, Bench.CREATE, 2, 1, 0, 0);
        bench.ask(-6, Bench.WSTAT, 0, 2, 0666, 9, 0);
        bench.ask(-7, Bench.WSTAT, 0, 9, 0666, 9, 4);
        bench.ask(-8, Bench.OPEN, 0, 16);
        bench.ask(-9, Bench.WSTAT, 3, 9, 0666, 9, 0);
        bench.ask(-9, Bench.OPEN, 3, 17);
        bench.ask(1, Bench.WALK, 2, 5, 1);
        bench.ask(-10, Bench.OPEN, 5, 16);
        bench.ask(0, Bench.CLUNK, 5);
        bench.ask(-11, Bench.WRITE, 0, 15, 1, 2);
        bench.ask(1, Bench.WALK, 2, 5, 2);
        bench.ask(-12, Bench.REMOVE, 5);
        bench.ask(-13, Bench.WRITE, 1, 0, 1);
        int[] are = {2, 2, 1, 5, 1, 0};
        for (int fid = 0; fid < 6; fid++) {
            bench.fid(are[fid], 0, fid);
        }
        bench.nodes(4);
        bench.blocks(5);
        bench.stat(0, 1, 1, ALONE | 0600, 1, 0, 0, 1);
        bench.stat(2, 0, 4, DIR | ALL, 0, 0, 0, 0);
        bench.stat(3, 1, 1, ALONE | 0600, 1, 0, 0, 1);
        bench.stat(4, 2, 1, DIR | 0700, 0, 0, 0, 2);
    }
}
