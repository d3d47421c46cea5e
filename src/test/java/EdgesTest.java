/** The ten kinds at their edges: the ranges of their numbers, and what is done there. */
public final class EdgesTest {
    private static final int DIR = Bench.DIR;
    private static final int ALL = Bench.ALL;
    private static final int APPEND = Bench.APPEND;
    private static final int ALONE = Bench.ALONE;
    private static final int LOWEST = Integer.MIN_VALUE;
    private static final int HIGHEST = Integer.MAX_VALUE;

    public static void main(String[] args) {
        attachTrees();
        attachIsRefused();
        walkNewfids();
        walkHowManyTitles();
        walkAboveTheRoot();
        walkNoSuchTitles();
        walkFailsAtTheFirstTitle();
        walkFailsAtALaterTitle();
        walkToTheSameFid();
        walkNewfidIsAlike();
        openRights();
        openOnCloseAbove();
        openAlone();
        openTruncates();
        openAppendStays();
        openIsRefused();
        createNumbers();
        createRights();
        createRightsOfDirectories();
        createFid();
        createIsRefused();
        readOffsetsAndCounts();
        readDirectoryOffsets();
        readDirectoryEnds();
        writeNoBytes();
        writeBehindTheLast();
        writeOffsets();
        writeAppends();
        clunkOnClose();
        clunkOnCloseThatDoesNotGo();
        removeFreesInAnyCase();
        removeTheRoot();
        removeNotEmpty();
        goneNodes();
        statEdges();
        wstatTitleNumbers();
        wstatModeNumbers();
        wstatLengthNumbers();
        wstatGroupNumbers();
        wstatOfTheRootAndDirectories();
        wstatRights();
        wstatTitleItHas();
        wstatAllBecomesSo();
        Check.end();
    }

    private static void attachTrees() {
        Check.part("ATTACH: tree 0 the present one, else a snapshot");
        Bench bench = new Bench();
        bench.make(0, 1, 0);
        bench.ask(-7, Bench.ATTACH, 0, 0, 1);
        Check.same("snapshot()", bench.snapshot(), 1);
        bench.make(0, 2, 0);
        Check.same("snapshot()", bench.snapshot(), 2);
        bench.make(0, 3, 0);
        for (int tree = 0; tree <= 2; tree++) {
            bench.ask(0, Bench.ATTACH, tree, 0, tree);
            bench.replied(0, tree == 0 ? 3 : tree, DIR | ALL);
            bench.fid(tree == 0 ? 1 : 5, 0, tree);
        }
        for (int wrong : new int[] {-1, 3, 4, 5, 6, LOWEST, HIGHEST}) {
            bench.ask(-7, Bench.ATTACH, 3, 0, wrong);
        }
    }

    private static void attachIsRefused() {
        Check.part("ATTACH: the fid stays what it was");
        Bench bench = new Bench();
        bench.ask(-7, Bench.ATTACH, 0, 0, 1);
        bench.fid(0, 0, 0);
        bench.makeOpen(0, 1, 1, 0);
        bench.ask(-2, Bench.ATTACH, 1, 0, 0);
        bench.fid(2, 0, 1);
        bench.stat(1, 1, 0, 0, 0, 0, 0, 1);
    }

    private static void walkNewfids() {
        Check.part("WALK: newfid is 0 .. 5");
        Bench bench = new Bench();
        bench.reach(0, 2);
        for (int newfid : new int[] {0, 1, 3, 4, 5}) {
            bench.ask(0, Bench.WALK, 2, newfid);
            bench.fid(1, 0, newfid);
        }
        for (int wrong : new int[] {-1, 6, LOWEST, HIGHEST}) {
            bench.ask(-7, Bench.WALK, 2, wrong);
        }
        Check.part("WALK: -2 newfid, if it is not the fid");
        bench.ask(-2, Bench.WALK, 2, 5);
        bench.ask(0, Bench.WALK, 2, 2);
        bench.ask(0, Bench.OPEN, 5, 0);
        bench.ask(-2, Bench.WALK, 2, 5);
    }

    private static void walkHowManyTitles() {
        Check.part("WALK: up to three titles");
        Bench bench = new Bench();
        bench.make(0, 1, DIR | ALL);
        bench.make(0, 2, DIR | ALL, 1);
        bench.make(0, 3, 0, 1, 2);
        bench.reach(0, 0);
        bench.ask(0, Bench.WALK, 0, 1);
        bench.replied(0, 1, DIR | ALL);
        bench.ask(1, Bench.WALK, 0, 2, 1);
        bench.replied(1, 1, DIR | ALL);
        bench.ask(2, Bench.WALK, 0, 3, 1, 2);
        bench.replied(2, 1, DIR | ALL);
        bench.ask(3, Bench.WALK, 0, 4, 1, 2, 3);
        bench.replied(3, 0, 0);
        for (int fid = 1; fid <= 4; fid++) {
            bench.ask(0, Bench.STAT, fid);
            Check.same("its path", bench.reply(0), fid - 1);
        }
        Check.part("WALK: no titles from a file");
        bench.ask(0, Bench.WALK, 4, 5);
        bench.replied(3, 0, 0);
    }

    private static void walkAboveTheRoot() {
        Check.part("WALK: 0 for the directory above");
        Bench bench = new Bench();
        bench.make(0, 1, DIR | ALL);
        bench.make(0, 2, DIR | ALL, 1);
        bench.reach(0, 0, 1, 2);
        bench.ask(1, Bench.WALK, 0, 1, 0);
        bench.replied(1, 1, DIR | ALL);
        bench.ask(2, Bench.WALK, 0, 2, 0, 2);
        bench.replied(2, 0, DIR | ALL);
        Check.part("WALK: the directory above the root is the root");
        bench.ask(3, Bench.WALK, 0, 3, 0, 0, 0);
        bench.replied(0, 1, DIR | ALL);
        bench.ask(3, Bench.WALK, 3, 4, 0, 0, 1);
        bench.replied(1, 1, DIR | ALL);
        Check.part("WALK: no directory above a file");
        bench.make(0, 3, 0777);
        bench.reach(0, 5, 3);
        bench.ask(-4, Bench.WALK, 5, 5, 0);
        Check.part("WALK: PASS is asked for the directory above, too");
        bench.ask(0, Bench.WSTAT, 0, -1, 0666, -1, -1);
        bench.ask(-5, Bench.WALK, 0, 0, 0);
        bench.ask(0, Bench.WSTAT, 3, -1, 0666, -1, -1);
        bench.ask(-5, Bench.WALK, 3, 3, 0);
    }

    private static void walkNoSuchTitles() {
        Check.part("WALK: -3 for a title that is not there, or is none");
        Bench bench = new Bench();
        bench.make(0, 50, 0);
        bench.reach(0, 0);
        for (int title : new int[] {1, 49, 51, 99, 100, -1, -50, 256 + 50, LOWEST, HIGHEST}) {
            bench.ask(-3, Bench.WALK, 0, 1, title);
        }
        bench.fid(0, 0, 1);
    }

    private static void walkFailsAtTheFirstTitle() {
        Check.part("WALK: what comes at the first title is the answer");
        Bench bench = new Bench();
        bench.make(0, 1, DIR | 0766);
        bench.make(0, 2, 0777);
        bench.make(0, 3, 0, 1);
        bench.reach(1, 0);
        bench.ask(-3, Bench.WALK, 0, 1, 9, 1);
        bench.reach(1, 2, 1);
        bench.ask(-5, Bench.WALK, 2, 1, 3);
        bench.reach(1, 3, 2);
        bench.ask(-4, Bench.WALK, 3, 1, 3);
        bench.fid(0, 0, 1);
        bench.ask(-4, Bench.WALK, 3, 3, 3);
        bench.ask(0, Bench.STAT, 3);
        Check.same("its path", bench.reply(0), 2);
    }

    private static void walkFailsAtALaterTitle() {
        Check.part("WALK: what comes at a later title tells how many went well, and newfid is not there");
        Bench bench = new Bench();
        bench.make(0, 1, DIR | 0766);
        bench.make(0, 2, 0777);
        bench.make(0, 3, 0, 1);
        bench.reach(1, 0);
        int[][] walks = {{1, 3}, {2, 1}, {2, 0}, {0, 9}};
        int[] reached = {1, 2, 2, 0};
        for (int i = 0; i < walks.length; i++) {
            bench.ask(1, Bench.WALK, 0, 1, walks[i][0], walks[i][1]);
            Check.same("the path it led to", bench.reply(0), reached[i]);
            bench.ask(1, Bench.WALK, 0, 1, walks[i][0], walks[i][1], 1);
            bench.ask(2, Bench.WALK, 0, 1, 0, walks[i][0], walks[i][1]);
            Check.same("the path it led to", bench.reply(0), reached[i]);
            Check.same("reply(-1)", bench.reply(-1), 3);
            bench.fid(0, 0, 1);
        }
        bench.ask(2, Bench.WALK, 0, 1, 0, 2, 9);
        bench.replied(2, 0, 0777);
        bench.ask(1, Bench.WALK, 0, 1, 1, 3);
        bench.replied(1, 1, DIR | 0766);
    }

    private static void walkToTheSameFid() {
        Check.part("WALK: to the fid itself, if all went well; else it stays");
        Bench bench = new Bench();
        bench.make(0, 1, DIR | ALL);
        bench.make(0, 2, DIR | ALL, 1);
        bench.reach(0, 0);
        bench.ask(1, Bench.WALK, 0, 0, 1, 9);
        bench.stat(0, 0, 1, DIR | ALL, 0, 0, 0, 0);
        bench.ask(-3, Bench.WALK, 0, 0, 9);
        bench.stat(0, 0, 1, DIR | ALL, 0, 0, 0, 0);
        bench.ask(2, Bench.WALK, 0, 0, 1, 2);
        bench.stat(0, 2, 0, DIR | ALL, 0, 0, 0, 2);
    }

    private static void walkNewfidIsAlike() {
        Check.part("WALK: newfid is for the same user, in the same tree, not open");
        Bench bench = new Bench();
        bench.make(1, 1, 0600);
        Check.same("snapshot()", bench.snapshot(), 1);
        bench.reach(1, 0);
        bench.ask(1, Bench.WALK, 0, 1, 1);
        bench.fid(1, 0, 1);
        bench.ask(0, Bench.WSTAT, 1, -1, 0640, -1, -1);
        bench.reach(2, 2);
        bench.ask(1, Bench.WALK, 2, 3, 1);
        bench.ask(-5, Bench.WSTAT, 3, -1, 0640, -1, -1);
        bench.reachIn(1, 1, 4);
        bench.ask(1, Bench.WALK, 4, 5, 1);
        bench.fid(5, 0, 5);
        bench.stat(5, 1, 0, 0600, 0, 1, 0, 1);
    }

    private static void openRights() {
        Check.part("OPEN: -5 if READ is missing for READing, WRITE for WRITing or TRUNCATE");
        int[] modes = {0, 1, 2, 16, 17, 18};
        int[][] answers = {
            {-5, -5, -5, -5, -5, -5}, {-5, -5, -5, -5, -5, -5}, {-5, 0, -5, -5, 0, -5}, {0, -5, -5, -5, -5, -5},
            {0, 0, 0, 0, 0, 0}};
        int[] rights = {0, 1, 2, 4, 6};
        for (int i = 0; i < rights.length; i++) {
            Bench bench = new Bench();
            bench.make(0, 1, 0770 | rights[i]);
            bench.reach(1, 0, 1);
            for (int j = 0; j < modes.length; j++) {
                bench.ask(0, Bench.WALK, 0, 1);
                bench.ask(answers[i][j], Bench.OPEN, 1, modes[j]);
                bench.fid(answers[i][j] == 0 ? 2 : 1, 0, 1);
                bench.ask(0, Bench.CLUNK, 1);
            }
        }
    }

    private static void openOnCloseAbove() {
        Check.part("OPEN: -5 if, for ON CLOSE, WRITE is missing at the directory above");
        Bench bench = new Bench();
        bench.make(0, 1, DIR | ALL);
        bench.make(0, 2, 0666, 1);
        bench.reach(0, 0, 1);
        bench.ask(0, Bench.WSTAT, 0, -1, 0755, -1, -1);
        bench.reach(1, 1, 1, 2);
        for (int mode : new int[] {64, 65, 66, 80, 82}) {
            bench.ask(-5, Bench.OPEN, 1, mode);
        }
        bench.ask(0, Bench.WSTAT, 0, -1, 0722, -1, -1);
        bench.ask(0, Bench.OPEN, 1, 64);
        Check.part("OPEN: ON CLOSE asks for no WRITE at the node");
        bench.make(0, 3, 0444);
        bench.reach(1, 2, 3);
        bench.ask(0, Bench.OPEN, 2, 64);
        Check.part("OPEN: the root can't be opened ON CLOSE");
        bench.reach(0, 3);
        bench.ask(-4, Bench.OPEN, 3, 64);
    }

    private static void openAlone() {
        Check.part("OPEN: -10 if its mode has ALONE and a fid has it open in the same tree");
        Bench bench = new Bench();
        bench.make(0, 1, ALONE | 0666);
        bench.make(0, 2, 0666);
        Check.same("snapshot()", bench.snapshot(), 1);
        Check.same("snapshot()", bench.snapshot(), 2);
        bench.reach(0, 0, 1);
        bench.reach(0, 1, 1);
        bench.ask(0, Bench.OPEN, 0, 0);
        bench.ask(-10, Bench.OPEN, 1, 0);
        bench.askFrom(1, 0, Bench.ATTACH, 0, 3, 0);
        bench.askFrom(1, 1, Bench.WALK, 0, 0, 1);
        bench.askFrom(1, -10, Bench.OPEN, 0, 2);
        Check.part("OPEN: alone in one tree, open in others");
        bench.reachIn(1, 0, 2, 1);
        bench.ask(0, Bench.OPEN, 2, 0);
        bench.reachIn(2, 0, 3, 1);
        bench.ask(0, Bench.OPEN, 3, 0);
        bench.reachIn(2, 0, 4, 1);
        bench.ask(-10, Bench.OPEN, 4, 0);
        Check.part("OPEN: a fid that is there and not open is no hindrance");
        bench.ask(0, Bench.CLUNK, 0);
        bench.askFrom(1, 0, Bench.OPEN, 0, 2);
        bench.ask(-10, Bench.OPEN, 1, 0);
        Check.part("OPEN: without ALONE several have it open");
        bench.reach(0, 0, 2);
        bench.reach(0, 5, 2);
        bench.ask(0, Bench.OPEN, 0, 2);
        bench.ask(0, Bench.OPEN, 5, 2);
        Check.part("OPEN: what counts is the mode now");
        bench.ask(0, Bench.WSTAT, 1, -1, 0666, -1, -1);
        bench.ask(0, Bench.OPEN, 1, 0);
    }

    private static void openTruncates() {
        Check.part("OPEN: with TRUNCATE its length becomes 0");
        Bench bench = new Bench();
        bench.makeOpen(0, 0, 1, 0666, 1, 2, 3);
        bench.reach(0, 1, 1);
        bench.ask(0, Bench.OPEN, 1, 18);
        bench.replied(1, 4);
        bench.stat(0, 1, 4, 0666, 0, 0, 0, 1);
        bench.ask(0, Bench.READ, 0, 0, 8);
        bench.ask(1, Bench.WRITE, 1, 3, 9);
        bench.ask(4, Bench.READ, 0, 0, 8);
        bench.replied(0, 0, 0, 9);
    }

    private static void openAppendStays() {
        Check.part("OPEN: with TRUNCATE and APPEND nothing changes");
        Bench bench = new Bench();
        bench.makeOpen(0, 0, 1, APPEND | 0644, 1, 2);
        Check.same("snapshot()", bench.snapshot(), 1);
        bench.blocks(2);
        bench.reach(0, 1, 1);
        bench.ask(0, Bench.OPEN, 1, 18);
        bench.replied(1, 2);
        bench.blocks(2);
        bench.stat(0, 1, 2, APPEND | 0644, 2, 0, 0, 1);
        Check.part("OPEN: TRUNCATE and APPEND ask for WRITE all the same");
        bench.reach(1, 2, 1);
        bench.ask(-5, Bench.OPEN, 2, 16);
    }

    private static void openIsRefused() {
        Check.part("OPEN: below 0 the fid is not open and nothing is truncated");
        Bench bench = new Bench();
        bench.makeOpen(0, 0, 1, ALONE | 0644, 1, 2);
        bench.reach(0, 1, 1);
        bench.ask(-10, Bench.OPEN, 1, 18);
        bench.fid(1, 0, 1);
        bench.reach(1, 2, 1);
        bench.ask(-5, Bench.OPEN, 2, 17);
        bench.fid(1, 0, 2);
        bench.stat(0, 1, 2, ALONE | 0644, 2, 0, 0, 1);
    }

    private static void createNumbers() {
        Check.part("CREATE: title 1 .. 99, mode 0 .. 4095, an open mode");
        Bench bench = new Bench();
        bench.reach(0, 0);
        int[][] wrong = {
            {0, 0, 0}, {-1, 0, 0}, {100, 0, 0}, {LOWEST, 0, 0}, {HIGHEST, 0, 0}, {1, -1, 0}, {1, 4096, 0},
            {1, LOWEST, 0}, {1, HIGHEST, 0}, {1, 0, -1}, {1, 0, 3}, {1, 0, 4}, {1, 0, 8}, {1, 0, 19}, {1, 0, 32},
            {1, 0, 67}, {1, 0, 128}, {1, 0, LOWEST}, {1, 0, HIGHEST}};
        for (int[] numbers : wrong) {
            bench.ask(-7, Bench.CREATE, 0, numbers);
        }
        bench.fid(1, 0, 0);
        bench.nodes(1);
        int[][] right = {{1, 0, 0}, {99, 2047, 82}, {50, 2048, 0}, {51, 4095, 0}};
        for (int i = 0; i < right.length; i++) {
            bench.ask(0, Bench.WALK, 0, 1);
            bench.ask(0, Bench.CREATE, 1, right[i]);
            bench.replied(i + 1, 0);
            bench.stat(1, i + 1, 0, right[i][1], 0, 0, 0, right[i][0]);
            bench.ask(0, Bench.CLUNK, 1);
        }
        Check.part("CREATE: a directory has no other open mode than 0");
        for (int mode : new int[] {1, 2, 16, 17, 18, 64, 65, 66, 80, 81, 82}) {
            bench.ask(-7, Bench.CREATE, 0, 3, DIR | ALL, mode);
        }
    }

    private static void createRights() {
        Check.part("CREATE: a file has no READ and WRITE that the directory has not in the same bits");
        for (int bit = 1; bit <= 256; bit *= 2) {
            Bench bench = new Bench();
            bench.reach(0, 0);
            bench.ask(0, Bench.WSTAT, 0, -1, bit | 0200, -1, -1);
            bench.ask(0, Bench.CREATE, 0, 1, APPEND | ALONE | ALL, 0);
            int mode = APPEND | ALONE | 0111 | bit | 0200;
            bench.stat(0, 1, 0, mode, 0, 0, 0, 1);
        }
        Check.part("CREATE: no right comes that the mode has not");
        Bench bench = new Bench();
        bench.reach(0, 0);
        bench.ask(0, Bench.CREATE, 0, 1, 0, 0);
        bench.stat(0, 1, 0, 0, 0, 0, 0, 1);
    }

    private static void createRightsOfDirectories() {
        Check.part("CREATE: a directory has no right that the directory has not in the same bits");
        for (int bit = 1; bit <= 256; bit *= 2) {
            Bench bench = new Bench();
            bench.reach(0, 0);
            bench.ask(0, Bench.WSTAT, 0, -1, bit | 0200, -1, -1);
            bench.ask(0, Bench.CREATE, 0, 1, DIR | APPEND | ALONE | ALL, 0);
            bench.stat(0, 1, 0, DIR | APPEND | ALONE | bit | 0200, 0, 0, 0, 1);
        }
    }

    private static void createFid() {
        Check.part("CREATE: the fid is at the new node, open, whatever its rights");
        Bench bench = new Bench();
        bench.reach(2, 0);
        bench.ask(0, Bench.CREATE, 0, 1, 0, 66);
        bench.fid(2, 0, 0);
        bench.ask(1, Bench.WRITE, 0, 0, 7);
        bench.ask(1, Bench.READ, 0, 0, 8);
        bench.replied(7);
        Check.part("CREATE: the user is the owner, the group is the directory's");
        bench.stat(0, 1, 1, 0, 1, 2, 0, 1);
        bench.ask(0, Bench.CLUNK, 0);
        bench.nodes(1);
        bench.reach(2, 0);
        bench.ask(0, Bench.CREATE, 0, 1, DIR | ALL, 0);
        bench.ask(0, Bench.WSTAT, 0, -1, -1, -1, 2);
        bench.make(3, 2, 0, 1);
        bench.reach(0, 1, 1, 2);
        bench.stat(1, 3, 0, 0, 0, 3, 2, 2);
        Check.part("CREATE: open for WRITing alone and for READing alone");
        bench.reach(0, 2);
        bench.ask(0, Bench.CREATE, 2, 5, ALL, 1);
        bench.ask(-8, Bench.READ, 2, 0, 1);
        bench.reach(0, 3);
        bench.ask(0, Bench.CREATE, 3, 6, ALL, 0);
        bench.ask(-8, Bench.WRITE, 3, 0, 1);
    }

    private static void createIsRefused() {
        Check.part("CREATE: below 0 the fid stays at the directory, not open");
        Bench bench = new Bench();
        bench.make(0, 1, DIR | 0755);
        bench.reach(1, 0, 1);
        bench.ask(-5, Bench.CREATE, 0, 2, 0, 0);
        bench.fid(1, 0, 0);
        bench.stat(0, 1, 0, DIR | 0755, 0, 0, 0, 1);
        bench.nodes(2);
        Check.part("CREATE: -5 asks for WRITE alone");
        bench.make(0, 2, DIR | 0222);
        bench.reach(1, 1, 2);
        bench.ask(0, Bench.CREATE, 1, 2, 0, 0);
    }

    private static void readOffsetsAndCounts() {
        Check.part("READ: offset 0 or more, count 0 .. 8");
        Bench bench = new Bench();
        bench.makeOpen(0, 0, 1, 0666, 1, 2, 3, 4, 5, 6, 7, 8, 9);
        for (int wrong : new int[] {-1, LOWEST}) {
            bench.ask(-7, Bench.READ, 0, wrong, 1);
        }
        for (int wrong : new int[] {-1, 9, LOWEST, HIGHEST}) {
            bench.ask(-7, Bench.READ, 0, 0, wrong);
        }
        Check.part("READ: at most count bytes from the offset on");
        bench.ask(0, Bench.READ, 0, 0, 0);
        bench.replied();
        bench.ask(8, Bench.READ, 0, 0, 8);
        bench.replied(1, 2, 3, 4, 5, 6, 7, 8);
        bench.ask(8, Bench.READ, 0, 1, 8);
        bench.replied(2, 3, 4, 5, 6, 7, 8, 9);
        bench.ask(7, Bench.READ, 0, 2, 8);
        bench.replied(3, 4, 5, 6, 7, 8, 9);
        bench.ask(1, Bench.READ, 0, 8, 1);
        bench.replied(9);
        Check.part("READ: none at and behind the end");
        for (int offset : new int[] {9, 10, 16, 17, HIGHEST - 8, HIGHEST}) {
            bench.ask(0, Bench.READ, 0, offset, 8);
            bench.replied();
        }
        Check.part("READ: of a file at any offset, wherever the latest one ended");
        bench.ask(1, Bench.READ, 0, 5, 1);
        bench.replied(6);
    }

    private static void readDirectoryOffsets() {
        Check.part("READ: a directory at 0 or where the fid's latest READ of it ended");
        Bench bench = new Bench();
        for (int title = 1; title <= 5; title++) {
            bench.make(0, title * 10, 0);
        }
        bench.reach(0, 0);
        bench.ask(0, Bench.OPEN, 0, 0);
        bench.ask(-7, Bench.READ, 0, 1, 1);
        bench.ask(-7, Bench.READ, 0, -1, 1);
        bench.ask(2, Bench.READ, 0, 0, 2);
        bench.replied(10, 20);
        for (int wrong : new int[] {1, 3, 5, -1, LOWEST, HIGHEST}) {
            bench.ask(-7, Bench.READ, 0, wrong, 1);
        }
        bench.ask(-7, Bench.READ, 0, 2, 9);
        bench.ask(-7, Bench.READ, 0, 2, -1);
        Check.part("READ: one that was refused ended nowhere");
        bench.ask(1, Bench.READ, 0, 2, 1);
        bench.replied(30);
        bench.ask(-7, Bench.READ, 0, 2, 1);
        Check.part("READ: of no titles ends where it began");
        bench.ask(0, Bench.READ, 0, 3, 0);
        bench.ask(2, Bench.READ, 0, 3, 8);
        bench.replied(40, 50);
        Check.part("READ: at the end there is none, again and again");
        bench.ask(0, Bench.READ, 0, 5, 8);
        bench.ask(0, Bench.READ, 0, 5, 1);
        Check.part("READ: from 0 again");
        bench.ask(1, Bench.READ, 0, 0, 1);
        bench.replied(10);
        bench.ask(-7, Bench.READ, 0, 5, 1);
        bench.ask(0, Bench.READ, 0, 0, 0);
        bench.ask(-7, Bench.READ, 0, 1, 1);
    }

    private static void readDirectoryEnds() {
        Check.part("READ: each fid has an end of its own");
        Bench bench = new Bench();
        for (int title = 1; title <= 4; title++) {
            bench.make(0, title * 10, 0);
        }
        bench.reach(0, 0);
        bench.reach(0, 1);
        bench.ask(0, Bench.OPEN, 0, 0);
        bench.ask(0, Bench.OPEN, 1, 0);
        bench.ask(3, Bench.READ, 0, 0, 3);
        bench.ask(-7, Bench.READ, 1, 3, 1);
        bench.ask(2, Bench.READ, 1, 0, 2);
        bench.ask(1, Bench.READ, 0, 3, 1);
        bench.replied(40);
        Check.part("READ: a fid that was clunked has no end any more");
        bench.ask(0, Bench.CLUNK, 0);
        bench.reach(0, 0);
        bench.ask(0, Bench.OPEN, 0, 0);
        bench.ask(-7, Bench.READ, 0, 4, 1);
        Check.part("READ: the titles from the offset-th on are those that are there now");
        bench.make(0, 5, 0);
        bench.ask(2, Bench.READ, 1, 2, 2);
        bench.replied(20, 30);
        bench.reach(0, 2, 10);
        bench.ask(0, Bench.REMOVE, 2);
        bench.ask(0, Bench.READ, 1, 4, 8);
        Check.part("READ: of an empty directory");
        bench.ask(0, Bench.ATTACH, 2, 0, 0);
        bench.ask(0, Bench.CREATE, 2, 99, DIR | ALL, 0);
        bench.ask(0, Bench.READ, 2, 0, 8);
        bench.ask(-7, Bench.READ, 2, 1, 8);
    }

    private static void writeNoBytes() {
        Check.part("WRITE: no bytes change nothing");
        Bench bench = new Bench();
        bench.makeOpen(0, 0, 1, 0666, 1, 2);
        Check.same("snapshot()", bench.snapshot(), 1);
        for (int offset : new int[] {0, 1, 2, 3, 16, 17, HIGHEST}) {
            bench.ask(0, Bench.WRITE, 0, offset);
            bench.replied();
        }
        bench.blocks(2);
        bench.stat(0, 1, 2, 0666, 2, 0, 0, 1);
        Check.part("WRITE: a wrong offset without bytes");
        bench.ask(-7, Bench.WRITE, 0, -1);
        bench.ask(-7, Bench.WRITE, 0, LOWEST);
        Check.part("WRITE: no bytes to a file that is full");
        bench.ask(0, Bench.WSTAT, 0, -1, APPEND | 0666, 16, -1);
        bench.ask(0, Bench.WRITE, 0, 0);
        bench.ask(0, Bench.WRITE, 0, 99);
    }

    private static void writeBehindTheLast() {
        Check.part("WRITE: between the last byte and the offset come zeros");
        Bench bench = new Bench();
        bench.makeOpen(0, 0, 1, 0666, 1, 2, 3, 4, 5);
        bench.ask(0, Bench.WSTAT, 0, -1, -1, 1, -1);
        bench.ask(2, Bench.WRITE, 0, 4, 8, 9);
        bench.ask(6, Bench.READ, 0, 0, 8);
        bench.replied(1, 0, 0, 0, 8, 9);
        Check.part("WRITE: just behind the last byte");
        bench.ask(1, Bench.WRITE, 0, 6, 7);
        bench.ask(3, Bench.READ, 0, 4, 8);
        bench.replied(8, 9, 7);
        Check.part("WRITE: over the last byte");
        bench.ask(3, Bench.WRITE, 0, 6, 1, 2, 3);
        bench.ask(5, Bench.READ, 0, 4, 8);
        bench.replied(8, 9, 1, 2, 3);
        Check.part("WRITE: before the last byte the length stays");
        bench.ask(1, Bench.WRITE, 0, 0, 6);
        bench.ask(8, Bench.READ, 0, 0, 8);
        bench.replied(6, 0, 0, 0, 8, 9, 1, 2);
        bench.stat(0, 1, 10, 0666, 9, 0, 0, 1);
    }

    private static void writeOffsets() {
        Check.part("WRITE: -11 if more than 16 bytes would come of it");
        Bench bench = new Bench();
        bench.makeOpen(0, 0, 1, 0666);
        int[][] tooMany = {
            {16, 1}, {15, 1, 2}, {14, 1, 2, 3}, {17, 1}, {HIGHEST, 1}, {HIGHEST, 1, 2, 3}, {HIGHEST - 2, 1, 2, 3}};
        for (int[] numbers : tooMany) {
            bench.ask(-11, Bench.WRITE, 0, numbers);
        }
        bench.stat(0, 1, 0, 0666, 0, 0, 0, 1);
        bench.ask(1, Bench.WRITE, 0, 15, 1);
        bench.ask(2, Bench.WRITE, 0, 14, 2, 3);
        bench.ask(3, Bench.WRITE, 0, 13, 4, 5, 6);
        bench.ask(8, Bench.READ, 0, 8, 8);
        bench.replied(0, 0, 0, 0, 0, 4, 5, 6);
        Check.part("WRITE: offset 0 or more");
        bench.ask(-7, Bench.WRITE, 0, -1, 1);
        bench.ask(-7, Bench.WRITE, 0, LOWEST, 1);
        Check.part("WRITE: a file of 16 bytes can be written over");
        bench.ask(3, Bench.WRITE, 0, 0, 1, 2, 3);
        bench.stat(0, 1, 4, 0666, 16, 0, 0, 1);
    }

    private static void writeAppends() {
        Check.part("WRITE: with APPEND behind the last byte, whatever the offset");
        Bench bench = new Bench();
        bench.makeOpen(0, 0, 1, APPEND | 0666);
        bench.ask(3, Bench.WRITE, 0, 5, 1, 2, 3);
        bench.ask(3, Bench.WRITE, 0, 0, 4, 5, 6);
        bench.ask(1, Bench.WRITE, 0, HIGHEST, 7);
        bench.ask(1, Bench.WRITE, 0, 16, 8);
        bench.ask(8, Bench.READ, 0, 0, 8);
        bench.replied(1, 2, 3, 4, 5, 6, 7, 8);
        Check.part("WRITE: with APPEND the offset is 0 or more all the same");
        bench.ask(-7, Bench.WRITE, 0, -1, 1);
        Check.part("WRITE: with APPEND -11 if more than 16 bytes would come of it");
        bench.ask(0, Bench.WSTAT, 0, -1, -1, 14, -1);
        bench.ask(-11, Bench.WRITE, 0, 0, 1, 2, 3);
        bench.ask(2, Bench.WRITE, 0, 0, 1, 2);
        bench.ask(-11, Bench.WRITE, 0, 0, 1);
        Check.part("WRITE: what counts is the mode now");
        bench.ask(0, Bench.WSTAT, 0, -1, 0666, -1, -1);
        bench.ask(1, Bench.WRITE, 0, 0, 9);
        bench.ask(1, Bench.READ, 0, 0, 1);
        bench.replied(9);
    }

    private static void clunkOnClose() {
        Check.part("CLUNK: if it was open ON CLOSE, its node is removed");
        Bench bench = new Bench();
        for (int mode : new int[] {0, 1, 2, 64, 65, 66, 80, 81, 82}) {
            bench.reach(0, 0);
            bench.ask(0, Bench.CREATE, 0, 1 + mode, 0, mode);
            int before = bench.nodes();
            bench.ask(0, Bench.CLUNK, 0);
            bench.replied();
            bench.fid(0, 0, 0);
            bench.nodes(mode >= 64 ? before - 1 : before);
        }
        Check.part("CLUNK: of a fid that is not open removes nothing");
        bench.reach(0, 0, 1);
        bench.ask(0, Bench.CLUNK, 0);
        bench.nodes(4);
        Check.part("CLUNK: a fid that was open ON CLOSE once is so no more");
        bench.reach(0, 0);
        bench.ask(0, Bench.CREATE, 0, 90, 0, 64);
        bench.ask(0, Bench.CLUNK, 0);
        bench.reach(0, 0, 1);
        bench.ask(0, Bench.CLUNK, 0);
        bench.nodes(4);
        Check.part("CLUNK: the directory above has another version then");
        bench.ask(0, Bench.ATTACH, 0, 0, 0);
        bench.replied(0, 17, DIR | ALL);
    }

    private static void clunkOnCloseThatDoesNotGo() {
        Check.part("CLUNK: its node is removed if that goes: a right is missing");
        Bench bench = new Bench();
        bench.make(0, 1, DIR | ALL);
        bench.reach(1, 0, 1);
        bench.ask(0, Bench.CREATE, 0, 2, 0666, 64);
        bench.reach(0, 1, 1);
        bench.ask(0, Bench.WSTAT, 1, -1, 0755, -1, -1);
        bench.ask(0, Bench.CLUNK, 0);
        bench.fid(0, 0, 0);
        bench.nodes(3);
        Check.part("CLUNK: its node is removed if that goes: it is gone");
        bench.reach(0, 0, 1, 2);
        bench.ask(0, Bench.OPEN, 0, 64);
        bench.reach(0, 2, 1, 2);
        bench.ask(0, Bench.REMOVE, 2);
        bench.make(0, 2, 0666, 1);
        bench.ask(0, Bench.CLUNK, 0);
        bench.fid(0, 0, 0);
        bench.nodes(3);
        Check.part("CLUNK: its node is removed if that goes: no room");
        bench = Scenes.roomForOneChain();
        bench.ask(1, Bench.WRITE, 2, 0, 9);
        bench.ask(0, Bench.CLUNK, 0);
        bench.fid(0, 0, 0);
        bench.nodes(19);
        bench.ask(0, Bench.CLUNK, 2);
        bench.nodes(18);
    }

    private static void removeFreesInAnyCase() {
        Check.part("REMOVE: the fid is free then in any case");
        Bench bench = new Bench();
        bench.make(0, 1, DIR | 0755);
        bench.make(0, 2, 0666, 1);
        Check.same("snapshot()", bench.snapshot(), 1);
        bench.reach(1, 0, 1, 2);
        bench.ask(-5, Bench.REMOVE, 0);
        bench.fid(0, 0, 0);
        bench.reach(0, 0, 1);
        bench.ask(-12, Bench.REMOVE, 0);
        bench.fid(0, 0, 0);
        bench.reachIn(1, 0, 0, 1, 2);
        bench.ask(-9, Bench.REMOVE, 0);
        bench.fid(0, 0, 0);
        bench.reach(0, 0, 1, 2);
        bench.reach(0, 1, 1, 2);
        bench.ask(0, Bench.OPEN, 1, 66);
        bench.ask(0, Bench.REMOVE, 1);
        bench.replied();
        bench.fid(0, 0, 1);
        bench.ask(-13, Bench.REMOVE, 0);
        bench.fid(0, 0, 0);
        bench.ask(-1, Bench.REMOVE, 0);
        bench = Scenes.full();
        bench.reach(0, 0, 1, 4, 5, 6, 9);
        bench.ask(0, Bench.OPEN, 0, 66);
        bench.ask(-11, Bench.REMOVE, 0);
        bench.fid(0, 0, 0);
        bench.nodes(16);
    }

    private static void removeTheRoot() {
        Check.part("REMOVE: -5 if it is the root");
        Bench bench = new Bench();
        bench.reach(0, 0);
        bench.ask(-5, Bench.REMOVE, 0);
        bench.make(0, 1, 0);
        bench.reach(0, 0);
        bench.ask(-5, Bench.REMOVE, 0);
        bench.nodes(2);
        Check.part("REMOVE: WRITE at the directory above is enough");
        bench.reach(3, 0, 1);
        bench.ask(0, Bench.REMOVE, 0);
        bench.nodes(1);
    }

    private static void removeNotEmpty() {
        Check.part("REMOVE: -12 if the directory is not empty");
        Bench bench = new Bench();
        bench.make(0, 1, DIR | ALL);
        bench.make(0, 2, DIR | ALL, 1);
        bench.reach(0, 0, 1);
        bench.ask(-12, Bench.REMOVE, 0);
        bench.reach(0, 0, 1, 2);
        bench.ask(0, Bench.REMOVE, 0);
        bench.reach(0, 0, 1);
        bench.ask(0, Bench.REMOVE, 0);
        bench.nodes(1);
        Check.part("REMOVE: what a snapshot has in the directory is nothing in it now");
        bench.make(0, 1, DIR | ALL);
        bench.make(0, 2, 0, 1);
        Check.same("snapshot()", bench.snapshot(), 1);
        bench.reach(0, 0, 1, 2);
        bench.ask(0, Bench.REMOVE, 0);
        bench.reach(0, 0, 1);
        bench.ask(0, Bench.REMOVE, 0);
        bench.nodes(1);
        bench.reachIn(1, 0, 0, 1, 2);
    }

    private static void goneNodes() {
        Check.part("a node that is gone: -13, and its fids stay in use");
        Bench bench = new Bench();
        bench.makeOpen(0, 0, 1, 0666, 5);
        bench.reach(0, 1, 1);
        Check.same("snapshot()", bench.snapshot(), 1);
        bench.reachIn(1, 0, 2, 1);
        bench.reach(0, 3, 1);
        bench.ask(0, Bench.REMOVE, 3);
        bench.make(0, 1, 0666);
        bench.ask(-13, Bench.READ, 0, 0, 8);
        bench.ask(-13, Bench.WRITE, 0, 0, 1);
        bench.ask(-13, Bench.STAT, 0);
        bench.ask(-13, Bench.WSTAT, 0, -1, -1, -1, -1);
        bench.ask(-13, Bench.WALK, 1, 4);
        bench.ask(-13, Bench.OPEN, 1, 0);
        bench.ask(-13, Bench.CREATE, 1, 2, 0, 0);
        bench.fid(2, 0, 0);
        bench.fid(1, 0, 1);
        bench.fid(0, 0, 4);
        Check.part("a node that is gone is in the snapshot still");
        bench.stat(2, 1, 1, 0666, 1, 0, 0, 1);
        Check.part("a fid at a node that is gone can be clunked");
        bench.ask(0, Bench.CLUNK, 0);
        bench.ask(-13, Bench.REMOVE, 1);
        bench.nodes(2);
    }

    private static void statEdges() {
        Check.part("STAT: the length of a directory is 0");
        Bench bench = new Bench();
        bench.make(0, 7, DIR | ALL);
        bench.make(0, 8, 0, 7);
        bench.reach(1, 0, 7);
        bench.stat(0, 1, 1, DIR | ALL, 0, 0, 0, 7);
        Check.part("STAT: no right is asked for, open or not");
        bench.reach(1, 1, 7, 8);
        bench.stat(1, 2, 0, 0, 0, 0, 0, 8);
        bench.ask(0, Bench.OPEN, 0, 0);
        bench.stat(0, 1, 1, DIR | ALL, 0, 0, 0, 7);
    }

    private static void wstatTitleNumbers() {
        Check.part("WSTAT: a title is 1 .. 99 or -1");
        Bench bench = new Bench();
        bench.make(0, 50, 0666);
        bench.reach(0, 0, 50);
        for (int wrong : new int[] {0, -2, 100, LOWEST, HIGHEST}) {
            bench.ask(-7, Bench.WSTAT, 0, wrong, -1, -1, -1);
        }
        bench.ask(0, Bench.WSTAT, 0, -1, -1, -1, -1);
        bench.stat(0, 1, 0, 0666, 0, 0, 0, 50);
        bench.ask(0, Bench.WSTAT, 0, 1, -1, -1, -1);
        bench.stat(0, 1, 0, 0666, 0, 0, 0, 1);
        bench.ask(0, Bench.WSTAT, 0, 99, -1, -1, -1);
        bench.stat(0, 1, 0, 0666, 0, 0, 0, 99);
        Check.part("WSTAT: -6 if another node there has the title");
        bench.make(0, 1, DIR | ALL);
        bench.make(0, 2, 0, 1);
        bench.ask(-6, Bench.WSTAT, 0, 1, -1, -1, -1);
        bench.ask(0, Bench.WSTAT, 0, 2, -1, -1, -1);
        Check.part("WSTAT: a title that was left is free");
        bench.make(0, 99, 0);
    }

    private static void wstatModeNumbers() {
        Check.part("WSTAT: a mode is 0 .. 2047 or -1, whether it is a directory stays");
        Bench bench = new Bench();
        bench.make(0, 1, 0666);
        bench.make(0, 2, DIR | ALL);
        bench.reach(0, 0, 1);
        bench.reach(0, 1, 2);
        for (int fid = 0; fid < 2; fid++) {
            for (int wrong : new int[] {-2, 2048, 4095, 4096, LOWEST, HIGHEST}) {
                bench.ask(-7, Bench.WSTAT, fid, -1, wrong, -1, -1);
            }
            for (int mode : new int[] {2047, 0, 1024, 512, 0777}) {
                bench.ask(0, Bench.WSTAT, fid, -1, mode, -1, -1);
                bench.stat(fid, fid + 1, 0, fid == 0 ? mode : DIR | mode, 0, 0, 0, fid + 1);
            }
        }
    }

    private static void wstatLengthNumbers() {
        Check.part("WSTAT: a length is 0 .. 16 or -1");
        Bench bench = new Bench();
        bench.makeOpen(0, 0, 1, 0666, 1, 2, 3);
        for (int wrong : new int[] {-2, 17, LOWEST, HIGHEST}) {
            bench.ask(-7, Bench.WSTAT, 0, -1, -1, wrong, -1);
        }
        Check.part("WSTAT: a greater length is filled with zeros");
        bench.ask(0, Bench.WSTAT, 0, -1, -1, 1, -1);
        bench.ask(0, Bench.WSTAT, 0, -1, -1, 16, -1);
        bench.ask(8, Bench.READ, 0, 0, 8);
        bench.replied(1, 0, 0, 0, 0, 0, 0, 0);
        bench.ask(8, Bench.READ, 0, 8, 8);
        bench.replied(0, 0, 0, 0, 0, 0, 0, 0);
        Check.part("WSTAT: the length it has, and 0");
        bench.ask(0, Bench.WSTAT, 0, -1, -1, 16, -1);
        bench.stat(0, 1, 6, 0666, 16, 0, 0, 1);
        bench.ask(0, Bench.WSTAT, 0, -1, -1, 0, -1);
        bench.stat(0, 1, 7, 0666, 0, 0, 0, 1);
        Check.part("WSTAT: a length with APPEND");
        bench.ask(0, Bench.WSTAT, 0, -1, APPEND | 0666, 4, -1);
        bench.ask(0, Bench.WSTAT, 0, -1, -1, 2, -1);
        bench.stat(0, 1, 9, APPEND | 0666, 2, 0, 0, 1);
    }

    private static void wstatGroupNumbers() {
        Check.part("WSTAT: a group is 0 .. 3 or -1");
        Bench bench = new Bench();
        bench.makeOpen(3, 0, 1, 0666);
        for (int group = 0; group < 3; group++) {
            Check.yes("member", bench.member(3, group));
        }
        for (int wrong : new int[] {-2, 4, 32, LOWEST, HIGHEST}) {
            bench.ask(-7, Bench.WSTAT, 0, -1, -1, -1, wrong);
        }
        for (int group = 3; group >= 0; group--) {
            bench.ask(0, Bench.WSTAT, 0, -1, -1, -1, group);
            bench.stat(0, 1, 0, 0666, 0, 3, group, 1);
        }
    }

    private static void wstatOfTheRootAndDirectories() {
        Check.part("WSTAT: -7 for a title of the root, any but -1");
        Bench bench = new Bench();
        bench.reach(0, 0);
        for (int title : new int[] {0, 1, 99, 100, -2}) {
            bench.ask(-7, Bench.WSTAT, 0, title, -1, -1, -1);
        }
        bench.ask(0, Bench.WSTAT, 0, -1, 0750, -1, 0);
        bench.stat(0, 0, 0, DIR | 0750, 0, 0, 0, 0);
        Check.part("WSTAT: -7 for a length of a directory");
        bench.ask(0, Bench.WSTAT, 0, -1, 0777, -1, -1);
        bench.make(0, 1, DIR | ALL);
        bench.reach(0, 1, 1);
        for (int fid = 0; fid < 2; fid++) {
            for (int length : new int[] {0, 1, 16, 17, -2}) {
                bench.ask(-7, Bench.WSTAT, fid, -1, -1, length, -1);
            }
        }
    }

    private static void wstatRights() {
        Bench bench = new Bench();
        bench.make(0, 1, DIR | ALL);
        bench.make(1, 2, 0644, 1);
        bench.make(1, 3, 0466, 1);
        bench.reach(0, 0, 1);
        bench.ask(0, Bench.WSTAT, 0, -1, 0755, -1, -1);
        bench.reach(1, 1, 1, 2);
        bench.reach(0, 2, 1, 2);
        bench.reach(2, 3, 1, 3);
        Check.part("WSTAT: -5 if WRITE is missing at the directory above, for a title");
        bench.ask(-5, Bench.WSTAT, 1, 9, -1, -1, -1);
        bench.ask(0, Bench.WSTAT, 2, 9, -1, -1, -1);
        bench.ask(-5, Bench.WSTAT, 1, 9, -1, -1, -1);
        Check.part("WSTAT: -5 if the user is not the owner, for a mode or a group");
        bench.ask(-5, Bench.WSTAT, 2, -1, 0644, -1, -1);
        bench.ask(-5, Bench.WSTAT, 2, -1, -1, -1, 0);
        bench.ask(0, Bench.WSTAT, 1, -1, 0644, -1, -1);
        bench.ask(0, Bench.WSTAT, 1, -1, -1, -1, 1);
        Check.part("WSTAT: -5 if WRITE is missing, for a length");
        bench.ask(-5, Bench.WSTAT, 2, -1, -1, 3, -1);
        bench.ask(0, Bench.WSTAT, 1, -1, -1, 3, -1);
        bench.ask(0, Bench.WSTAT, 3, -1, -1, 3, -1);
        Check.part("WSTAT: a right that the mode would bring is missing still");
        bench.ask(0, Bench.WSTAT, 1, -1, 0, -1, -1);
        bench.ask(-5, Bench.WSTAT, 1, -1, 0666, 1, -1);
        Check.part("WSTAT: -5 if the user is no member of the group");
        bench.ask(-5, Bench.WSTAT, 1, -1, -1, -1, 0);
        Check.yes("member(1, 0)", bench.member(1, 0));
        bench.ask(0, Bench.WSTAT, 1, -1, -1, -1, 0);
        bench.ask(-5, Bench.WSTAT, 1, -1, -1, -1, 2);
        Check.part("WSTAT: nothing said needs no right");
        bench.ask(0, Bench.CLUNK, 0);
        bench.reach(3, 0, 1, 9);
        bench.ask(0, Bench.WSTAT, 0, -1, -1, -1, -1);
        bench.replied();
    }

    private static void wstatTitleItHas() {
        Check.part("WSTAT: a title that it has already changes nothing");
        Bench bench = new Bench();
        bench.make(0, 1, 0666);
        Check.same("snapshot()", bench.snapshot(), 1);
        bench.reach(2, 0, 1);
        bench.reach(0, 1);
        bench.ask(0, Bench.WSTAT, 0, 1, -1, -1, -1);
        bench.stat(0, 1, 0, 0666, 0, 0, 0, 1);
        bench.stat(1, 0, 1, DIR | ALL, 0, 0, 0, 0);
        bench.blocks(2);
        Check.part("WSTAT: a title that it has not yet changes the node and the directory");
        bench.ask(0, Bench.WSTAT, 0, 2, -1, -1, -1);
        bench.stat(1, 0, 2, DIR | ALL, 0, 0, 0, 0);
        bench.blocks(4);
        Check.part("WSTAT: a title that it has already with a length that is another");
        Check.same("sync(-1)", bench.sync(-1), 3);
        bench.ask(0, Bench.WSTAT, 0, 2, -1, 5, -1);
        bench.stat(0, 1, 1, 0666, 5, 0, 0, 2);
        bench.stat(1, 0, 2, DIR | ALL, 0, 0, 0, 0);
        Check.part("WSTAT: a title that it has already needs no room");
        bench = Scenes.full();
        bench.reach(0, 0, 1, 4, 5, 6, 9);
        bench.ask(0, Bench.WSTAT, 0, 9, -1, -1, -1);
        bench.ask(-11, Bench.WSTAT, 0, 9, 0666, -1, -1);
    }

    private static void wstatAllBecomesSo() {
        Check.part("WSTAT: all becomes so");
        Bench bench = new Bench();
        bench.makeOpen(1, 0, 1, 0600, 7);
        bench.ask(0, Bench.WSTAT, 0, 9, APPEND | ALONE | 0640, 3, 1);
        bench.replied();
        bench.stat(0, 1, 2, APPEND | ALONE | 0640, 3, 1, 1, 9);
        bench.ask(3, Bench.READ, 0, 0, 8);
        bench.replied(7, 0, 0);
        bench.reach(0, 1);
        bench.ask(-3, Bench.WALK, 1, 2, 1);
        bench.ask(1, Bench.WALK, 1, 2, 9);
        Check.part("WSTAT: nothing becomes so if one can't");
        bench.ask(-7, Bench.WSTAT, 0, 2, 0600, 0, 4);
        bench.ask(-5, Bench.WSTAT, 0, 2, 0600, 0, 3);
        bench.make(0, 5, 0);
        bench.ask(-6, Bench.WSTAT, 0, 5, 0600, 0, 1);
        bench.stat(0, 1, 2, APPEND | ALONE | 0640, 3, 1, 1, 9);
    }
}
