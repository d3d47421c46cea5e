/** The ten kinds of request: every answer, and where two hold at once, the one that is named first. */
public final class KindsTest {
    private static final int DIR = Bench.DIR;
    private static final int ALL = Bench.ALL;
    private static final int APPEND = Bench.APPEND;
    private static final int ALONE = Bench.ALONE;
    private static final int[] NO_OPEN_MODES = {
        -1, 3, 4, 8, 19, 32, 67, 83, 128, 256, Integer.MIN_VALUE, Integer.MIN_VALUE + 1, Integer.MAX_VALUE};
    private static final int[] OPEN_MODES = {0, 1, 2, 16, 17, 18, 64, 65, 66, 80, 81, 82};

    public static void main(String[] args) {
        howManyNumbers();
        rights();
        attach();
        walk();
        walkOrder();
        walkRights();
        openAnswers();
        openModes();
        openRights();
        openAlone();
        openTruncates();
        createAnswers();
        createLimits();
        createRights();
        readFile();
        readDirectory();
        write();
        writeAppends();
        clunk();
        remove();
        removeOrder();
        stat();
        wstatNumbers();
        wstatRights();
        wstatTitles();
        wstatLengths();
        wstatModesAndGroups();
        Check.end();
    }

    private static void howManyNumbers() {
        Check.part("how many numbers");
        int[] fewest = {2, 1, 1, 3, 2, 1, 0, 0, 0, 4};
        int[] most = {2, 4, 1, 3, 2, 4, 0, 0, 0, 4};
        int[][] rows = {{}, {0}, {0, 0}, {0, 0, 0}, {0, 0, 0, 0}};
        for (int kind = 0; kind < 10; kind++) {
            Bench bench = new Bench();
            for (int count = 0; count <= 4; count++) {
                if (count < fewest[kind] || count > most[kind]) {
                    bench.ask(-7, kind, 0, rows[count]);
                } else if (kind != Bench.ATTACH) {
                    bench.ask(-1, kind, 0, rows[count]);
                }
            }
        }
        Check.part("a wrong count leaves the fid");
        Bench bench = new Bench();
        bench.reach(0, 0);
        bench.ask(-7, Bench.CLUNK, 0, 0);
        bench.ask(-7, Bench.REMOVE, 0, 0);
        bench.ask(-7, Bench.ATTACH, 0, 0);
        bench.fid(1, 0, 0);
    }

    /** Each right for owner, group and others alone, tried by a user who is each of these. */
    private static void rights() {
        Check.part("rights");
        int[] users = {1, 0, 2};
        int[] shifts = {6, 3, 0};
        for (int who = 0; who < 3; who++) {
            for (int right = 1; right <= 4; right *= 2) {
                Bench bench = new Bench();
                bench.make(1, 1, right << shifts[who]);
                for (int user = 0; user < users.length; user++) {
                    bench.reach(users[user], 0, 1);
                    boolean has = who == 2 || who == user;
                    bench.ask(has && right == 4 ? 0 : -5, Bench.OPEN, 0, 0);
                    bench.ask(0, Bench.CLUNK, 0);
                    bench.reach(users[user], 0, 1);
                    bench.ask(has && right == 2 ? 0 : -5, Bench.OPEN, 0, 1);
                    bench.ask(0, Bench.CLUNK, 0);
                }
            }
        }
    }

    private static void attach() {
        Check.part("ATTACH");
        Bench bench = new Bench();
        for (int wrong : new int[] {-1, 4, Integer.MIN_VALUE, Integer.MAX_VALUE}) {
            bench.ask(-7, Bench.ATTACH, 0, wrong, 0);
            bench.ask(-7, Bench.ATTACH, 0, 0, wrong);
        }
        bench.ask(-7, Bench.ATTACH, 0, 0, 5);
        bench.fid(0, 0, 0);
        bench.make(0, 4, 0);
        Check.same("snapshot", bench.snapshot(), 1);
        bench.make(0, 5, 0);
        bench.ask(0, Bench.ATTACH, 0, 3, 0);
        bench.replied(0, 2, DIR | ALL);
        bench.ask(0, Bench.ATTACH, 1, 0, 1);
        bench.replied(0, 1, DIR | ALL);
        bench.ask(-7, Bench.ATTACH, 2, 0, 2);
        bench.ask(-2, Bench.ATTACH, 0, 0, 0);
        bench.ask(-2, Bench.ATTACH, 0, 9, 9);
        bench.askFrom(1, 0, Bench.ATTACH, 0, 0, 0);
    }

    private static void walk() {
        Check.part("WALK");
        Bench bench = new Bench();
        bench.make(0, 1, DIR | ALL);
        bench.make(0, 2, DIR | ALL, 1);
        bench.make(0, 3, 0666, 1, 2);
        bench.reach(0, 0);
        bench.ask(0, Bench.WALK, 0, 1);
        bench.replied(0, 1, DIR | ALL);
        bench.fid(1, 0, 1);
        bench.ask(3, Bench.WALK, 0, 2, 1, 2, 3);
        bench.replied(3, 0, 0666);
        bench.fid(1, 0, 2);
        bench.ask(-4, Bench.WALK, 2, 3, 0);
        bench.ask(3, Bench.WALK, 0, 3, 0, 0, 1);
        bench.replied(1, 1, DIR | ALL);
        bench.ask(2, Bench.WALK, 3, 3, 2, 0);
        bench.replied(1, 1, DIR | ALL);
        bench.ask(1, Bench.WALK, 3, 3, 0);
        bench.replied(0, 1, DIR | ALL);
        Check.part("WALK, not all the way");
        bench.ask(2, Bench.WALK, 0, 4, 1, 2, 9);
        bench.replied(2, 1, DIR | ALL);
        bench.fid(0, 0, 4);
        bench.ask(1, Bench.WALK, 0, 4, 1, 3);
        bench.replied(1, 1, DIR | ALL);
        bench.ask(1, Bench.WALK, 3, 3, 1, 9);
        bench.ask(0, Bench.WALK, 3, 4);
        bench.replied(0, 1, DIR | ALL);
        bench.ask(0, Bench.CLUNK, 4);
        bench.ask(1, Bench.WALK, 3, 3, 1);
        bench.ask(2, Bench.WALK, 3, 4, 2, 3, 0);
        bench.replied(3, 0, 0666);
        bench.fid(0, 0, 4);
    }

    private static void walkOrder() {
        Check.part("WALK, the order");
        Bench bench = new Bench();
        for (int wrong : new int[] {-1, 6, Integer.MIN_VALUE, Integer.MAX_VALUE}) {
            bench.ask(-7, Bench.WALK, 0, wrong);
        }
        bench.ask(-1, Bench.WALK, 0, 0);
        bench.ask(-1, Bench.WALK, 0, 1, 5);
        bench.make(0, 1, DIR | ALL);
        bench.reach(0, 0, 1);
        bench.reach(0, 1, 1);
        bench.ask(-2, Bench.WALK, 0, 1);
        for (int nothing : new int[] {-1, 9, 100, Integer.MIN_VALUE, Integer.MAX_VALUE}) {
            bench.ask(-3, Bench.WALK, 0, 0, nothing);
        }
        bench.reach(0, 2, 1);
        bench.ask(0, Bench.OPEN, 2, 0);
        bench.ask(-8, Bench.WALK, 2, 2);
        bench.ask(-8, Bench.WALK, 2, 0);
        bench.ask(-7, Bench.WALK, 2, 6);
        bench.ask(0, Bench.REMOVE, 1);
        bench.ask(0, Bench.ATTACH, 1, 0, 0);
        bench.ask(-2, Bench.WALK, 0, 1);
        bench.ask(-13, Bench.WALK, 0, 0);
        bench.ask(-13, Bench.WALK, 0, 3, 0);
        bench.fid(0, 0, 3);
        bench.fid(1, 0, 0);
    }

    private static void walkRights() {
        Check.part("WALK, rights");
        Bench bench = new Bench();
        bench.make(1, 1, DIR | 0766);
        bench.make(1, 2, DIR | ALL, 1);
        bench.reach(2, 0, 1);
        bench.ask(-5, Bench.WALK, 0, 1, 2);
        bench.ask(-5, Bench.WALK, 0, 1, 9);
        bench.ask(-5, Bench.WALK, 0, 1, 0);
        bench.ask(0, Bench.WALK, 0, 1);
        bench.ask(0, Bench.ATTACH, 2, 2, 0);
        bench.ask(1, Bench.WALK, 2, 3, 1, 2);
        bench.replied(1, 1, DIR | 0766);
        bench.fid(0, 0, 3);
        bench.reach(1, 3, 1, 2);
        Check.part("WALK, the new fid is for the same user");
        bench.ask(0, Bench.WALK, 3, 4);
        bench.ask(0, Bench.WSTAT, 4, -1, 0700, -1, -1);
        bench.ask(-5, Bench.WSTAT, 1, -1, 0700, -1, -1);
    }

    private static void openAnswers() {
        Check.part("OPEN");
        Bench bench = new Bench();
        bench.make(0, 1, 0666);
        bench.make(0, 2, DIR | ALL);
        Check.same("snapshot", bench.snapshot(), 1);
        bench.ask(-1, Bench.OPEN, 0, 99);
        bench.reach(0, 0, 1);
        for (int wrong : NO_OPEN_MODES) {
            bench.ask(-7, Bench.OPEN, 0, wrong);
        }
        bench.reach(0, 1, 2);
        bench.ask(-7, Bench.OPEN, 1, 3);
        bench.ask(-4, Bench.OPEN, 1, 1);
        bench.ask(-4, Bench.OPEN, 1, 64);
        bench.reachIn(1, 0, 2, 2);
        bench.ask(-4, Bench.OPEN, 2, 16);
        bench.reachIn(1, 0, 3, 1);
        bench.ask(-7, Bench.OPEN, 3, 3);
        for (int mode : OPEN_MODES) {
            if (mode != 0) {
                bench.ask(-9, Bench.OPEN, 3, mode);
            }
        }
        bench.ask(0, Bench.OPEN, 3, 0);
        bench.replied(1, 0);
        bench.ask(0, Bench.OPEN, 1, 0);
        bench.replied(2, 0);
        bench.ask(0, Bench.OPEN, 0, 2);
        bench.ask(-8, Bench.OPEN, 0, 2);
        bench.ask(-8, Bench.OPEN, 0, 3);
        bench.ask(0, Bench.REMOVE, 1);
        bench.reach(0, 1, 1);
        bench.reach(0, 4, 1);
        bench.ask(0, Bench.REMOVE, 4);
        bench.ask(-13, Bench.OPEN, 1, 99);
        bench.ask(-8, Bench.OPEN, 0, 0);
    }

    private static void openModes() {
        Check.part("open modes");
        for (int mode : OPEN_MODES) {
            Bench bench = new Bench();
            bench.make(0, 1, 0600);
            bench.reach(0, 0, 1);
            bench.ask(0, Bench.OPEN, 0, mode);
            bench.replied(1, (mode & 16) != 0 ? 1 : 0);
            bench.fid(2, 0, 0);
            bench.ask((mode & 3) == 0 ? -8 : 1, Bench.WRITE, 0, 0, 7);
            bench.ask((mode & 3) == 1 ? -8 : (mode & 3) == 0 ? 0 : 1, Bench.READ, 0, 0, 8);
            bench.ask(0, Bench.CLUNK, 0);
            bench.nodes((mode & 64) != 0 ? 1 : 2);
        }
    }

    private static void openRights() {
        Check.part("OPEN, rights");
        Bench bench = new Bench();
        bench.make(0, 1, DIR | ALL);
        bench.make(0, 2, 0604, 1);
        bench.make(0, 3, 0602, 1);
        bench.make(0, 4, 0666, 1);
        bench.reach(0, 2, 1);
        bench.ask(0, Bench.WSTAT, 2, -1, 0755, -1, -1);
        int[] readable = {0};
        int[] writable = {1, 17};
        int[] both = {0, 1, 2, 16, 17, 18};
        openWith(bench, 2, readable);
        openWith(bench, 3, writable);
        openWith(bench, 4, both);
        bench.make(0, 5, DIR | 0711);
        bench.reach(1, 0, 5);
        bench.ask(-5, Bench.OPEN, 0, 0);
        bench.reach(0, 1, 5);
        bench.ask(0, Bench.OPEN, 1, 0);
    }

    /** User 1 opens a node of the directory 1, which others may not write. */
    private static void openWith(Bench bench, int title, int[] allowed) {
        bench.reach(1, 0, 1, title);
        for (int mode : OPEN_MODES) {
            boolean isAllowed = false;
            for (int one : allowed) {
                isAllowed |= one == mode;
            }
            if (isAllowed) {
                bench.ask(0, Bench.WALK, 0, 1);
                bench.ask(0, Bench.OPEN, 1, mode);
                bench.ask(0, Bench.CLUNK, 1);
            } else {
                bench.ask(-5, Bench.OPEN, 0, mode);
            }
        }
        bench.ask(0, Bench.CLUNK, 0);
    }

    private static void openAlone() {
        Check.part("OPEN, alone");
        Bench bench = new Bench();
        bench.make(0, 1, ALONE | 0644);
        Check.same("snapshot", bench.snapshot(), 1);
        bench.reach(0, 0, 1);
        bench.reach(0, 1, 1);
        bench.askFrom(1, 0, Bench.ATTACH, 0, 1, 0);
        bench.askFrom(1, 1, Bench.WALK, 0, 0, 1);
        bench.ask(0, Bench.OPEN, 0, 0);
        bench.ask(-10, Bench.OPEN, 1, 0);
        bench.askFrom(1, -10, Bench.OPEN, 0, 0);
        bench.askFrom(1, -5, Bench.OPEN, 0, 1);
        bench.fid(1, 0, 1);
        bench.reachIn(1, 0, 2, 1);
        bench.ask(0, Bench.OPEN, 2, 0);
        bench.reachIn(1, 0, 3, 1);
        bench.ask(-10, Bench.OPEN, 3, 0);
        bench.ask(0, Bench.CLUNK, 0);
        bench.askFrom(1, 0, Bench.OPEN, 0, 0);
        bench.ask(-10, Bench.OPEN, 1, 18);
        bench.ask(0, Bench.STAT, 1);
        bench.replied(1, 0, ALONE | 0644, 0, 0, 0, 1);
        bench.ask(0, Bench.WSTAT, 1, -1, 0644, -1, -1);
        bench.ask(0, Bench.OPEN, 1, 2);
        Check.part("CREATE, alone");
        bench.ask(0, Bench.ATTACH, 0, 0, 0);
        bench.ask(0, Bench.CREATE, 0, 2, DIR | ALONE | ALL, 0);
        bench.reach(0, 4, 2);
        bench.ask(-10, Bench.OPEN, 4, 0);
        bench.ask(0, Bench.CLUNK, 0);
        bench.ask(0, Bench.OPEN, 4, 0);
    }

    private static void openTruncates() {
        Check.part("OPEN, truncate");
        Bench bench = new Bench();
        bench.makeOpen(0, 0, 1, 0644, 1, 2, 3);
        bench.reach(0, 1, 1);
        bench.ask(0, Bench.OPEN, 1, 16);
        bench.replied(1, 4);
        bench.ask(0, Bench.STAT, 0);
        bench.replied(1, 4, 0644, 0, 0, 0, 1);
        bench.reach(0, 2, 1);
        bench.ask(0, Bench.OPEN, 2, 17);
        bench.replied(1, 5);
        bench.ask(1, Bench.WRITE, 2, 3, 9);
        bench.ask(4, Bench.READ, 1, 0, 8);
        bench.replied(0, 0, 0, 9);
        Check.part("OPEN, truncate with append");
        bench.makeOpen(0, 3, 2, APPEND | 0644, 1, 2);
        bench.reach(0, 4, 2);
        bench.ask(0, Bench.OPEN, 4, 18);
        bench.replied(2, 2);
        bench.ask(2, Bench.READ, 4, 0, 8);
        bench.replied(1, 2);
        bench.reach(1, 5, 2);
        bench.ask(-5, Bench.OPEN, 5, 16);
    }

    private static void createAnswers() {
        Check.part("CREATE");
        Bench bench = new Bench();
        bench.ask(-1, Bench.CREATE, 0, 0, 0, 0);
        bench.make(0, 1, 0666);
        bench.make(0, 2, DIR | 0755);
        Check.same("snapshot", bench.snapshot(), 1);
        bench.reach(0, 0, 1);
        bench.ask(-4, Bench.CREATE, 0, 0, -1, 3);
        bench.reachIn(1, 0, 1, 1);
        bench.ask(-4, Bench.CREATE, 1, 3, 0, 0);
        bench.reachIn(1, 0, 2);
        bench.ask(-9, Bench.CREATE, 2, 0, -1, 3);
        bench.reach(0, 3);
        for (int wrong : new int[] {-1, 0, 100, Integer.MIN_VALUE, Integer.MAX_VALUE}) {
            bench.ask(-7, Bench.CREATE, 3, wrong, 0, 0);
        }
        for (int wrong : new int[] {-1, 4096, Integer.MIN_VALUE, Integer.MAX_VALUE}) {
            bench.ask(-7, Bench.CREATE, 3, 3, wrong, 0);
        }
        for (int wrong : NO_OPEN_MODES) {
            bench.ask(-7, Bench.CREATE, 3, 3, 0, wrong);
        }
        for (int mode : OPEN_MODES) {
            if (mode != 0) {
                bench.ask(-7, Bench.CREATE, 3, 3, DIR, mode);
            }
        }
        bench.ask(-6, Bench.CREATE, 3, 1, 0, 0);
        bench.ask(0, Bench.WALK, 3, 4);
        bench.ask(0, Bench.OPEN, 4, 0);
        bench.ask(-8, Bench.CREATE, 4, 0, 0, 0);
        createOrder(bench);
    }

    private static void createOrder(Bench bench) {
        Check.part("CREATE, the order");
        bench.make(0, 4, 0, 2);
        bench.ask(0, Bench.CLUNK, 0);
        bench.reach(1, 0, 2);
        bench.ask(-5, Bench.CREATE, 0, 4, 0, 0);
        bench.ask(-7, Bench.CREATE, 0, 100, 0, 0);
        bench.ask(0, Bench.ATTACH, 5, 0, 0);
        bench.ask(0, Bench.CREATE, 5, 99, DIR, 0);
        bench.ask(0, Bench.CLUNK, 4);
        bench.reach(0, 4, 99);
        bench.ask(0, Bench.REMOVE, 5);
        bench.ask(-13, Bench.CREATE, 4, 0, 0, 0);
        bench.ask(0, Bench.CREATE, 3, 3, 4095 - DIR, 82);
        bench.replied(5, 0);
        bench.fid(2, 0, 3);
        bench.ask(1, Bench.WRITE, 3, 9, 1);
        bench.ask(0, Bench.STAT, 3);
        bench.replied(5, 1, 4095 - DIR, 1, 0, 0, 3);
    }

    private static void createLimits() {
        Check.part("CREATE, eight nodes in a directory");
        Bench bench = new Bench();
        bench.make(0, 50, DIR | ALL);
        for (int title = 8; title >= 1; title--) {
            bench.make(0, title, 0, 50);
        }
        bench.reach(0, 0, 50);
        bench.ask(-11, Bench.CREATE, 0, 9, 0, 0);
        bench.ask(-6, Bench.CREATE, 0, 8, 0, 0);
        bench.reach(0, 1, 50, 4);
        bench.ask(0, Bench.REMOVE, 1);
        bench.ask(0, Bench.CREATE, 0, 9, 0, 0);
        Check.part("CREATE, six directories above");
        bench = new Bench();
        bench.make(0, 1, DIR | ALL);
        bench.make(0, 2, DIR | ALL, 1);
        bench.make(0, 3, DIR | ALL, 1, 2);
        bench.make(0, 4, DIR | ALL, 1, 2, 3);
        bench.make(0, 5, DIR | ALL, 1, 2, 3, 4);
        bench.make(0, 6, DIR | ALL, 1, 2, 3, 4, 5);
        bench.reach(0, 0, 1, 2, 3, 4, 5, 6);
        bench.ask(-11, Bench.CREATE, 0, 7, 0, 0);
        bench.ask(-11, Bench.CREATE, 0, 7, DIR, 0);
        bench.ask(1, Bench.WALK, 0, 0, 0);
        bench.ask(0, Bench.CREATE, 0, 7, 0, 0);
        Check.part("CREATE, twenty nodes");
        bench = new Bench();
        for (int directory = 1; directory <= 3; directory++) {
            bench.make(0, directory, DIR | ALL);
        }
        for (int i = 0; i < 16; i++) {
            bench.make(0, 10 + i, 0, 1 + i % 3);
        }
        bench.nodes(20);
        bench.reach(0, 0, 3);
        bench.ask(-11, Bench.CREATE, 0, 99, 0, 0);
        bench.reach(0, 1, 1, 10);
        bench.ask(0, Bench.REMOVE, 1);
        bench.nodes(19);
        bench.ask(0, Bench.CREATE, 0, 99, 0, 0);
        bench.nodes(20);
    }

    private static void createRights() {
        Check.part("CREATE, rights of the new node");
        Bench bench = new Bench();
        bench.make(0, 1, DIR | 0352);
        Check.yes("member(2, 0)", bench.member(2, 0));
        bench.make(0, 2, ALONE | APPEND | ALL, 1);
        bench.reach(0, 0, 1, 2);
        bench.ask(0, Bench.STAT, 0);
        bench.replied(2, 0, ALONE | APPEND | 0353, 0, 0, 0, 2);
        bench.make(0, 3, DIR | ALONE | APPEND | ALL, 1);
        bench.reach(0, 1, 1, 3);
        bench.ask(0, Bench.STAT, 1);
        bench.replied(3, 0, DIR | ALONE | APPEND | 0352, 0, 0, 0, 3);
        Check.part("CREATE, the owner and the group");
        bench.reach(1, 2);
        bench.ask(0, Bench.CREATE, 2, 5, DIR | ALL, 0);
        bench.ask(0, Bench.STAT, 2);
        bench.replied(4, 0, DIR | ALL, 0, 1, 0, 5);
        bench.ask(-5, Bench.WSTAT, 2, -1, -1, -1, 3);
        bench.ask(0, Bench.WSTAT, 2, -1, -1, -1, 1);
        bench.make(3, 6, 0, 5);
        bench.reach(3, 3, 5, 6);
        bench.ask(0, Bench.STAT, 3);
        bench.replied(5, 0, 0, 0, 3, 1, 6);
        Check.part("CREATE, open whatever its rights");
        bench.reach(0, 4);
        bench.ask(0, Bench.CREATE, 4, 7, 0, 2);
        bench.ask(2, Bench.WRITE, 4, 0, 1, 2);
        bench.ask(2, Bench.READ, 4, 0, 8);
        bench.replied(1, 2);
    }

    private static void readFile() {
        Check.part("READ of a file");
        Bench bench = new Bench();
        bench.ask(-1, Bench.READ, 0, -1, -1);
        bench.makeOpen(0, 0, 1, 0666, 10, 20, 30, 40, 50, 60, 70, 80, 255, 0);
        bench.ask(8, Bench.READ, 0, 0, 8);
        bench.replied(10, 20, 30, 40, 50, 60, 70, 80);
        bench.ask(2, Bench.READ, 0, 8, 8);
        bench.replied(255, 0);
        bench.ask(3, Bench.READ, 0, 5, 3);
        bench.replied(60, 70, 80);
        bench.ask(0, Bench.READ, 0, 5, 0);
        bench.replied();
        bench.ask(0, Bench.READ, 0, 10, 8);
        bench.ask(0, Bench.READ, 0, Integer.MAX_VALUE, 8);
        for (int wrong : new int[] {-1, Integer.MIN_VALUE}) {
            bench.ask(-7, Bench.READ, 0, wrong, 1);
            bench.ask(-7, Bench.READ, 0, 0, wrong);
        }
        bench.ask(-7, Bench.READ, 0, 0, 9);
        bench.ask(-7, Bench.READ, 0, 0, Integer.MAX_VALUE);
        bench.reach(0, 1, 1);
        bench.ask(-8, Bench.READ, 1, -1, 0);
        bench.ask(0, Bench.OPEN, 1, 1);
        bench.ask(-8, Bench.READ, 1, 0, 1);
        bench.ask(0, Bench.REMOVE, 1);
        bench.ask(-13, Bench.READ, 0, -1, 1);
    }

    private static void readDirectory() {
        Check.part("READ of a directory");
        Bench bench = new Bench();
        for (int title = 7; title >= 1; title -= 2) {
            bench.make(0, title, 0);
        }
        Check.same("snapshot", bench.snapshot(), 1);
        bench.reach(0, 0);
        bench.ask(0, Bench.OPEN, 0, 0);
        bench.ask(-7, Bench.READ, 0, 1, 1);
        bench.ask(2, Bench.READ, 0, 0, 2);
        bench.replied(1, 3);
        bench.ask(-7, Bench.READ, 0, 1, 1);
        bench.ask(-7, Bench.READ, 0, 3, 1);
        bench.ask(-7, Bench.READ, 0, 2, 9);
        bench.ask(0, Bench.READ, 0, 2, 0);
        bench.ask(2, Bench.READ, 0, 2, 8);
        bench.replied(5, 7);
        bench.ask(0, Bench.READ, 0, 4, 8);
        bench.ask(0, Bench.READ, 0, 4, 8);
        bench.ask(-7, Bench.READ, 0, 2, 8);
        bench.ask(1, Bench.READ, 0, 0, 1);
        bench.replied(1);
        bench.ask(-7, Bench.READ, 0, 4, 1);
        readChangingDirectory(bench);
    }

    private static void readChangingDirectory(Bench bench) {
        Check.part("READ of a directory that changes");
        bench.make(0, 4, 0);
        bench.ask(4, Bench.READ, 0, 1, 8);
        bench.replied(3, 4, 5, 7);
        for (int title : new int[] {1, 3, 4}) {
            bench.reach(0, 1, title);
            bench.ask(0, Bench.REMOVE, 1);
        }
        bench.ask(0, Bench.READ, 0, 5, 8);
        bench.ask(0, Bench.READ, 0, 5, 8);
        bench.ask(2, Bench.READ, 0, 0, 8);
        bench.replied(5, 7);
        Check.part("READ of a directory in a snapshot");
        bench.reachIn(1, 0, 2);
        bench.ask(0, Bench.OPEN, 2, 0);
        bench.ask(4, Bench.READ, 2, 0, 8);
        bench.replied(1, 3, 5, 7);
        Check.part("READ of a directory, a new fid");
        bench.ask(0, Bench.CLUNK, 2);
        bench.reachIn(1, 0, 2);
        bench.ask(0, Bench.OPEN, 2, 0);
        bench.ask(-7, Bench.READ, 2, 4, 8);
    }

    private static void write() {
        Check.part("WRITE");
        Bench bench = new Bench();
        bench.ask(-1, Bench.WRITE, 0, -1);
        bench.makeOpen(0, 0, 1, 0666);
        bench.ask(3, Bench.WRITE, 0, 2, 0, 255, 7);
        bench.replied();
        bench.ask(5, Bench.READ, 0, 0, 8);
        bench.replied(0, 0, 0, 255, 7);
        bench.ask(2, Bench.WRITE, 0, 0, 1, 2);
        bench.ask(0, Bench.WRITE, 0, 9);
        bench.ask(0, Bench.WRITE, 0, Integer.MAX_VALUE);
        bench.ask(0, Bench.STAT, 0);
        bench.replied(1, 2, 0666, 5, 0, 0, 1);
        bench.ask(-11, Bench.WRITE, 0, 14, 1, 2, 3);
        bench.ask(-11, Bench.WRITE, 0, 16, 1);
        bench.ask(-11, Bench.WRITE, 0, Integer.MAX_VALUE, 1, 2, 3);
        bench.ask(-11, Bench.WRITE, 0, Integer.MAX_VALUE - 1, 1);
        bench.ask(1, Bench.WRITE, 0, 15, 9);
        bench.ask(8, Bench.READ, 0, 8, 8);
        bench.replied(0, 0, 0, 0, 0, 0, 0, 9);
        for (int wrong : new int[] {-1, 256, Integer.MIN_VALUE, Integer.MAX_VALUE}) {
            bench.ask(-7, Bench.WRITE, 0, 0, wrong);
            bench.ask(-7, Bench.WRITE, 0, 16, 0, wrong);
            bench.ask(-7, Bench.WRITE, 0, 0, 0, 0, wrong);
        }
        bench.ask(-7, Bench.WRITE, 0, -1, 0);
        bench.ask(-7, Bench.WRITE, 0, Integer.MIN_VALUE);
        bench.reach(0, 1, 1);
        bench.ask(-8, Bench.WRITE, 1, -1);
        bench.ask(0, Bench.OPEN, 1, 0);
        bench.ask(-8, Bench.WRITE, 1, 0, 1);
        bench.ask(0, Bench.REMOVE, 1);
        bench.ask(-13, Bench.WRITE, 0, -1);
    }

    private static void writeAppends() {
        Check.part("WRITE, append");
        Bench bench = new Bench();
        bench.makeOpen(0, 0, 1, APPEND | 0666);
        bench.ask(2, Bench.WRITE, 0, 9, 1, 2);
        bench.ask(2, Bench.WRITE, 0, 0, 3, 4);
        bench.ask(1, Bench.WRITE, 0, Integer.MAX_VALUE, 5);
        bench.ask(5, Bench.READ, 0, 0, 8);
        bench.replied(1, 2, 3, 4, 5);
        bench.ask(-7, Bench.WRITE, 0, -1, 5);
        for (int i = 0; i < 3; i++) {
            bench.ask(3, Bench.WRITE, 0, 0, 6, 7, 8);
        }
        bench.ask(-11, Bench.WRITE, 0, 0, 1, 2, 3);
        bench.ask(2, Bench.WRITE, 0, 0, 1, 2);
        bench.ask(-11, Bench.WRITE, 0, 0, 1);
        bench.ask(0, Bench.WRITE, 0, 0);
        bench.ask(0, Bench.WSTAT, 0, -1, 0666, -1, -1);
        bench.ask(1, Bench.WRITE, 0, 0, 99);
        bench.ask(2, Bench.READ, 0, 0, 2);
        bench.replied(99, 2);
        Check.part("all nine rights are neither append nor alone");
        bench.makeOpen(0, 1, 2, ALL, 1, 2);
        bench.reach(0, 2, 2);
        bench.ask(0, Bench.OPEN, 2, 2);
        bench.ask(1, Bench.WRITE, 2, 0, 3);
        bench.ask(2, Bench.READ, 1, 0, 8);
        bench.replied(3, 2);
    }

    private static void clunk() {
        Check.part("CLUNK");
        Bench bench = new Bench();
        bench.ask(-1, Bench.CLUNK, 0);
        bench.make(0, 1, DIR | 0777);
        bench.make(0, 2, 0666, 1);
        bench.reach(0, 0, 1, 2);
        bench.ask(0, Bench.CLUNK, 0);
        bench.replied();
        bench.fid(0, 0, 0);
        bench.nodes(3);
        Check.part("CLUNK, on close without the right any more");
        bench.reach(1, 0, 1, 2);
        bench.ask(0, Bench.OPEN, 0, 64);
        bench.reach(0, 1, 1);
        bench.ask(0, Bench.WSTAT, 1, -1, 0755, -1, -1);
        bench.ask(0, Bench.CLUNK, 0);
        bench.fid(0, 0, 0);
        bench.nodes(3);
        Check.part("CLUNK, on close");
        bench.reach(0, 0, 1, 2);
        bench.ask(0, Bench.OPEN, 0, 64);
        bench.reach(0, 2, 1, 2);
        bench.ask(0, Bench.OPEN, 2, 64);
        bench.ask(0, Bench.STAT, 1);
        bench.replied(1, 1, DIR | 0755, 0, 0, 0, 1);
        bench.ask(0, Bench.CLUNK, 0);
        bench.nodes(2);
        bench.ask(0, Bench.STAT, 1);
        bench.replied(1, 2, DIR | 0755, 0, 0, 0, 1);
        bench.ask(-13, Bench.STAT, 2);
        bench.ask(0, Bench.CLUNK, 2);
        bench.fid(0, 0, 2);
        bench.nodes(2);
    }

    private static void remove() {
        Check.part("REMOVE");
        Bench bench = new Bench();
        bench.ask(-1, Bench.REMOVE, 0);
        bench.make(0, 1, DIR | 0755);
        bench.make(0, 2, 0600, 1);
        bench.reach(1, 0, 1, 2);
        bench.ask(-5, Bench.REMOVE, 0);
        bench.fid(0, 0, 0);
        bench.reach(1, 0, 1);
        bench.ask(-12, Bench.REMOVE, 0);
        bench.fid(0, 0, 0);
        bench.reach(0, 0);
        bench.ask(-5, Bench.REMOVE, 0);
        bench.fid(0, 0, 0);
        bench.nodes(3);
        bench.reach(0, 0, 1, 2);
        bench.reach(0, 1, 1, 2);
        bench.ask(0, Bench.OPEN, 1, 66);
        bench.ask(0, Bench.REMOVE, 1);
        bench.replied();
        bench.fid(0, 0, 1);
        bench.nodes(2);
        bench.ask(-13, Bench.REMOVE, 0);
        bench.fid(0, 0, 0);
        bench.reach(1, 0, 1);
        bench.ask(0, Bench.REMOVE, 0);
        bench.nodes(1);
        bench.ask(0, Bench.ATTACH, 0, 0, 0);
        bench.replied(0, 2, DIR | ALL);
        bench.ask(0, Bench.CREATE, 0, 1, 0, 0);
        bench.replied(3, 0);
        Check.part("REMOVE, nothing of a removed node comes again");
        bench.makeOpen(1, 1, 2, 0666, 1, 2, 3);
        bench.ask(0, Bench.WSTAT, 1, -1, 0777, -1, 1);
        bench.ask(0, Bench.REMOVE, 1);
        bench.makeOpen(0, 1, 2, 0644);
        bench.ask(0, Bench.STAT, 1);
        bench.replied(5, 0, 0644, 0, 0, 0, 2);
        bench.ask(1, Bench.WRITE, 1, 2, 9);
        bench.ask(3, Bench.READ, 1, 0, 8);
        bench.replied(0, 0, 9);
    }

    private static void removeOrder() {
        Check.part("REMOVE, the order");
        Bench bench = new Bench();
        bench.make(0, 1, DIR | 0755);
        bench.make(0, 2, DIR | ALL, 1);
        bench.make(0, 3, 0, 1, 2);
        Check.same("snapshot", bench.snapshot(), 1);
        bench.reachIn(1, 0, 0);
        bench.ask(-9, Bench.REMOVE, 0);
        bench.fid(0, 0, 0);
        bench.reachIn(1, 1, 0, 1, 2);
        bench.ask(-9, Bench.REMOVE, 0);
        bench.reach(1, 0, 1, 2);
        bench.ask(-5, Bench.REMOVE, 0);
        bench.reach(0, 0, 1, 2);
        bench.ask(-12, Bench.REMOVE, 0);
        bench.nodes(4);
    }

    private static void stat() {
        Check.part("STAT");
        Bench bench = new Bench();
        bench.ask(-1, Bench.STAT, 0);
        bench.makeOpen(3, 0, 99, ALONE | 0, 1, 2);
        bench.ask(0, Bench.STAT, 0);
        bench.replied(1, 2, ALONE, 2, 3, 0, 99);
        Check.same("snapshot", bench.snapshot(), 1);
        bench.ask(1, Bench.WRITE, 0, 2, 3);
        bench.reachIn(1, 2, 1, 99);
        bench.ask(0, Bench.STAT, 1);
        bench.replied(1, 2, ALONE, 2, 3, 0, 99);
        bench.reach(2, 2, 99);
        bench.ask(0, Bench.STAT, 2);
        bench.replied(1, 3, ALONE, 3, 3, 0, 99);
        bench.ask(0, Bench.REMOVE, 0);
        bench.ask(-13, Bench.STAT, 2);
        bench.ask(0, Bench.STAT, 1);
    }

    private static void wstatNumbers() {
        Check.part("WSTAT, numbers");
        Bench bench = new Bench();
        bench.ask(-1, Bench.WSTAT, 0, -2, -2, -2, -2);
        bench.make(0, 1, 0666);
        Check.same("snapshot", bench.snapshot(), 1);
        bench.reach(0, 0, 1);
        for (int wrong : new int[] {-2, Integer.MIN_VALUE, Integer.MAX_VALUE, 2048, 100}) {
            bench.ask(-7, Bench.WSTAT, 0, wrong, -1, -1, -1);
            bench.ask(-7, Bench.WSTAT, 0, -1, -1, wrong, -1);
            bench.ask(-7, Bench.WSTAT, 0, -1, -1, -1, wrong);
            if (wrong != 100) {
                bench.ask(-7, Bench.WSTAT, 0, -1, wrong, -1, -1);
            }
        }
        bench.ask(-7, Bench.WSTAT, 0, 0, -1, -1, -1);
        bench.ask(-7, Bench.WSTAT, 0, -1, -1, 17, -1);
        bench.ask(-7, Bench.WSTAT, 0, -1, -1, -1, 4);
        bench.reach(0, 1);
        bench.ask(-7, Bench.WSTAT, 1, 0, -1, -1, -1);
        bench.ask(-7, Bench.WSTAT, 1, 5, -1, -1, -1);
        bench.ask(-7, Bench.WSTAT, 1, -1, -1, 0, -1);
        bench.ask(0, Bench.WSTAT, 1, -1, 0755, -1, 0);
        bench.ask(0, Bench.STAT, 1);
        bench.replied(0, 1, DIR | 0755, 0, 0, 0, 0);
        bench.reachIn(1, 0, 2, 1);
        bench.ask(-9, Bench.WSTAT, 2, -2, -2, -2, -2);
        bench.ask(-9, Bench.WSTAT, 2, -1, -1, -1, -1);
        bench.reach(0, 3, 1);
        bench.ask(0, Bench.REMOVE, 3);
        bench.ask(-13, Bench.WSTAT, 0, -2, -2, -2, -2);
    }

    private static void wstatRights() {
        Check.part("WSTAT, rights");
        Bench bench = new Bench();
        bench.make(0, 1, DIR | ALL);
        bench.make(0, 2, 0646, 1);
        bench.make(0, 3, 0644, 1);
        bench.reach(0, 2, 1);
        bench.ask(0, Bench.WSTAT, 2, -1, 0755, -1, -1);
        bench.ask(0, Bench.CLUNK, 2);
        bench.reach(1, 0, 1, 2);
        bench.reach(1, 1, 1, 3);
        bench.ask(-5, Bench.WSTAT, 0, 4, -1, -1, -1);
        bench.ask(-5, Bench.WSTAT, 0, 3, -1, -1, -1);
        bench.ask(-5, Bench.WSTAT, 0, 2, -1, -1, -1);
        bench.ask(-5, Bench.WSTAT, 0, -1, 0646, -1, -1);
        bench.ask(-5, Bench.WSTAT, 0, -1, -1, -1, 1);
        bench.ask(0, Bench.WSTAT, 0, -1, -1, 3, -1);
        bench.ask(-5, Bench.WSTAT, 1, -1, -1, 3, -1);
        bench.ask(0, Bench.WSTAT, 1, -1, -1, -1, -1);
        bench.replied();
        bench.reach(0, 2, 1, 3);
        bench.ask(-5, Bench.WSTAT, 2, -1, -1, -1, 1);
        Check.yes("member(0, 1)", bench.member(0, 1));
        bench.ask(0, Bench.WSTAT, 2, -1, -1, -1, 1);
        bench.ask(0, Bench.STAT, 2);
        bench.replied(3, 0, 0644, 0, 0, 1, 3);
        bench.make(3, 9, 0444);
        bench.reach(3, 3, 9);
        bench.ask(-5, Bench.WSTAT, 3, -1, -1, -1, 0);
        bench.ask(-5, Bench.WSTAT, 3, -1, 0666, 1, -1);
        bench.ask(0, Bench.WSTAT, 3, 10, 0666, -1, 3);
        bench.ask(0, Bench.STAT, 3);
        bench.replied(4, 0, 0666, 0, 3, 3, 10);
    }

    private static void wstatTitles() {
        Check.part("WSTAT, titles");
        Bench bench = new Bench();
        bench.make(0, 1, DIR | ALL);
        bench.make(0, 2, 0666, 1);
        bench.make(0, 3, 0666, 1);
        bench.reach(1, 0, 1, 2);
        bench.reach(0, 1, 1);
        bench.ask(-6, Bench.WSTAT, 0, 3, -1, -1, -1);
        bench.ask(-6, Bench.WSTAT, 0, 3, -1, 5, -1);
        bench.ask(0, Bench.STAT, 0);
        bench.replied(2, 0, 0666, 0, 0, 0, 2);
        bench.ask(0, Bench.WSTAT, 0, 2, -1, -1, -1);
        bench.ask(0, Bench.STAT, 1);
        bench.replied(1, 2, DIR | ALL, 0, 0, 0, 1);
        bench.ask(0, Bench.WSTAT, 0, 1, -1, -1, -1);
        bench.replied();
        bench.ask(0, Bench.STAT, 0);
        bench.replied(2, 0, 0666, 0, 0, 0, 1);
        bench.ask(0, Bench.STAT, 1);
        bench.replied(1, 3, DIR | ALL, 0, 0, 0, 1);
        bench.ask(-3, Bench.WALK, 1, 2, 2);
        bench.ask(1, Bench.WALK, 1, 2, 1);
        bench.ask(0, Bench.WSTAT, 2, 99, -1, -1, -1);
        bench.ask(0, Bench.OPEN, 1, 0);
        bench.ask(2, Bench.READ, 1, 0, 8);
        bench.replied(3, 99);
        bench.ask(0, Bench.ATTACH, 3, 0, 0);
        bench.replied(0, 1, DIR | ALL);
    }

    private static void wstatLengths() {
        Check.part("WSTAT, lengths");
        Bench bench = new Bench();
        bench.makeOpen(0, 0, 1, APPEND | 0666, 1, 2, 3);
        bench.ask(0, Bench.WSTAT, 0, -1, -1, 2, -1);
        bench.ask(0, Bench.WSTAT, 0, -1, -1, 16, -1);
        bench.ask(8, Bench.READ, 0, 0, 8);
        bench.replied(1, 2, 0, 0, 0, 0, 0, 0);
        bench.ask(0, Bench.STAT, 0);
        bench.replied(1, 5, APPEND | 0666, 16, 0, 0, 1);
        bench.ask(-11, Bench.WRITE, 0, 0, 1);
        bench.ask(0, Bench.WSTAT, 0, -1, -1, 16, -1);
        bench.ask(0, Bench.STAT, 0);
        bench.replied(1, 6, APPEND | 0666, 16, 0, 0, 1);
        bench.ask(0, Bench.WSTAT, 0, 1, 0600, 0, 0);
        bench.ask(0, Bench.STAT, 0);
        bench.replied(1, 7, 0600, 0, 0, 0, 1);
        bench.ask(0, Bench.ATTACH, 1, 0, 0);
        bench.replied(0, 1, DIR | ALL);
    }

    private static void wstatModesAndGroups() {
        Check.part("WSTAT, modes and groups");
        Bench bench = new Bench();
        bench.make(2, 1, DIR | ALL);
        bench.reach(2, 0, 1);
        bench.ask(0, Bench.WSTAT, 0, -1, 2047, -1, 2);
        bench.ask(0, Bench.STAT, 0);
        bench.replied(1, 0, 4095, 0, 2, 2, 1);
        bench.ask(0, Bench.WSTAT, 0, -1, 0, -1, -1);
        bench.ask(0, Bench.STAT, 0);
        bench.replied(1, 0, DIR, 0, 2, 2, 1);
        bench.ask(-5, Bench.OPEN, 0, 0);
        bench.ask(-5, Bench.CREATE, 0, 1, 0, 0);
        bench.ask(0, Bench.WSTAT, 0, -1, 0070, -1, -1);
        bench.reach(1, 1, 1);
        bench.ask(-5, Bench.CREATE, 1, 1, 0, 0);
        Check.yes("member(1, 2)", bench.member(1, 2));
        bench.ask(0, Bench.CREATE, 1, 1, 0, 0);
        bench.ask(0, Bench.STAT, 1);
        bench.replied(2, 0, 0, 0, 1, 2, 1);
    }
}
