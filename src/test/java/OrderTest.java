import java.util.Arrays;

/**
 * "The first of these that holds, in the order named for its kind": for every two answers of a kind that
 * can hold at once, a request for which both do; and near it one for which only the later one does.
 */
public final class OrderTest {
    private static final int DIR = Bench.DIR;
    private static final int ALL = Bench.ALL;
    private static final int ALONE = Bench.ALONE;

    public static void main(String[] args) {
        numbersComeFirst();
        attach();
        walkBeforeTheTitles();
        walkTitleByTitle();
        openOfNoUse();
        openOfGoneNodes();
        openOfWhatIsThere();
        openWithoutRoom();
        createOfNoUse();
        createOfGoneNodes();
        createInNoDirectoryOrSnapshot();
        createWrongNumbers();
        createWithoutRightOrRoom();
        createWithoutBlocks();
        read();
        write();
        remove();
        removeWithoutRoom();
        clunkAndStat();
        wstat();
        wstatWithoutRoom();
        goneWithoutRoom();
        Check.end();
    }

    /** Fids 0 free, 1 open for reading, 2 open for writing, 3 at a gone file, 4 in a snapshot, 5 at a file. */
    private static Bench allSorts() {
        Bench bench = new Bench();
        bench.make(0, 1, 0600);
        bench.make(0, 2, 0666);
        Check.same("snapshot()", bench.snapshot(), 1);
        bench.reach(0, 1, 1);
        bench.ask(0, Bench.OPEN, 1, 0);
        bench.reach(0, 2, 1);
        bench.ask(0, Bench.OPEN, 2, 1);
        bench.reach(0, 3, 2);
        bench.reach(0, 0, 2);
        bench.ask(0, Bench.REMOVE, 0);
        bench.reachIn(1, 0, 4, 1);
        bench.reach(1, 5, 1);
        return bench;
    }

    private static void numbersComeFirst() {
        int[] fewest = {2, 1, 1, 3, 2, 1, 0, 0, 0, 4};
        int[] most = {2, 4, 1, 3, 2, 4, 0, 0, 0, 4};
        for (int kind = 0; kind < 10; kind++) {
            Check.part("for all kinds -7 for too many or too few numbers comes first: kind " + kind);
            Bench bench = allSorts();
            for (int count = 0; count <= 4; count++) {
                int[] numbers = new int[count];
                Arrays.fill(numbers, -9);
                for (int fid = 0; fid < 6 && (count < fewest[kind] || count > most[kind]); fid++) {
                    bench.ask(-7, kind, fid, numbers);
                }
            }
            bench.fid(0, 0, 0);
            bench.fid(2, 0, 1);
            bench.fid(2, 0, 2);
            bench.fid(1, 0, 3);
            bench.fid(5, 0, 4);
            bench.fid(1, 0, 5);
            bench.nodes(2);
        }
    }

    private static void attach() {
        Check.part("ATTACH: -2 before -7");
        Bench bench = new Bench();
        bench.reach(0, 0);
        bench.ask(-2, Bench.ATTACH, 0, 4, 0);
        bench.ask(-7, Bench.ATTACH, 1, 4, 0);
        bench.ask(-2, Bench.ATTACH, 0, 0, 1);
        bench.ask(-7, Bench.ATTACH, 1, 0, 1);
        bench.ask(-2, Bench.ATTACH, 0, 0, 0);
    }

    private static void walkBeforeTheTitles() {
        Bench bench = allSorts();
        Check.part("WALK: -7 before -1, -8, -13, -4");
        for (int fid = 0; fid < 6; fid++) {
            bench.ask(-7, Bench.WALK, fid, 6, 3);
        }
        Check.part("WALK: -1 before -2, -4");
        bench.ask(-1, Bench.WALK, 0, 1);
        bench.ask(-1, Bench.WALK, 0, 0, 3);
        Check.part("WALK: -8 before -2, -4");
        bench.ask(-8, Bench.WALK, 1, 2);
        bench.ask(-2, Bench.WALK, 5, 2);
        bench.ask(-8, Bench.WALK, 2, 2, 3);
        bench.ask(-4, Bench.WALK, 5, 5, 3);
        Check.part("WALK: -2 before -13, -4");
        bench.ask(-2, Bench.WALK, 3, 1);
        bench.ask(-2, Bench.WALK, 5, 1, 3);
        Check.part("WALK: -13 before -4");
        bench.ask(-13, Bench.WALK, 3, 0);
        bench.ask(-13, Bench.WALK, 3, 3);
        bench.ask(-13, Bench.WALK, 3, 0, 3);
        Check.part("WALK: -8 before -13");
        bench.reach(0, 0, 1);
        bench.ask(0, Bench.REMOVE, 0);
        bench.ask(-8, Bench.WALK, 1, 1);
        bench.ask(-8, Bench.WALK, 1, 0);
        bench.ask(-13, Bench.WALK, 5, 0);
    }

    private static void walkTitleByTitle() {
        Bench bench = new Bench();
        bench.make(0, 1, DIR | 0766);
        bench.make(0, 2, 0666);
        bench.make(0, 3, DIR | 0700);
        Check.part("WALK: -4 before -5 and -3");
        bench.reach(1, 0, 2);
        bench.ask(-4, Bench.WALK, 0, 0, 9);
        bench.ask(-4, Bench.WALK, 0, 0, 0);
        Check.part("WALK: -5 before -3");
        bench.reach(1, 1, 1);
        bench.ask(-5, Bench.WALK, 1, 1, 9);
        bench.reach(0, 2, 1);
        bench.ask(-3, Bench.WALK, 2, 2, 9);
        Check.part("WALK: -2 before -5 and -3");
        bench.ask(-2, Bench.WALK, 1, 2, 9);
        bench.ask(-2, Bench.WALK, 2, 1, 9);
        Check.part("WALK: -13 before -5 and -3");
        bench.reach(0, 3, 1);
        bench.ask(0, Bench.REMOVE, 3);
        bench.ask(-13, Bench.WALK, 1, 1, 9);
        bench.ask(-13, Bench.WALK, 2, 2, 9);
        Check.part("WALK: -8 before -5 and -3");
        bench.ask(0, Bench.CLUNK, 1);
        bench.reach(0, 1);
        bench.ask(0, Bench.OPEN, 1, 0);
        bench.ask(-8, Bench.WALK, 1, 1, 9);
    }

    private static void openOfNoUse() {
        Bench bench = allSorts();
        Check.part("OPEN: -1 before -7");
        bench.ask(-1, Bench.OPEN, 0, 3);
        Check.part("OPEN: -8 before -7");
        bench.ask(-8, Bench.OPEN, 1, 3);
        bench.ask(-7, Bench.OPEN, 5, 3);
        Check.part("OPEN: -8 before -9");
        bench.ask(0, Bench.OPEN, 4, 0);
        bench.ask(-8, Bench.OPEN, 4, 1);
        Check.part("OPEN: -8 before -4");
        bench.reach(0, 0);
        bench.ask(-4, Bench.OPEN, 0, 1);
        bench.ask(0, Bench.OPEN, 0, 0);
        bench.ask(-8, Bench.OPEN, 0, 1);
        Check.part("OPEN: -8 before -5");
        bench.ask(-5, Bench.OPEN, 5, 0);
        bench.ask(0, Bench.WSTAT, 1, -1, ALONE, -1, -1);
        bench.ask(-8, Bench.OPEN, 1, 0);
        Check.part("OPEN: -8 before -10");
        bench.ask(0, Bench.WSTAT, 1, -1, ALONE | 0600, -1, -1);
        bench.ask(-8, Bench.OPEN, 1, 0);
        bench.askFrom(1, 0, Bench.ATTACH, 0, 0, 0);
        bench.askFrom(1, 1, Bench.WALK, 0, 0, 1);
        bench.askFrom(1, -10, Bench.OPEN, 0, 0);
        Check.part("OPEN: -8 before -13");
        bench.ask(0, Bench.REMOVE, 2);
        bench.ask(-8, Bench.OPEN, 1, 0);
        bench.askFrom(1, -13, Bench.OPEN, 0, 0);
    }

    private static void openOfGoneNodes() {
        Bench bench = new Bench();
        bench.make(0, 1, ALONE | 0600);
        bench.make(0, 2, DIR | ALL);
        bench.reach(0, 0, 1);
        bench.reach(1, 1, 1);
        bench.reach(0, 2, 1);
        bench.ask(0, Bench.OPEN, 2, 0);
        bench.ask(-10, Bench.OPEN, 0, 0);
        bench.ask(-5, Bench.OPEN, 1, 0);
        bench.reach(0, 3, 2);
        bench.ask(-4, Bench.OPEN, 3, 1);
        bench.reach(0, 4, 1);
        bench.ask(0, Bench.REMOVE, 4);
        bench.reach(0, 4, 2);
        bench.ask(0, Bench.REMOVE, 4);
        Check.part("OPEN: -13 before -7");
        bench.ask(-13, Bench.OPEN, 0, 3);
        Check.part("OPEN: -13 before -10");
        bench.ask(-13, Bench.OPEN, 0, 0);
        Check.part("OPEN: -13 before -5");
        bench.ask(-13, Bench.OPEN, 1, 0);
        Check.part("OPEN: -13 before -4");
        bench.ask(-13, Bench.OPEN, 3, 1);
    }

    private static void openOfWhatIsThere() {
        Bench bench = new Bench();
        bench.make(0, 1, ALONE | 0644);
        bench.make(0, 2, DIR | ALONE | 0755);
        Check.same("snapshot()", bench.snapshot(), 1);
        bench.reach(0, 0, 1);
        bench.ask(0, Bench.OPEN, 0, 0);
        bench.reach(0, 1, 2);
        bench.ask(0, Bench.OPEN, 1, 0);
        bench.reach(1, 2, 1);
        bench.reach(1, 3, 2);
        Check.part("OPEN: -7 before -4, -5, -10");
        bench.ask(-7, Bench.OPEN, 3, 3);
        bench.ask(-7, Bench.OPEN, 2, 3);
        Check.part("OPEN: -4 before -5 and -10");
        bench.ask(-4, Bench.OPEN, 3, 1);
        bench.ask(-10, Bench.OPEN, 3, 0);
        Check.part("OPEN: -5 before -10");
        bench.ask(-5, Bench.OPEN, 2, 1);
        bench.ask(-10, Bench.OPEN, 2, 0);
        bench.ask(0, Bench.CLUNK, 0);
        bench.ask(0, Bench.CLUNK, 1);
        bench.reachIn(1, 0, 0, 1);
        bench.ask(0, Bench.OPEN, 0, 0);
        bench.reachIn(1, 1, 4, 1);
        bench.reachIn(1, 1, 5, 2);
        Check.part("OPEN: -7 before -9");
        bench.ask(-7, Bench.OPEN, 4, 3);
        Check.part("OPEN: -4 before -9");
        bench.ask(-4, Bench.OPEN, 5, 1);
        Check.part("OPEN: -9 before -5 and -10");
        bench.ask(-9, Bench.OPEN, 4, 1);
        bench.ask(-10, Bench.OPEN, 4, 0);
    }

    private static void openWithoutRoom() {
        Bench bench = Scenes.full();
        bench.reach(0, 0, 1, 4, 5, 6, 9);
        bench.reach(1, 1, 2, 4, 5, 6, 9);
        bench.reach(0, 2, 3);
        bench.reachIn(4, 0, 3, 1, 4, 5, 6, 9);
        Check.part("OPEN: all before -11");
        bench.ask(-11, Bench.OPEN, 0, 16);
        bench.ask(-7, Bench.OPEN, 0, 19);
        bench.ask(-4, Bench.OPEN, 2, 16);
        bench.ask(-9, Bench.OPEN, 3, 16);
        bench.ask(-5, Bench.OPEN, 1, 16);
        bench.ask(0, Bench.WALK, 0, 4);
        bench.ask(0, Bench.OPEN, 4, 0);
        bench.ask(-10, Bench.OPEN, 0, 16);
        bench.ask(-8, Bench.OPEN, 4, 16);
    }

    private static void createOfNoUse() {
        Bench bench = allSorts();
        Check.part("CREATE: -1 before -7");
        bench.ask(-1, Bench.CREATE, 0, 0, 0, 0);
        Check.part("CREATE: -8 before -4 and -7");
        bench.ask(-8, Bench.CREATE, 1, 9, 0, 0);
        bench.ask(-8, Bench.CREATE, 1, 0, 0, 0);
        bench.ask(-4, Bench.CREATE, 5, 9, 0, 0);
        Check.part("CREATE: -8 before -9");
        bench.reachIn(1, 0, 0);
        bench.ask(-9, Bench.CREATE, 0, 9, 0, 0);
        bench.ask(0, Bench.OPEN, 0, 0);
        bench.ask(-8, Bench.CREATE, 0, 9, 0, 0);
        Check.part("CREATE: -8 before -6 and -7");
        bench.ask(0, Bench.CLUNK, 0);
        bench.reach(0, 0);
        bench.ask(-6, Bench.CREATE, 0, 1, 0, 0);
        bench.ask(-7, Bench.CREATE, 0, 0, 0, 0);
        bench.ask(0, Bench.OPEN, 0, 0);
        bench.ask(-8, Bench.CREATE, 0, 1, 0, 0);
        bench.ask(-8, Bench.CREATE, 0, 0, 0, 0);
        Check.part("CREATE: -8 before -5");
        bench.ask(0, Bench.WSTAT, 0, -1, 0555, -1, -1);
        bench.ask(-8, Bench.CREATE, 0, 9, 0, 0);
    }

    private static void createOfGoneNodes() {
        Bench bench = Scenes.twentyNodes();
        bench.reach(1, 0, 1, 2, 3, 4, 5, 6);
        bench.reach(0, 1, 1, 2, 3, 4, 5, 6);
        bench.ask(0, Bench.WSTAT, 1, -1, 0555, -1, -1);
        bench.ask(0, Bench.WALK, 0, 2);
        bench.ask(0, Bench.OPEN, 2, 0);
        bench.ask(-5, Bench.CREATE, 0, 9, 0, 0);
        bench.reach(0, 3, 8, 1);
        bench.reach(0, 4, 8, 1);
        bench.ask(0, Bench.REMOVE, 4);
        bench.ask(0, Bench.REMOVE, 1);
        bench.make(0, 20, 0);
        bench.make(0, 21, 0);
        bench.nodes(20);
        Check.part("CREATE: -13 before -7");
        bench.ask(-13, Bench.CREATE, 0, 0, 0, 0);
        Check.part("CREATE: -13 before -5 and -11");
        bench.ask(-13, Bench.CREATE, 0, 9, 0, 0);
        Check.part("CREATE: -13 before -4");
        bench.ask(-13, Bench.CREATE, 3, 9, 0, 0);
        Check.part("CREATE: -8 before -13");
        bench.ask(-8, Bench.CREATE, 2, 9, 0, 0);
    }

    private static void createInNoDirectoryOrSnapshot() {
        Bench bench = new Bench();
        bench.make(0, 1, 0600);
        bench.make(0, 2, DIR | ALL);
        for (int title = 1; title <= 8; title++) {
            bench.make(0, title, 0, 2);
        }
        bench.reach(0, 0, 2);
        bench.ask(0, Bench.WSTAT, 0, -1, 0755, -1, -1);
        Check.same("snapshot()", bench.snapshot(), 1);
        Check.part("CREATE: -4 before -9");
        bench.reachIn(1, 0, 1, 1);
        bench.ask(-4, Bench.CREATE, 1, 9, 0, 0);
        Check.part("CREATE: -4 before -7 and -5");
        bench.reach(1, 2, 1);
        bench.ask(-4, Bench.CREATE, 2, 0, 0, 0);
        bench.ask(-4, Bench.CREATE, 2, 9, 0, 0);
        Check.part("CREATE: -9 before -7, -5, -6, -11");
        bench.reachIn(1, 1, 3, 2);
        bench.ask(-9, Bench.CREATE, 3, 0, 0, 0);
        bench.ask(-9, Bench.CREATE, 3, 9, 0, 0);
        bench.reachIn(1, 0, 4, 2);
        bench.ask(-9, Bench.CREATE, 4, 1, 0, 0);
        bench.ask(-9, Bench.CREATE, 4, 9, 0, 0);
        bench.ask(-11, Bench.CREATE, 0, 9, 0, 0);
        Check.part("CREATE: -8 before -11");
        bench.ask(0, Bench.OPEN, 0, 0);
        bench.ask(-8, Bench.CREATE, 0, 9, 0, 0);
    }

    private static void createWrongNumbers() {
        Bench bench = new Bench();
        bench.make(0, 1, DIR | ALL);
        for (int title = 1; title <= 8; title++) {
            bench.make(0, title, 0, 1);
        }
        bench.reach(0, 0, 1);
        bench.ask(0, Bench.WSTAT, 0, -1, 0755, -1, -1);
        bench.reach(1, 1, 1);
        int[][] wrong = {{0, 0, 0}, {9, 4096, 0}, {9, 0, 3}, {9, DIR, 1}};
        for (int[] numbers : wrong) {
            Check.part("CREATE: -7 before -5");
            bench.ask(-7, Bench.CREATE, 1, numbers);
            Check.part("CREATE: -7 before -11");
            bench.ask(-7, Bench.CREATE, 0, numbers);
        }
        Check.part("CREATE: -7 before -6");
        bench.ask(-6, Bench.CREATE, 0, 1, 0, 0);
        bench.ask(-7, Bench.CREATE, 0, 1, 4096, 0);
        bench.ask(-7, Bench.CREATE, 0, 1, 0, 3);
        bench.ask(-7, Bench.CREATE, 0, 1, DIR, 1);
    }

    private static void createWithoutRightOrRoom() {
        Bench bench = new Bench();
        bench.make(0, 1, DIR | ALL);
        for (int title = 1; title <= 8; title++) {
            bench.make(0, title, 0, 1);
        }
        bench.reach(0, 0, 1);
        bench.ask(0, Bench.WSTAT, 0, -1, 0755, -1, -1);
        bench.reach(1, 1, 1);
        Check.part("CREATE: -5 before -6 and -11");
        bench.ask(-5, Bench.CREATE, 1, 1, 0, 0);
        bench.ask(-5, Bench.CREATE, 1, 9, 0, 0);
        Check.part("CREATE: -6 before -11");
        bench.ask(-6, Bench.CREATE, 0, 1, 0, 0);
        bench.ask(-11, Bench.CREATE, 0, 9, 0, 0);
    }

    private static void createWithoutBlocks() {
        Bench bench = Scenes.full();
        Check.part("CREATE: all before -11 for blocks");
        bench.reach(0, 0);
        bench.ask(-11, Bench.CREATE, 0, 9, 0, 0);
        bench.ask(-6, Bench.CREATE, 0, 1, 0, 0);
        bench.ask(-7, Bench.CREATE, 0, 100, 0, 0);
        bench.reach(1, 1, 2, 4, 5, 6);
        bench.ask(-5, Bench.CREATE, 1, 8, 0, 0);
        bench.ask(-5, Bench.CREATE, 1, 9, 0, 0);
        bench.reachIn(4, 0, 2);
        bench.ask(-9, Bench.CREATE, 2, 9, 0, 0);
        bench.ask(0, Bench.OPEN, 0, 0);
        bench.ask(-8, Bench.CREATE, 0, 9, 0, 0);
    }

    private static void read() {
        Bench bench = allSorts();
        Check.part("READ: -1 before -7");
        bench.ask(-1, Bench.READ, 0, -1, 0);
        Check.part("READ: -8 before -7");
        bench.ask(-8, Bench.READ, 5, -1, 0);
        bench.ask(-8, Bench.READ, 2, 0, 9);
        bench.ask(-7, Bench.READ, 1, 0, 9);
        Check.part("READ: -8 before -13");
        bench.ask(-8, Bench.READ, 3, 0, 1);
        bench.reach(0, 0, 1);
        bench.ask(0, Bench.REMOVE, 0);
        bench.ask(-8, Bench.READ, 2, 0, 1);
        Check.part("READ: -13 before -7");
        bench.ask(-13, Bench.READ, 1, -1, 0);
        bench.ask(-13, Bench.READ, 1, 0, 9);
        bench.ask(0, Bench.CLUNK, 5);
        bench.make(0, 3, DIR | ALL);
        bench.reach(0, 0, 3);
        bench.ask(0, Bench.OPEN, 0, 0);
        bench.ask(-7, Bench.READ, 0, 1, 1);
        bench.reach(0, 5, 3);
        bench.ask(0, Bench.REMOVE, 5);
        bench.ask(-13, Bench.READ, 0, 1, 1);
    }

    private static void write() {
        Bench bench = allSorts();
        Check.part("WRITE: -1 before -7 and -11");
        bench.ask(-1, Bench.WRITE, 0, -1, 0);
        bench.ask(-1, Bench.WRITE, 0, 16, 0);
        Check.part("WRITE: -8 before -7 and -11");
        bench.ask(-8, Bench.WRITE, 5, -1, 0);
        bench.ask(-8, Bench.WRITE, 1, 0, 256);
        bench.ask(-8, Bench.WRITE, 1, 16, 0);
        bench.ask(-8, Bench.WRITE, 4, 16, 0);
        Check.part("WRITE: -7 before -11");
        bench.ask(-7, Bench.WRITE, 2, 16, 256);
        bench.ask(-11, Bench.WRITE, 2, 16, 255);
        Check.part("WRITE: -8 before -13");
        bench.ask(-8, Bench.WRITE, 3, 0, 0);
        bench.reach(0, 0, 1);
        bench.ask(0, Bench.REMOVE, 0);
        bench.ask(-8, Bench.WRITE, 1, 0, 0);
        Check.part("WRITE: -13 before -7 and -11");
        bench.ask(-13, Bench.WRITE, 2, -1, 0);
        bench.ask(-13, Bench.WRITE, 2, 0, 256);
        bench.ask(-13, Bench.WRITE, 2, 16, 0);
        bench.ask(-13, Bench.WRITE, 2, 0);
    }

    private static void remove() {
        Bench bench = new Bench();
        bench.make(0, 1, DIR | ALL);
        bench.make(0, 2, DIR | ALL, 1);
        bench.make(0, 3, 0, 1, 2);
        bench.make(0, 4, 0, 1);
        bench.reach(0, 0, 1);
        bench.ask(0, Bench.WSTAT, 0, -1, 0755, -1, -1);
        Check.same("snapshot()", bench.snapshot(), 1);
        Check.part("REMOVE: -9 before -5");
        bench.reachIn(1, 0, 1);
        bench.ask(-9, Bench.REMOVE, 1);
        bench.reachIn(1, 1, 1, 1, 4);
        bench.ask(-9, Bench.REMOVE, 1);
        Check.part("REMOVE: -9 before -12");
        bench.reachIn(1, 0, 1, 1, 2);
        bench.ask(-9, Bench.REMOVE, 1);
        Check.part("REMOVE: -5 before -12");
        bench.reach(0, 1);
        bench.ask(-5, Bench.REMOVE, 1);
        bench.reach(1, 1, 1, 2);
        bench.ask(-5, Bench.REMOVE, 1);
        bench.reach(0, 1, 1, 2);
        bench.ask(-12, Bench.REMOVE, 1);
        Check.part("REMOVE: -13 before -5");
        bench.reach(1, 1, 1, 4);
        bench.ask(0, Bench.WALK, 1, 2);
        bench.ask(-5, Bench.REMOVE, 2);
        bench.reach(0, 2, 1, 4);
        bench.ask(0, Bench.REMOVE, 2);
        bench.ask(-13, Bench.REMOVE, 1);
    }

    private static void removeWithoutRoom() {
        Bench bench = Scenes.full();
        Check.part("REMOVE: -9 before -11");
        bench.reachIn(4, 0, 0, 1, 4, 5, 6, 9);
        bench.ask(-9, Bench.REMOVE, 0);
        Check.part("REMOVE: -5 before -11");
        bench.reach(0, 0);
        bench.ask(-5, Bench.REMOVE, 0);
        bench.reach(1, 0, 2, 4, 5, 6, 9);
        bench.ask(-5, Bench.REMOVE, 0);
        Check.part("REMOVE: -12 before -11");
        bench.reach(0, 0, 1, 4, 5, 6);
        bench.ask(-12, Bench.REMOVE, 0);
        bench.reach(0, 0, 1, 4, 5, 6, 9);
        bench.ask(-11, Bench.REMOVE, 0);
        bench.nodes(16);
    }

    private static void clunkAndStat() {
        Bench bench = allSorts();
        Check.part("CLUNK: -1, else it goes");
        bench.ask(-1, Bench.CLUNK, 0);
        for (int fid = 1; fid < 6; fid++) {
            bench.ask(0, Bench.CLUNK, fid);
            bench.ask(-1, Bench.CLUNK, fid);
        }
        bench = allSorts();
        Check.part("STAT: -1, -13, else it goes");
        bench.ask(-1, Bench.STAT, 0);
        bench.ask(0, Bench.STAT, 1);
        bench.ask(0, Bench.STAT, 2);
        bench.ask(-13, Bench.STAT, 3);
        bench.ask(0, Bench.STAT, 4);
        bench.ask(0, Bench.STAT, 5);
    }

    private static void wstat() {
        Bench bench = new Bench();
        bench.make(0, 1, DIR | ALL);
        bench.make(0, 2, 0600, 1);
        bench.make(0, 3, 0600, 1);
        bench.reach(0, 0, 1);
        bench.ask(0, Bench.WSTAT, 0, -1, 0755, -1, -1);
        Check.same("snapshot()", bench.snapshot(), 1);
        Check.part("WSTAT: -1 before -7");
        bench.ask(-1, Bench.WSTAT, 1, 0, -1, -1, -1);
        Check.part("WSTAT: -9 before -7, -5, -6");
        bench.reachIn(1, 1, 1, 1, 2);
        bench.ask(-9, Bench.WSTAT, 1, 0, -1, -1, -1);
        bench.ask(-9, Bench.WSTAT, 1, 4, -1, -1, -1);
        bench.reachIn(1, 0, 2, 1, 2);
        bench.ask(-9, Bench.WSTAT, 2, 3, -1, -1, -1);
        Check.part("WSTAT: -7 before -5 and -6");
        bench.reach(1, 3, 1, 2);
        bench.reach(0, 4, 1, 2);
        bench.ask(-7, Bench.WSTAT, 3, 4, -1, 17, -1);
        bench.ask(-7, Bench.WSTAT, 3, 0, -1, -1, -1);
        bench.ask(-7, Bench.WSTAT, 3, -1, 2048, -1, -1);
        bench.ask(-7, Bench.WSTAT, 3, -1, -1, -1, 4);
        bench.ask(-7, Bench.WSTAT, 4, 3, -1, 17, -1);
        Check.part("WSTAT: -5 before -6");
        bench.ask(-5, Bench.WSTAT, 3, 3, -1, -1, -1);
        bench.ask(-5, Bench.WSTAT, 4, 3, -1, -1, 1);
        bench.ask(-6, Bench.WSTAT, 4, 3, -1, -1, 0);
        Check.part("WSTAT: -13 before -7 and -5");
        bench.reach(0, 5, 1, 2);
        bench.ask(0, Bench.REMOVE, 5);
        bench.ask(-13, Bench.WSTAT, 3, 0, -1, -1, -1);
        bench.ask(-13, Bench.WSTAT, 3, 4, -1, -1, -1);
        Check.part("WSTAT: -13 before -6");
        bench.ask(-13, Bench.WSTAT, 4, 3, -1, -1, -1);
    }

    private static void wstatWithoutRoom() {
        Bench bench = Scenes.full();
        Check.part("WSTAT: -9 before -11");
        bench.reachIn(4, 0, 0, 1);
        bench.ask(-9, Bench.WSTAT, 0, 7, -1, -1, -1);
        bench.reach(0, 1, 1);
        bench.ask(-11, Bench.WSTAT, 1, 7, -1, -1, -1);
        Check.part("WSTAT: -7 before -11");
        bench.ask(-7, Bench.WSTAT, 1, 7, -1, 0, -1);
        Check.part("WSTAT: -5 before -11");
        bench.ask(-5, Bench.WSTAT, 1, 7, -1, -1, 1);
        Check.part("WSTAT: -6 before -11");
        bench.ask(-6, Bench.WSTAT, 1, 2, -1, -1, -1);
    }

    /** Behind the sync no change of any node has room. */
    private static void goneWithoutRoom() {
        Bench bench = Scenes.roomForOneChain();
        bench.reach(0, 4, 1, 1, 1, 1, 1, 9);
        bench.reach(0, 5, 2);
        bench.ask(0, Bench.REMOVE, 0);
        bench.reach(0, 3);
        bench.ask(0, Bench.CREATE, 3, 9, 0, 0);
        Check.same("sync(-1)", bench.sync(-1), 8);
        bench.blocks(64);
        bench.ask(-11, Bench.WSTAT, 5, -1, 0, -1, -1);
        bench.ask(-11, Bench.WSTAT, 3, -1, 0, -1, -1);
        Check.part("OPEN: -13 before -11");
        bench.ask(-13, Bench.OPEN, 4, 16);
        Check.part("WSTAT: -13 before -11");
        bench.ask(-13, Bench.WSTAT, 4, -1, 0, -1, -1);
        Check.part("REMOVE: -13 before -11");
        bench.ask(-13, Bench.REMOVE, 4);
        bench.ask(-11, Bench.REMOVE, 3);
    }
}
