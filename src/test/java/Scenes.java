/** States that several tests begin with; what has fids at it is told for each. */
final class Scenes {
    private static final int DIR = Bench.DIR;
    private static final int ALL = Bench.ALL;

    private Scenes() {
    }

    /**
     * Sixteen nodes, all of them in each of four snapshots with other blocks: 64 blocks, so that whatever
     * would change a node has no room. The chains 1/4/5/6, 2/4/5/6 and 3/4/5/6 of directories end in
     * a file 9 each, of user 0: the first is ALONE with the rights 0666, the second has 0600, the third
     * 0644. The directory 2/4/5/6 has the rights 0755, the others all. No fid is in use.
     */
    static Bench full() {
        Bench bench = new Bench();
        int[] fileModes = {Bench.ALONE | 0666, 0600, 0644};
        for (int chain = 0; chain < 3; chain++) {
            bench.ask(0, Bench.ATTACH, chain, 0, 0);
            int[] titles = {chain + 1, 4, 5, 6};
            for (int title : titles) {
                boolean closed = chain == 1 && title == 6;
                directoryBelow(bench, chain, title, closed ? 0755 : ALL);
            }
            bench.ask(0, Bench.CREATE, chain, 9, fileModes[chain], 1);
        }
        for (int number = 1; number <= 4; number++) {
            for (int chain = 0; chain < 3 && number > 1; chain++) {
                bench.ask(1, Bench.WRITE, chain, 0, number);
            }
            Check.same("snapshot()", bench.snapshot(), number);
            bench.blocks(16 * number);
        }
        Check.yes("hangUp(0)", bench.hangUp(0));
        return bench;
    }

    /**
     * Nineteen nodes, all of them in each of three snapshots with other blocks: 57 blocks, so that just
     * seven more can come. The chains 1/1/1/1/1, 2/2/2/2/2 and 3/3/3/3/3 of directories end in a file 9
     * each; the fids 0, 1, 2 are there, open for both and ON CLOSE. All is of user 0.
     */
    static Bench roomForOneChain() {
        Bench bench = new Bench();
        for (int chain = 0; chain < 3; chain++) {
            bench.ask(0, Bench.ATTACH, chain, 0, 0);
            for (int depth = 0; depth < 5; depth++) {
                directoryBelow(bench, chain, 1 + chain, ALL);
            }
            bench.ask(0, Bench.CREATE, chain, 9, 0666, 66);
        }
        bench.nodes(19);
        bench.blocks(20);
        for (int number = 1; number <= 3; number++) {
            for (int chain = 0; chain < 3 && number > 1; chain++) {
                bench.ask(1, Bench.WRITE, chain, 0, number);
            }
            Check.same("snapshot()", bench.snapshot(), number);
            bench.blocks(19 * number);
        }
        return bench;
    }

    /** Makes a directory in the one where a fid is, and takes the fid to it. */
    private static void directoryBelow(Bench bench, int fid, int title, int rights) {
        bench.ask(0, Bench.WALK, fid, 5);
        bench.ask(0, Bench.CREATE, 5, title, DIR | rights, 0);
        bench.ask(0, Bench.CLUNK, 5);
        bench.ask(1, Bench.WALK, fid, fid, title);
    }

    /**
     * Twenty nodes, of user 0: a chain 1/2/3/4/5/6 of directories, and the directories 7 with eight files
     * 1 to 8 and 8 with three files 1 to 3, all with all rights. No fid is in use.
     */
    static Bench twentyNodes() {
        Bench bench = new Bench();
        bench.ask(0, Bench.ATTACH, 0, 0, 0);
        for (int title = 1; title <= 6; title++) {
            directoryBelow(bench, 0, title, ALL);
        }
        int[] counts = {8, 3};
        for (int i = 0; i < counts.length; i++) {
            bench.ask(0, Bench.ATTACH, i + 1, 0, 0);
            directoryBelow(bench, i + 1, 7 + i, ALL);
            for (int title = 1; title <= counts[i]; title++) {
                bench.ask(0, Bench.WALK, i + 1, 5);
                bench.ask(0, Bench.CREATE, 5, title, ALL, 0);
                bench.ask(0, Bench.CLUNK, 5);
            }
        }
        bench.nodes(20);
        Check.yes("hangUp(0)", bench.hangUp(0));
        return bench;
    }
}
