/** The fifteen promises, one after the other: ordinary inputs, edges and wrong inputs. */
public final class PromisesTest {
    private static final int[] WRONG_CONNECTIONS = {-1, 2, Integer.MIN_VALUE, Integer.MAX_VALUE};
    private static final int[] WRONG_TAGS = {-1, 8, Integer.MIN_VALUE, Integer.MAX_VALUE};
    private static final int[] WRONG_FIDS = {-1, 6, Integer.MIN_VALUE, Integer.MAX_VALUE};
    private static final int[] WRONG_KINDS = {-1, 10, Integer.MIN_VALUE, Integer.MAX_VALUE};
    private static final int[] WRONG_USERS = {-1, 4, 32, Integer.MIN_VALUE, Integer.MAX_VALUE};

    public static void main(String[] args) {
        aNewObject();
        member();
        memberGivesRights();
        say();
        send();
        serve();
        flush();
        hangUp();
        hangUpRemovesOnClose();
        reply();
        waiting();
        fid();
        sync();
        snapshot();
        crash();
        blocks();
        nodes();
        Check.end();
    }

    private static void aNewObject() {
        Check.part("promise 1");
        Bench bench = new Bench();
        bench.nodes(1);
        bench.blocks(1);
        for (int connection = 0; connection < 2; connection++) {
            Check.same("waiting", bench.waiting(connection), 0);
            for (int fid = 0; fid < 6; fid++) {
                bench.fid(0, connection, fid);
            }
            for (int tag = 0; tag < 8; tag++) {
                Check.same("serve", bench.serve(connection, tag), -20);
            }
        }
        bench.replied();
        bench.ask(0, Bench.ATTACH, 0, 3, 0);
        bench.replied(0, 0, Bench.DIR | Bench.ALL);
        bench.ask(0, Bench.STAT, 0);
        bench.replied(0, 0, Bench.DIR | Bench.ALL, 0, 0, 0, 0);
        bench.ask(-7, Bench.ATTACH, 1, 0, 1);
    }

    private static void member() {
        Check.part("promise 2");
        Bench files = new Bench();
        for (int user = 0; user < 4; user++) {
            for (int group = 0; group < 4; group++) {
                String what = "member(" + user + ", " + group + ")";
                Check.same(what, files.member(user, group) ? 1 : 0, user == group ? 0 : 1);
                Check.no(what + " again", files.member(user, group));
            }
        }
        files = new Bench();
        for (int wrong : WRONG_USERS) {
            Check.no("member of a wrong user", files.member(wrong, 0));
            Check.no("member of a wrong group", files.member(0, wrong));
            Check.no("member of both wrong", files.member(wrong, wrong));
        }
        Check.yes("member(0, 3)", files.member(0, 3));
        Check.yes("member(3, 0)", files.member(3, 0));
    }

    private static void memberGivesRights() {
        Check.part("promise 2, rights");
        Bench bench = new Bench();
        bench.make(0, 1, Bench.DIR | 0070);
        bench.ask(0, Bench.ATTACH, 0, 1, 0);
        bench.ask(1, Bench.WALK, 0, 0, 1);
        bench.ask(-5, Bench.CREATE, 0, 2, 0, 0);
        Check.yes("member(0, 1)", bench.member(0, 1));
        bench.ask(-5, Bench.CREATE, 0, 2, 0, 0);
        Check.yes("member(1, 0)", bench.member(1, 0));
        bench.ask(0, Bench.CREATE, 0, 2, 0, 0);
        bench.crash();
        Check.no("member(1, 0) after a crash", bench.member(1, 0));
    }

    private static void say() {
        Check.part("promise 3");
        Bench bench = new Bench();
        Check.yes("say 1", bench.say(Integer.MIN_VALUE));
        Check.yes("say 2", bench.say(0));
        Check.yes("say 3", bench.say(-1));
        Check.yes("say 4", bench.say(Integer.MAX_VALUE));
        Check.no("say 5", bench.say(0));
        Check.no("say 6", bench.say(1));
        Check.yes("send", bench.send(0, 0, Bench.ATTACH, 0));
        Check.same("ATTACH with four numbers", bench.serve(0, 0), -7);
        Check.yes("say after send", bench.say(2));
        Check.yes("say after send", bench.say(0));
        Check.yes("send", bench.send(1, 0, Bench.ATTACH, 0));
        Check.same("ATTACH", bench.serve(1, 0), 0);
        bench.fid(1, 1, 0);
    }

    private static void send() {
        Check.part("promise 4");
        Bench files = new Bench();
        Check.yes("say", files.say(1));
        for (int wrong : WRONG_CONNECTIONS) {
            Check.no("send of a wrong connection", files.send(wrong, 0, 0, 0));
        }
        for (int wrong : WRONG_TAGS) {
            Check.no("send of a wrong tag", files.send(0, wrong, 0, 0));
        }
        for (int wrong : WRONG_KINDS) {
            Check.no("send of a wrong kind", files.send(0, 0, wrong, 0));
        }
        for (int wrong : WRONG_FIDS) {
            Check.no("send of a wrong fid", files.send(0, 0, 0, wrong));
        }
        Check.same("waiting", files.waiting(0), 0);
        Check.yes("say", files.say(0));
        Check.yes("send with what refused ones left", files.send(0, 0, Bench.ATTACH, 0));
        Check.yes("say", files.say(3));
        Check.no("send of a tag that waits", files.send(0, 0, Bench.WALK, 1));
        Check.same("serve", files.serve(0, 0), 0);
        Check.yes("send", files.send(0, 0, Bench.WALK, 0));
        Check.same("WALK with the number still said", files.serve(0, 0), 0);
        Check.same("fid(0, 3)", files.fid(0, 3), 1);
        for (int tag = 0; tag < 8; tag++) {
            Check.yes("send", files.send(0, tag, Bench.STAT, tag % 6));
            Check.yes("send of the same tag elsewhere", files.send(1, tag, tag, 5));
        }
        Check.same("waiting(0)", files.waiting(0), 8);
        Check.same("waiting(1)", files.waiting(1), 8);
    }

    private static void serve() {
        Check.part("promise 5");
        Bench files = new Bench();
        say(files, 1, 0);
        Check.yes("send", files.send(0, 3, Bench.ATTACH, 0));
        Check.yes("send", files.send(0, 1, Bench.STAT, 0));
        for (int wrong : WRONG_CONNECTIONS) {
            Check.same("serve of a wrong connection", files.serve(wrong, 3), -20);
        }
        for (int wrong : WRONG_TAGS) {
            Check.same("serve of a wrong tag", files.serve(0, wrong), -20);
        }
        Check.same("serve of the other connection", files.serve(1, 3), -20);
        Check.same("STAT before the ATTACH", files.serve(0, 1), -1);
        Check.same("STAT again", files.serve(0, 1), -20);
        Check.yes("send", files.send(0, 1, Bench.STAT, 0));
        Check.same("ATTACH", files.serve(0, 3), 0);
        Check.same("reply(-1)", files.reply(-1), 3);
        Check.same("ATTACH again", files.serve(0, 3), -20);
        Check.same("reply(-1) after a refused one", files.reply(-1), 3);
        Check.same("STAT", files.serve(0, 1), 0);
        Check.same("reply(-1)", files.reply(-1), 7);
    }

    private static void flush() {
        Check.part("promise 6");
        Bench files = new Bench();
        say(files, 1, 0);
        Check.yes("send", files.send(1, 2, Bench.ATTACH, 0));
        for (int wrong : WRONG_CONNECTIONS) {
            Check.no("flush of a wrong connection", files.flush(wrong, 2));
        }
        for (int wrong : WRONG_TAGS) {
            Check.no("flush of a wrong tag", files.flush(1, wrong));
        }
        Check.no("flush of the other connection", files.flush(0, 2));
        Check.no("flush of another tag", files.flush(1, 3));
        Check.same("waiting", files.waiting(1), 1);
        Check.yes("flush", files.flush(1, 2));
        Check.same("waiting", files.waiting(1), 0);
        Check.no("flush again", files.flush(1, 2));
        Check.same("serve", files.serve(1, 2), -20);
        Check.same("fid", files.fid(1, 0), 0);
        Check.yes("send", files.send(1, 2, Bench.ATTACH, 0));
        Check.same("its numbers went with it", files.serve(1, 2), -7);
    }

    private static void hangUp() {
        Check.part("promise 7");
        Bench bench = new Bench();
        for (int wrong : WRONG_CONNECTIONS) {
            Check.no("hangUp of a wrong connection", bench.hangUp(wrong));
        }
        for (int fid = 0; fid < 6; fid++) {
            bench.askFrom(0, 0, Bench.ATTACH, fid, 0, 0);
            bench.askFrom(1, 0, Bench.ATTACH, fid, 0, 0);
        }
        Check.yes("send", bench.send(0, 0, Bench.STAT, 0));
        Check.yes("send", bench.send(0, 7, Bench.STAT, 0));
        Check.yes("send", bench.send(1, 0, Bench.STAT, 0));
        say(bench, 1, 0);
        Check.yes("hangUp", bench.hangUp(0));
        Check.same("waiting(0)", bench.waiting(0), 0);
        Check.same("waiting(1)", bench.waiting(1), 1);
        Check.same("the reply stays", bench.reply(-1), 3);
        for (int fid = 0; fid < 6; fid++) {
            bench.fid(0, 0, fid);
            bench.fid(1, 1, fid);
        }
        Check.same("serve", bench.serve(0, 0), -20);
        Check.yes("send", bench.send(0, 0, Bench.ATTACH, 0));
        Check.same("what is said stays", bench.serve(0, 0), 0);
        Check.yes("hangUp", bench.hangUp(0));
        Check.yes("hangUp of nothing", bench.hangUp(0));
    }

    private static void hangUpRemovesOnClose() {
        Check.part("promise 7, on close");
        Bench bench = new Bench();
        bench.ask(0, Bench.ATTACH, 0, 0, 0);
        bench.ask(0, Bench.CREATE, 0, 1, Bench.ALL, 64);
        bench.ask(0, Bench.ATTACH, 1, 0, 0);
        bench.ask(0, Bench.CREATE, 1, 2, Bench.ALL, 0);
        bench.ask(0, Bench.ATTACH, 5, 0, 0);
        bench.ask(0, Bench.CREATE, 5, 3, Bench.ALL, 66);
        bench.nodes(4);
        bench.ask(0, Bench.STAT, 0);
        Check.yes("hangUp(1)", bench.hangUp(1));
        bench.nodes(4);
        Check.yes("hangUp(0)", bench.hangUp(0));
        bench.nodes(2);
        Check.same("the reply to STAT stays", bench.reply(-1), 7);
        bench.reach(0, 0);
        bench.ask(-3, Bench.WALK, 0, 1, 1);
        bench.ask(-3, Bench.WALK, 0, 1, 3);
        bench.ask(1, Bench.WALK, 0, 1, 2);
    }

    private static void reply() {
        Check.part("promise 8");
        Bench bench = new Bench();
        Check.same("reply(-1)", bench.reply(-1), 0);
        Check.same("reply(0)", bench.reply(0), 0);
        bench.makeOpen(2, 0, 5, 0600, 11, 12, 13, 14, 15, 16, 17, 18, 19);
        bench.ask(8, Bench.READ, 0, 0, 8);
        bench.replied(11, 12, 13, 14, 15, 16, 17, 18);
        for (int wrong : new int[] {-2, 8, 9, Integer.MIN_VALUE, Integer.MAX_VALUE}) {
            Check.same("reply(" + wrong + ")", bench.reply(wrong), 0);
        }
        bench.ask(2, Bench.READ, 0, 3, 2);
        bench.replied(14, 15);
        Check.same("reply(2), of an earlier reply", bench.reply(2), 0);
        bench.ask(-8, Bench.OPEN, 0, 0);
        bench.replied();
        bench.ask(0, Bench.STAT, 0);
        bench.replied(1, 9, 0600, 9, 2, 0, 5);
        Check.yes("send", bench.send(0, 0, Bench.CLUNK, 0));
        Check.same("sending leaves the reply", bench.reply(-1), 7);
        Check.yes("flush", bench.flush(0, 0));
        Check.same("flushing leaves the reply", bench.reply(3), 9);
        bench.ask(0, Bench.CLUNK, 0);
        bench.replied();
    }

    private static void waiting() {
        Check.part("promise 9");
        Bench files = new Bench();
        for (int wrong : WRONG_CONNECTIONS) {
            Check.same("waiting of a wrong connection", files.waiting(wrong), -1);
        }
        Check.yes("send", files.send(0, 0, Bench.STAT, 0));
        Check.yes("send", files.send(0, 7, Bench.STAT, 0));
        Check.yes("send", files.send(0, 4, Bench.STAT, 0));
        Check.same("waiting(0)", files.waiting(0), 3);
        Check.same("waiting(1)", files.waiting(1), 0);
        Check.same("serve", files.serve(0, 7), -1);
        Check.same("waiting(0)", files.waiting(0), 2);
        Check.yes("flush", files.flush(0, 0));
        Check.same("waiting(0)", files.waiting(0), 1);
    }

    private static void fid() {
        Check.part("promise 10");
        Bench bench = new Bench();
        for (int wrong : WRONG_CONNECTIONS) {
            bench.fid(-1, wrong, 0);
        }
        for (int wrong : WRONG_FIDS) {
            bench.fid(-1, 0, wrong);
        }
        Check.same("snapshot", bench.snapshot(), 1);
        bench.ask(0, Bench.ATTACH, 0, 0, 0);
        bench.askFrom(1, 0, Bench.ATTACH, 5, 0, 1);
        bench.fid(1, 0, 0);
        bench.fid(0, 1, 0);
        bench.fid(5, 1, 5);
        bench.ask(0, Bench.OPEN, 0, 0);
        bench.askFrom(1, 0, Bench.OPEN, 5, 0);
        bench.fid(2, 0, 0);
        bench.fid(6, 1, 5);
        bench.ask(0, Bench.CLUNK, 0);
        bench.askFrom(1, 0, Bench.CLUNK, 5);
        bench.fid(0, 0, 0);
        bench.fid(0, 1, 5);
        bench.makeOpen(0, 1, 1, 0);
        bench.reach(0, 2, 1);
        bench.ask(0, Bench.REMOVE, 2);
        bench.fid(2, 0, 1);
        bench.fid(0, 0, 2);
    }

    private static void sync() {
        Check.part("promise 11");
        Bench bench = new Bench();
        Check.same("sync(0) of nothing", bench.sync(0), 0);
        Check.same("sync(5) of nothing", bench.sync(5), 1);
        bench.makeOpen(0, 0, 1, 0600, 9);
        Check.same("sync(2), cut", bench.sync(2), 2);
        bench.nodes(1);
        bench.fid(0, 0, 0);
        bench.makeOpen(0, 0, 1, 0600, 9);
        Check.same("sync(3), cut after the mark", bench.sync(3), 3);
        bench.nodes(2);
        bench.fid(0, 0, 0);
        Check.same("reply", bench.reply(-1), 0);
        bench.reach(0, 0, 1);
        bench.ask(0, Bench.OPEN, 0, 2);
        bench.ask(1, Bench.WRITE, 0, 1, 8);
        bench.blocks(4);
        Check.same("sync(4), not cut", bench.sync(4), 3);
        bench.fid(2, 0, 0);
        bench.blocks(2);
        bench.ask(1, Bench.WRITE, 0, 2, 7);
        Check.same("sync(-1)", bench.sync(-1), 3);
        Check.same("sync(-1) again", bench.sync(Integer.MIN_VALUE), 1);
        Check.same("sync(max)", bench.sync(Integer.MAX_VALUE), 1);
        bench.ask(3, Bench.READ, 0, 0, 8);
        bench.replied(9, 8, 7);
        bench.ask(1, Bench.WRITE, 0, 0, 1);
        Check.same("sync(0)", bench.sync(0), 0);
        bench.reach(0, 0, 1);
        bench.ask(0, Bench.OPEN, 0, 0);
        bench.ask(3, Bench.READ, 0, 0, 8);
        bench.replied(9, 8, 7);
        Check.same("sync(1), after the mark", bench.sync(1), 1);
        bench.fid(0, 0, 0);
    }

    private static void snapshot() {
        Check.part("promise 12");
        Bench bench = new Bench();
        bench.makeOpen(0, 0, 1, 0666, 1);
        Check.same("snapshot", bench.snapshot(), 1);
        bench.fid(2, 0, 0);
        bench.ask(1, Bench.WRITE, 0, 0, 2);
        bench.crash();
        bench.reach(0, 0, 1);
        bench.ask(0, Bench.OPEN, 0, 2);
        bench.ask(1, Bench.READ, 0, 0, 8);
        bench.replied(1);
        bench.ask(1, Bench.WRITE, 0, 0, 3);
        Check.same("snapshot", bench.snapshot(), 2);
        bench.ask(1, Bench.WRITE, 0, 0, 4);
        Check.same("sync", bench.sync(-1), 3);
        Check.same("snapshot", bench.snapshot(), 3);
        Check.same("snapshot", bench.snapshot(), 4);
        bench.ask(1, Bench.WRITE, 0, 0, 5);
        Check.same("a fifth snapshot", bench.snapshot(), -1);
        Check.same("was no sync", bench.sync(-1), 3);
        bench.ask(0, Bench.REMOVE, 0);
        int[] kept = {0, 1, 3, 4, 4};
        for (int tree = 1; tree <= 4; tree++) {
            bench.reachIn(tree, 0, tree, 1);
            bench.ask(0, Bench.OPEN, tree, 0);
            bench.ask(1, Bench.READ, tree, 0, 8);
            bench.replied(kept[tree]);
        }
        bench.ask(-7, Bench.ATTACH, 0, 0, 5);
    }

    private static void crash() {
        Check.part("promise 13");
        Bench bench = new Bench();
        bench.make(0, 1, Bench.DIR | Bench.ALL);
        Check.same("snapshot", bench.snapshot(), 1);
        bench.make(0, 2, 0666, 1);
        bench.ask(0, Bench.ATTACH, 0, 0, 1);
        bench.askFrom(1, 0, Bench.ATTACH, 0, 0, 0);
        bench.askFrom(1, 0, Bench.CREATE, 0, 3, 0666, 64);
        Check.yes("send", bench.send(0, 5, Bench.STAT, 0));
        Check.yes("send", bench.send(1, 5, Bench.STAT, 0));
        say(bench, 1, 0);
        bench.nodes(4);
        bench.blocks(6);
        bench.crash();
        bench.nodes(2);
        bench.blocks(2);
        bench.fid(0, 0, 0);
        bench.fid(0, 1, 0);
        Check.same("waiting(0)", bench.waiting(0), 0);
        Check.same("waiting(1)", bench.waiting(1), 0);
        bench.replied();
        Check.yes("send", bench.send(0, 5, Bench.ATTACH, 0));
        Check.same("nothing is said", bench.serve(0, 5), -7);
        bench.ask(0, Bench.ATTACH, 0, 0, 0);
        bench.replied(0, 1, Bench.DIR | Bench.ALL);
        bench.ask(0, Bench.CREATE, 0, 9, 0, 0);
        bench.replied(4, 0);
        Check.same("snapshots stay", bench.snapshot(), 2);
    }

    private static void blocks() {
        Check.part("promise 14");
        Bench bench = new Bench();
        bench.make(0, 1, Bench.DIR | Bench.ALL);
        bench.blocks(3);
        bench.make(0, 2, 0666, 1);
        bench.blocks(4);
        Check.same("snapshot", bench.snapshot(), 1);
        bench.blocks(3);
        bench.makeOpen(0, 0, 3, 0666, 1, 2);
        bench.blocks(5);
        Check.same("sync", bench.sync(-1), 3);
        bench.blocks(5);
        bench.ask(1, Bench.WRITE, 0, 0, 9);
        bench.blocks(7);
        Check.same("sync", bench.sync(-1), 3);
        bench.blocks(5);
        bench.ask(0, Bench.REMOVE, 0);
        bench.blocks(6);
        Check.same("sync", bench.sync(-1), 2);
        bench.blocks(4);
    }

    private static void nodes() {
        Check.part("promise 15");
        Bench bench = new Bench();
        bench.make(0, 1, Bench.DIR | Bench.ALL);
        bench.make(0, 2, Bench.DIR | Bench.ALL, 1);
        bench.nodes(3);
        Check.same("snapshot", bench.snapshot(), 1);
        bench.reach(0, 0, 1, 2);
        bench.ask(0, Bench.REMOVE, 0);
        bench.nodes(2);
        bench.crash();
        bench.nodes(3);
    }

    private static void say(Bench files, int... numbers) {
        for (int number : numbers) {
            Check.yes("say", files.say(number));
        }
    }
}
