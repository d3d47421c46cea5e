/** Each sentence of the fifteen promises that tells of a refusal or an edge, with a test of its own. */
public final class RefusalsTest {
    private static final int DIR = Bench.DIR;
    private static final int ALL = Bench.ALL;
    private static final int LOWEST = Integer.MIN_VALUE;
    private static final int HIGHEST = Integer.MAX_VALUE;
    private static final int[] WRONG_CONNECTIONS = {-1, 2, 3, LOWEST, HIGHEST};
    private static final int[] WRONG_TAGS = {-1, 8, 9, LOWEST, HIGHEST};
    private static final int[] WRONG_KINDS = {-1, 10, 11, LOWEST, HIGHEST};
    private static final int[] WRONG_FIDS = {-1, 6, 7, LOWEST, HIGHEST};
    private static final int[] WRONG_USERS = {-1, 4, 5, 32, LOWEST, HIGHEST};

    public static void main(String[] args) {
        aNewObject();
        memberOutOfRange();
        memberAlready();
        memberIsOneWay();
        sayFour();
        sayAfterSend();
        sendOutOfRange();
        sendOfATagThatWaits();
        sendTakesTheNumbers();
        sendRefusedKeepsTheNumbers();
        serveOfNone();
        serveInAnyOrder();
        flushOfNone();
        flushTakesBack();
        hangUpOfNoneSuch();
        hangUpOfOneConnection();
        hangUpFromZeroOn();
        replyOfNone();
        replyOfTheLatest();
        waitingOfNoneSuch();
        fidOfNoneSuch();
        fidInASnapshot();
        Check.end();
    }

    private static void aNewObject() {
        Check.part("promise 1: the root alone; no fids, no requests");
        Bench bench = new Bench();
        bench.nodes(1);
        bench.blocks(1);
        for (int connection = 0; connection < 2; connection++) {
            Check.same("waiting", bench.waiting(connection), 0);
            for (int fid = 0; fid < 6; fid++) {
                bench.fid(0, connection, fid);
            }
        }
        bench.replied();
        bench.reach(0, 0);
        bench.ask(0, Bench.OPEN, 0, 0);
        bench.ask(0, Bench.READ, 0, 0, 8);
        Check.part("promise 1: nothing of one object is in another one");
        bench.make(0, 1, 0);
        new Bench().nodes(1);
    }

    private static void memberOutOfRange() {
        Check.part("promise 2: refused, if one is not 0 .. 3");
        Bench bench = new Bench();
        for (int wrong : WRONG_USERS) {
            for (int right = 0; right < 4; right++) {
                Check.no("member", bench.member(wrong, right));
                Check.no("member", bench.member(right, wrong));
            }
            Check.no("member", bench.member(wrong, wrong));
        }
        for (int user = 0; user < 4; user++) {
            for (int group = 0; group < 4; group++) {
                Check.same("member", bench.member(user, group) ? 1 : 0, user == group ? 0 : 1);
            }
        }
    }

    private static void memberAlready() {
        Check.part("promise 2: refused, if it is that already");
        Bench bench = new Bench();
        for (int user = 0; user < 4; user++) {
            Check.no("member of the own group", bench.member(user, user));
        }
        Check.yes("member(2, 3)", bench.member(2, 3));
        Check.no("member(2, 3)", bench.member(2, 3));
        bench.crash();
        Check.no("member(2, 3)", bench.member(2, 3));
    }

    private static void memberIsOneWay() {
        Check.part("promise 2: user u becomes a member of that group alone");
        Bench bench = new Bench();
        bench.make(3, 1, 0060);
        bench.reach(3, 0, 1);
        bench.ask(0, Bench.WSTAT, 0, -1, -1, -1, 3);
        Check.yes("member(2, 3)", bench.member(2, 3));
        bench.reach(2, 1, 1);
        bench.ask(0, Bench.OPEN, 1, 2);
        bench.reach(1, 2, 1);
        bench.ask(-5, Bench.OPEN, 2, 0);
        Check.yes("member(3, 2)", bench.member(3, 2));
        Check.yes("member(1, 2)", bench.member(1, 2));
        bench.ask(-5, Bench.OPEN, 2, 0);
    }

    private static void sayFour() {
        Check.part("promise 3: refused, if four are there");
        Bench bench = new Bench();
        bench.makeOpen(0, 0, 1, 0666);
        int[] numbers = {0, 5, 6, 7};
        for (int number : numbers) {
            Check.yes("say", bench.say(number));
        }
        for (int number : new int[] {0, 99, LOWEST, HIGHEST}) {
            Check.no("say", bench.say(number));
        }
        Check.yes("send", bench.send(0, 0, Bench.WRITE, 0));
        Check.same("WRITE", bench.serve(0, 0), 3);
        bench.ask(3, Bench.READ, 0, 0, 8);
        bench.replied(5, 6, 7);
    }

    private static void sayAfterSend() {
        Check.part("promise 3: the next request's numbers, when one was sent");
        Bench bench = new Bench();
        for (int i = 0; i < 4; i++) {
            Check.yes("say", bench.say(i));
        }
        Check.yes("send", bench.send(0, 0, Bench.STAT, 0));
        for (int i = 0; i < 4; i++) {
            Check.yes("say", bench.say(i));
        }
        Check.no("say", bench.say(4));
    }

    private static void sendOutOfRange() {
        Check.part("promise 4: refused, if there is no such connection, tag, kind or fid");
        Bench bench = new Bench();
        for (int wrong : WRONG_CONNECTIONS) {
            Check.no("send, connection", bench.send(wrong, 0, 0, 0));
        }
        for (int wrong : WRONG_TAGS) {
            Check.no("send, tag", bench.send(0, wrong, 0, 0));
            Check.no("send, tag", bench.send(1, wrong, 0, 0));
        }
        for (int wrong : WRONG_KINDS) {
            Check.no("send, kind", bench.send(0, 0, wrong, 0));
        }
        for (int wrong : WRONG_FIDS) {
            Check.no("send, fid", bench.send(0, 0, 0, wrong));
        }
        Check.same("waiting(0)", bench.waiting(0), 0);
        Check.same("waiting(1)", bench.waiting(1), 0);
        for (int kind = 0; kind < 8; kind++) {
            Check.yes("send", bench.send(0, kind, kind, kind % 6));
        }
        Check.yes("send", bench.send(1, 0, 8, 0));
        Check.yes("send", bench.send(1, 7, 9, 5));
    }

    private static void sendOfATagThatWaits() {
        Check.part("promise 4: refused, if a request with that tag waits there");
        Bench bench = new Bench();
        bench.reach(0, 0);
        Check.yes("send", bench.send(0, 4, Bench.STAT, 0));
        Check.no("send", bench.send(0, 4, Bench.CLUNK, 0));
        Check.yes("send, elsewhere", bench.send(1, 4, Bench.CLUNK, 0));
        Check.yes("send, another tag", bench.send(0, 5, Bench.STAT, 0));
        Check.same("the one that waits is served", bench.serve(0, 4), 0);
        bench.replied(0, 0, DIR | ALL, 0, 0, 0, 0);
        Check.part("promise 4: the tag is free when it was served, flushed or hung up");
        Check.yes("send", bench.send(0, 4, Bench.STAT, 0));
        Check.yes("flush", bench.flush(0, 4));
        Check.yes("send", bench.send(0, 4, Bench.STAT, 0));
        Check.yes("hangUp", bench.hangUp(0));
        Check.yes("send", bench.send(0, 4, Bench.STAT, 0));
        bench.crash();
        Check.yes("send", bench.send(0, 4, Bench.STAT, 0));
    }

    private static void sendTakesTheNumbers() {
        Check.part("promise 4: the numbers said, which are none then");
        Bench bench = new Bench();
        bench.reach(0, 0);
        Check.yes("say", bench.say(1));
        Check.yes("send", bench.send(0, 0, Bench.WALK, 0));
        Check.yes("send", bench.send(0, 1, Bench.WALK, 0));
        Check.yes("say", bench.say(2));
        Check.yes("say", bench.say(0));
        Check.yes("send", bench.send(0, 2, Bench.WALK, 0));
        Check.same("WALK without numbers", bench.serve(0, 1), -7);
        Check.same("WALK 2, 0", bench.serve(0, 2), 1);
        Check.same("WALK 1", bench.serve(0, 0), 0);
        bench.fid(1, 0, 1);
        bench.fid(1, 0, 2);
    }

    private static void sendRefusedKeepsTheNumbers() {
        Check.part("promise 4: a refused one takes no numbers");
        Bench bench = new Bench();
        bench.reach(0, 0);
        Check.yes("send", bench.send(0, 0, Bench.STAT, 0));
        Check.yes("say", bench.say(3));
        Check.no("send", bench.send(2, 1, Bench.WALK, 0));
        Check.no("send", bench.send(0, 8, Bench.WALK, 0));
        Check.no("send", bench.send(0, 1, 10, 0));
        Check.no("send", bench.send(0, 1, Bench.WALK, 6));
        Check.no("send", bench.send(0, 0, Bench.WALK, 0));
        Check.yes("send", bench.send(0, 1, Bench.WALK, 0));
        Check.same("WALK", bench.serve(0, 1), 0);
        bench.fid(1, 0, 3);
    }

    private static void serveOfNone() {
        Check.part("promise 5: -20, refused, if there is none");
        Bench bench = new Bench();
        bench.reach(0, 0);
        Check.yes("send", bench.send(0, 3, Bench.STAT, 0));
        for (int wrong : WRONG_CONNECTIONS) {
            Check.same("serve", bench.serve(wrong, 3), -20);
        }
        for (int wrong : WRONG_TAGS) {
            Check.same("serve", bench.serve(0, wrong), -20);
        }
        Check.same("serve", bench.serve(0, 2), -20);
        Check.same("serve", bench.serve(1, 3), -20);
        Check.same("waiting(0)", bench.waiting(0), 1);
        Check.part("promise 5: a refused one leaves the reply");
        bench.replied(0, 0, DIR | ALL);
        Check.part("promise 5: what was served waits no more");
        Check.same("serve", bench.serve(0, 3), 0);
        Check.same("serve", bench.serve(0, 3), -20);
        Check.same("waiting(0)", bench.waiting(0), 0);
    }

    private static void serveInAnyOrder() {
        Check.part("promise 5: what is answered below 0 was served, too");
        Bench bench = new Bench();
        Check.yes("send", bench.send(0, 0, Bench.STAT, 0));
        Check.same("serve", bench.serve(0, 0), -1);
        Check.same("serve", bench.serve(0, 0), -20);
        Check.part("promise 5: requests are served in any order");
        Check.yes("say", bench.say(0));
        Check.yes("say", bench.say(0));
        Check.yes("send", bench.send(0, 0, Bench.ATTACH, 0));
        Check.yes("send", bench.send(0, 1, Bench.CLUNK, 0));
        Check.yes("send", bench.send(0, 2, Bench.STAT, 0));
        Check.same("CLUNK before ATTACH", bench.serve(0, 1), -1);
        Check.same("ATTACH", bench.serve(0, 0), 0);
        Check.same("STAT", bench.serve(0, 2), 0);
        bench.fid(1, 0, 0);
    }

    private static void flushOfNone() {
        Check.part("promise 6: refused, if there is none");
        Bench bench = new Bench();
        Check.yes("send", bench.send(1, 3, Bench.STAT, 0));
        for (int wrong : WRONG_CONNECTIONS) {
            Check.no("flush", bench.flush(wrong, 3));
        }
        for (int wrong : WRONG_TAGS) {
            Check.no("flush", bench.flush(1, wrong));
        }
        Check.no("flush", bench.flush(0, 3));
        Check.no("flush", bench.flush(1, 4));
        Check.same("waiting(1)", bench.waiting(1), 1);
        Check.yes("flush", bench.flush(1, 3));
        Check.no("flush", bench.flush(1, 3));
        Check.yes("send", bench.send(1, 3, Bench.STAT, 0));
        Check.same("serve", bench.serve(1, 3), -1);
        Check.no("flush of what was served", bench.flush(1, 3));
    }

    private static void flushTakesBack() {
        Check.part("promise 6: what is taken back is not done, and its numbers are gone");
        Bench bench = new Bench();
        bench.reach(0, 0);
        Check.yes("say", bench.say(1));
        Check.yes("send", bench.send(0, 0, Bench.WALK, 0));
        Check.yes("send", bench.send(0, 1, Bench.CLUNK, 0));
        Check.yes("say", bench.say(2));
        Check.yes("flush", bench.flush(0, 1));
        Check.yes("flush", bench.flush(0, 0));
        Check.same("serve", bench.serve(0, 0), -20);
        bench.fid(1, 0, 0);
        bench.fid(0, 0, 1);
        Check.part("promise 6: what is said stays, and the reply");
        bench.replied(0, 0, DIR | ALL);
        Check.yes("send", bench.send(0, 0, Bench.WALK, 0));
        Check.same("WALK 2", bench.serve(0, 0), 0);
        bench.fid(1, 0, 2);
    }

    private static void hangUpOfNoneSuch() {
        Check.part("promise 7: refused, if there is none such");
        Bench bench = new Bench();
        for (int connection = 0; connection < 2; connection++) {
            bench.askFrom(connection, 0, Bench.ATTACH, 2, 0, 0);
            Check.yes("send", bench.send(connection, 2, Bench.STAT, 2));
        }
        for (int wrong : WRONG_CONNECTIONS) {
            Check.no("hangUp", bench.hangUp(wrong));
        }
        for (int connection = 0; connection < 2; connection++) {
            bench.fid(1, connection, 2);
            Check.same("waiting", bench.waiting(connection), 1);
        }
        Check.part("promise 7: a connection with nothing hangs up, too");
        Check.yes("hangUp", bench.hangUp(0));
        Check.yes("hangUp", bench.hangUp(0));
        Check.yes("hangUp", new Bench().hangUp(1));
    }

    private static void hangUpOfOneConnection() {
        Check.part("promise 7: its waiting requests are gone, and all its fids are clunked");
        Bench bench = new Bench();
        for (int connection = 0; connection < 2; connection++) {
            for (int fid = 0; fid < 6; fid++) {
                bench.askFrom(connection, 0, Bench.ATTACH, fid, 0, 0);
            }
            for (int tag = 0; tag < 8; tag++) {
                Check.yes("send", bench.send(connection, tag, Bench.STAT, 0));
            }
        }
        Check.yes("say", bench.say(4));
        Check.yes("hangUp", bench.hangUp(1));
        Check.same("waiting(0)", bench.waiting(0), 8);
        Check.same("waiting(1)", bench.waiting(1), 0);
        for (int fid = 0; fid < 6; fid++) {
            bench.fid(1, 0, fid);
            bench.fid(0, 1, fid);
        }
        for (int tag = 0; tag < 8; tag++) {
            Check.same("serve", bench.serve(1, tag), -20);
            Check.same("serve", bench.serve(0, tag), 0);
        }
        Check.part("promise 7: what is said stays");
        Check.yes("send", bench.send(0, 0, Bench.WALK, 4));
        Check.same("WALK 4", bench.serve(0, 0), 0);
    }

    /** There is room for one chain of new blocks alone, so the first of the fids removes its node. */
    private static void hangUpFromZeroOn() {
        Check.part("promise 7: fids are clunked from 0 on");
        Bench bench = Scenes.roomForOneChain();
        bench.blocks(57);
        bench.reach(0, 5, 1);
        bench.ask(0, Bench.WSTAT, 5, -1, 0777, -1, -1);
        bench.blocks(59);
        Check.yes("hangUp", bench.hangUp(0));
        bench.nodes(18);
        bench.reach(0, 0, 1, 1, 1, 1, 1);
        bench.ask(-3, Bench.WALK, 0, 1, 9);
        for (int chain = 2; chain <= 3; chain++) {
            bench.reach(0, chain, chain, chain, chain, chain, chain, 9);
        }
    }

    private static void replyOfNone() {
        Check.part("promise 8: 0 if there is none");
        Bench bench = new Bench();
        for (int i : new int[] {-2, -1, 0, 1, 7, 8, LOWEST, HIGHEST}) {
            Check.same("reply(" + i + ")", bench.reply(i), 0);
        }
        bench.makeOpen(1, 0, 9, 0666, 1, 2, 3, 4, 5, 6, 7, 8);
        bench.ask(8, Bench.READ, 0, 0, 8);
        bench.replied(1, 2, 3, 4, 5, 6, 7, 8);
        for (int i : new int[] {-2, 8, 9, LOWEST, HIGHEST}) {
            Check.same("reply(" + i + ")", bench.reply(i), 0);
        }
        bench.ask(1, Bench.READ, 0, 7, 8);
        bench.replied(8);
        for (int i = 1; i < 9; i++) {
            Check.same("reply(" + i + ")", bench.reply(i), 0);
        }
        Check.part("promise 8: i = -1 tells how many it has");
        bench.ask(0, Bench.STAT, 0);
        Check.same("reply(-1)", bench.reply(-1), 7);
    }

    private static void replyOfTheLatest() {
        Check.part("promise 8: the latest request that was served");
        Bench bench = new Bench();
        bench.ask(0, Bench.ATTACH, 0, 0, 0);
        bench.replied(0, 0, DIR | ALL);
        Check.yes("say", bench.say(7));
        Check.yes("send", bench.send(0, 0, Bench.OPEN, 0));
        Check.no("send", bench.send(0, 0, Bench.OPEN, 0));
        Check.yes("flush", bench.flush(0, 0));
        Check.same("serve", bench.serve(0, 0), -20);
        Check.same("sync(-1)", bench.sync(-1), 1);
        Check.same("snapshot()", bench.snapshot(), 1);
        Check.yes("hangUp", bench.hangUp(0));
        Check.yes("member", bench.member(0, 1));
        bench.replied(0, 0, DIR | ALL);
        Check.part("promise 8: none after an answer below 0");
        bench.ask(-1, Bench.STAT, 0);
        bench.replied();
        bench.ask(0, Bench.ATTACH, 0, 0, 0);
        bench.ask(-7, Bench.OPEN, 0, 3);
        bench.replied();
        Check.part("promise 8: nothing is replied to CLUNK");
        bench.ask(0, Bench.STAT, 0);
        bench.ask(0, Bench.CLUNK, 0);
        bench.replied();
    }

    private static void waitingOfNoneSuch() {
        Check.part("promise 9: -1 if there is none such");
        Bench bench = new Bench();
        for (int wrong : WRONG_CONNECTIONS) {
            Check.same("waiting", bench.waiting(wrong), -1);
        }
        Check.part("promise 9: how many requests of a connection wait");
        for (int tag = 0; tag < 8; tag++) {
            Check.same("waiting(1)", bench.waiting(1), tag);
            Check.yes("send", bench.send(1, tag, Bench.STAT, 0));
            Check.no("send", bench.send(1, tag, Bench.STAT, 0));
            Check.same("waiting(0)", bench.waiting(0), 0);
        }
        Check.same("waiting(1)", bench.waiting(1), 8);
        Check.yes("flush", bench.flush(1, 0));
        Check.same("waiting(1)", bench.waiting(1), 7);
        Check.same("serve", bench.serve(1, 7), -1);
        Check.same("waiting(1)", bench.waiting(1), 6);
    }

    private static void fidOfNoneSuch() {
        Check.part("promise 10: -1 if there is no such connection or fid");
        Bench bench = new Bench();
        for (int wrong : WRONG_CONNECTIONS) {
            bench.fid(-1, wrong, 0);
        }
        for (int wrong : WRONG_FIDS) {
            bench.fid(-1, 0, wrong);
            bench.fid(-1, 1, wrong);
        }
        Check.part("promise 10: 0 free, 1 in use, 2 open");
        bench.fid(0, 1, 5);
        bench.askFrom(1, 0, Bench.ATTACH, 5, 0, 0);
        bench.fid(1, 1, 5);
        bench.askFrom(1, 0, Bench.OPEN, 5, 0);
        bench.fid(2, 1, 5);
        bench.askFrom(1, 0, Bench.CLUNK, 5);
        bench.fid(0, 1, 5);
        bench.fid(0, 0, 5);
    }

    private static void fidInASnapshot() {
        Check.part("promise 10: 4 more if it is in a snapshot");
        Bench bench = new Bench();
        for (int number = 1; number <= 4; number++) {
            Check.same("snapshot()", bench.snapshot(), number);
            bench.ask(0, Bench.ATTACH, number, 0, number);
            bench.fid(5, 0, number);
            bench.ask(0, Bench.OPEN, number, 0);
            bench.fid(6, 0, number);
        }
        Check.part("promise 10: a fid of the present tree stays there when a snapshot is made");
        bench.ask(0, Bench.ATTACH, 0, 0, 0);
        bench.fid(1, 0, 0);
        bench.ask(0, Bench.CLUNK, 4);
        bench.fid(0, 0, 4);
        bench.ask(0, Bench.ATTACH, 4, 0, 0);
        bench.fid(1, 0, 4);
    }
}
