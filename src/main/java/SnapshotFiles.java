/**
 * A file server: tagged requests, fids, rights, a tree that is changed by copying,
 * syncs that a crash can cut, and snapshots.
 */
public final class SnapshotFiles {

    private static final int USERS = 4;
    private static final int CONNECTIONS = 2;
    private static final int FIDS = 6;
    private static final int TAGS = 8;
    private static final int MOST_SAID = 4;
    private static final int MOST_REPLIED = 8;
    private static final int MOST_READ = 8;
    private static final int MOST_BYTES = 16;
    private static final int MOST_IN_DIRECTORY = 8;
    private static final int MOST_ABOVE = 6;
    private static final int MOST_NODES = 20;
    private static final int MOST_BLOCKS = 64;
    private static final int MOST_SNAPSHOTS = 4;
    private static final int HIGHEST_TITLE = 99;
    private static final int HIGHEST_BYTE = 255;

    private static final int ATTACH = 0;
    private static final int WALK = 1;
    private static final int OPEN = 2;
    private static final int CREATE = 3;
    private static final int READ = 4;
    private static final int WRITE = 5;
    private static final int CLUNK = 6;
    private static final int REMOVE = 7;
    private static final int STAT = 8;
    private static final int WSTAT = 9;

    /** How many numbers a request must have, by its kind. */
    private static final int[] FEWEST_NUMBERS = {2, 1, 1, 3, 2, 1, 0, 0, 0, 4};
    private static final int[] MOST_NUMBERS = {2, 4, 1, 3, 2, 4, 0, 0, 0, 4};

    private static final int NOT_IN_USE = -1;
    private static final int IN_USE = -2;
    private static final int NO_SUCH_TITLE = -3;
    private static final int NO_DIRECTORY = -4;
    private static final int RIGHT_MISSING = -5;
    private static final int TITLE_IS_THERE = -6;
    private static final int WRONG_NUMBER = -7;
    private static final int OPEN_OR_NOT = -8;
    private static final int IN_SNAPSHOT = -9;
    private static final int ALONE_AND_OPEN = -10;
    private static final int NO_ROOM = -11;
    private static final int NOT_EMPTY = -12;
    private static final int GONE = -13;
    private static final int REFUSED = -20;

    private static final int MAY_READ = 4;
    private static final int MAY_WRITE = 2;
    private static final int MAY_PASS = 1;
    private static final int RIGHTS_OF_ONE = 7;
    private static final int GROUP_SHIFT = 3;
    private static final int OWNER_SHIFT = 6;
    private static final int ALL_RIGHTS = 511;
    private static final int ALL_READS_AND_WRITES = 438;
    private static final int APPEND = 512;
    private static final int ALONE = 1024;
    private static final int DIRECTORY = 2048;
    private static final int HIGHEST_MODE = 4095;

    private static final int FOR_READING = 0;
    private static final int FOR_WRITING = 1;
    private static final int FOR_WHAT = 3;
    private static final int TRUNCATE = 16;
    private static final int ON_CLOSE = 64;

    /** Trees are numbered as ATTACH numbers them; the saved one comes behind the snapshots. */
    private static final int PRESENT = 0;
    private static final int SAVED = MOST_SNAPSHOTS + 1;
    private static final int ROOT = 0;
    private static final int AS_IT_IS = -1;

    private final Store store;
    private final Members members;
    private final Connection[] connections;
    private final Row said;
    private final Row replied;
    private final Wish wish;

    public SnapshotFiles() {
        store = new Store();
        members = new Members();
        connections = new Connection[CONNECTIONS];
        for (int i = 0; i < CONNECTIONS; i++) {
            connections[i] = new Connection();
        }
        said = new Row(MOST_SAID);
        replied = new Row(MOST_REPLIED);
        wish = new Wish();
    }

    public boolean member(int user, int group) {
        if (!isUser(user) || !isUser(group) || members.isIn(user, group)) {
            return false;
        }
        members.join(user, group);
        return true;
    }

    public boolean say(int number) {
        if (said.count >= MOST_SAID) {
            return false;
        }
        said.add(number);
        return true;
    }

    public boolean send(int connection, int tag, int kind, int fid) {
        Request request = requestAt(connection, tag);
        if (request == null || request.waits) {
            return false;
        }
        if (kind < ATTACH || kind > WSTAT || fid < 0 || fid >= FIDS) {
            return false;
        }
        request.begin(kind, fid, said);
        said.clear();
        return true;
    }

    public int serve(int connection, int tag) {
        Connection from = connectionAt(connection);
        Request request = requestAt(connection, tag);
        if (from == null || request == null || !request.waits) {
            return REFUSED;
        }
        request.waits = false;
        replied.clear();
        return answer(from, request);
    }

    public boolean flush(int connection, int tag) {
        Request request = requestAt(connection, tag);
        if (request == null || !request.waits) {
            return false;
        }
        request.waits = false;
        return true;
    }

    public boolean hangUp(int connection) {
        Connection leaving = connectionAt(connection);
        if (leaving == null) {
            return false;
        }
        leaving.dropRequests();
        for (int i = 0; i < FIDS; i++) {
            clunk(leaving.fids[i]);
        }
        return true;
    }

    public int reply(int i) {
        return i == -1 ? replied.count : replied.at(i);
    }

    public int waiting(int connection) {
        Connection asked = connectionAt(connection);
        return asked == null ? -1 : asked.countRequests();
    }

    public int fid(int connection, int fid) {
        Connection asked = connectionAt(connection);
        Fid found = asked == null ? null : asked.fidAt(fid);
        if (found == null) {
            return -1;
        }
        if (!found.inUse) {
            return 0;
        }
        return (found.open ? 2 : 1) + (found.isInSnapshot() ? 4 : 0);
    }

    public int sync(int most) {
        int writes = store.countUnsaved() + 1;
        if (most < 0 || most > writes) {
            store.copyTree(PRESENT, SAVED);
            return writes;
        }
        if (most == writes) {
            store.copyTree(PRESENT, SAVED);
        }
        crash();
        return most;
    }

    public int snapshot() {
        if (store.snapshots >= MOST_SNAPSHOTS) {
            return -1;
        }
        store.copyTree(PRESENT, SAVED);
        return store.addSnapshot();
    }

    public void crash() {
        store.copyTree(SAVED, PRESENT);
        for (int i = 0; i < CONNECTIONS; i++) {
            connections[i].dropRequests();
            connections[i].dropFids();
        }
        said.clear();
        replied.clear();
    }

    public int blocks() {
        return store.countBlocks();
    }

    public int nodes() {
        return store.countNodes();
    }

    private Connection connectionAt(int connection) {
        return connection >= 0 && connection < CONNECTIONS ? connections[connection] : null;
    }

    private Request requestAt(int connection, int tag) {
        Connection asked = connectionAt(connection);
        return asked == null ? null : asked.requestAt(tag);
    }

    private int answer(Connection from, Request request) {
        int kind = request.kind;
        Row numbers = request.numbers;
        Fid fid = from.fidAt(request.fid);
        if (fid == null || !hasItsNumbers(kind, numbers.count)) {
            return WRONG_NUMBER;
        }
        switch (kind) {
            case ATTACH: return attach(fid, numbers.at(0), numbers.at(1));
            case WALK: return walk(fid, from.fidAt(numbers.at(0)), numbers);
            case OPEN: return open(fid, numbers.at(0));
            case CREATE: return create(fid, numbers.at(0), numbers.at(1), numbers.at(2));
            case READ: return read(fid, numbers.at(0), numbers.at(1));
            case WRITE: return write(fid, numbers);
            case CLUNK: return clunk(fid);
            case REMOVE: return remove(fid);
            case STAT: return stat(fid);
            case WSTAT: return wstat(fid, numbers);
            default: return WRONG_NUMBER;
        }
    }

    private static boolean hasItsNumbers(int kind, int count) {
        return kind >= ATTACH && kind <= WSTAT
                && count >= FEWEST_NUMBERS[kind] && count <= MOST_NUMBERS[kind];
    }

    private int attach(Fid fid, int user, int tree) {
        if (fid.inUse) {
            return IN_USE;
        }
        if (!isUser(user) || tree < PRESENT || tree > store.snapshots) {
            return WRONG_NUMBER;
        }
        Block root = store.find(tree, ROOT);
        if (root == null) {
            return GONE;
        }
        fid.take(user, tree, ROOT);
        replyWithMode(root);
        return 0;
    }

    private int walk(Fid fid, Fid newFid, Row numbers) {
        if (newFid == null) {
            return WRONG_NUMBER;
        }
        if (!fid.inUse) {
            return NOT_IN_USE;
        }
        if (fid.open) {
            return OPEN_OR_NOT;
        }
        if (newFid != fid && newFid.inUse) {
            return IN_USE;
        }
        Block here = nodeOf(fid);
        if (here == null) {
            return GONE;
        }
        return walkTitles(fid, newFid, here, numbers);
    }

    private int walkTitles(Fid fid, Fid newFid, Block start, Row numbers) {
        Block here = start;
        for (int i = 1; i < numbers.count; i++) {
            int title = numbers.at(i);
            Block next = title == 0 ? store.find(fid.tree, here.above) : store.child(fid.tree, here, title);
            int hindrance = hindranceOfStep(fid.user, here, next);
            if (hindrance != 0 && i == 1) {
                return hindrance;
            }
            if (hindrance != 0) {
                replyWithMode(here);
                return i - 1;
            }
            here = next;
        }
        newFid.take(fid.user, fid.tree, here.path);
        replyWithMode(here);
        return numbers.count - 1;
    }

    private int hindranceOfStep(int user, Block here, Block next) {
        if (!here.isDirectory()) {
            return NO_DIRECTORY;
        }
        if (!members.may(user, here, MAY_PASS)) {
            return RIGHT_MISSING;
        }
        return next == null ? NO_SUCH_TITLE : 0;
    }

    private int open(Fid fid, int openMode) {
        if (!fid.inUse) {
            return NOT_IN_USE;
        }
        if (fid.open) {
            return OPEN_OR_NOT;
        }
        Block node = nodeOf(fid);
        if (node == null) {
            return GONE;
        }
        int hindrance = hindranceOfOpening(fid, node, openMode);
        if (hindrance != 0) {
            return hindrance;
        }
        Block opened = node;
        if ((openMode & TRUNCATE) != 0 && !node.is(APPEND)) {
            if (!store.hasRoom(node, 0)) {
                return NO_ROOM;
            }
            opened = store.change(node);
            opened.setLength(0);
            opened.version++;
        }
        fid.openAs(openMode);
        replyWithVersion(opened);
        return 0;
    }

    private int hindranceOfOpening(Fid fid, Block node, int openMode) {
        if (!isOpenMode(openMode)) {
            return WRONG_NUMBER;
        }
        if (node.isDirectory() && openMode != 0) {
            return NO_DIRECTORY;
        }
        if (fid.isInSnapshot() && openMode != 0) {
            return IN_SNAPSHOT;
        }
        if (!mayOpen(fid, node, openMode)) {
            return RIGHT_MISSING;
        }
        return node.is(ALONE) && isOpen(fid.tree, node.path) ? ALONE_AND_OPEN : 0;
    }

    private boolean mayOpen(Fid fid, Block node, int openMode) {
        if (isForReading(openMode) && !members.may(fid.user, node, MAY_READ)) {
            return false;
        }
        boolean changes = isForWriting(openMode) || (openMode & TRUNCATE) != 0;
        if (changes && !members.may(fid.user, node, MAY_WRITE)) {
            return false;
        }
        return (openMode & ON_CLOSE) == 0 || members.may(fid.user, store.above(fid.tree, node), MAY_WRITE);
    }

    private boolean isOpen(int tree, int path) {
        for (int i = 0; i < CONNECTIONS; i++) {
            if (connections[i].hasOpen(tree, path)) {
                return true;
            }
        }
        return false;
    }

    private int create(Fid fid, int title, int mode, int openMode) {
        if (!fid.inUse) {
            return NOT_IN_USE;
        }
        if (fid.open) {
            return OPEN_OR_NOT;
        }
        Block directory = nodeOf(fid);
        if (directory == null) {
            return GONE;
        }
        int hindrance = hindranceOfCreating(fid, directory, title, mode, openMode);
        if (hindrance != 0) {
            return hindrance;
        }
        if (!store.hasRoomIn(directory)) {
            return NO_ROOM;
        }
        Block node = store.add(store.change(directory), title, fid.user, mode);
        if (node == null) {
            return NO_ROOM;
        }
        fid.take(fid.user, PRESENT, node.path);
        fid.openAs(openMode);
        replyWithVersion(node);
        return 0;
    }

    private int hindranceOfCreating(Fid fid, Block directory, int title, int mode, int openMode) {
        if (!directory.isDirectory()) {
            return NO_DIRECTORY;
        }
        if (fid.isInSnapshot()) {
            return IN_SNAPSHOT;
        }
        if (!isTitle(title) || mode < 0 || mode > HIGHEST_MODE || !isOpenMode(openMode)) {
            return WRONG_NUMBER;
        }
        if ((mode & DIRECTORY) != 0 && openMode != 0) {
            return WRONG_NUMBER;
        }
        if (!members.may(fid.user, directory, MAY_WRITE)) {
            return RIGHT_MISSING;
        }
        return store.child(PRESENT, directory, title) != null ? TITLE_IS_THERE : 0;
    }

    private int read(Fid fid, int offset, int count) {
        if (!fid.inUse) {
            return NOT_IN_USE;
        }
        if (!fid.open || !isForReading(fid.openMode)) {
            return OPEN_OR_NOT;
        }
        Block node = nodeOf(fid);
        if (node == null) {
            return GONE;
        }
        if (offset < 0 || count < 0 || count > MOST_READ) {
            return WRONG_NUMBER;
        }
        if (!node.isDirectory()) {
            return readBytes(node, offset, count);
        }
        if (offset != 0 && offset != fid.readEnd) {
            return WRONG_NUMBER;
        }
        int titles = readTitles(fid.tree, node, offset, count);
        fid.readEnd = offset + titles;
        return titles;
    }

    private int readBytes(Block file, int offset, int count) {
        int done = 0;
        for (int i = offset; i < file.length && done < count; i++) {
            replied.add(file.byteAt(i));
            done++;
        }
        return done;
    }

    private int readTitles(int tree, Block directory, int offset, int count) {
        int done = 0;
        Block next = store.childBehind(tree, directory, 0);
        for (int i = 0; i < MOST_IN_DIRECTORY && next != null && done < count; i++) {
            if (i >= offset) {
                replied.add(next.title);
                done++;
            }
            next = store.childBehind(tree, directory, next.title);
        }
        return done;
    }

    private int write(Fid fid, Row numbers) {
        if (!fid.inUse) {
            return NOT_IN_USE;
        }
        if (!fid.open || !isForWriting(fid.openMode)) {
            return OPEN_OR_NOT;
        }
        Block file = nodeOf(fid);
        if (file == null) {
            return GONE;
        }
        if (numbers.at(0) < 0 || !areBytes(numbers)) {
            return WRONG_NUMBER;
        }
        int count = numbers.count - 1;
        if (count == 0) {
            return 0;
        }
        int start = file.is(APPEND) ? file.length : numbers.at(0);
        if (start > MOST_BYTES - count || !store.hasRoom(file, 0)) {
            return NO_ROOM;
        }
        Block changed = store.change(file);
        changed.putBytes(start, numbers);
        changed.version++;
        return count;
    }

    private static boolean areBytes(Row numbers) {
        for (int i = 1; i < numbers.count; i++) {
            if (numbers.at(i) < 0 || numbers.at(i) > HIGHEST_BYTE) {
                return false;
            }
        }
        return true;
    }

    private int clunk(Fid fid) {
        if (!fid.inUse) {
            return NOT_IN_USE;
        }
        boolean removes = fid.open && (fid.openMode & ON_CLOSE) != 0;
        fid.free();
        if (removes) {
            removeNode(fid.user, fid.tree, fid.path);
        }
        return 0;
    }

    private int remove(Fid fid) {
        if (!fid.inUse) {
            return NOT_IN_USE;
        }
        fid.free();
        return removeNode(fid.user, fid.tree, fid.path);
    }

    private int removeNode(int user, int tree, int path) {
        Block node = store.find(tree, path);
        if (node == null) {
            return GONE;
        }
        if (tree != PRESENT) {
            return IN_SNAPSHOT;
        }
        Block above = store.above(PRESENT, node);
        if (above == null || !members.may(user, above, MAY_WRITE)) {
            return RIGHT_MISSING;
        }
        if (store.countChildren(PRESENT, node) > 0) {
            return NOT_EMPTY;
        }
        if (!store.hasRoom(above, 0)) {
            return NO_ROOM;
        }
        store.change(above).version++;
        node.leave(PRESENT);
        return 0;
    }

    private int stat(Fid fid) {
        if (!fid.inUse) {
            return NOT_IN_USE;
        }
        Block node = nodeOf(fid);
        if (node == null) {
            return GONE;
        }
        replyWithMode(node);
        replied.add(node.length);
        replied.add(node.owner);
        replied.add(node.group);
        replied.add(node.title);
        return 0;
    }

    private int wstat(Fid fid, Row numbers) {
        if (!fid.inUse) {
            return NOT_IN_USE;
        }
        Block node = nodeOf(fid);
        if (node == null) {
            return GONE;
        }
        if (fid.isInSnapshot()) {
            return IN_SNAPSHOT;
        }
        wish.become(numbers);
        if (!wish.canBe(node)) {
            return WRONG_NUMBER;
        }
        return mayWish(fid.user, node) ? fulfilFor(node) : RIGHT_MISSING;
    }

    private boolean mayWish(int user, Block node) {
        if (wish.title != AS_IT_IS && !members.may(user, store.above(PRESENT, node), MAY_WRITE)) {
            return false;
        }
        if ((wish.mode != AS_IT_IS || wish.group != AS_IT_IS) && user != node.owner) {
            return false;
        }
        if (wish.length != AS_IT_IS && !members.may(user, node, MAY_WRITE)) {
            return false;
        }
        return wish.group == AS_IT_IS || members.isIn(user, wish.group);
    }

    private int fulfilFor(Block node) {
        boolean renames = wish.title != AS_IT_IS && wish.title != node.title;
        Block above = store.above(PRESENT, node);
        if (renames && above != null && store.child(PRESENT, above, wish.title) != null) {
            return TITLE_IS_THERE;
        }
        if (!renames && wish.changesNoMoreThanTitle()) {
            return 0;
        }
        if (!store.hasRoom(node, 0)) {
            return NO_ROOM;
        }
        Block changed = store.change(node);
        Block directory = store.above(PRESENT, changed);
        if (renames && directory != null) {
            changed.title = wish.title;
            directory.version++;
        }
        wish.applyTo(changed);
        return 0;
    }

    private Block nodeOf(Fid fid) {
        return store.find(fid.tree, fid.path);
    }

    private void replyWithVersion(Block node) {
        replied.add(node.path);
        replied.add(node.version);
    }

    private void replyWithMode(Block node) {
        replyWithVersion(node);
        replied.add(node.mode);
    }

    /** Groups have the numbers of the users. */
    private static boolean isUser(int number) {
        return number >= 0 && number < USERS;
    }

    private static boolean isTitle(int number) {
        return number >= 1 && number <= HIGHEST_TITLE;
    }

    private static boolean isOpenMode(int number) {
        return (number & ~(FOR_WHAT | TRUNCATE | ON_CLOSE)) == 0 && (number & FOR_WHAT) != FOR_WHAT;
    }

    private static boolean isForReading(int openMode) {
        return (openMode & FOR_WHAT) != FOR_WRITING;
    }

    private static boolean isForWriting(int openMode) {
        return (openMode & FOR_WHAT) != FOR_READING;
    }

    /** A row of numbers that is made once and used again. */
    private static final class Row {
        private final int[] numbers;
        private int count;

        Row(int most) {
            numbers = new int[most];
        }

        void clear() {
            count = 0;
        }

        void add(int number) {
            if (count < numbers.length) {
                numbers[count] = number;
                count++;
            }
        }

        int at(int i) {
            return i >= 0 && i < count && i < numbers.length ? numbers[i] : 0;
        }

        void copyFrom(Row other) {
            clear();
            for (int i = 0; i < other.count; i++) {
                add(other.at(i));
            }
        }
    }

    /** What a WSTAT says that a node shall become. */
    private static final class Wish {
        private int title;
        private int mode;
        private int length;
        private int group;

        void become(Row numbers) {
            title = numbers.at(0);
            mode = numbers.at(1);
            length = numbers.at(2);
            group = numbers.at(3);
        }

        boolean canBe(Block node) {
            if (title != AS_IT_IS && (!isTitle(title) || node.path == ROOT)) {
                return false;
            }
            if (length != AS_IT_IS && (length < 0 || length > MOST_BYTES || node.isDirectory())) {
                return false;
            }
            return mode >= AS_IT_IS && mode < DIRECTORY && (group == AS_IT_IS || isUser(group));
        }

        boolean changesNoMoreThanTitle() {
            return mode == AS_IT_IS && length == AS_IT_IS && group == AS_IT_IS;
        }

        void applyTo(Block node) {
            if (mode != AS_IT_IS) {
                node.mode = (node.mode & DIRECTORY) | mode;
            }
            if (length != AS_IT_IS) {
                node.setLength(length);
                node.version++;
            }
            if (group != AS_IT_IS) {
                node.group = group;
            }
        }
    }

    /** Which users are in which groups: a bit for each pair of them. */
    private static final class Members {
        private int pairs;

        boolean isIn(int user, int group) {
            return user == group || (pairs & (1 << (user * USERS + group))) != 0;
        }

        void join(int user, int group) {
            pairs |= 1 << (user * USERS + group);
        }

        /** Nobody has a right where there is no node: the root has no directory above it. */
        boolean may(int user, Block node, int right) {
            if (node == null) {
                return false;
            }
            int rights = node.mode & RIGHTS_OF_ONE;
            if (user == node.owner) {
                rights |= (node.mode >> OWNER_SHIFT) & RIGHTS_OF_ONE;
            }
            if (isIn(user, node.group)) {
                rights |= (node.mode >> GROUP_SHIFT) & RIGHTS_OF_ONE;
            }
            return (rights & right) != 0;
        }
    }

    /** A request of a connection under one tag; it is made once and used again. */
    private static final class Request {
        private final Row numbers;
        private boolean waits;
        private int kind;
        private int fid;

        Request() {
            numbers = new Row(MOST_SAID);
        }

        void begin(int itsKind, int itsFid, Row itsNumbers) {
            kind = itsKind;
            fid = itsFid;
            numbers.copyFrom(itsNumbers);
            waits = true;
        }
    }

    /** A fid names its node by tree and path, as the node's block changes and the node may go. */
    private static final class Fid {
        private boolean inUse;
        private boolean open;
        private int user;
        private int tree;
        private int path;
        private int openMode;
        private int readEnd;

        void take(int itsUser, int itsTree, int itsPath) {
            inUse = true;
            open = false;
            user = itsUser;
            tree = itsTree;
            path = itsPath;
        }

        void openAs(int itsOpenMode) {
            open = true;
            openMode = itsOpenMode;
            readEnd = 0;
        }

        void free() {
            inUse = false;
            open = false;
        }

        boolean isInSnapshot() {
            return tree != PRESENT;
        }
    }

    private static final class Connection {
        private final Fid[] fids;
        private final Request[] requests;

        Connection() {
            fids = new Fid[FIDS];
            for (int i = 0; i < FIDS; i++) {
                fids[i] = new Fid();
            }
            requests = new Request[TAGS];
            for (int i = 0; i < TAGS; i++) {
                requests[i] = new Request();
            }
        }

        Fid fidAt(int i) {
            return i >= 0 && i < FIDS ? fids[i] : null;
        }

        Request requestAt(int tag) {
            return tag >= 0 && tag < TAGS ? requests[tag] : null;
        }

        int countRequests() {
            int count = 0;
            for (int i = 0; i < TAGS; i++) {
                if (requests[i].waits) {
                    count++;
                }
            }
            return count;
        }

        void dropRequests() {
            for (int i = 0; i < TAGS; i++) {
                requests[i].waits = false;
            }
        }

        void dropFids() {
            for (int i = 0; i < FIDS; i++) {
                fids[i].free();
            }
        }

        boolean hasOpen(int tree, int path) {
            for (int i = 0; i < FIDS; i++) {
                if (fids[i].open && fids[i].tree == tree && fids[i].path == path) {
                    return true;
                }
            }
            return false;
        }
    }

    /** A node as one or more trees have it; a bit for each tree says whether it does. */
    private static final class Block {
        private final int[] bytes;
        private int trees;
        private int path;
        private int above;
        private int title;
        private int owner;
        private int group;
        private int version;
        private int mode;
        private int length;

        Block() {
            bytes = new int[MOST_BYTES];
        }

        boolean isIn(int tree) {
            return (trees & (1 << tree)) != 0;
        }

        boolean isInOthersThan(int tree) {
            return (trees & ~(1 << tree)) != 0;
        }

        void enter(int tree) {
            trees |= 1 << tree;
        }

        void leave(int tree) {
            trees &= ~(1 << tree);
        }

        boolean is(int modeBit) {
            return (mode & modeBit) != 0;
        }

        boolean isDirectory() {
            return is(DIRECTORY);
        }

        /** The root is its own directory above, but no node of a directory. */
        boolean isNodeOf(int tree, Block directory) {
            return (trees & (1 << tree)) != 0 && above == directory.path && path != ROOT;
        }

        void begin(int itsPath, int itsAbove, int itsTitle, int itsOwner, int itsGroup, int itsMode) {
            path = itsPath;
            above = itsAbove;
            title = itsTitle;
            owner = itsOwner;
            group = itsGroup;
            mode = itsMode;
            version = 0;
            length = 0;
        }

        void copyNodeFrom(Block other) {
            path = other.path;
            above = other.above;
            title = other.title;
            owner = other.owner;
            group = other.group;
            version = other.version;
            mode = other.mode;
            length = other.length;
            for (int i = 0; i < MOST_BYTES; i++) {
                bytes[i] = other.bytes[i];
            }
        }

        int byteAt(int i) {
            return i >= 0 && i < MOST_BYTES ? bytes[i] : 0;
        }

        /** What comes behind the old length is zero, whatever stood there before. */
        void setLength(int newLength) {
            for (int i = length; i < newLength && i < MOST_BYTES; i++) {
                bytes[i] = 0;
            }
            length = newLength;
        }

        void putBytes(int start, Row numbers) {
            int count = numbers.count - 1;
            if (start < 0 || start > MOST_BYTES - count) {
                return;
            }
            setLength(Math.max(length, start + count));
            for (int i = 0; i < count; i++) {
                bytes[start + i] = numbers.at(i + 1);
            }
        }
    }

    /** All blocks of all trees: a tree is the set of the blocks that bear its bit. */
    private static final class Store {
        private final Block[] pool;
        private int snapshots;
        private int paths;

        Store() {
            pool = new Block[MOST_BLOCKS];
            for (int i = 0; i < MOST_BLOCKS; i++) {
                pool[i] = new Block();
            }
            pool[0].begin(ROOT, ROOT, 0, 0, 0, DIRECTORY | ALL_RIGHTS);
            pool[0].enter(PRESENT);
            pool[0].enter(SAVED);
        }

        Block find(int tree, int path) {
            int bit = 1 << tree;
            for (int i = 0; i < MOST_BLOCKS; i++) {
                if (pool[i].path == path && (pool[i].trees & bit) != 0) {
                    return pool[i];
                }
            }
            return null;
        }

        Block above(int tree, Block node) {
            return node.path == ROOT ? null : find(tree, node.above);
        }

        Block child(int tree, Block directory, int title) {
            Block next = childBehind(tree, directory, title - 1);
            return next != null && next.title == title ? next : null;
        }

        /** The node of a directory with the lowest title above a number. */
        Block childBehind(int tree, Block directory, int number) {
            Block lowest = null;
            for (int i = 0; i < MOST_BLOCKS; i++) {
                Block block = pool[i];
                boolean fits = block.isNodeOf(tree, directory) && block.title > number;
                if (fits && (lowest == null || block.title < lowest.title)) {
                    lowest = block;
                }
            }
            return lowest;
        }

        int countChildren(int tree, Block directory) {
            int count = 0;
            for (int i = 0; i < MOST_BLOCKS; i++) {
                if (pool[i].isNodeOf(tree, directory)) {
                    count++;
                }
            }
            return count;
        }

        int countBlocks() {
            int count = 0;
            for (int i = 0; i < MOST_BLOCKS; i++) {
                if (pool[i].trees != 0) {
                    count++;
                }
            }
            return count;
        }

        int countNodes() {
            int count = 0;
            for (int i = 0; i < MOST_BLOCKS; i++) {
                if (pool[i].isIn(PRESENT)) {
                    count++;
                }
            }
            return count;
        }

        int countUnsaved() {
            int count = 0;
            for (int i = 0; i < MOST_BLOCKS; i++) {
                if (pool[i].isIn(PRESENT) && !pool[i].isInOthersThan(PRESENT)) {
                    count++;
                }
            }
            return count;
        }

        int countAbove(Block node) {
            int count = 0;
            Block here = above(PRESENT, node);
            for (int i = 0; i < MOST_NODES && here != null; i++) {
                count++;
                here = above(PRESENT, here);
            }
            return count;
        }

        /** Whether a node can be changed and some new nodes be made; nothing counts that is taken away. */
        boolean hasRoom(Block node, int newNodes) {
            int needed = newNodes;
            Block here = node;
            for (int i = 0; i < MOST_NODES && here != null; i++) {
                if (here.isInOthersThan(PRESENT)) {
                    needed++;
                }
                here = above(PRESENT, here);
            }
            return countBlocks() + needed <= MOST_BLOCKS;
        }

        boolean hasRoomIn(Block directory) {
            return countChildren(PRESENT, directory) < MOST_IN_DIRECTORY
                    && countAbove(directory) < MOST_ABOVE
                    && countNodes() < MOST_NODES
                    && hasRoom(directory, 1);
        }

        /** Gives a node and all directories above it blocks of the present tree's own; tells the node's. */
        Block change(Block node) {
            Block changed = ownBlockOf(node);
            Block here = above(PRESENT, node);
            for (int i = 0; i < MOST_NODES && here != null; i++) {
                here = above(PRESENT, ownBlockOf(here));
            }
            return changed;
        }

        private Block ownBlockOf(Block block) {
            if (!block.isInOthersThan(PRESENT)) {
                return block;
            }
            Block own = freeBlock();
            if (own == null) {
                return block;
            }
            own.copyNodeFrom(block);
            own.enter(PRESENT);
            block.leave(PRESENT);
            return own;
        }

        private Block freeBlock() {
            for (int i = 0; i < MOST_BLOCKS; i++) {
                if (pool[i].trees == 0) {
                    return pool[i];
                }
            }
            return null;
        }

        /** Null if no block is free, which hasRoomIn rules out. */
        Block add(Block directory, int title, int owner, int mode) {
            Block node = freeBlock();
            if (node == null) {
                return null;
            }
            int passedOn = (mode & DIRECTORY) != 0 ? ALL_RIGHTS : ALL_READS_AND_WRITES;
            int itsMode = mode & (~passedOn | directory.mode);
            paths++;
            node.begin(paths, directory.path, title, owner, directory.group, itsMode);
            node.enter(PRESENT);
            directory.version++;
            return node;
        }

        /** Makes one tree the same as another one: from then on they have the same blocks. */
        void copyTree(int from, int to) {
            for (int i = 0; i < MOST_BLOCKS; i++) {
                if (pool[i].isIn(from)) {
                    pool[i].enter(to);
                } else {
                    pool[i].leave(to);
                }
            }
        }

        int addSnapshot() {
            snapshots++;
            copyTree(PRESENT, snapshots);
            return snapshots;
        }
    }
}
