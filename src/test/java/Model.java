import java.util.ArrayList;
import java.util.HashSet;
import java.util.List;
import java.util.Random;
import java.util.Set;
import java.util.TreeMap;

/**
 * The document once more, held in another way: each tree has nodes of its own, copied whole,
 * and a block is only a number that a node bears. So whatever the program shares wrongly differs here.
 */
final class Model {
    static final class Node {
        int path;
        int title;
        int owner;
        int group;
        int version;
        int mode;
        int block;
        Node above;
        List<Integer> bytes = new ArrayList<>();
        TreeMap<Integer, Node> inside = new TreeMap<>();

        boolean isDirectory() {
            return (mode & 2048) != 0;
        }

        Node copy(Node newAbove) {
            Node node = new Node();
            node.path = path;
            node.title = title;
            node.owner = owner;
            node.group = group;
            node.version = version;
            node.mode = mode;
            node.block = block;
            node.above = newAbove == null ? node : newAbove;
            node.bytes = new ArrayList<>(bytes);
            inside.forEach((key, child) -> node.inside.put(key, child.copy(node)));
            return node;
        }

        void collect(List<Node> into) {
            into.add(this);
            inside.values().forEach(child -> child.collect(into));
        }

        int depth() {
            return above == this ? 0 : 1 + above.depth();
        }
    }

    static final class Handle {
        int user;
        int tree;
        int path;
        int openMode = -1;
        int end;
    }

    static final class Asked {
        int kind;
        int fid;
        List<Integer> numbers;
    }

    /** An answer below 0, thrown from wherever it is found to hold. */
    static final class Answer extends RuntimeException {
        private static final long serialVersionUID = 1L;
        final int number;

        Answer(int number) {
            super(null, null, false, false);
            this.number = number;
        }
    }

    private final Set<Integer> pairs = new HashSet<>();
    private final Handle[][] handles = new Handle[2][6];
    private final Asked[][] asked = new Asked[2][8];
    private final List<Node> snapshots = new ArrayList<>();
    private List<Integer> said = new ArrayList<>();
    private List<Integer> reply = new ArrayList<>();
    private Node present;
    private Node saved;
    private int lastPath = 0;
    private int lastBlock = 0;

    Model() {
        present = new Node();
        present.mode = 2048 + 511;
        present.above = present;
        saved = present.copy(null);
    }

    boolean member(int user, int group) {
        boolean wrong = user < 0 || user > 3 || group < 0 || group > 3;
        return !wrong && user != group && pairs.add(user * 10 + group);
    }

    boolean say(int number) {
        return said.size() < 4 && said.add(number);
    }

    private boolean isTag(int connection, int tag) {
        return connection >= 0 && connection < 2 && tag >= 0 && tag < 8;
    }

    boolean send(int connection, int tag, int kind, int fid) {
        if (!isTag(connection, tag) || kind < 0 || kind > 9 || fid < 0 || fid > 5) {
            return false;
        }
        if (asked[connection][tag] != null) {
            return false;
        }
        Asked request = new Asked();
        request.kind = kind;
        request.fid = fid;
        request.numbers = said;
        asked[connection][tag] = request;
        said = new ArrayList<>();
        return true;
    }

    int serve(int connection, int tag) {
        if (!isTag(connection, tag) || asked[connection][tag] == null) {
            return -20;
        }
        Asked request = asked[connection][tag];
        asked[connection][tag] = null;
        reply = new ArrayList<>();
        try {
            return answer(connection, request.kind, request.fid, request.numbers);
        } catch (Answer answer) {
            return answer.number;
        }
    }

    boolean flush(int connection, int tag) {
        if (!isTag(connection, tag) || asked[connection][tag] == null) {
            return false;
        }
        asked[connection][tag] = null;
        return true;
    }

    boolean hangUp(int connection) {
        if (connection < 0 || connection > 1) {
            return false;
        }
        asked[connection] = new Asked[8];
        for (int i = 0; i < 6; i++) {
            if (handles[connection][i] != null) {
                clunk(connection, i);
            }
        }
        return true;
    }

    int reply(int i) {
        return i == -1 ? reply.size() : i >= 0 && i < reply.size() ? reply.get(i) : 0;
    }

    int waiting(int connection) {
        if (connection < 0 || connection > 1) {
            return -1;
        }
        int count = 0;
        for (Asked one : asked[connection]) {
            count += one == null ? 0 : 1;
        }
        return count;
    }

    int fid(int connection, int fid) {
        if (connection < 0 || connection > 1 || fid < 0 || fid > 5) {
            return -1;
        }
        Handle handle = handles[connection][fid];
        return handle == null ? 0 : (handle.openMode < 0 ? 1 : 2) + (handle.tree > 0 ? 4 : 0);
    }

    int sync(int most) {
        Set<Integer> kept = keptBlocks();
        int writes = 1;
        for (Node node : nodesOf(present)) {
            writes += kept.contains(node.block) ? 0 : 1;
        }
        boolean cut = most >= 0 && most <= writes;
        if (!cut || most == writes) {
            saved = present.copy(null);
        }
        if (cut) {
            crash();
        }
        return cut ? most : writes;
    }

    int snapshot() {
        if (snapshots.size() == 4) {
            return -1;
        }
        sync(-1);
        snapshots.add(present.copy(null));
        return snapshots.size();
    }

    void crash() {
        present = saved.copy(null);
        for (int i = 0; i < 2; i++) {
            handles[i] = new Handle[6];
            asked[i] = new Asked[8];
        }
        said = new ArrayList<>();
        reply = new ArrayList<>();
    }

    int blocks() {
        return allBlocks().size();
    }

    int nodes() {
        return nodesOf(present).size();
    }

    int countSnapshots() {
        return snapshots.size();
    }

    /** The titles that lead from the root of a tree to one of its nodes. */
    List<Integer> routeTo(int tree, Random random) {
        List<Node> nodes = nodesOf(tree == 0 ? present : snapshots.get(tree - 1));
        List<Integer> route = new ArrayList<>();
        for (Node node = nodes.get(random.nextInt(nodes.size())); node != node.above; node = node.above) {
            route.add(0, node.title);
        }
        return route;
    }

    private static List<Node> nodesOf(Node root) {
        List<Node> nodes = new ArrayList<>();
        root.collect(nodes);
        return nodes;
    }

    private Set<Integer> keptBlocks() {
        Set<Integer> kept = new HashSet<>();
        nodesOf(saved).forEach(node -> kept.add(node.block));
        for (Node root : snapshots) {
            nodesOf(root).forEach(node -> kept.add(node.block));
        }
        return kept;
    }

    private Set<Integer> allBlocks() {
        Set<Integer> all = keptBlocks();
        nodesOf(present).forEach(node -> all.add(node.block));
        return all;
    }

    private static void when(boolean holds, int answer) {
        if (holds) {
            throw new Answer(answer);
        }
    }

    private int answer(int connection, int kind, int fid, List<Integer> n) {
        int[][] counts = {{2, 2}, {1, 4}, {1, 1}, {3, 3}, {2, 2}, {1, 4}, {0, 0}, {0, 0}, {0, 0}, {4, 4}};
        when(n.size() < counts[kind][0] || n.size() > counts[kind][1], -7);
        Handle handle = handles[connection][fid];
        if (kind == 0) {
            when(handle != null, -2);
            return attach(connection, fid, n.get(0), n.get(1));
        }
        when(kind == 1 && (n.get(0) < 0 || n.get(0) > 5), -7);
        when(handle == null, -1);
        if (kind == 6) {
            return clunk(connection, fid);
        }
        if (kind == 7) {
            handles[connection][fid] = null;
            return remove(handle);
        }
        when((kind == 1 || kind == 2 || kind == 3) && handle.openMode >= 0, -8);
        when(kind == 4 && (handle.openMode < 0 || handle.openMode % 4 == 1), -8);
        when(kind == 5 && (handle.openMode < 0 || handle.openMode % 4 == 0), -8);
        when(kind == 1 && n.get(0) != fid && handles[connection][n.get(0)] != null, -2);
        Node node = nodeAt(handle);
        when(node == null, -13);
        switch (kind) {
            case 1: return walk(connection, handle, node, n);
            case 2: return open(handle, node, n.get(0));
            case 3: return create(handle, node, n);
            case 4: return read(handle, node, n.get(0), n.get(1));
            case 5: return write(node, n);
            case 8: return stat(node);
            default: return wstat(handle, node, n);
        }
    }

    private Node nodeAt(Handle handle) {
        for (Node node : nodesOf(handle.tree == 0 ? present : snapshots.get(handle.tree - 1))) {
            if (node.path == handle.path) {
                return node;
            }
        }
        return null;
    }

    private boolean isMember(int user, int group) {
        return user == group || pairs.contains(user * 10 + group);
    }

    private boolean has(int user, Node node, char right) {
        int bit = right == 'r' ? 4 : right == 'w' ? 2 : 1;
        boolean others = (node.mode & bit) != 0;
        boolean group = isMember(user, node.group) && (node.mode & bit * 8) != 0;
        boolean owner = user == node.owner && (node.mode & bit * 64) != 0;
        return others || group || owner;
    }

    private void room(Node changed, int more) {
        Set<Integer> kept = keptBlocks();
        int needed = more;
        for (Node node = changed;; node = node.above) {
            needed += kept.contains(node.block) ? 1 : 0;
            if (node == node.above) {
                break;
            }
        }
        when(allBlocks().size() + needed > 64, -11);
    }

    private void change(Node changed) {
        Set<Integer> kept = keptBlocks();
        for (Node node = changed;; node = node.above) {
            if (kept.contains(node.block)) {
                node.block = ++lastBlock;
            }
            if (node == node.above) {
                break;
            }
        }
    }

    private void tell(int... numbers) {
        for (int number : numbers) {
            reply.add(number);
        }
    }

    private int attach(int connection, int fid, int user, int tree) {
        when(user < 0 || user > 3 || tree < 0 || tree > snapshots.size(), -7);
        Handle handle = new Handle();
        handle.user = user;
        handle.tree = tree;
        handles[connection][fid] = handle;
        Node root = nodeAt(handle);
        tell(root.path, root.version, root.mode);
        return 0;
    }

    private int walk(int connection, Handle handle, Node start, List<Integer> n) {
        Node here = start;
        int went = 0;
        try {
            for (int title : n.subList(1, n.size())) {
                when(!here.isDirectory(), -4);
                when(!has(handle.user, here, 'x'), -5);
                when(title != 0 && !here.inside.containsKey(title), -3);
                here = title == 0 ? here.above : here.inside.get(title);
                went++;
            }
        } catch (Answer answer) {
            if (went == 0) {
                throw answer;
            }
            tell(here.path, here.version, here.mode);
            return went;
        }
        Handle there = new Handle();
        there.user = handle.user;
        there.tree = handle.tree;
        there.path = here.path;
        handles[connection][n.get(0)] = there;
        tell(here.path, here.version, here.mode);
        return went;
    }

    private static boolean isOpenMode(int mode) {
        int rest = mode;
        if (rest >= 64) {
            rest -= 64;
        }
        if (rest >= 16) {
            rest -= 16;
        }
        return rest >= 0 && rest <= 2;
    }

    private int open(Handle handle, Node node, int mode) {
        when(!isOpenMode(mode), -7);
        when(node.isDirectory() && mode != 0, -4);
        when(handle.tree > 0 && mode != 0, -9);
        boolean truncates = mode / 16 % 2 == 1;
        when(mode % 4 != 1 && !has(handle.user, node, 'r'), -5);
        when((mode % 4 != 0 || truncates) && !has(handle.user, node, 'w'), -5);
        when(mode >= 64 && (node.path == 0 || !has(handle.user, node.above, 'w')), -5);
        for (Handle[] row : handles) {
            for (Handle other : row) {
                boolean same = other != null && other.openMode >= 0;
                same = same && other.tree == handle.tree && other.path == handle.path;
                when(same && (node.mode & 1024) != 0, -10);
            }
        }
        if (truncates && (node.mode & 512) == 0) {
            room(node, 0);
            change(node);
            node.bytes.clear();
            node.version++;
        }
        handle.openMode = mode;
        handle.end = 0;
        tell(node.path, node.version);
        return 0;
    }

    private int create(Handle handle, Node directory, List<Integer> n) {
        int title = n.get(0);
        int mode = n.get(1);
        when(!directory.isDirectory(), -4);
        when(handle.tree > 0, -9);
        when(title < 1 || title > 99 || mode < 0 || mode > 4095 || !isOpenMode(n.get(2)), -7);
        when(mode >= 2048 && n.get(2) != 0, -7);
        when(!has(handle.user, directory, 'w'), -5);
        when(directory.inside.containsKey(title), -6);
        when(directory.inside.size() == 8 || directory.depth() == 6 || nodes() == 20, -11);
        room(directory, 1);
        change(directory);
        Node node = new Node();
        node.path = ++lastPath;
        node.block = ++lastBlock;
        node.title = title;
        node.owner = handle.user;
        node.group = directory.group;
        node.mode = mode;
        for (int bit = 1; bit <= 256; bit *= 2) {
            boolean isPass = bit == 1 || bit == 8 || bit == 64;
            boolean counts = mode >= 2048 || !isPass;
            if (counts && (directory.mode & bit) == 0) {
                node.mode &= ~bit;
            }
        }
        node.above = directory;
        directory.inside.put(title, node);
        directory.version++;
        handle.path = node.path;
        handle.openMode = n.get(2);
        handle.end = 0;
        tell(node.path, node.version);
        return 0;
    }

    private int read(Handle handle, Node node, int offset, int count) {
        when(offset < 0 || count < 0 || count > 8, -7);
        when(node.isDirectory() && offset != 0 && offset != handle.end, -7);
        List<Integer> all = node.isDirectory() ? new ArrayList<>(node.inside.keySet()) : node.bytes;
        for (int i = offset; i < all.size() && reply.size() < count; i++) {
            reply.add(all.get(i));
        }
        handle.end = offset + reply.size();
        return reply.size();
    }

    private int write(Node node, List<Integer> n) {
        List<Integer> bytes = n.subList(1, n.size());
        when(n.get(0) < 0, -7);
        for (int one : bytes) {
            when(one < 0 || one > 255, -7);
        }
        if (bytes.isEmpty()) {
            return 0;
        }
        long start = (node.mode & 512) != 0 ? node.bytes.size() : n.get(0);
        when(start + bytes.size() > 16, -11);
        room(node, 0);
        change(node);
        for (int i = 0; i < bytes.size(); i++) {
            while (node.bytes.size() <= start + i) {
                node.bytes.add(0);
            }
            node.bytes.set((int) start + i, bytes.get(i));
        }
        node.version++;
        return bytes.size();
    }

    private int clunk(int connection, int fid) {
        Handle handle = handles[connection][fid];
        handles[connection][fid] = null;
        if (handle.openMode >= 64) {
            try {
                remove(handle);
            } catch (Answer answer) {
                return 0;
            }
        }
        return 0;
    }

    private int remove(Handle handle) {
        Node node = nodeAt(handle);
        when(node == null, -13);
        when(handle.tree > 0, -9);
        when(node.path == 0 || !has(handle.user, node.above, 'w'), -5);
        when(!node.inside.isEmpty(), -12);
        room(node.above, 0);
        change(node.above);
        node.above.inside.remove(node.title);
        node.above.version++;
        return 0;
    }

    private int stat(Node node) {
        tell(node.path, node.version, node.mode, node.bytes.size(), node.owner, node.group, node.title);
        return 0;
    }

    private int wstat(Handle handle, Node node, List<Integer> n) {
        int title = n.get(0);
        int mode = n.get(1);
        int length = n.get(2);
        int group = n.get(3);
        when(handle.tree > 0, -9);
        when(title != -1 && (title < 1 || title > 99 || node.path == 0), -7);
        when(mode < -1 || mode > 2047, -7);
        when(length < -1 || length > 16 || length != -1 && node.isDirectory(), -7);
        when(group < -1 || group > 3, -7);
        when(title != -1 && !has(handle.user, node.above, 'w'), -5);
        when((mode != -1 || group != -1) && handle.user != node.owner, -5);
        when(length != -1 && !has(handle.user, node, 'w'), -5);
        when(group != -1 && !isMember(handle.user, group), -5);
        boolean renames = title != -1 && title != node.title;
        when(renames && node.above.inside.containsKey(title), -6);
        if (renames || mode != -1 || length != -1 || group != -1) {
            room(node, 0);
            change(node);
        }
        if (renames) {
            node.above.inside.remove(node.title);
            node.title = title;
            node.above.inside.put(title, node);
            node.above.version++;
        }
        node.mode = mode == -1 ? node.mode : node.mode / 2048 * 2048 + mode;
        node.group = group == -1 ? node.group : group;
        if (length != -1) {
            node.version++;
            while (node.bytes.size() > length) {
                node.bytes.remove(node.bytes.size() - 1);
            }
            while (node.bytes.size() < length) {
                node.bytes.add(0);
            }
        }
        return 0;
    }
}
