import java.util.ArrayList;
import java.util.LinkedHashMap;
import java.util.List;
import java.util.Map;
import java.util.StringJoiner;
import java.util.TreeMap;
import java.util.TreeSet;

/**
 * The document's words once more, in the plainest form and without thought of room or speed. It holds its state in
 * other ways than Blockfabric does (lines that come and go, whole copies, a search over all rows of switches), so that
 * one mistake is not made twice.
 */
final class Model {
    private static final int NONE = -1;
    private static final String[] KIND_OF_LINE = {"from ", "to ", "between "};
    private static final String[] STATUS = {"good", "check", "conflict", "busy", "denied"};

    private static final class Switch {
        boolean isUp = true;
        int priority = 5;
        int domain = 1;
    }

    private static final class Node {
        int at = NONE;
        boolean isIn;
        final List<Piece> row = new ArrayList<>();
        final List<Integer> notices = new ArrayList<>();
        TreeSet<Integer> saw = new TreeSet<>();
    }

    private static final class Line {
        final List<Piece> buffer = new ArrayList<>();
        int leaked;

        int credits() {
            return 2 - leaked - buffer.size();
        }
    }

    private record Piece(Exchange of, boolean isFirst, int number, boolean isAck) {
        int goal() {
            return isFirst == isAck ? of.host : of.port;
        }

        boolean mayLeave() {
            return isAck || !of.isAcked || number < (isFirst ? of.acksOfHost : of.acksOfPort) + 2;
        }

        String tell() {
            return of.number + (isFirst ? ">" : "<") + number + (isAck ? "!" : "");
        }
    }

    private static final class Exchange {
        int number, host, port, tag, kind, volume, block, many, value;
        boolean isAcked, isUrgent;
        int state, status = NONE, began, ended;
        int tookPort, tookHost, acksOfHost, acksOfPort;
        final List<Integer> got = new ArrayList<>();

        int lengthOfFirst() {
            return kind == 1 ? many + 1 : 1;
        }

        int lengthOfSecond() {
            return kind == 0 && status == 0 ? many + 1 : 1;
        }
    }

    private static final class Controller {
        boolean isUp = true;
        final List<Exchange> queue = new ArrayList<>();
        final Map<Integer, Integer> cache = new LinkedHashMap<>();
    }

    private static final class Side {
        boolean isFit = true;
        boolean isInStep = true;
        final int[] values = new int[8];
        final TreeSet<Integer> marks = new TreeSet<>();
    }

    private static final class Copy {
        final int[] told = new int[8];
        final TreeSet<Integer> kept = new TreeSet<>();
    }

    private static final class Volume {
        final Side[] sides = {new Side(), new Side()};
        final Copy[] copies = new Copy[2];
        int holder = NONE;
        final TreeSet<Integer> attention = new TreeSet<>();
        final TreeSet<Integer> denied = new TreeSet<>();
    }

    private final Switch[] switches = new Switch[4];
    private final int[][] costs = new int[4][4];
    private final Node[] nodes = new Node[8];
    private final List<TreeSet<Integer>> zones = new ArrayList<>();
    private final Map<String, Line> lines = new TreeMap<>();
    private final List<Exchange> exchanges = new ArrayList<>();
    private final int[] manners = new int[4];
    private final Controller[] controllers = {new Controller(), new Controller()};
    private final Volume[] volumes = new Volume[4];
    private int refused;
    private int ticks;
    private int crossed;

    Model() {
        for (int i = 0; i < 4; i++) {
            switches[i] = new Switch();
            zones.add(new TreeSet<>());
            volumes[i] = new Volume();
        }
        for (int i = 0; i < 8; i++) {
            nodes[i] = new Node();
        }
    }

    // ---- what throws, and what is refused

    private static void index(int index, int bound) {
        if (index < 0 || index >= bound) {
            throw new IndexOutOfBoundsException();
        }
    }

    private static void argument(boolean isRight) {
        if (!isRight) {
            throw new IllegalArgumentException();
        }
    }

    private static void state(boolean isRight) {
        if (!isRight) {
            throw new IllegalStateException();
        }
    }

    private static void pair(int one, int other) {
        index(one, 4);
        index(other, 4);
        if (one == other) {
            throw new IndexOutOfBoundsException();
        }
    }

    private static void line(int kind, int one, int other) {
        argument(kind >= 0 && kind <= 2);
        argument(one >= 0 && one < (kind == 2 ? 4 : 8));
        argument(kind != 2 || other >= 0 && other < 4);
    }

    private int refuse() {
        refused++;
        return -9;
    }

    // ---- switches, domains, zones

    int link(int one, int other, int cost) {
        pair(one, other);
        argument(cost >= 1 && cost <= 9);
        int before = cost(one, other);
        costs[one][other] = cost;
        costs[other][one] = cost;
        lines.putIfAbsent("between " + one + " " + other, new Line());
        lines.putIfAbsent("between " + other + " " + one, new Line());
        lookAtDomains();
        look();
        return before;
    }

    int unlink(int one, int other) {
        pair(one, other);
        if (costs[one][other] == 0) {
            return refuse();
        }
        int before = costs[one][other];
        costs[one][other] = 0;
        costs[other][one] = 0;
        lines.remove("between " + one + " " + other);
        lines.remove("between " + other + " " + one);
        lookAtDomains();
        look();
        return before;
    }

    int fall(int which) {
        index(which, 4);
        state(switches[which].isUp);
        int count = 0;
        for (Node node : nodes) {
            count += node.isIn && node.at == which ? 1 : 0;
        }
        switches[which].isUp = false;
        logOutAt(which);
        for (Map.Entry<String, Line> entry : lines.entrySet()) {
            if (touches(entry.getKey(), which)) {
                entry.getValue().buffer.clear();
            }
        }
        lookAtDomains();
        look();
        return count;
    }

    private boolean touches(String line, int which) {
        String[] words = line.split(" ");
        int one = Integer.parseInt(words[1]);
        return words[0].equals("between") ? one == which || Integer.parseInt(words[2]) == which
            : nodes[one].at == which;
    }

    int rise(int which) {
        index(which, 4);
        state(!switches[which].isUp);
        switches[which].isUp = true;
        lookAtDomains();
        look();
        return switches[which].domain;
    }

    int priority(int which, int priority) {
        index(which, 4);
        argument(priority >= 1 && priority <= 9);
        switches[which].priority = priority;
        lookAtDomains();
        look();
        return principal(which);
    }

    int attach(int node, int which) {
        index(node, 8);
        argument(which >= NONE && which < 4);
        if (nodes[node].isIn) {
            return refuse();
        }
        int before = nodes[node].at;
        if (before != which) {
            lines.remove("from " + node);
            lines.remove("to " + node);
            nodes[node].at = which;
            if (which != NONE) {
                lines.put("from " + node, new Line());
                lines.put("to " + node, new Line());
            }
        }
        look();
        return before;
    }

    int login(int node) {
        index(node, 8);
        Node it = nodes[node];
        if (it.isIn || it.at == NONE || !switches[it.at].isUp || node > 3 && !controllers[node % 2].isUp) {
            return refuse();
        }
        it.isIn = true;
        look();
        return address(node);
    }

    int logout(int node) {
        index(node, 8);
        if (!nodes[node].isIn) {
            return refuse();
        }
        int before = house(7);
        nodes[node].isIn = false;
        look();
        return house(7) - before;
    }

    int zone(int zone, int node, boolean isIn) {
        index(zone, 4);
        index(node, 8);
        if (isIn) {
            zones.get(zone).add(node);
        } else {
            zones.get(zone).remove(node);
        }
        look();
        return zones.get(zone).size();
    }

    private void logOutAt(int which) {
        for (Node node : nodes) {
            if (node.at == which) {
                node.isIn = false;
            }
        }
    }

    private boolean isAlive(int one, int other) {
        return costs[one][other] > 0 && switches[one].isUp && switches[other].isUp;
    }

    /** Over all rows of switches that are met once each; NONE without. */
    private int least(int from, int to, int met) {
        if (from == to) {
            return 0;
        }
        int best = NONE;
        for (int next = 0; next < 4; next++) {
            if (isAlive(from, next) && (met >> next & 1) == 0) {
                int rest = least(next, to, met | 1 << next);
                if (rest != NONE && (best == NONE || costs[from][next] + rest < best)) {
                    best = costs[from][next] + rest;
                }
            }
        }
        return best;
    }

    int far(int from, int to) {
        index(from, 4);
        index(to, 4);
        return least(from, to, 1 << from);
    }

    int way(int from, int to) {
        index(from, 4);
        index(to, 4);
        if (from == to) {
            return to;
        }
        for (int next = 0; next < 4; next++) {
            if (isAlive(from, next) && far(next, to) != NONE && costs[from][next] + far(next, to) == far(from, to)) {
                return next;
            }
        }
        return NONE;
    }

    private TreeSet<Integer> fabric(int which) {
        TreeSet<Integer> fabric = new TreeSet<>();
        for (int other = 0; other < 4 && switches[which].isUp; other++) {
            if (far(which, other) != NONE) {
                fabric.add(other);
            }
        }
        return fabric;
    }

    private int principal(int which) {
        int best = NONE;
        for (int other : fabric(which)) {
            if (best == NONE || switches[other].priority < switches[best].priority) {
                best = other;
            }
        }
        return best;
    }

    private void lookAtDomains() {
        for (int which = 0; which < 4; which++) {
            TreeSet<Integer> fabric = fabric(which);
            if (!fabric.isEmpty() && fabric.first() == which) {
                List<Integer> sequence = new ArrayList<>(fabric);
                sequence.remove((Integer) principal(which));
                sequence.add(0, principal(which));
                lookAtDomainsOf(sequence);
            }
        }
    }

    private void lookAtDomainsOf(List<Integer> sequence) {
        TreeSet<Integer> ahead = new TreeSet<>();
        for (int which : sequence) {
            if (ahead.contains(switches[which].domain)) {
                TreeSet<Integer> all = new TreeSet<>();
                for (int other : sequence) {
                    all.add(switches[other].domain);
                }
                int free = 1;
                while (all.contains(free)) {
                    free++;
                }
                switches[which].domain = free;
                logOutAt(which);
            }
            ahead.add(switches[which].domain);
        }
    }

    private boolean see(int one, int other) {
        Node first = nodes[one];
        Node second = nodes[other];
        if (one == other || !first.isIn || !second.isIn || !fabric(first.at).contains(second.at)) {
            return false;
        }
        for (TreeSet<Integer> zone : zones) {
            if (zone.contains(one) && zone.contains(other)) {
                return true;
            }
        }
        return false;
    }

    private TreeSet<Integer> seen(int node) {
        TreeSet<Integer> seen = new TreeSet<>();
        for (int other = 0; other < 8; other++) {
            if (see(node, other)) {
                seen.add(other);
            }
        }
        return seen;
    }

    private void look() {
        for (int node = 0; node < 8; node++) {
            lookFrom(node);
        }
        for (Exchange exchange : exchanges) {
            if (exchange.state == 0 && !see(exchange.host, exchange.port)) {
                end(exchange, 2);
            }
        }
    }

    private void lookFrom(int node) {
        Node it = nodes[node];
        TreeSet<Integer> seen = seen(node);
        if (!it.isIn) {
            it.notices.clear();
        }
        for (int other = 0; other < 8 && it.isIn; other++) {
            if (seen.contains(other) != it.saw.contains(other)) {
                it.notices.add(seen.contains(other) ? other + 1 : -(other + 1));
            }
        }
        while (it.notices.size() > 8) {
            it.notices.remove(0);
        }
        it.saw = seen;
    }

    // ---- commands

    int read(int host, int tag, int volume, int block, int many) {
        command(host, tag, volume);
        blocks(block, many);
        return begin(host, tag, volume, 0, block, many, 0);
    }

    int write(int host, int tag, int volume, int block, int many, int value) {
        command(host, tag, volume);
        blocks(block, many);
        argument(value >= 0 && value <= 999);
        return begin(host, tag, volume, 1, block, many, value);
    }

    int control(int host, int tag, int volume, int kind) {
        command(host, tag, volume);
        argument(kind >= 2 && kind <= 6);
        return begin(host, tag, volume, kind, 0, 0, 0);
    }

    private static void command(int host, int tag, int volume) {
        index(host, 4);
        index(tag, 4);
        index(volume, 4);
    }

    private static void blocks(int block, int many) {
        argument(block >= 0 && block <= 7);
        argument(many >= 1 && many <= 4);
        argument(block + many <= 8);
    }

    private int begin(int host, int tag, int volume, int kind, int block, int many, int value) {
        Exchange last = last(host, tag);
        int port = path(host, volume);
        if (last != null && last.state == 0 || port == NONE) {
            return refuse();
        }
        Exchange exchange = new Exchange();
        exchanges.add(exchange);
        exchange.number = exchanges.size();
        exchange.host = host;
        exchange.port = port;
        exchange.tag = tag;
        exchange.kind = kind;
        exchange.volume = volume;
        exchange.block = block;
        exchange.many = many;
        exchange.value = value;
        exchange.isAcked = manners[host] % 2 == 1;
        exchange.isUrgent = manners[host] >= 2;
        exchange.began = ticks;
        for (int number = 0; number < exchange.lengthOfFirst(); number++) {
            nodes[host].row.add(new Piece(exchange, true, number, false));
        }
        return exchange.number;
    }

    private Exchange last(int host, int tag) {
        Exchange last = null;
        for (Exchange exchange : exchanges) {
            if (exchange.host == host && exchange.tag == tag) {
                last = exchange;
            }
        }
        return last;
    }

    int again(int host, int tag) {
        index(host, 4);
        index(tag, 4);
        Exchange last = last(host, tag);
        if (last == null || last.state != 2) {
            return refuse();
        }
        return begin(host, tag, last.volume, last.kind, last.block, last.many, last.value);
    }

    int abort(int host, int tag) {
        index(host, 4);
        index(tag, 4);
        Exchange last = last(host, tag);
        if (last == null || last.state != 0) {
            return refuse();
        }
        end(last, 2);
        return last.number;
    }

    int manner(int host, boolean isAcked, boolean isUrgent) {
        index(host, 4);
        int before = manners[host];
        manners[host] = (isAcked ? 1 : 0) + (isUrgent ? 2 : 0);
        return before;
    }

    int deny(int host, int volume, boolean isDenied) {
        index(host, 4);
        index(volume, 4);
        int before = volumes[volume].denied.contains(host) ? 1 : 0;
        volumes[volume].denied.remove(host);
        if (isDenied) {
            volumes[volume].denied.add(host);
        }
        return before;
    }

    private void end(Exchange exchange, int state) {
        exchange.state = state;
        exchange.ended = ticks;
        for (Node node : nodes) {
            node.row.removeIf(piece -> piece.of() == exchange);
        }
        for (Line line : lines.values()) {
            line.buffer.removeIf(piece -> piece.of() == exchange);
        }
        for (Controller controller : controllers) {
            controller.queue.remove(exchange);
        }
    }

    // ---- lines, ticks

    private Line find(int kind, int one, int other) {
        return lines.get(KIND_OF_LINE[kind] + one + (kind == 2 ? " " + other : ""));
    }

    int spoil(int kind, int one, int other) {
        line(kind, one, other);
        Line line = find(kind, one, other);
        if (line == null || line.buffer.isEmpty()) {
            return refuse();
        }
        return line.buffer.remove(0).of().number;
    }

    int leak(int kind, int one, int other) {
        line(kind, one, other);
        Line line = find(kind, one, other);
        if (line == null || line.credits() == 0) {
            return refuse();
        }
        line.leaked++;
        return line.leaked;
    }

    int recover() {
        int count = house(12);
        for (Line line : lines.values()) {
            line.leaked = 0;
        }
        return count;
    }

    int notice(int node) {
        index(node, 8);
        return nodes[node].notices.isEmpty() ? 0 : nodes[node].notices.remove(0);
    }

    int tick(int many) {
        argument(many >= 1 && many <= 20);
        int before = crossed;
        for (int i = 0; i < many; i++) {
            ticks++;
            for (int node = 0; node < 8; node++) {
                take(node);
            }
            work(controllers[0]);
            work(controllers[1]);
            dropStrayed();
            cross();
            loseOld();
        }
        return crossed - before;
    }

    private void take(int node) {
        Line line = find(1, node, 0);
        if (line == null || line.buffer.isEmpty()) {
            return;
        }
        Piece piece = line.buffer.remove(0);
        Exchange of = piece.of();
        if (piece.isAck()) {
            of.acksOfHost += piece.isFirst() ? 1 : 0;
            of.acksOfPort += piece.isFirst() ? 0 : 1;
        } else if (piece.number() != (piece.isFirst() ? of.tookPort : of.tookHost)) {
            end(of, 2);
        } else if (piece.isFirst()) {
            takeAtPort(piece);
        } else {
            takeAtHost(piece);
        }
    }

    private void acknowledge(Piece piece, int node) {
        if (piece.of().isAcked) {
            nodes[node].row.add(new Piece(piece.of(), piece.isFirst(), piece.number(), true));
        }
    }

    private void takeAtPort(Piece piece) {
        Exchange of = piece.of();
        of.tookPort++;
        acknowledge(piece, of.port);
        if (of.tookPort == of.lengthOfFirst()) {
            List<Exchange> queue = controllers[of.port % 2].queue;
            if (queue.size() == 3) {
                answer(of, 3);
            } else {
                long urgent = queue.stream().filter(other -> other.isUrgent).count();
                queue.add(of.isUrgent ? (int) urgent : queue.size(), of);
            }
        }
    }

    private void takeAtHost(Piece piece) {
        Exchange of = piece.of();
        of.tookHost++;
        if (of.tookHost == of.lengthOfSecond()) {
            end(of, 1);
        } else {
            acknowledge(piece, of.host);
        }
    }

    private void answer(Exchange exchange, int status) {
        exchange.status = status;
        for (int number = 0; number < exchange.lengthOfSecond(); number++) {
            nodes[exchange.port].row.add(new Piece(exchange, false, number, false));
        }
    }

    private void dropStrayed() {
        for (Map.Entry<String, Line> entry : lines.entrySet()) {
            int end = endOf(entry.getKey());
            if (end != NONE) {
                entry.getValue().buffer.removeIf(piece -> way(end, nodes[piece.goal()].at) == NONE);
            }
        }
    }

    /** The switch at which its buffer is; NONE if that is at a node. */
    private int endOf(String line) {
        String[] words = line.split(" ");
        if (words[0].equals("to")) {
            return NONE;
        }
        return words[0].equals("from") ? nodes[Integer.parseInt(words[1])].at : Integer.parseInt(words[2]);
    }

    private void cross() {
        for (int node = 0; node < 8; node++) {
            Line line = find(0, node, 0);
            if (line != null && switches[nodes[node].at].isUp) {
                crossFrom(nodes[node].row, line);
            }
        }
        for (int from = 0; from < 4; from++) {
            for (int to = 0; to < 4; to++) {
                if (isAlive(from, to)) {
                    crossAt(from, to, NONE, find(2, from, to));
                }
            }
        }
        for (int node = 0; node < 8; node++) {
            Line line = find(1, node, 0);
            if (line != null && switches[nodes[node].at].isUp) {
                crossAt(nodes[node].at, NONE, node, line);
            }
        }
    }

    private void crossFrom(List<Piece> row, Line line) {
        for (Piece piece : row) {
            if (piece.mayLeave() && line.credits() > 0) {
                row.remove(piece);
                line.buffer.add(piece);
                crossed++;
                return;
            }
        }
    }

    private void crossAt(int at, int toSwitch, int toNode, Line line) {
        List<Line> sources = new ArrayList<>();
        for (int node = 0; node < 8; node++) {
            if (nodes[node].at == at) {
                sources.add(find(0, node, 0));
            }
        }
        for (int from = 0; from < 4; from++) {
            if (costs[from][at] > 0) {
                sources.add(find(2, from, at));
            }
        }
        for (Line source : sources) {
            if (line.credits() > 0 && !source.buffer.isEmpty() && goes(source.buffer.get(0), at, toSwitch, toNode)) {
                line.buffer.add(source.buffer.remove(0));
                crossed++;
                return;
            }
        }
    }

    private boolean goes(Piece piece, int at, int toSwitch, int toNode) {
        int end = nodes[piece.goal()].at;
        return end == at ? piece.goal() == toNode : toSwitch != NONE && way(at, end) == toSwitch;
    }

    private void loseOld() {
        for (Exchange exchange : exchanges) {
            if (exchange.state == 0 && ticks - exchange.began >= 30) {
                end(exchange, 2);
            }
        }
    }

    private void work(Controller controller) {
        if (!controller.queue.isEmpty()) {
            Exchange exchange = controller.queue.remove(0);
            answer(exchange, carryOut(exchange, volumes[exchange.volume]));
        }
    }

    /** Answers the status. */
    private int carryOut(Exchange exchange, Volume volume) {
        int host = exchange.host;
        if (volume.denied.contains(host)) {
            return 4;
        }
        if (volume.attention.remove(host)) {
            return 1;
        }
        boolean isOfHolder = exchange.kind == 1 || exchange.kind == 2 || exchange.kind == 6;
        if (volume.holder != NONE && volume.holder != host && isOfHolder) {
            return 2;
        }
        for (int i = 0; i < exchange.many; i++) {
            if (exchange.kind == 0) {
                exchange.got.add(value(exchange.volume, exchange.block + i));
            } else {
                writeBlock(exchange.volume, exchange.block + i, (exchange.value + i) % 1000);
            }
        }
        if (exchange.kind == 2) {
            volume.holder = host;
        } else if (exchange.kind == 3 && volume.holder == host || exchange.kind == 5) {
            volume.holder = NONE;
        }
        for (int other = 0; other < 4 && exchange.kind == 5; other++) {
            if (other != host) {
                volume.attention.add(other);
            }
        }
        if (exchange.kind == 6) {
            flush(exchange.volume);
        }
        return 0;
    }

    // ---- the array

    private void store(int volume, int block, int value) {
        for (Side side : volumes[volume].sides) {
            if (side.isFit && side.isInStep) {
                side.values[block] = value;
            } else {
                side.marks.add(block);
            }
        }
    }

    private void writeBlock(int volume, int block, int value) {
        for (Copy copy : volumes[volume].copies) {
            if (copy != null) {
                copy.kept.add(block);
            }
        }
        if (controllers[0].isUp && controllers[1].isUp) {
            controllers[0].cache.put(volume * 8 + block, value);
            controllers[1].cache.put(volume * 8 + block, value);
        } else {
            store(volume, block, value);
        }
    }

    private int storeCached(Controller from, List<Integer> keys) {
        for (int key : keys) {
            store(key / 8, key % 8, from.cache.get(key));
            controllers[0].cache.remove(key);
            controllers[1].cache.remove(key);
        }
        return keys.size();
    }

    private void flush(int volume) {
        List<Integer> keys = new ArrayList<>(controllers[0].cache.keySet());
        keys.removeIf(key -> key / 8 != volume);
        storeCached(controllers[0], keys);
    }

    int crash(int which) {
        index(which, 2);
        state(controllers[which].isUp);
        controllers[which].isUp = false;
        Controller other = controllers[1 - which];
        int stored = other.isUp ? storeCached(other, new ArrayList<>(other.cache.keySet())) : 0;
        controllers[0].cache.clear();
        controllers[1].cache.clear();
        nodes[4 + which].isIn = false;
        nodes[6 + which].isIn = false;
        look();
        return stored;
    }

    int restart(int which) {
        index(which, 2);
        state(!controllers[which].isUp);
        controllers[which].isUp = true;
        return controllers[1 - which].isUp ? 2 : 1;
    }

    int drain(int many) {
        argument(many >= 1 && many <= 32);
        List<Integer> keys = new ArrayList<>(controllers[0].cache.keySet());
        return storeCached(controllers[0], keys.subList(0, Math.min(many, keys.size())));
    }

    int breakSide(int volume, int side) {
        index(volume, 4);
        index(side, 2);
        Side it = volumes[volume].sides[side];
        Side other = volumes[volume].sides[1 - side];
        if (!it.isFit || !other.isFit || !other.isInStep) {
            return refuse();
        }
        it.isFit = false;
        it.isInStep = false;
        return set(it.marks);
    }

    int mend(int volume, int side) {
        index(volume, 4);
        index(side, 2);
        Side it = volumes[volume].sides[side];
        if (it.isFit) {
            return refuse();
        }
        it.isFit = true;
        return set(it.marks);
    }

    int step(int volume, int side, int many) {
        index(volume, 4);
        index(side, 2);
        argument(many >= 1 && many <= 8);
        Side it = volumes[volume].sides[side];
        if (!it.isFit || it.isInStep) {
            return refuse();
        }
        for (int i = 0; i < many && !it.marks.isEmpty(); i++) {
            int block = it.marks.pollFirst();
            it.values[block] = volumes[volume].sides[1 - side].values[block];
        }
        it.isInStep = it.marks.isEmpty();
        return it.marks.size();
    }

    int copy(int volume, int copy) {
        index(volume, 4);
        index(copy, 2);
        int before = volumes[volume].copies[copy] == null ? 0 : 1;
        volumes[volume].copies[copy] = new Copy();
        for (int block = 0; block < 8; block++) {
            volumes[volume].copies[copy].told[block] = value(volume, block);
        }
        return before;
    }

    int revert(int volume, int copy) {
        index(volume, 4);
        index(copy, 2);
        Copy it = volumes[volume].copies[copy];
        if (it == null || volumes[volume].holder != NONE || !controllers[0].isUp && !controllers[1].isUp) {
            return refuse();
        }
        int count = 0;
        for (int block = 0; block < 8; block++) {
            count += value(volume, block) == it.told[block] ? 0 : 1;
            writeBlock(volume, block, it.told[block]);
        }
        volumes[volume].attention.addAll(List.of(0, 1, 2, 3));
        return count;
    }

    int forget(int volume, int copy) {
        index(volume, 4);
        index(copy, 2);
        Copy it = volumes[volume].copies[copy];
        if (it == null) {
            return refuse();
        }
        volumes[volume].copies[copy] = null;
        return it.kept.size();
    }

    int knock() {
        refused++;
        return refused;
    }

    // ---- what is asked

    private static int set(Iterable<Integer> members) {
        int set = 0;
        for (int member : members) {
            set |= 1 << member;
        }
        return set;
    }

    private static String tell(List<Piece> pieces) {
        StringJoiner text = new StringJoiner(" ");
        for (Piece piece : pieces) {
            text.add(piece.tell());
        }
        return text.toString();
    }

    int ofSwitch(int which, int what) {
        index(which, 4);
        argument(what >= 0 && what <= 6);
        TreeSet<Integer> nodesAt = new TreeSet<>();
        for (int node = 0; node < 8; node++) {
            if (nodes[node].at == which) {
                nodesAt.add(node);
            }
        }
        int frames = 0;
        for (Map.Entry<String, Line> entry : lines.entrySet()) {
            frames += endOf(entry.getKey()) == which ? entry.getValue().buffer.size() : 0;
        }
        Switch it = switches[which];
        int[] answers = {it.isUp ? 1 : 0, it.priority, it.domain, principal(which), set(fabric(which)), frames,
            set(nodesAt)};
        return answers[what];
    }

    int cost(int one, int other) {
        pair(one, other);
        return costs[one][other] == 0 ? NONE : costs[one][other];
    }

    int address(int node) {
        index(node, 8);
        return nodes[node].isIn ? 100 * switches[nodes[node].at].domain + node : NONE;
    }

    String names(int node) {
        index(node, 8);
        StringJoiner text = new StringJoiner(" ");
        for (int other : seen(node)) {
            text.add("" + address(other));
        }
        return text.toString();
    }

    int at(int node) {
        index(node, 8);
        return nodes[node].at;
    }

    int ofZone(int zone) {
        index(zone, 4);
        return set(zones.get(zone));
    }

    int path(int host, int volume) {
        index(host, 4);
        index(volume, 4);
        int[] ports = volume % 2 == 0 ? new int[] {4, 6, 5, 7} : new int[] {5, 7, 4, 6};
        for (int port : ports) {
            if (see(host, port)) {
                return port;
            }
        }
        return NONE;
    }

    int credits(int kind, int one, int other) {
        line(kind, one, other);
        Line line = find(kind, one, other);
        return line == null ? NONE : line.credits();
    }

    String buffer(int kind, int one, int other) {
        line(kind, one, other);
        Line line = find(kind, one, other);
        return line == null ? "" : tell(line.buffer);
    }

    String notices(int node) {
        index(node, 8);
        StringJoiner text = new StringJoiner(" ");
        for (int notice : nodes[node].notices) {
            text.add("" + notice);
        }
        return text.toString();
    }

    String row(int node) {
        index(node, 8);
        return tell(nodes[node].row);
    }

    String queue(int which) {
        index(which, 2);
        StringJoiner text = new StringJoiner(" ");
        for (Exchange exchange : controllers[which].queue) {
            text.add("" + exchange.number);
        }
        return text.toString();
    }

    String told(int host, int tag) {
        index(host, 4);
        index(tag, 4);
        Exchange last = last(host, tag);
        if (last == null) {
            return "none";
        }
        if (last.state != 1) {
            return last.state == 0 ? "open" : "lost";
        }
        StringJoiner text = new StringJoiner(" ");
        text.add(STATUS[last.status]);
        for (int value : last.got) {
            text.add("" + value);
        }
        return text.toString();
    }

    int ofExchange(int number, int what) {
        if (number < 1 || number > exchanges.size()) {
            throw new IndexOutOfBoundsException();
        }
        argument(what >= 0 && what <= 13);
        Exchange it = exchanges.get(number - 1);
        int frames = 0;
        for (Piece piece : allPieces()) {
            frames += piece.of() == it ? 1 : 0;
        }
        int[] answers = {it.host, it.port, it.tag, it.kind, it.volume, it.state, it.state == 1 ? it.status : NONE,
            (it.state == 0 ? ticks : it.ended) - it.began, frames, it.tookPort, it.tookHost,
            (it.isAcked ? 1 : 0) + (it.isUrgent ? 2 : 0), it.acksOfHost, it.acksOfPort};
        return answers[what];
    }

    private List<Piece> allPieces() {
        List<Piece> all = new ArrayList<>();
        for (Node node : nodes) {
            all.addAll(node.row);
        }
        for (Line line : lines.values()) {
            all.addAll(line.buffer);
        }
        return all;
    }

    int value(int volume, int block) {
        index(volume, 4);
        index(block, 8);
        for (Controller controller : controllers) {
            if (controller.isUp && controller.cache.containsKey(volume * 8 + block)) {
                return controller.cache.get(volume * 8 + block);
            }
        }
        for (Side side : volumes[volume].sides) {
            if (side.isFit && side.isInStep) {
                return side.values[block];
            }
        }
        throw new UnsupportedOperationException("no side is fit and in step");
    }

    String values(int volume) {
        index(volume, 4);
        StringJoiner text = new StringJoiner(" ");
        for (int block = 0; block < 8; block++) {
            text.add("" + value(volume, block));
        }
        return text.toString();
    }

    int onSide(int volume, int side, int block) {
        index(volume, 4);
        index(side, 2);
        index(block, 8);
        return volumes[volume].sides[side].values[block];
    }

    int ofSide(int volume, int side, int what) {
        index(volume, 4);
        index(side, 2);
        argument(what >= 0 && what <= 2);
        Side it = volumes[volume].sides[side];
        int[] answers = {it.isFit ? 1 : 0, it.isInStep ? 1 : 0, set(it.marks)};
        return answers[what];
    }

    int copied(int volume, int copy, int block) {
        index(volume, 4);
        index(copy, 2);
        index(block, 8);
        Copy it = volumes[volume].copies[copy];
        return it == null ? NONE : it.told[block];
    }

    String cache(int which) {
        index(which, 2);
        StringJoiner text = new StringJoiner(" ");
        for (Map.Entry<Integer, Integer> entry : controllers[which].cache.entrySet()) {
            text.add(entry.getKey() / 8 + "." + entry.getKey() % 8 + "=" + entry.getValue());
        }
        return text.toString();
    }

    int ofVolume(int volume, int what) {
        index(volume, 4);
        argument(what >= 0 && what <= 5);
        Volume it = volumes[volume];
        TreeSet<Integer> cached = new TreeSet<>(controllers[0].cache.keySet());
        cached.addAll(controllers[1].cache.keySet());
        cached.removeIf(key -> key / 8 != volume);
        int copies = (it.copies[0] == null ? 0 : 1) + (it.copies[1] == null ? 0 : 2);
        int[] answers = {it.holder, set(it.attention), copies, cached.size(), volume % 2, set(it.denied)};
        return answers[what];
    }

    boolean isUp(int which) {
        index(which, 2);
        return controllers[which].isUp;
    }

    int house(int what) {
        argument(what >= 0 && what <= 13);
        int up = 0;
        int fabrics = 0;
        for (int which = 0; which < 4; which++) {
            up += switches[which].isUp ? 1 : 0;
            fabrics += switches[which].isUp && fabric(which).first() == which ? 1 : 0;
        }
        int links = 0;
        int leaked = 0;
        for (Map.Entry<String, Line> entry : lines.entrySet()) {
            links += entry.getKey().startsWith("between") ? 1 : 0;
            leaked += entry.getValue().leaked;
        }
        int in = 0;
        for (Node node : nodes) {
            in += node.isIn ? 1 : 0;
        }
        int[] states = new int[3];
        for (Exchange exchange : exchanges) {
            states[exchange.state]++;
        }
        int[] answers = {up, fabrics, links / 2, in, exchanges.size(), states[0], states[1], states[2],
            allPieces().size(), refused, ticks, crossed, leaked,
            controllers[0].queue.size() + controllers[1].queue.size()};
        return answers[what];
    }

    boolean isSound() {
        return true;
    }

    // ---- the checksum

    private long d;

    private void mix(long v) {
        d = d * 31 + v;
    }

    long digest() {
        d = 7660;
        for (int what = 0; what < 14; what++) {
            mix(house(what));
        }
        mixFabric();
        for (int zone = 0; zone < 4; zone++) {
            mix(ofZone(zone));
        }
        mixCommands();
        for (int volume = 0; volume < 4; volume++) {
            mixVolume(volume);
        }
        mix(cache(0).length());
        mix(cache(1).length());
        mix(queue(0).length());
        mix(queue(1).length());
        mix(isSound() ? 1 : 0);
        return d;
    }

    private void mixFabric() {
        for (int from = 0; from < 4; from++) {
            for (int what = 0; what < 7; what++) {
                mix(ofSwitch(from, what));
            }
            for (int to = 0; to < 4; to++) {
                mix(way(from, to));
                mix(far(from, to));
            }
        }
        for (int node = 0; node < 8; node++) {
            mix(at(node));
            mix(address(node));
            mix(names(node).length());
            mix(row(node).length());
            mix(notices(node).length());
            mix(credits(0, node, 0));
            mix(credits(1, node, 0));
            mix(buffer(0, node, 0).length());
            mix(buffer(1, node, 0).length());
        }
        for (int from = 0; from < 4; from++) {
            for (int to = 0; to < 4; to++) {
                if (from != to) {
                    mix(cost(from, to));
                    mix(credits(2, from, to));
                    mix(buffer(2, from, to).length());
                }
            }
        }
    }

    private void mixCommands() {
        for (int host = 0; host < 4; host++) {
            for (int volume = 0; volume < 4; volume++) {
                mix(path(host, volume));
            }
            for (int tag = 0; tag < 4; tag++) {
                mix(told(host, tag).length());
            }
        }
        for (int number = 1; number <= exchanges.size(); number++) {
            for (int what = 0; what < 14; what++) {
                mix(ofExchange(number, what));
            }
        }
    }

    private void mixVolume(int volume) {
        for (int what = 0; what < 6; what++) {
            mix(ofVolume(volume, what));
        }
        for (int block = 0; block < 8; block++) {
            mix(value(volume, block));
            mix(onSide(volume, 0, block));
            mix(onSide(volume, 1, block));
            mix(copied(volume, 0, block));
            mix(copied(volume, 1, block));
        }
        for (int side = 0; side < 2; side++) {
            for (int what = 0; what < 3; what++) {
                mix(ofSide(volume, side, what));
            }
        }
    }
}
