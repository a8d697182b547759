import java.util.ArrayList;

/** A storage fabric: switches with links, hosts and ports that speak in frames, and an array behind them. */
public final class Blockfabric {
    private static final int NONE = -1;
    private static final int REFUSED = -9;
    private static final int DIGEST_START = 7660;

    private static final int SWITCHES = 4;
    private static final int NODES = 8;
    private static final int HOSTS = 4;
    private static final int ZONES = 4;
    private static final int TAGS = 4;
    private static final int CONTROLLERS = 2;
    private static final int VOLUMES = 4;
    private static final int BLOCKS = 8;
    private static final int SIDES = 2;
    private static final int COPIES = 2;
    private static final int CACHED_AT_MOST = VOLUMES * BLOCKS;

    private static final int HIGHEST_COST = 9;
    private static final int HIGHEST_PRIORITY = 9;
    private static final int FIRST_PRIORITY = 5;
    private static final int HIGHEST_DOMAIN = 9;
    private static final int HIGHEST_VALUE = 999;
    private static final int PER_DOMAIN = 100;
    /** Above every sum of costs, and its double is far from the end of int. */
    private static final int APART = 1000;

    private static final int PLACES = 2;
    private static final int WINDOW = 2;
    private static final int QUEUED_AT_MOST = 3;
    private static final int NOTICES_AT_MOST = 8;
    private static final int BLOCKS_A_COMMAND = 4;
    private static final int TICKS_A_CALL = 20;
    private static final int TICKS_TO_LIVE = 30;
    /** One a call is the most that an object of 512 calls can begin. */
    private static final int EXCHANGES_AT_MOST = 512;

    private static final int FROM_NODE = 0;
    private static final int TO_NODE = 1;
    private static final int BETWEEN = 2;

    private static final int FORTH = 0;
    private static final int BACK = 1;

    private static final int ACKED = 1;
    private static final int URGENT = 2;

    private static final int OPEN = 0;
    private static final int DONE = 1;
    private static final int LOST = 2;

    private static final int READ = 0;
    private static final int WRITE = 1;
    private static final int RESERVE = 2;
    private static final int RELEASE = 3;
    private static final int RESET = 5;
    private static final int FLUSH = 6;

    private static final int GOOD = 0;
    private static final int CHECK = 1;
    private static final int CONFLICT = 2;
    private static final int BUSY = 3;
    private static final int DENIED = 4;

    private static final int DIGITS_AT_MOST = 10;

    private static final int FACTS_OF_SWITCH = 7;
    private static final int FACTS_OF_EXCHANGE = 14;
    private static final int FACTS_OF_SIDE = 3;
    private static final int FACTS_OF_VOLUME = 6;
    private static final int FACTS_OF_HOUSE = 14;

    private final Net net;
    private final Store store;
    private final Traffic traffic;
    private final StringBuilder text;
    private int length;
    /** The digest asks how long texts are and makes none, since many calls would fill the room with them. */
    private boolean isMeasuring;
    private int refusals;

    public Blockfabric() {
        net = new Net();
        store = new Store();
        traffic = new Traffic(net, store);
        text = new StringBuilder();
    }

    // ---- switches, links

    public int link(int one, int other, int cost) throws IndexOutOfBoundsException, IllegalArgumentException {
        needPair(one, other);
        needRange(cost, 1, HIGHEST_COST);
        int before = net.costOf(one, other);
        net.setCost(one, other, cost);
        traffic.settle();
        return before;
    }

    public int unlink(int one, int other) throws IndexOutOfBoundsException {
        needPair(one, other);
        int before = net.costOf(one, other);
        if (before == NONE) {
            return refuse();
        }
        net.removeLink(one, other);
        traffic.settle();
        return before;
    }

    public int fall(int which) throws IndexOutOfBoundsException, IllegalStateException {
        needIndex(which, SWITCHES);
        needState(net.up[which]);
        int loggedIn = net.loggedInAt(which);
        net.shut(which);
        traffic.settle();
        return loggedIn;
    }

    public int rise(int which) throws IndexOutOfBoundsException, IllegalStateException {
        needIndex(which, SWITCHES);
        needState(!net.up[which]);
        net.up[which] = true;
        traffic.settle();
        return net.domain[which];
    }

    public int priority(int which, int priority) throws IndexOutOfBoundsException, IllegalArgumentException {
        needIndex(which, SWITCHES);
        needRange(priority, 1, HIGHEST_PRIORITY);
        net.priority[which] = priority;
        traffic.settle();
        return net.principalOf(net.fabricOf(which));
    }

    public int attach(int node, int which) throws IndexOutOfBoundsException, IllegalArgumentException {
        needIndex(node, NODES);
        needRange(which, NONE, SWITCHES - 1);
        if (net.nodes[node].isLoggedIn) {
            return refuse();
        }
        int before = net.nodes[node].at;
        net.place(node, which);
        traffic.settle();
        return before;
    }

    public int login(int node) throws IndexOutOfBoundsException {
        needIndex(node, NODES);
        if (!mayLogIn(node)) {
            return refuse();
        }
        net.nodes[node].isLoggedIn = true;
        traffic.settle();
        return net.addressOf(node);
    }

    public int logout(int node) throws IndexOutOfBoundsException {
        needIndex(node, NODES);
        if (!net.nodes[node].isLoggedIn) {
            return refuse();
        }
        net.nodes[node].isLoggedIn = false;
        return traffic.settle();
    }

    public int zone(int zone, int node, boolean isIn) throws IndexOutOfBoundsException {
        needIndex(zone, ZONES);
        needIndex(node, NODES);
        net.zones[zone] = withOrWithout(net.zones[zone], node, isIn);
        traffic.settle();
        return Integer.bitCount(net.zones[zone]);
    }

    // ---- commands

    public int read(int host, int tag, int volume, int block, int many)
            throws IndexOutOfBoundsException, IllegalArgumentException {
        needCommand(host, tag, volume);
        needBlocks(block, many);
        return numberOrRefuse(traffic.begin(host, tag, volume, READ, block, many, 0));
    }

    public int write(int host, int tag, int volume, int block, int many, int value)
            throws IndexOutOfBoundsException, IllegalArgumentException {
        needCommand(host, tag, volume);
        needBlocks(block, many);
        needRange(value, 0, HIGHEST_VALUE);
        return numberOrRefuse(traffic.begin(host, tag, volume, WRITE, block, many, value));
    }

    public int control(int host, int tag, int volume, int kind)
            throws IndexOutOfBoundsException, IllegalArgumentException {
        needCommand(host, tag, volume);
        needRange(kind, RESERVE, FLUSH);
        return numberOrRefuse(traffic.begin(host, tag, volume, kind, 0, 0, 0));
    }

    public int again(int host, int tag) throws IndexOutOfBoundsException {
        needIndex(host, HOSTS);
        needIndex(tag, TAGS);
        Exchange last = traffic.lastOf(host, tag);
        if (last == null || last.state != LOST) {
            return refuse();
        }
        return numberOrRefuse(
            traffic.begin(host, tag, last.volume, last.kind, last.block, last.many, last.value));
    }

    public int abort(int host, int tag) throws IndexOutOfBoundsException {
        needIndex(host, HOSTS);
        needIndex(tag, TAGS);
        Exchange last = traffic.lastOf(host, tag);
        if (last == null || last.state != OPEN) {
            return refuse();
        }
        traffic.end(last, LOST);
        return last.number;
    }

    public int manner(int host, boolean isAcked, boolean isUrgent) throws IndexOutOfBoundsException {
        needIndex(host, HOSTS);
        int before = traffic.manners[host];
        traffic.manners[host] = (isAcked ? ACKED : 0) + (isUrgent ? URGENT : 0);
        return before;
    }

    public int deny(int host, int volume, boolean isDenied) throws IndexOutOfBoundsException {
        needIndex(host, HOSTS);
        needIndex(volume, VOLUMES);
        Volume of = store.volumes[volume];
        int before = has(of.denied, host) ? 1 : 0;
        of.denied = withOrWithout(of.denied, host, isDenied);
        return before;
    }

    public int spoil(int kind, int one, int other) throws IllegalArgumentException {
        needLine(kind, one, other);
        Line line = net.lineOf(kind, one, other);
        Frame spoiled = line == null ? null : line.takeOldest();
        return spoiled == null ? refuse() : spoiled.exchange.number;
    }

    public int leak(int kind, int one, int other) throws IllegalArgumentException {
        needLine(kind, one, other);
        Line line = net.lineOf(kind, one, other);
        if (line == null || line.credits == 0) {
            return refuse();
        }
        line.credits--;
        line.leaked++;
        return line.leaked;
    }

    public int recover() {
        int recovered = net.countLeaked();
        net.restoreLeaked();
        return recovered;
    }

    public int notice(int node) throws IndexOutOfBoundsException {
        needIndex(node, NODES);
        ArrayList<Integer> notices = net.nodes[node].notices;
        if (notices.isEmpty()) {
            return 0;
        }
        int first = notices.get(0);
        notices.remove(0);
        return first;
    }

    public int tick(int many) throws IllegalArgumentException {
        needRange(many, 1, TICKS_A_CALL);
        int before = traffic.crossed;
        for (int i = 0; i < many; i++) {
            traffic.passTick();
        }
        return traffic.crossed - before;
    }

    // ---- the array

    public int crash(int which) throws IndexOutOfBoundsException, IllegalStateException {
        needIndex(which, CONTROLLERS);
        needState(store.controllers[which].isRunning);
        int stored = store.stop(which);
        net.logOutPortsOf(which);
        traffic.settle();
        return stored;
    }

    public int restart(int which) throws IndexOutOfBoundsException, IllegalStateException {
        needIndex(which, CONTROLLERS);
        needState(!store.controllers[which].isRunning);
        store.controllers[which].isRunning = true;
        return store.countRunning();
    }

    public int drain(int many) throws IllegalArgumentException {
        needRange(many, 1, CACHED_AT_MOST);
        return store.storeFirst(0, many);
    }

    public int breakSide(int volume, int side) throws IndexOutOfBoundsException {
        needIndex(volume, VOLUMES);
        needIndex(side, SIDES);
        Side broken = store.volumes[volume].sides[side];
        Side other = store.volumes[volume].sides[1 - side];
        if (!broken.isFit || !other.isCurrent()) {
            return refuse();
        }
        broken.isFit = false;
        broken.isInStep = false;
        return broken.marks;
    }

    public int mend(int volume, int side) throws IndexOutOfBoundsException {
        needIndex(volume, VOLUMES);
        needIndex(side, SIDES);
        Side mended = store.volumes[volume].sides[side];
        if (mended.isFit) {
            return refuse();
        }
        mended.isFit = true;
        return mended.marks;
    }

    public int step(int volume, int side, int many) throws IndexOutOfBoundsException, IllegalArgumentException {
        needIndex(volume, VOLUMES);
        needIndex(side, SIDES);
        needRange(many, 1, BLOCKS);
        Side behind = store.volumes[volume].sides[side];
        if (!behind.isFit || behind.isInStep) {
            return refuse();
        }
        behind.catchUp(store.volumes[volume].sides[1 - side], many);
        return Integer.bitCount(behind.marks);
    }

    public int copy(int volume, int copy) throws IndexOutOfBoundsException {
        needIndex(volume, VOLUMES);
        needIndex(copy, COPIES);
        int before = store.volumes[volume].copies[copy].isThere ? 1 : 0;
        store.makeCopy(volume, copy);
        return before;
    }

    public int revert(int volume, int copy) throws IndexOutOfBoundsException {
        needIndex(volume, VOLUMES);
        needIndex(copy, COPIES);
        Volume of = store.volumes[volume];
        if (!of.copies[copy].isThere || of.holder != NONE || store.countRunning() == 0) {
            return refuse();
        }
        return store.writeBack(volume, copy);
    }

    public int forget(int volume, int copy) throws IndexOutOfBoundsException {
        needIndex(volume, VOLUMES);
        needIndex(copy, COPIES);
        Snapshot gone = store.volumes[volume].copies[copy];
        if (!gone.isThere) {
            return refuse();
        }
        gone.isThere = false;
        return Integer.bitCount(gone.kept);
    }

    public int knock() {
        refusals++;
        return refusals;
    }

    // ---- what is asked of the fabric

    public int ofSwitch(int which, int what) throws IndexOutOfBoundsException, IllegalArgumentException {
        needIndex(which, SWITCHES);
        needRange(what, 0, FACTS_OF_SWITCH - 1);
        switch (what) {
            case 0:
                return net.up[which] ? 1 : 0;
            case 1:
                return net.priority[which];
            case 2:
                return net.domain[which];
            case 3:
                return net.principalOf(net.fabricOf(which));
            case 4:
                return net.fabricOf(which);
            case 5:
                return net.countFramesAt(which);
            default:
                return net.nodesAt(which);
        }
    }

    public int cost(int one, int other) throws IndexOutOfBoundsException {
        needPair(one, other);
        return net.costOf(one, other);
    }

    public int way(int from, int to) throws IndexOutOfBoundsException {
        needIndex(from, SWITCHES);
        needIndex(to, SWITCHES);
        return net.ways[from][to];
    }

    public int far(int from, int to) throws IndexOutOfBoundsException {
        needIndex(from, SWITCHES);
        needIndex(to, SWITCHES);
        return net.far[from][to] < APART ? net.far[from][to] : NONE;
    }

    public int address(int node) throws IndexOutOfBoundsException {
        needIndex(node, NODES);
        return net.addressOf(node);
    }

    public String names(int node) throws IndexOutOfBoundsException {
        needIndex(node, NODES);
        tellNames(node);
        return text.toString();
    }

    public int at(int node) throws IndexOutOfBoundsException {
        needIndex(node, NODES);
        return net.nodes[node].at;
    }

    public int ofZone(int zone) throws IndexOutOfBoundsException {
        needIndex(zone, ZONES);
        return net.zones[zone];
    }

    public int path(int host, int volume) throws IndexOutOfBoundsException {
        needIndex(host, HOSTS);
        needIndex(volume, VOLUMES);
        return net.bestPort(host, volume);
    }

    public int credits(int kind, int one, int other) throws IllegalArgumentException {
        needLine(kind, one, other);
        Line line = net.lineOf(kind, one, other);
        return line == null ? NONE : line.credits;
    }

    public String buffer(int kind, int one, int other) throws IllegalArgumentException {
        needLine(kind, one, other);
        tellBuffer(kind, one, other);
        return text.toString();
    }

    public String notices(int node) throws IndexOutOfBoundsException {
        needIndex(node, NODES);
        tellNotices(node);
        return text.toString();
    }

    public String row(int node) throws IndexOutOfBoundsException {
        needIndex(node, NODES);
        tellRow(node);
        return text.toString();
    }

    public String queue(int which) throws IndexOutOfBoundsException {
        needIndex(which, CONTROLLERS);
        tellQueue(which);
        return text.toString();
    }

    // ---- what is asked of commands

    public String told(int host, int tag) throws IndexOutOfBoundsException {
        needIndex(host, HOSTS);
        needIndex(tag, TAGS);
        tellAnswer(host, tag);
        return text.toString();
    }

    public int ofExchange(int number, int what) throws IndexOutOfBoundsException, IllegalArgumentException {
        needRangeOfIndex(number, 1, traffic.exchanges.size());
        needRange(what, 0, FACTS_OF_EXCHANGE - 1);
        Exchange of = traffic.exchanges.get(number - 1);
        return what == 8 ? net.countFramesOf(of) : of.fact(what);
    }

    // ---- what is asked of the array

    public int value(int volume, int block) throws IndexOutOfBoundsException {
        needIndex(volume, VOLUMES);
        needIndex(block, BLOCKS);
        return store.readBlock(volume, block);
    }

    public String values(int volume) throws IndexOutOfBoundsException {
        needIndex(volume, VOLUMES);
        startText();
        for (int block = 0; block < BLOCKS; block++) {
            addMember(store.readBlock(volume, block));
        }
        return text.toString();
    }

    public int onSide(int volume, int side, int block) throws IndexOutOfBoundsException {
        needIndex(volume, VOLUMES);
        needIndex(side, SIDES);
        needIndex(block, BLOCKS);
        return store.volumes[volume].sides[side].values[block];
    }

    public int ofSide(int volume, int side, int what) throws IndexOutOfBoundsException, IllegalArgumentException {
        needIndex(volume, VOLUMES);
        needIndex(side, SIDES);
        needRange(what, 0, FACTS_OF_SIDE - 1);
        Side of = store.volumes[volume].sides[side];
        switch (what) {
            case 0:
                return of.isFit ? 1 : 0;
            case 1:
                return of.isInStep ? 1 : 0;
            default:
                return of.marks;
        }
    }

    public int copied(int volume, int copy, int block) throws IndexOutOfBoundsException {
        needIndex(volume, VOLUMES);
        needIndex(copy, COPIES);
        needIndex(block, BLOCKS);
        return store.volumes[volume].copies[copy].isThere ? store.copyTells(volume, copy, block) : NONE;
    }

    public String cache(int which) throws IndexOutOfBoundsException {
        needIndex(which, CONTROLLERS);
        tellCache(which);
        return text.toString();
    }

    public int ofVolume(int volume, int what) throws IndexOutOfBoundsException, IllegalArgumentException {
        needIndex(volume, VOLUMES);
        needRange(what, 0, FACTS_OF_VOLUME - 1);
        Volume of = store.volumes[volume];
        switch (what) {
            case 0:
                return of.holder;
            case 1:
                return of.attention;
            case 2:
                return of.setOfCopies();
            case 3:
                return store.countCached(volume);
            case 4:
                return ownController(volume);
            default:
                return of.denied;
        }
    }

    public boolean isUp(int which) throws IndexOutOfBoundsException {
        needIndex(which, CONTROLLERS);
        return store.controllers[which].isRunning;
    }

    // ---- the whole

    public int house(int what) throws IllegalArgumentException {
        needRange(what, 0, FACTS_OF_HOUSE - 1);
        switch (what) {
            case 0:
                return net.countUp();
            case 1:
                return net.countFabrics();
            case 2:
                return net.countLinks();
            case 3:
                return net.countLoggedIn();
            case 4:
                return traffic.exchanges.size();
            case 5:
                return traffic.countExchanges(OPEN);
            case 6:
                return traffic.countExchanges(DONE);
            case 7:
                return traffic.countExchanges(LOST);
            case 8:
                return net.countFrames();
            case 9:
                return refusals;
            case 10:
                return traffic.ticks;
            case 11:
                return traffic.crossed;
            case 12:
                return net.countLeaked();
            default:
                return store.countQueued();
        }
    }

    public boolean isSound() {
        return net.areLinesSound() && net.isSightSound() && net.areDomainsSound() && net.areWaysSound()
            && traffic.areFramesSound() && traffic.areSequencesSound()
            && store.areQueuesSound() && store.areCachesSound() && store.areVolumesSound();
    }

    public long digest() {
        isMeasuring = true;
        long d = DIGEST_START;
        for (int what = 0; what < FACTS_OF_HOUSE; what++) {
            d = mix(d, house(what));
        }
        d = mixSwitches(d);
        d = mixNodes(d);
        d = mixLinks(d);
        for (int zone = 0; zone < ZONES; zone++) {
            d = mix(d, net.zones[zone]);
        }
        d = mixHosts(d);
        d = mixExchanges(d);
        for (int volume = 0; volume < VOLUMES; volume++) {
            d = mixVolume(d, volume);
        }
        for (int which = 0; which < CONTROLLERS; which++) {
            d = mix(d, tellCache(which));
        }
        for (int which = 0; which < CONTROLLERS; which++) {
            d = mix(d, tellQueue(which));
        }
        isMeasuring = false;
        return mix(d, isSound() ? 1 : 0);
    }

    private static long mix(long d, long v) {
        return d * 31 + v;
    }

    private long mixSwitches(long start) {
        long d = start;
        for (int which = 0; which < SWITCHES; which++) {
            for (int what = 0; what < FACTS_OF_SWITCH; what++) {
                d = mix(d, ofSwitch(which, what));
            }
            for (int to = 0; to < SWITCHES; to++) {
                d = mix(d, way(which, to));
                d = mix(d, far(which, to));
            }
        }
        return d;
    }

    private long mixNodes(long start) {
        long d = start;
        for (int node = 0; node < NODES; node++) {
            d = mix(d, at(node));
            d = mix(d, address(node));
            d = mix(d, tellNames(node));
            d = mix(d, tellRow(node));
            d = mix(d, tellNotices(node));
            d = mix(d, credits(FROM_NODE, node, 0));
            d = mix(d, credits(TO_NODE, node, 0));
            d = mix(d, tellBuffer(FROM_NODE, node, 0));
            d = mix(d, tellBuffer(TO_NODE, node, 0));
        }
        return d;
    }

    private long mixLinks(long start) {
        long d = start;
        for (int from = 0; from < SWITCHES; from++) {
            for (int to = 0; to < SWITCHES; to++) {
                if (from != to) {
                    d = mix(d, cost(from, to));
                    d = mix(d, credits(BETWEEN, from, to));
                    d = mix(d, tellBuffer(BETWEEN, from, to));
                }
            }
        }
        return d;
    }

    private long mixHosts(long start) {
        long d = start;
        for (int host = 0; host < HOSTS; host++) {
            for (int volume = 0; volume < VOLUMES; volume++) {
                d = mix(d, net.bestPort(host, volume));
            }
            for (int tag = 0; tag < TAGS; tag++) {
                d = mix(d, tellAnswer(host, tag));
            }
        }
        return d;
    }

    private long mixExchanges(long start) {
        long d = start;
        int last = traffic.exchanges.size();
        for (int number = 1; number <= last; number++) {
            for (int what = 0; what < FACTS_OF_EXCHANGE; what++) {
                d = mix(d, ofExchange(number, what));
            }
        }
        return d;
    }

    private long mixVolume(long start, int volume) {
        long d = start;
        for (int what = 0; what < FACTS_OF_VOLUME; what++) {
            d = mix(d, ofVolume(volume, what));
        }
        for (int block = 0; block < BLOCKS; block++) {
            d = mix(d, value(volume, block));
            d = mix(d, onSide(volume, 0, block));
            d = mix(d, onSide(volume, 1, block));
            d = mix(d, copied(volume, 0, block));
            d = mix(d, copied(volume, 1, block));
        }
        for (int side = 0; side < SIDES; side++) {
            for (int what = 0; what < FACTS_OF_SIDE; what++) {
                d = mix(d, ofSide(volume, side, what));
            }
        }
        return d;
    }

    // ---- texts: what tells one answers how long it is

    private void startText() {
        text.setLength(0);
        length = 0;
    }

    private void addWord(String word) {
        length += word.length();
        if (!isMeasuring) {
            text.append(word);
        }
    }

    private void addSign(char sign) {
        length++;
        if (!isMeasuring) {
            text.append(sign);
        }
    }

    private void addNumber(int number) {
        length += lengthOf(number);
        if (!isMeasuring) {
            text.append(number);
        }
    }

    private static int lengthOf(int number) {
        int count = number < 0 ? 2 : 1;
        int rest = number / 10;
        for (int i = 0; i < DIGITS_AT_MOST && rest != 0; i++) {
            rest /= 10;
            count++;
        }
        return count;
    }

    private void addBlank() {
        if (length > 0) {
            addSign(' ');
        }
    }

    private void addMember(int number) {
        addBlank();
        addNumber(number);
    }

    private int tellNames(int node) {
        startText();
        int seen = net.sightOf(node);
        for (int other = 0; other < NODES; other++) {
            if (has(seen, other)) {
                addMember(net.addressOf(other));
            }
        }
        return length;
    }

    private int tellBuffer(int kind, int one, int other) {
        startText();
        Line line = net.lineOf(kind, one, other);
        if (line != null) {
            addFrames(line.frames);
        }
        return length;
    }

    private int tellRow(int node) {
        startText();
        addFrames(net.nodes[node].waiting);
        return length;
    }

    private void addFrames(ArrayList<Frame> frames) {
        for (int i = 0; i < frames.size(); i++) {
            Frame frame = frames.get(i);
            addMember(frame.exchange.number);
            addSign(frame.course == FORTH ? '>' : '<');
            addNumber(frame.number);
            if (frame.isAck) {
                addSign('!');
            }
        }
    }

    private int tellNotices(int node) {
        startText();
        ArrayList<Integer> notices = net.nodes[node].notices;
        for (int i = 0; i < notices.size(); i++) {
            addMember(notices.get(i));
        }
        return length;
    }

    private int tellQueue(int which) {
        startText();
        ArrayList<Exchange> queued = store.controllers[which].queued;
        for (int i = 0; i < queued.size(); i++) {
            addMember(queued.get(i).number);
        }
        return length;
    }

    private int tellCache(int which) {
        startText();
        Controller of = store.controllers[which];
        for (int i = 0; i < of.cached; i++) {
            addMember(of.keys[i] / BLOCKS);
            addSign('.');
            addNumber(of.keys[i] % BLOCKS);
            addSign('=');
            addNumber(of.values[i]);
        }
        return length;
    }

    private int tellAnswer(int host, int tag) {
        startText();
        Exchange last = traffic.lastOf(host, tag);
        addWord(last == null ? "none" : nameOfAnswer(last));
        if (last != null && last.state == DONE && last.kind == READ && last.status == GOOD) {
            for (int i = 0; i < last.many; i++) {
                addMember(last.got[i]);
            }
        }
        return length;
    }

    private static String nameOfAnswer(Exchange exchange) {
        if (exchange.state == OPEN) {
            return "open";
        }
        return exchange.state == LOST ? "lost" : nameOfStatus(exchange.status);
    }

    private static String nameOfStatus(int status) {
        switch (status) {
            case GOOD:
                return "good";
            case CHECK:
                return "check";
            case CONFLICT:
                return "conflict";
            case BUSY:
                return "busy";
            default:
                return "denied";
        }
    }

    // ---- what calls ask first

    private int refuse() {
        refusals++;
        return REFUSED;
    }

    private int numberOrRefuse(int number) {
        return number == NONE ? refuse() : number;
    }

    private boolean mayLogIn(int node) {
        int at = net.nodes[node].at;
        if (net.nodes[node].isLoggedIn || at == NONE || !net.up[at]) {
            return false;
        }
        return node < HOSTS || store.controllers[ownController(node)].isRunning;
    }

    private static void needIndex(int index, int bound) {
        needRangeOfIndex(index, 0, bound - 1);
    }

    private static void needRangeOfIndex(int index, int least, int most) {
        if (index < least || index > most) {
            throw new IndexOutOfBoundsException();
        }
    }

    private static void needRange(int number, int least, int most) {
        if (number < least || number > most) {
            throw new IllegalArgumentException();
        }
    }

    private static void needState(boolean isSo) {
        if (!isSo) {
            throw new IllegalStateException();
        }
    }

    private static void needPair(int one, int other) {
        needIndex(one, SWITCHES);
        needIndex(other, SWITCHES);
        if (one == other) {
            throw new IndexOutOfBoundsException();
        }
    }

    private static void needCommand(int host, int tag, int volume) {
        needIndex(host, HOSTS);
        needIndex(tag, TAGS);
        needIndex(volume, VOLUMES);
    }

    private static void needBlocks(int block, int many) {
        needRange(block, 0, BLOCKS - 1);
        needRange(many, 1, BLOCKS_A_COMMAND);
        needRange(block + many, 1, BLOCKS);
    }

    private static void needLine(int kind, int one, int other) {
        needRange(kind, FROM_NODE, BETWEEN);
        needRange(one, 0, kind == BETWEEN ? SWITCHES - 1 : NODES - 1);
        if (kind == BETWEEN) {
            needRange(other, 0, SWITCHES - 1);
        }
    }

    // ---- sets, as sums of powers of 2

    private static boolean has(int set, int member) {
        return (set >> member & 1) != 0;
    }

    private static int withOrWithout(int set, int member, boolean isIn) {
        return isIn ? set | 1 << member : set & ~(1 << member);
    }

    /** Volumes and ports alike belong to the controllers by turns. */
    private static int ownController(int volumeOrPort) {
        return volumeOrPort % CONTROLLERS;
    }

    /** What crosses lines: a frame of a sequence, or the ack of one. */
    private static final class Frame {
        final Exchange exchange;
        final int course;
        final int number;
        final boolean isAck;
        final int target;

        Frame(Exchange exchange, int course, int number, boolean isAck) {
            this.exchange = exchange;
            this.course = course;
            this.number = number;
            this.isAck = isAck;
            // Acks are told by the sequence of their frame, but go against it.
            target = (course == FORTH) != isAck ? exchange.port : exchange.host;
        }

        boolean mayLeave() {
            return isAck || !exchange.isAcked || number < exchange.acks[course] + WINDOW;
        }

        /** A bit of its own for each frame and each ack that one exchange can have. */
        int mark() {
            return 1 << course * 16 + (isAck ? 8 : 0) + number;
        }

        static int countOf(ArrayList<Frame> frames, Exchange exchange) {
            int count = 0;
            for (int i = 0; i < frames.size(); i++) {
                if (frames.get(i).exchange == exchange) {
                    count++;
                }
            }
            return count;
        }

        /** Answers how many were dropped. */
        static int dropOf(ArrayList<Frame> frames, Exchange exchange) {
            int before = frames.size();
            for (int i = before - 1; i >= 0; i--) {
                if (frames.get(i).exchange == exchange) {
                    frames.remove(i);
                }
            }
            return before - frames.size();
        }
    }

    /** A line with the buffer at its end; credits are counted for themselves, so that soundness can compare. */
    private static final class Line {
        final ArrayList<Frame> frames = new ArrayList<Frame>();
        int credits = PLACES;
        int leaked;

        Frame oldest() {
            return frames.isEmpty() ? null : frames.get(0);
        }

        void put(Frame frame) {
            frames.add(frame);
            credits--;
        }

        Frame takeOldest() {
            if (frames.isEmpty()) {
                return null;
            }
            Frame oldest = frames.get(0);
            frames.remove(0);
            credits++;
            return oldest;
        }

        void dropAll() {
            credits += frames.size();
            frames.clear();
        }

        /** The line went: one that comes in its place knows nothing of its frames and leaks. */
        void renew() {
            frames.clear();
            credits = PLACES;
            leaked = 0;
        }

        void restoreLeaked() {
            credits += leaked;
            leaked = 0;
        }
    }

    /** A host, or a port of the array. */
    private static final class Node {
        final ArrayList<Frame> waiting = new ArrayList<Frame>();
        final ArrayList<Integer> notices = new ArrayList<Integer>();
        int at = NONE;
        boolean isLoggedIn;
        int seen;

        void lookAt(int sight) {
            for (int other = 0; other < NODES; other++) {
                if (has(sight, other) && !has(seen, other)) {
                    addNotice(other + 1);
                } else if (!has(sight, other) && has(seen, other)) {
                    addNotice(-other - 1);
                }
            }
            seen = sight;
        }

        void forgetSight() {
            notices.clear();
            seen = 0;
        }

        private void addNotice(int notice) {
            if (notices.size() >= NOTICES_AT_MOST) {
                notices.remove(0);
            }
            notices.add(notice);
        }
    }

    /** Switches, links, nodes and zones, and the lines between them. */
    private static final class Net {
        final boolean[] up = new boolean[SWITCHES];
        final int[] priority = new int[SWITCHES];
        final int[] domain = new int[SWITCHES];
        /** 0 without a link. */
        final int[][] costs = new int[SWITCHES][SWITCHES];
        final int[][] far = new int[SWITCHES][SWITCHES];
        final int[][] ways = new int[SWITCHES][SWITCHES];
        final int[] zones = new int[ZONES];
        final Node[] nodes = new Node[NODES];
        /** Those from nodes, those to nodes, then those from switch to switch. */
        final Line[] lines = new Line[2 * NODES + SWITCHES * SWITCHES];

        Net() {
            for (int which = 0; which < SWITCHES; which++) {
                up[which] = true;
                priority[which] = FIRST_PRIORITY;
                domain[which] = 1;
                for (int to = 0; to < SWITCHES; to++) {
                    far[which][to] = which == to ? 0 : APART;
                    ways[which][to] = which == to ? to : NONE;
                }
            }
            for (int node = 0; node < NODES; node++) {
                nodes[node] = new Node();
            }
            for (int i = 0; i < lines.length; i++) {
                lines[i] = new Line();
            }
        }

        Line lineFrom(int node) {
            return lines[node];
        }

        Line lineTo(int node) {
            return lines[NODES + node];
        }

        Line lineBetween(int from, int to) {
            return lines[2 * NODES + from * SWITCHES + to];
        }

        /** null if there is no such line. */
        Line lineOf(int kind, int one, int other) {
            if (kind == BETWEEN) {
                return costs[one][other] == 0 ? null : lineBetween(one, other);
            }
            if (nodes[one].at == NONE) {
                return null;
            }
            return kind == FROM_NODE ? lineFrom(one) : lineTo(one);
        }

        int costOf(int one, int other) {
            return costs[one][other] == 0 ? NONE : costs[one][other];
        }

        void setCost(int one, int other, int cost) {
            costs[one][other] = cost;
            costs[other][one] = cost;
        }

        void removeLink(int one, int other) {
            setCost(one, other, 0);
            lineBetween(one, other).renew();
            lineBetween(other, one).renew();
        }

        void shut(int which) {
            up[which] = false;
            logOutAt(which);
            for (int node = 0; node < NODES; node++) {
                if (nodes[node].at == which) {
                    lineFrom(node).dropAll();
                    lineTo(node).dropAll();
                }
            }
            for (int other = 0; other < SWITCHES; other++) {
                lineBetween(which, other).dropAll();
                lineBetween(other, which).dropAll();
            }
        }

        void place(int node, int which) {
            if (nodes[node].at == which) {
                return;
            }
            nodes[node].at = which;
            lineFrom(node).renew();
            lineTo(node).renew();
        }

        void logOutAt(int which) {
            for (int node = 0; node < NODES; node++) {
                if (nodes[node].at == which) {
                    nodes[node].isLoggedIn = false;
                }
            }
        }

        void logOutPortsOf(int controller) {
            for (int port = HOSTS; port < NODES; port++) {
                if (ownController(port) == controller) {
                    nodes[port].isLoggedIn = false;
                }
            }
        }

        int loggedInAt(int which) {
            int count = 0;
            for (int node = 0; node < NODES; node++) {
                if (nodes[node].at == which && nodes[node].isLoggedIn) {
                    count++;
                }
            }
            return count;
        }

        int nodesAt(int which) {
            int set = 0;
            for (int node = 0; node < NODES; node++) {
                if (nodes[node].at == which) {
                    set |= 1 << node;
                }
            }
            return set;
        }

        int addressOf(int node) {
            int at = nodes[node].at;
            return nodes[node].isLoggedIn && at != NONE ? PER_DOMAIN * domain[at] + node : NONE;
        }

        boolean isAlive(int one, int other) {
            return costs[one][other] != 0 && up[one] && up[other];
        }

        private void measure() {
            for (int from = 0; from < SWITCHES; from++) {
                for (int to = 0; to < SWITCHES; to++) {
                    int direct = isAlive(from, to) ? costs[from][to] : APART;
                    far[from][to] = from == to ? 0 : direct;
                }
            }
            for (int over = 0; over < SWITCHES; over++) {
                for (int from = 0; from < SWITCHES; from++) {
                    for (int to = 0; to < SWITCHES; to++) {
                        far[from][to] = Math.min(far[from][to], far[from][over] + far[over][to]);
                    }
                }
            }
        }

        void findWays() {
            measure();
            for (int from = 0; from < SWITCHES; from++) {
                for (int to = 0; to < SWITCHES; to++) {
                    ways[from][to] = nextSwitch(from, to);
                }
            }
        }

        private int nextSwitch(int from, int to) {
            if (from == to) {
                return to;
            }
            int best = NONE;
            int least = APART;
            for (int over = 0; over < SWITCHES; over++) {
                if (isAlive(from, over) && costs[from][over] + far[over][to] < least) {
                    least = costs[from][over] + far[over][to];
                    best = over;
                }
            }
            return best;
        }

        int fabricOf(int which) {
            int set = 0;
            for (int other = 0; other < SWITCHES; other++) {
                if (up[which] && far[which][other] < APART) {
                    set |= 1 << other;
                }
            }
            return set;
        }

        /** NONE of an empty set. */
        int principalOf(int fabric) {
            int best = NONE;
            for (int which = 0; which < SWITCHES; which++) {
                if (has(fabric, which) && (best == NONE || priority[which] < priority[best])) {
                    best = which;
                }
            }
            return best;
        }

        /** Whether it is the smallest of its fabric, so that each fabric is met once. */
        boolean isFirstOfFabric(int which) {
            return up[which] && (fabricOf(which) & (1 << which) - 1) == 0;
        }

        void lookAtDomains() {
            for (int which = 0; which < SWITCHES; which++) {
                if (isFirstOfFabric(which)) {
                    giveDomains(fabricOf(which));
                }
            }
        }

        private void giveDomains(int fabric) {
            int principal = principalOf(fabric);
            if (principal == NONE) {
                return;
            }
            int taken = 1 << domain[principal];
            for (int which = 0; which < SWITCHES; which++) {
                if (has(fabric, which) && which != principal) {
                    if (has(taken, domain[which])) {
                        domain[which] = smallestFreeDomain(fabric);
                        logOutAt(which);
                    }
                    taken |= 1 << domain[which];
                }
            }
        }

        private int domainsOf(int fabric) {
            int set = 0;
            for (int which = 0; which < SWITCHES; which++) {
                if (has(fabric, which)) {
                    set |= 1 << domain[which];
                }
            }
            return set;
        }

        private int smallestFreeDomain(int fabric) {
            int taken = domainsOf(fabric);
            int free = 1;
            while (free < HIGHEST_DOMAIN && has(taken, free)) {
                free++;
            }
            return free;
        }

        boolean see(int one, int other) {
            Node first = nodes[one];
            Node second = nodes[other];
            if (one == other || !first.isLoggedIn || !second.isLoggedIn || first.at == NONE || second.at == NONE) {
                return false;
            }
            return far[first.at][second.at] < APART && shareZone(one, other);
        }

        private boolean shareZone(int one, int other) {
            int both = 1 << one | 1 << other;
            for (int zone = 0; zone < ZONES; zone++) {
                if ((zones[zone] & both) == both) {
                    return true;
                }
            }
            return false;
        }

        int sightOf(int node) {
            int set = 0;
            for (int other = 0; other < NODES; other++) {
                if (see(node, other)) {
                    set |= 1 << other;
                }
            }
            return set;
        }

        void lookAround() {
            for (int node = 0; node < NODES; node++) {
                if (nodes[node].isLoggedIn) {
                    nodes[node].lookAt(sightOf(node));
                } else {
                    nodes[node].forgetSight();
                }
            }
        }

        int bestPort(int host, int volume) {
            int own = portSeen(host, ownController(volume));
            return own != NONE ? own : portSeen(host, 1 - ownController(volume));
        }

        private int portSeen(int host, int controller) {
            for (int port = HOSTS; port < NODES; port++) {
                if (ownController(port) == controller && see(host, port)) {
                    return port;
                }
            }
            return NONE;
        }

        /** A switch, or above these the node; NONE without a way. */
        int nextStep(int at, Frame frame) {
            int end = nodes[frame.target].at;
            if (end == NONE) {
                return NONE;
            }
            return end == at ? SWITCHES + frame.target : ways[at][end];
        }

        /** The line into a switch whose oldest frame takes this step; null without. */
        Line lineWithStep(int at, int step) {
            for (int node = 0; node < NODES; node++) {
                if (nodes[node].at == at && isNext(lineFrom(node), at, step)) {
                    return lineFrom(node);
                }
            }
            for (int from = 0; from < SWITCHES; from++) {
                if (isNext(lineBetween(from, at), at, step)) {
                    return lineBetween(from, at);
                }
            }
            return null;
        }

        private boolean isNext(Line line, int at, int step) {
            Frame oldest = line.oldest();
            return oldest != null && nextStep(at, oldest) == step;
        }

        void dropStrayed() {
            for (int node = 0; node < NODES; node++) {
                if (nodes[node].at != NONE) {
                    dropStrayedOf(lineFrom(node), nodes[node].at);
                }
            }
            for (int from = 0; from < SWITCHES; from++) {
                for (int to = 0; to < SWITCHES; to++) {
                    dropStrayedOf(lineBetween(from, to), to);
                }
            }
        }

        private void dropStrayedOf(Line line, int at) {
            for (int i = line.frames.size() - 1; i >= 0; i--) {
                if (nextStep(at, line.frames.get(i)) == NONE) {
                    line.frames.remove(i);
                    line.credits++;
                }
            }
        }

        void dropFramesOf(Exchange exchange) {
            for (int node = 0; node < NODES; node++) {
                Frame.dropOf(nodes[node].waiting, exchange);
            }
            for (int i = 0; i < lines.length; i++) {
                lines[i].credits += Frame.dropOf(lines[i].frames, exchange);
            }
        }

        int countFramesOf(Exchange exchange) {
            int count = 0;
            if (exchange.state != OPEN) {
                return 0;
            }
            for (int node = 0; node < NODES; node++) {
                count += Frame.countOf(nodes[node].waiting, exchange);
            }
            for (int i = 0; i < lines.length; i++) {
                count += Frame.countOf(lines[i].frames, exchange);
            }
            return count;
        }

        int countFrames() {
            int count = 0;
            for (int node = 0; node < NODES; node++) {
                count += nodes[node].waiting.size();
            }
            for (int i = 0; i < lines.length; i++) {
                count += lines[i].frames.size();
            }
            return count;
        }

        int countFramesAt(int which) {
            int count = 0;
            for (int node = 0; node < NODES; node++) {
                if (nodes[node].at == which) {
                    count += lineFrom(node).frames.size();
                }
            }
            for (int from = 0; from < SWITCHES; from++) {
                count += lineBetween(from, which).frames.size();
            }
            return count;
        }

        int countLeaked() {
            int count = 0;
            for (int i = 0; i < lines.length; i++) {
                count += lines[i].leaked;
            }
            return count;
        }

        void restoreLeaked() {
            for (int i = 0; i < lines.length; i++) {
                lines[i].restoreLeaked();
            }
        }

        int countUp() {
            int count = 0;
            for (int which = 0; which < SWITCHES; which++) {
                count += up[which] ? 1 : 0;
            }
            return count;
        }

        int countFabrics() {
            int count = 0;
            for (int which = 0; which < SWITCHES; which++) {
                count += isFirstOfFabric(which) ? 1 : 0;
            }
            return count;
        }

        int countLinks() {
            int count = 0;
            for (int one = 0; one < SWITCHES; one++) {
                for (int other = one + 1; other < SWITCHES; other++) {
                    count += costs[one][other] == 0 ? 0 : 1;
                }
            }
            return count;
        }

        int countLoggedIn() {
            int count = 0;
            for (int node = 0; node < NODES; node++) {
                count += nodes[node].isLoggedIn ? 1 : 0;
            }
            return count;
        }

        boolean areLinesSound() {
            for (int i = 0; i < lines.length; i++) {
                Line line = lines[i];
                if (line.credits < 0 || line.credits + line.frames.size() + line.leaked != PLACES) {
                    return false;
                }
            }
            return true;
        }

        boolean isSightSound() {
            for (int node = 0; node < NODES; node++) {
                if (nodes[node].seen != sightOf(node)) {
                    return false;
                }
            }
            return true;
        }

        boolean areDomainsSound() {
            for (int which = 0; which < SWITCHES; which++) {
                int fabric = fabricOf(which);
                if (Integer.bitCount(domainsOf(fabric)) != Integer.bitCount(fabric)) {
                    return false;
                }
            }
            return true;
        }

        boolean areWaysSound() {
            for (int from = 0; from < SWITCHES; from++) {
                for (int to = 0; to < SWITCHES; to++) {
                    if (from != to && !isWaySound(from, to)) {
                        return false;
                    }
                }
            }
            return true;
        }

        /** Goes the way step by step, since each step alone may be right and the whole still too long. */
        private boolean isWaySound(int from, int to) {
            int sum = 0;
            int at = from;
            for (int i = 0; i < SWITCHES && at != to && at != NONE; i++) {
                int next = ways[at][to];
                sum += next == NONE ? APART : costs[at][next];
                at = next;
            }
            int least = shortestRow(from, to);
            return far[from][to] == least && Math.min(sum, APART) == least && (at == to || sum == APART);
        }

        /** Over all rows of switches from one to the other: alone, by one, or by two others. */
        private int shortestRow(int from, int to) {
            int least = hop(from, to);
            for (int first = 0; first < SWITCHES; first++) {
                least = Math.min(least, hop(from, first) + hop(first, to));
                for (int second = 0; second < SWITCHES; second++) {
                    least = Math.min(least, hop(from, first) + hop(first, second) + hop(second, to));
                }
            }
            return least;
        }

        private int hop(int from, int to) {
            return isAlive(from, to) ? costs[from][to] : APART;
        }
    }

    /** A command of a host, the two sequences of frames for it, and what came of it. */
    private static final class Exchange {
        final int number;
        final int host;
        final int port;
        final int tag;
        final boolean isAcked;
        final boolean isUrgent;
        int kind;
        int volume;
        int block;
        int many;
        int value;
        int state = OPEN;
        /** What the array answered; it counts only as the exchange is done. */
        int status = NONE;
        int age;
        /** Of each sequence: its frames, which of them were taken, how many left the row, acks taken. */
        final int[] lengths = new int[2];
        final int[] taken = new int[2];
        final int[] left = new int[2];
        final int[] acks = new int[2];
        final int[] got = new int[BLOCKS_A_COMMAND];
        /** The marks of the frames that the look for soundness has met. */
        int met;

        Exchange(int number, int host, int port, int tag, int manner) {
            this.number = number;
            this.host = host;
            this.port = port;
            this.tag = tag;
            isAcked = (manner & ACKED) != 0;
            isUrgent = (manner & URGENT) != 0;
        }

        void ask(int volume, int kind, int block, int many, int value) {
            this.volume = volume;
            this.kind = kind;
            this.block = block;
            this.many = many;
            this.value = value;
            lengths[FORTH] = kind == WRITE ? many + 1 : 1;
        }

        void reply(int status) {
            this.status = status;
            lengths[BACK] = kind == READ && status == GOOD ? many + 1 : 1;
        }

        int countTaken(int course) {
            return Integer.bitCount(taken[course]);
        }

        boolean isWhole(int course) {
            return countTaken(course) == lengths[course];
        }

        int fact(int what) {
            switch (what) {
                case 0:
                    return host;
                case 1:
                    return port;
                case 2:
                    return tag;
                case 3:
                    return kind;
                case 4:
                    return volume;
                case 5:
                    return state;
                case 6:
                    return state == DONE ? status : NONE;
                case 7:
                    return age;
                case 9:
                    return countTaken(FORTH);
                case 10:
                    return countTaken(BACK);
                case 11:
                    return (isAcked ? ACKED : 0) + (isUrgent ? URGENT : 0);
                case 12:
                    return acks[FORTH];
                default:
                    return acks[BACK];
            }
        }

        boolean isSequenceSound(int course) {
            boolean isGapless = (taken[course] & taken[course] + 1) == 0;
            return isGapless && (!isAcked || left[course] - acks[course] <= WINDOW);
        }
    }

    /** The exchanges, and how their frames go from tick to tick. */
    private static final class Traffic {
        final Net net;
        final Store store;
        final ArrayList<Exchange> exchanges = new ArrayList<Exchange>();
        /** The last one of each tag: what is open is always among them. */
        final Exchange[] last = new Exchange[HOSTS * TAGS];
        final int[] manners = new int[HOSTS];
        int ticks;
        int crossed;

        Traffic(Net net, Store store) {
            this.net = net;
            this.store = store;
        }

        Exchange lastOf(int host, int tag) {
            return last[host * TAGS + tag];
        }

        private boolean isOpen(Exchange exchange) {
            return exchange != null && exchange.state == OPEN;
        }

        /** Answers how many exchanges are lost by what changed. */
        int settle() {
            net.findWays();
            net.lookAtDomains();
            net.lookAround();
            int lost = 0;
            for (int i = 0; i < last.length; i++) {
                Exchange exchange = last[i];
                if (isOpen(exchange) && !net.see(exchange.host, exchange.port)) {
                    end(exchange, LOST);
                    lost++;
                }
            }
            return lost;
        }

        /** NONE if it can not be begun. */
        int begin(int host, int tag, int volume, int kind, int block, int many, int value) {
            int port = net.bestPort(host, volume);
            if (isOpen(lastOf(host, tag)) || port == NONE || exchanges.size() >= EXCHANGES_AT_MOST) {
                return NONE;
            }
            Exchange exchange = new Exchange(exchanges.size() + 1, host, port, tag, manners[host]);
            exchange.ask(volume, kind, block, many, value);
            exchanges.add(exchange);
            last[host * TAGS + tag] = exchange;
            send(exchange, FORTH, host);
            return exchange.number;
        }

        private void send(Exchange exchange, int course, int node) {
            for (int number = 0; number < exchange.lengths[course]; number++) {
                net.nodes[node].waiting.add(new Frame(exchange, course, number, false));
            }
        }

        void end(Exchange exchange, int state) {
            exchange.state = state;
            net.dropFramesOf(exchange);
            store.controllers[ownController(exchange.port)].dequeue(exchange);
        }

        void passTick() {
            ticks++;
            for (int i = 0; i < last.length; i++) {
                if (isOpen(last[i])) {
                    last[i].age++;
                }
            }
            for (int node = 0; node < NODES; node++) {
                takeAt(node);
            }
            for (int which = 0; which < CONTROLLERS; which++) {
                work(store.controllers[which]);
            }
            net.dropStrayed();
            crossLines();
            loseOld();
        }

        private void takeAt(int node) {
            Frame frame = net.lineTo(node).takeOldest();
            if (frame == null) {
                return;
            }
            Exchange exchange = frame.exchange;
            if (frame.isAck) {
                exchange.acks[frame.course]++;
            } else if (frame.number != exchange.countTaken(frame.course)) {
                end(exchange, LOST);
            } else {
                exchange.taken[frame.course] |= 1 << frame.number;
                follow(frame, node);
            }
        }

        private void follow(Frame frame, int node) {
            Exchange exchange = frame.exchange;
            if (frame.course == BACK && exchange.isWhole(BACK)) {
                end(exchange, DONE);
                return;
            }
            if (exchange.isAcked) {
                net.nodes[node].waiting.add(new Frame(exchange, frame.course, frame.number, true));
            }
            if (frame.course == FORTH && exchange.isWhole(FORTH)
                && !store.controllers[ownController(node)].enqueue(exchange)) {
                answer(exchange, BUSY);
            }
        }

        private void answer(Exchange exchange, int status) {
            exchange.reply(status);
            send(exchange, BACK, exchange.port);
        }

        private void work(Controller controller) {
            if (controller.queued.isEmpty()) {
                return;
            }
            Exchange exchange = controller.queued.get(0);
            controller.queued.remove(0);
            int status = store.judge(exchange);
            if (status == GOOD) {
                store.carryOut(exchange);
            }
            answer(exchange, status);
        }

        private void crossLines() {
            for (int node = 0; node < NODES; node++) {
                crossFromNode(node);
            }
            for (int from = 0; from < SWITCHES; from++) {
                for (int to = 0; to < SWITCHES; to++) {
                    if (net.isAlive(from, to)) {
                        cross(from, to, net.lineBetween(from, to));
                    }
                }
            }
            for (int node = 0; node < NODES; node++) {
                int at = net.nodes[node].at;
                if (at != NONE && net.up[at]) {
                    cross(at, SWITCHES + node, net.lineTo(node));
                }
            }
        }

        private void crossFromNode(int node) {
            int at = net.nodes[node].at;
            if (at == NONE || !net.up[at] || net.lineFrom(node).credits == 0) {
                return;
            }
            ArrayList<Frame> waiting = net.nodes[node].waiting;
            for (int i = 0; i < waiting.size(); i++) {
                Frame frame = waiting.get(i);
                if (frame.mayLeave()) {
                    waiting.remove(i);
                    frame.exchange.left[frame.course] += frame.isAck ? 0 : 1;
                    net.lineFrom(node).put(frame);
                    crossed++;
                    return;
                }
            }
        }

        private void cross(int at, int step, Line line) {
            if (line.credits == 0) {
                return;
            }
            Line source = net.lineWithStep(at, step);
            Frame frame = source == null ? null : source.takeOldest();
            if (frame != null) {
                line.put(frame);
                crossed++;
            }
        }

        private void loseOld() {
            for (int i = 0; i < last.length; i++) {
                if (isOpen(last[i]) && last[i].age >= TICKS_TO_LIVE) {
                    end(last[i], LOST);
                }
            }
        }

        int countExchanges(int state) {
            int count = 0;
            for (int i = 0; i < exchanges.size(); i++) {
                count += exchanges.get(i).state == state ? 1 : 0;
            }
            return count;
        }

        boolean areFramesSound() {
            for (int i = 0; i < last.length; i++) {
                if (last[i] != null) {
                    last[i].met = 0;
                }
            }
            for (int node = 0; node < NODES; node++) {
                if (!areSoundFrames(net.nodes[node].waiting)) {
                    return false;
                }
            }
            for (int i = 0; i < net.lines.length; i++) {
                if (!areSoundFrames(net.lines[i].frames)) {
                    return false;
                }
            }
            return true;
        }

        private boolean areSoundFrames(ArrayList<Frame> frames) {
            for (int i = 0; i < frames.size(); i++) {
                Exchange exchange = frames.get(i).exchange;
                int mark = frames.get(i).mark();
                if (!isOpen(exchange) || !net.see(exchange.host, exchange.port) || (exchange.met & mark) != 0) {
                    return false;
                }
                exchange.met |= mark;
            }
            return true;
        }

        boolean areSequencesSound() {
            for (int i = 0; i < exchanges.size(); i++) {
                Exchange exchange = exchanges.get(i);
                if (!exchange.isSequenceSound(FORTH) || !exchange.isSequenceSound(BACK)) {
                    return false;
                }
            }
            return true;
        }
    }

    /** A controller of the array, with its queue and its cache. */
    private static final class Controller {
        final ArrayList<Exchange> queued = new ArrayList<Exchange>();
        /** Of each cached block volume and block in one number, the one that came first ahead. */
        final int[] keys = new int[CACHED_AT_MOST];
        final int[] values = new int[CACHED_AT_MOST];
        int cached;
        boolean isRunning = true;

        /** Answers whether there was a place. */
        boolean enqueue(Exchange exchange) {
            if (queued.size() >= QUEUED_AT_MOST) {
                return false;
            }
            int place = queued.size();
            while (exchange.isUrgent && place > 0 && !queued.get(place - 1).isUrgent) {
                place--;
            }
            queued.add(place, exchange);
            return true;
        }

        void dequeue(Exchange exchange) {
            for (int i = queued.size() - 1; i >= 0; i--) {
                if (queued.get(i) == exchange) {
                    queued.remove(i);
                }
            }
        }

        boolean isQueueSound() {
            boolean isBehindPlain = false;
            for (int i = 0; i < queued.size(); i++) {
                Exchange exchange = queued.get(i);
                if (exchange.state != OPEN || exchange.isUrgent && isBehindPlain) {
                    return false;
                }
                isBehindPlain = isBehindPlain || !exchange.isUrgent;
            }
            return queued.size() <= QUEUED_AT_MOST;
        }

        /** NONE if it is not cached. */
        int placeOf(int key) {
            for (int i = 0; i < cached; i++) {
                if (keys[i] == key) {
                    return i;
                }
            }
            return NONE;
        }

        void keep(int key, int value) {
            int place = placeOf(key);
            if (place == NONE && cached < CACHED_AT_MOST) {
                place = cached;
                cached++;
            }
            if (place != NONE) {
                keys[place] = key;
                values[place] = value;
            }
        }

        void discard(int place) {
            if (place >= cached) {
                return;
            }
            cached--;
            for (int i = place; i < cached; i++) {
                keys[i] = keys[i + 1];
                values[i] = values[i + 1];
            }
        }

        boolean isLike(Controller other) {
            if (cached != other.cached) {
                return false;
            }
            for (int i = 0; i < cached; i++) {
                if (keys[i] != other.keys[i] || values[i] != other.values[i]) {
                    return false;
                }
            }
            return true;
        }
    }

    /** One half of a mirror. */
    private static final class Side {
        final int[] values = new int[BLOCKS];
        int marks;
        boolean isFit = true;
        boolean isInStep = true;

        boolean isCurrent() {
            return isFit && isInStep;
        }

        void catchUp(Side other, int many) {
            int copied = 0;
            for (int block = 0; block < BLOCKS && copied < many; block++) {
                if (has(marks, block)) {
                    values[block] = other.values[block];
                    marks = withOrWithout(marks, block, false);
                    copied++;
                }
            }
            isInStep = marks == 0;
        }

        boolean isLikeButForMarks(Side other) {
            for (int block = 0; block < BLOCKS; block++) {
                if (!has(marks, block) && values[block] != other.values[block]) {
                    return false;
                }
            }
            return true;
        }
    }

    /** A copy of a volume: what was written over since it was made; of all else the volume itself still tells. */
    private static final class Snapshot {
        final int[] values = new int[BLOCKS];
        /** What was read as it was made, for the look for soundness alone. */
        final int[] asMade = new int[BLOCKS];
        boolean isThere;
        int kept;

        void keep(int block, int value) {
            if (isThere && !has(kept, block)) {
                values[block] = value;
                kept |= 1 << block;
            }
        }
    }

    /** A volume with its sides, its copies, and what hosts have to do with it. */
    private static final class Volume {
        final Side[] sides = new Side[SIDES];
        final Snapshot[] copies = new Snapshot[COPIES];
        /** What was written and what was stored last, for the look for soundness alone. */
        final int[] written = new int[BLOCKS];
        final int[] stored = new int[BLOCKS];
        int holder = NONE;
        int attention;
        int denied;

        Volume() {
            for (int side = 0; side < SIDES; side++) {
                sides[side] = new Side();
            }
            for (int copy = 0; copy < COPIES; copy++) {
                copies[copy] = new Snapshot();
            }
        }

        /** One of the two always is, since none breaks without the other one. */
        Side currentSide() {
            return sides[0].isFit && sides[0].isInStep ? sides[0] : sides[1];
        }

        void storeBlock(int block, int value) {
            stored[block] = value;
            for (int i = 0; i < SIDES; i++) {
                Side side = sides[i];
                if (side.isFit && side.isInStep) {
                    side.values[block] = value;
                } else {
                    side.marks |= 1 << block;
                }
            }
        }

        int setOfCopies() {
            int set = 0;
            for (int copy = 0; copy < COPIES; copy++) {
                set |= copies[copy].isThere ? 1 << copy : 0;
            }
            return set;
        }

        boolean areSidesSound() {
            if (!currentSide().isCurrent()) {
                return false;
            }
            for (int i = 0; i < SIDES; i++) {
                if (sides[i].isCurrent() && !hasStored(sides[i])) {
                    return false;
                }
                if (!sides[i].isInStep && !sides[i].isLikeButForMarks(sides[1 - i])) {
                    return false;
                }
            }
            return true;
        }

        private boolean hasStored(Side side) {
            for (int block = 0; block < BLOCKS; block++) {
                if (side.values[block] != stored[block]) {
                    return false;
                }
            }
            return true;
        }
    }

    /** The array: its controllers, its volumes, and what commands do there. */
    private static final class Store {
        final Controller[] controllers = new Controller[CONTROLLERS];
        final Volume[] volumes = new Volume[VOLUMES];

        Store() {
            for (int which = 0; which < CONTROLLERS; which++) {
                controllers[which] = new Controller();
            }
            for (int volume = 0; volume < VOLUMES; volume++) {
                volumes[volume] = new Volume();
            }
        }

        int countRunning() {
            return (controllers[0].isRunning ? 1 : 0) + (controllers[1].isRunning ? 1 : 0);
        }

        int countQueued() {
            return controllers[0].queued.size() + controllers[1].queued.size();
        }

        int countCached(int volume) {
            int count = 0;
            for (int block = 0; block < BLOCKS; block++) {
                int key = keyOf(volume, block);
                if (controllers[0].placeOf(key) != NONE || controllers[1].placeOf(key) != NONE) {
                    count++;
                }
            }
            return count;
        }

        private static int keyOf(int volume, int block) {
            return volume * BLOCKS + block;
        }

        /** By the smallest controller that is up: both caches are the same, or both are empty. */
        int readBlock(int volume, int block) {
            Controller reader = controllers[0].isRunning ? controllers[0] : controllers[1];
            int place = reader.placeOf(keyOf(volume, block));
            return place != NONE ? reader.values[place] : volumes[volume].currentSide().values[block];
        }

        void writeBlock(int volume, int block, int value) {
            int before = readBlock(volume, block);
            for (int copy = 0; copy < COPIES; copy++) {
                volumes[volume].copies[copy].keep(block, before);
            }
            volumes[volume].written[block] = value;
            if (countRunning() == CONTROLLERS) {
                controllers[0].keep(keyOf(volume, block), value);
                controllers[1].keep(keyOf(volume, block), value);
            } else {
                volumes[volume].storeBlock(block, value);
            }
        }

        /** Stores what a cache holds at a place; it goes out of both, since both hold the same in one sequence. */
        private void storeCached(Controller from, int place) {
            int key = from.keys[place];
            volumes[key / BLOCKS].storeBlock(key % BLOCKS, from.values[place]);
            controllers[0].discard(place);
            controllers[1].discard(place);
        }

        int storeFirst(int which, int many) {
            int stored = 0;
            while (stored < many && controllers[which].cached > 0) {
                storeCached(controllers[which], 0);
                stored++;
            }
            return stored;
        }

        /** Looks at each place of the cache once; what goes out brings the next one to its place. */
        private void storeVolume(int volume) {
            Controller from = controllers[0];
            int place = 0;
            for (int looked = from.cached; looked > 0; looked--) {
                if (from.keys[place] / BLOCKS == volume) {
                    storeCached(from, place);
                } else {
                    place++;
                }
            }
        }

        int stop(int which) {
            controllers[which].isRunning = false;
            int stored = countRunning() > 0 ? storeFirst(which, CACHED_AT_MOST) : 0;
            controllers[0].cached = 0;
            controllers[1].cached = 0;
            return stored;
        }

        void makeCopy(int volume, int copy) {
            Snapshot made = volumes[volume].copies[copy];
            made.isThere = true;
            made.kept = 0;
            for (int block = 0; block < BLOCKS; block++) {
                made.asMade[block] = readBlock(volume, block);
            }
        }

        int copyTells(int volume, int copy, int block) {
            Snapshot asked = volumes[volume].copies[copy];
            return has(asked.kept, block) ? asked.values[block] : readBlock(volume, block);
        }

        int writeBack(int volume, int copy) {
            int changed = 0;
            for (int block = 0; block < BLOCKS; block++) {
                int value = copyTells(volume, copy, block);
                changed += value == readBlock(volume, block) ? 0 : 1;
                writeBlock(volume, block, value);
            }
            volumes[volume].attention = (1 << HOSTS) - 1;
            return changed;
        }

        /** GOOD if the command may be carried out. */
        int judge(Exchange exchange) {
            Volume volume = volumes[exchange.volume];
            if (has(volume.denied, exchange.host)) {
                return DENIED;
            }
            if (has(volume.attention, exchange.host)) {
                volume.attention = withOrWithout(volume.attention, exchange.host, false);
                return CHECK;
            }
            boolean isHeld = volume.holder != NONE && volume.holder != exchange.host;
            return isHeld && needsHolder(exchange.kind) ? CONFLICT : GOOD;
        }

        private static boolean needsHolder(int kind) {
            return kind == WRITE || kind == RESERVE || kind == FLUSH;
        }

        void carryOut(Exchange exchange) {
            Volume volume = volumes[exchange.volume];
            switch (exchange.kind) {
                case READ:
                    for (int i = 0; i < exchange.many; i++) {
                        exchange.got[i] = readBlock(exchange.volume, exchange.block + i);
                    }
                    break;
                case WRITE:
                    for (int i = 0; i < exchange.many; i++) {
                        int value = (exchange.value + i) % (HIGHEST_VALUE + 1);
                        writeBlock(exchange.volume, exchange.block + i, value);
                    }
                    break;
                case RESERVE:
                    volume.holder = exchange.host;
                    break;
                case RELEASE:
                    if (volume.holder == exchange.host) {
                        volume.holder = NONE;
                    }
                    break;
                case RESET:
                    volume.holder = NONE;
                    volume.attention |= (1 << HOSTS) - 1 & ~(1 << exchange.host);
                    break;
                case FLUSH:
                    storeVolume(exchange.volume);
                    break;
                default:
                    break;
            }
        }

        boolean areQueuesSound() {
            return controllers[0].isQueueSound() && controllers[1].isQueueSound();
        }

        boolean areCachesSound() {
            if (countRunning() == CONTROLLERS) {
                return controllers[0].isLike(controllers[1]);
            }
            return controllers[0].cached == 0 && controllers[1].cached == 0;
        }

        boolean areVolumesSound() {
            for (int volume = 0; volume < VOLUMES; volume++) {
                if (!volumes[volume].areSidesSound() || !areBlocksSound(volume)) {
                    return false;
                }
            }
            return true;
        }

        private boolean areBlocksSound(int volume) {
            for (int block = 0; block < BLOCKS; block++) {
                if (readBlock(volume, block) != volumes[volume].written[block]) {
                    return false;
                }
                for (int copy = 0; copy < COPIES; copy++) {
                    Snapshot asked = volumes[volume].copies[copy];
                    if (asked.isThere && copyTells(volume, copy, block) != asked.asMade[block]) {
                        return false;
                    }
                }
            }
            return true;
        }
    }
}
