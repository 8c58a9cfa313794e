import java.util.ArrayDeque;
import java.util.ArrayList;
import java.util.Deque;
import java.util.List;
import java.util.NoSuchElementException;
import java.util.TreeMap;
import java.util.TreeSet;

/**
 * The document once more, in the plainest form and with the whole Java library: nothing is kept that can be reckoned
 * anew. RandomTests compares it with Hubcascade.
 */
final class Model {
    private static final class Point {
        boolean isIn;
        int greatest;
        int toggle;
        int resend;
        int faults;
        char fault;
        List<Integer> bytes = new ArrayList<>();
    }

    private static final class Unit {
        char speed;
        int ports;
        int need;
        boolean own;
        int kind;
        int told;
        char state = 'u';
        int hub = -1;
        int port = -1;
        int address;
        int driver = -1;
        int blame;
        int asleepUntil;
        TreeMap<Integer, Point> points = new TreeMap<>();
    }

    private static final class Job {
        List<Integer> out = new ArrayList<>();
        int total;
        int done;
        boolean begun;
        boolean lossy;
    }

    private static final class Line {
        int device;
        int point;
        char kind;
        int interval;
        int phase = -1;
        int toggle;
        int failures;
        boolean halted;
        char cause;
        Deque<Job> jobs = new ArrayDeque<>();
    }

    private final List<Unit> units = new ArrayList<>();
    private final List<int[]> drivers = new ArrayList<>();
    private final TreeMap<Integer, Line> lines = new TreeMap<>();
    private final List<Integer> typed = new ArrayList<>();
    private final List<Integer> got = new ArrayList<>();
    private final Deque<int[]> row = new ArrayDeque<>();
    private int[] lastEvent;
    private int missed;
    private int overs;
    private int overBytes;
    private int frames;
    private int lastTurn = 11;
    private int used;
    private int hostLeft;
    private final int[] hubLeft = new int[16];
    private final TreeSet<Integer> paused = new TreeSet<>();
    private int tokens;
    private int data;
    private int handshakes;

    Model() {
        make('h', 4, 1, true, 0);
        units.get(0).state = 'c';
    }

    int make(char speed, int ports, int power, boolean hasOwn, int kind) {
        boolean isFine = "lfh".indexOf(speed) >= 0 && ports >= 0 && ports <= 4 && power >= 1 && power <= 5;
        if (!isFine || kind < 0 || kind > 99 || speed == 'l' && ports > 0) {
            throw new IllegalArgumentException();
        }
        if (units.size() == 16) {
            throw new IllegalStateException();
        }
        Unit u = new Unit();
        u.speed = speed;
        u.ports = ports;
        u.need = power;
        u.told = power;
        u.own = hasOwn;
        u.kind = kind;
        u.points.put(0, new Point());
        units.add(u);
        return units.size() - 1;
    }

    int endpoint(int device, int number, boolean isIn, int greatest) {
        Unit u = unit(device);
        if (number < 1 || number > 3 || greatest < 1 || greatest > 8) {
            throw new IllegalArgumentException();
        }
        if (u.points.containsKey(number) || u.state != 'u') {
            throw new UnsupportedOperationException();
        }
        Point p = new Point();
        p.isIn = isIn;
        p.greatest = greatest;
        u.points.put(number, p);
        return u.points.size() - 1;
    }

    int plug(int device, int hub, int port) {
        Unit u = unit(device);
        Unit h = unit(hub);
        if (port < 0 || port >= h.ports) {
            throw new IndexOutOfBoundsException();
        }
        boolean isTaken = units.stream().anyMatch(o -> o.hub == hub && o.port == port);
        if (u.state != 'u' || "usx".indexOf(h.state) >= 0 || isTaken || depthOf(hub) == 5) {
            throw new UnsupportedOperationException();
        }
        u.state = 'n';
        u.hub = hub;
        u.port = port;
        return depthOf(device);
    }

    int unplug(int device) {
        Unit u = unit(device);
        if (device == 0) {
            throw new IndexOutOfBoundsException();
        }
        if (u.state == 'u') {
            throw new UnsupportedOperationException();
        }
        TreeSet<Integer> all = below(device);
        all.add(device);
        pull(all);
        return all.size();
    }

    char stateOf(int device) {
        return unit(device).state;
    }

    int hubOf(int device) {
        return unit(device).hub;
    }

    int depthOf(int device) {
        Unit u = unit(device);
        if (device == 0) {
            return 0;
        }
        return u.hub < 0 ? -1 : depthOf(u.hub) + 1;
    }

    char speedOf(int device) {
        Unit u = unit(device);
        if (u.hub < 0) {
            return u.speed;
        }
        String order = "lfh";
        return order.charAt(Math.min(order.indexOf(u.speed), order.indexOf(speedOf(u.hub))));
    }

    int translator(int device) {
        Unit u = unit(device);
        if (u.hub < 0) {
            throw new UnsupportedOperationException();
        }
        return speedOf(u.hub) == 'h' ? u.hub : translator(u.hub);
    }

    int addressOf(int device) {
        return unit(device).address;
    }

    int look() {
        int found = -1;
        for (int i = 1; i < units.size(); i++) {
            Unit u = units.get(i);
            boolean isHere = u.state == 'n' && units.get(u.hub).state == 'c';
            if (isHere && (found < 0 || depthOf(i) < depthOf(found))) {
                found = i;
            }
        }
        if (found < 0) {
            throw new NoSuchElementException();
        }
        Unit u = units.get(found);
        for (int transaction = 1; transaction <= 5; transaction++) {
            int tries = 1;
            tokens++;
            while (strike(u.points.get(0)) != 0) {
                if (tries == 3) {
                    u.state = 'x';
                    u.blame++;
                    pull(below(found));
                    return found;
                }
                tries++;
                tokens++;
            }
        }
        int address = 1;
        for (boolean isFree = false; !isFree;) {
            isFree = true;
            for (Unit o : units) {
                isFree &= o.address != address;
            }
            address += isFree ? 0 : 1;
        }
        u.address = address;
        u.state = !u.own && u.need > given(u) ? 'p' : 'c';
        if (u.state == 'c') {
            for (int i = drivers.size() - 1; i >= 0; i--) {
                if (drivers.get(i)[0] == u.kind / 10 && drivers.get(i)[1] == -1) {
                    u.driver = i;
                }
            }
            int exact = -1;
            for (int i = drivers.size() - 1; i >= 0; i--) {
                if (drivers.get(i)[0] == u.kind / 10 && drivers.get(i)[1] == u.kind % 10) {
                    exact = i;
                }
            }
            u.driver = exact >= 0 ? exact : u.driver;
        }
        return found;
    }

    int driver(int kind, int subkind) {
        if (kind < 0 || kind > 9 || subkind < -1 || subkind > 9) {
            throw new IllegalArgumentException();
        }
        if (drivers.size() == 8) {
            throw new IllegalStateException();
        }
        drivers.add(new int[] {kind, subkind});
        return drivers.size() - 1;
    }

    int driverOf(int device) {
        return unit(device).driver;
    }

    int draw(int device, int amount) {
        Unit u = unit(device);
        if (device == 0) {
            throw new IndexOutOfBoundsException();
        }
        if (amount < 0 || amount > 9) {
            throw new IllegalArgumentException();
        }
        int before = u.own ? 0 : u.told;
        u.told = amount;
        return before;
    }

    int sleep(int device) {
        Unit u = unit(device);
        if (device == 0) {
            throw new IndexOutOfBoundsException();
        }
        TreeSet<Integer> all = below(device);
        all.add(device);
        boolean isBusy = lines.values().stream().anyMatch(l -> all.contains(l.device) && !l.jobs.isEmpty());
        if (u.state != 'c' || isBusy) {
            throw new UnsupportedOperationException();
        }
        all.removeIf(i -> units.get(i).state != 'c');
        all.forEach(i -> units.get(i).state = 'z');
        return all.size();
    }

    int wake(int device) {
        if (unit(device).state != 'z') {
            throw new UnsupportedOperationException();
        }
        int many = 0;
        for (int i = device; i >= 0; i = units.get(i).hub) {
            if (units.get(i).state == 'z') {
                units.get(i).state = 'c';
                many++;
            }
        }
        unit(device).asleepUntil = frames + many;
        return many;
    }

    int five(int bits) {
        if (bits < 0 || bits > 2047) {
            throw new IllegalArgumentException();
        }
        String text = "";
        for (int i = 0; i < 11; i++) {
            text += (bits >> i) % 2;
        }
        return check(text, 32, 5);
    }

    int type(int value) {
        if (value < 0 || value > 255) {
            throw new IllegalArgumentException();
        }
        if (typed.size() == 16) {
            throw new IllegalStateException();
        }
        typed.add(value);
        return typed.size();
    }

    int wipe() {
        int many = typed.size();
        typed.clear();
        return many;
    }

    int sixteen() {
        return check(bits(), 65536, 32773);
    }

    int stuffed() {
        return bits().replace("111111", "1111110").length();
    }

    int open(int device, int endpoint, char kind, int interval) {
        Unit u = unit(device);
        Point p = point(device, endpoint);
        boolean isBulk = kind == 'b';
        if (!isBulk && (kind != 'i' && kind != 's' || interval < 1 || interval > 8 || 8 % interval != 0)) {
            throw new IllegalArgumentException();
        }
        boolean isPiped = lines.values().stream().anyMatch(l -> l.device == device && l.point == endpoint);
        if (u.state != 'c' || isPiped) {
            throw new UnsupportedOperationException();
        }
        Line line = new Line();
        line.device = device;
        line.point = endpoint;
        line.kind = kind;
        line.interval = interval;
        if (!isBulk) {
            line.phase = phase(line);
            if (line.phase < 0) {
                throw new UnsupportedOperationException();
            }
        }
        int number = 0;
        while (lines.containsKey(number)) {
            number++;
        }
        if (number == 12) {
            throw new IllegalStateException();
        }
        lines.put(number, line);
        p.toggle = 0;
        p.resend = 0;
        return number;
    }

    int close(int pipe) {
        int many = line(pipe).jobs.size();
        shutLine(pipe, 'x');
        return many;
    }

    int phaseOf(int pipe) {
        return line(pipe).phase;
    }

    int reserved(int frame, int hub) {
        if (frame < 0 || frame > 7) {
            throw new IllegalArgumentException();
        }
        if (hub != -1) {
            unit(hub);
        }
        int sum = 0;
        for (Line line : lines.values()) {
            int greatest = point(line.device, line.point).greatest;
            boolean isHere = hub == -1 || translator(line.device) == hub;
            if (line.kind != 'b' && frame % line.interval == line.phase && isHere) {
                sum += hub == -1 ? greatest + 2 : toTranslator(line.device, greatest);
            }
        }
        return sum;
    }

    int send(int pipe) {
        Line line = line(pipe);
        if (at(line).isIn || typed.isEmpty()) {
            throw new UnsupportedOperationException();
        }
        Job job = new Job();
        job.out.addAll(typed);
        job.total = typed.size();
        return put(line, job, true);
    }

    int ask(int pipe, int bytes) {
        Line line = line(pipe);
        if (bytes < 1 || bytes > 16) {
            throw new IllegalArgumentException();
        }
        if (!at(line).isIn) {
            throw new UnsupportedOperationException();
        }
        Job job = new Job();
        job.total = bytes;
        return put(line, job, false);
    }

    int ring(int pipe) {
        int many = 0;
        for (Job job : line(pipe).jobs) {
            many += job.begun ? 0 : 1;
            job.begun = true;
        }
        return many;
    }

    boolean isHalted(int pipe) {
        return line(pipe).halted;
    }

    int clear(int pipe) {
        Line line = line(pipe);
        line.halted = false;
        line.failures = 0;
        line.toggle = 0;
        at(line).toggle = 0;
        at(line).resend = 0;
        return line.jobs.size();
    }

    int cancel(int pipe) {
        Line line = line(pipe);
        if (line.jobs.isEmpty()) {
            throw new UnsupportedOperationException();
        }
        int bytes = line.jobs.peek().done;
        finish(pipe, 'x');
        return bytes;
    }

    int load(int device, int endpoint) {
        Point p = point(device, endpoint);
        if (!p.isIn) {
            throw new UnsupportedOperationException();
        }
        if (p.bytes.size() + typed.size() > 32) {
            throw new IllegalStateException();
        }
        p.bytes.addAll(typed);
        typed.clear();
        return p.bytes.size();
    }

    int fault(int device, int endpoint, char kind, int many) {
        if (device == 0) {
            throw new IndexOutOfBoundsException();
        }
        Point p = endpoint == 0 ? unit(device).points.get(0) : point(device, endpoint);
        if ("cdansbt".indexOf(kind) < 0 || many < 1 || many > 9) {
            throw new IllegalArgumentException();
        }
        int before = p.faults;
        p.faults = many;
        p.fault = kind;
        return before;
    }

    int frame() {
        int before = tokens;
        frames++;
        hostLeft = 100;
        java.util.Arrays.fill(hubLeft, 60);
        paused.clear();
        for (int i = 1; i < units.size(); i++) {
            Unit u = units.get(i);
            if (u.state == 'c' && !u.own && u.told > given(u)) {
                u.blame++;
                disable(i);
            }
        }
        for (int i = 0; i < 12; i++) {
            Line line = lines.get(i);
            if (line != null && line.kind != 'b' && frames % line.interval == line.phase && can(line)) {
                transact(i);
            }
        }
        boolean isAnyone = true;
        while (isAnyone) {
            isAnyone = false;
            int start = lastTurn;
            for (int step = 1; step <= 12; step++) {
                int i = (start + step) % 12;
                Line line = lines.get(i);
                if (line != null && line.kind == 'b' && !paused.contains(i) && can(line)) {
                    lastTurn = i;
                    transact(i);
                    isAnyone = true;
                }
            }
        }
        return tokens - before;
    }

    int frames() {
        return frames;
    }

    int left(int hub) {
        if (hub != -1) {
            unit(hub);
        }
        if (frames == 0) {
            throw new NoSuchElementException();
        }
        return hub == -1 ? hostLeft : hubLeft[hub];
    }

    int events() {
        return row.size();
    }

    char event() {
        if (row.isEmpty()) {
            throw new NoSuchElementException();
        }
        lastEvent = row.remove();
        return (char) lastEvent[0];
    }

    int eventPipe() {
        if (lastEvent == null) {
            throw new NoSuchElementException();
        }
        return lastEvent[1];
    }

    int eventBytes() {
        if (lastEvent == null) {
            throw new NoSuchElementException();
        }
        return lastEvent[2];
    }

    int missed() {
        return missed;
    }

    int taken(int device, int endpoint) {
        return taker(device, endpoint).bytes.size();
    }

    int takenAt(int device, int endpoint, int index) {
        return last(taker(device, endpoint).bytes, index);
    }

    int waiting(int device, int endpoint) {
        Point p = point(device, endpoint);
        if (!p.isIn) {
            throw new UnsupportedOperationException();
        }
        return p.bytes.size();
    }

    int got() {
        return got.size();
    }

    int gotAt(int index) {
        return last(got, index);
    }

    int packets(char what) {
        int place = "tdh".indexOf(what);
        if (place < 0) {
            throw new IllegalArgumentException();
        }
        return new int[] {tokens, data, handshakes}[place];
    }

    int blame(int device) {
        return unit(device).blame;
    }

    char causeOf(int pipe) {
        char cause = line(pipe).cause;
        if (cause == 0) {
            throw new UnsupportedOperationException();
        }
        return cause;
    }

    float busyShare() {
        if (frames == 0) {
            throw new ArithmeticException();
        }
        return (float) used / (float) (100 * frames);
    }

    double meanBytes() {
        if (overs == 0) {
            throw new ArithmeticException();
        }
        return (double) overBytes / (double) overs;
    }

    long checksum() {
        long sum = 7;
        for (Unit u : units) {
            sum = 31 * sum + u.state + u.address + 100L * u.blame;
        }
        for (int value : got.subList(Math.max(0, got.size() - 32), got.size())) {
            sum = 31 * sum + value;
        }
        return sum;
    }

    boolean isSound() {
        return true;
    }

    private Unit unit(int device) {
        if (device < 0 || device >= units.size()) {
            throw new IndexOutOfBoundsException();
        }
        return units.get(device);
    }

    private Point point(int device, int number) {
        Point p = unit(device).points.get(number);
        if (number == 0 || p == null) {
            throw new IndexOutOfBoundsException();
        }
        return p;
    }

    private Point taker(int device, int number) {
        Point p = point(device, number);
        if (p.isIn) {
            throw new UnsupportedOperationException();
        }
        return p;
    }

    private Line line(int pipe) {
        if (!lines.containsKey(pipe)) {
            throw new NoSuchElementException();
        }
        return lines.get(pipe);
    }

    private Point at(Line line) {
        return units.get(line.device).points.get(line.point);
    }

    private int last(List<Integer> bytes, int index) {
        if (index < 0 || index > 31 || index >= bytes.size()) {
            throw new NoSuchElementException();
        }
        return bytes.get(bytes.size() - 1 - index);
    }

    private TreeSet<Integer> below(int device) {
        TreeSet<Integer> all = new TreeSet<>();
        for (int i = 0; i < units.size(); i++) {
            if (units.get(i).hub == device) {
                all.add(i);
                all.addAll(below(i));
            }
        }
        return all;
    }

    private void pull(TreeSet<Integer> all) {
        for (int i = 0; i < 12; i++) {
            if (lines.containsKey(i) && all.contains(lines.get(i).device)) {
                shutLine(i, 'g');
            }
        }
        for (int i : all) {
            Unit u = units.get(i);
            u.state = 'u';
            u.hub = -1;
            u.port = -1;
            u.address = 0;
            u.driver = -1;
            u.asleepUntil = 0;
        }
    }

    private void disable(int device) {
        units.get(device).state = 's';
        pull(below(device));
    }

    private int given(Unit u) {
        return units.get(u.hub).own ? 5 : 1;
    }

    private int strike(Point p) {
        if (p.faults == 0) {
            return 0;
        }
        p.faults--;
        return p.fault;
    }

    private String bits() {
        StringBuilder text = new StringBuilder();
        for (int value : typed) {
            for (int i = 0; i < 8; i++) {
                text.append((value >> i) % 2);
            }
        }
        return text.toString();
    }

    private int check(String bits, int size, int turn) {
        int c = size - 1;
        for (char bit : bits.toCharArray()) {
            boolean isHigh = c >= size / 2;
            c = c * 2 % size;
            c ^= isHigh == (bit == '1') ? 0 : turn;
        }
        return size - 1 - c;
    }

    private int toTranslator(int device, int bytes) {
        return switch (speedOf(device)) {
            case 'l' -> 8 + 8 * bytes;
            case 'f' -> 4 + 2 * bytes;
            default -> 0;
        };
    }

    private int phase(Line line) {
        int best = -1;
        int least = Integer.MAX_VALUE;
        lines.put(99, line);
        for (line.phase = 0; line.phase < line.interval; line.phase++) {
            int host = 0;
            int hub = 0;
            for (int f = 0; f < 8; f++) {
                host = Math.max(host, reserved(f, -1));
                hub = Math.max(hub, reserved(f, translator(line.device)));
            }
            if (host <= 80 && hub <= 48 && host < least) {
                least = host;
                best = line.phase;
            }
        }
        lines.remove(99);
        return best;
    }

    private int put(Line line, Job job, boolean isTyped) {
        if (line.jobs.size() == 4) {
            throw new IllegalStateException();
        }
        line.jobs.add(job);
        if (isTyped) {
            typed.clear();
        }
        return line.jobs.size();
    }

    private void shutLine(int pipe, char how) {
        while (!lines.get(pipe).jobs.isEmpty()) {
            finish(pipe, how);
        }
        lines.remove(pipe);
    }

    private void finish(int pipe, char how) {
        Job job = lines.get(pipe).jobs.remove();
        overs++;
        overBytes += job.done;
        if (row.size() == 6) {
            missed++;
        } else {
            row.add(new int[] {how, pipe, job.done});
        }
    }

    private int ideal(Line line) {
        Job job = line.jobs.peek();
        Point p = at(line);
        int most = Math.min(p.greatest, job.total - job.done);
        if (p.isIn && p.resend > 0) {
            return p.resend;
        }
        return p.isIn ? Math.min(most, p.bytes.size()) : most;
    }

    private boolean can(Line line) {
        Unit u = units.get(line.device);
        if (line.halted || line.jobs.isEmpty() || !line.jobs.peek().begun) {
            return false;
        }
        int bytes = Math.max(1, ideal(line));
        boolean isAwake = u.state == 'c' && frames > u.asleepUntil;
        return isAwake && 2 + bytes <= hostLeft && toTranslator(line.device, bytes) <= hubLeft[translator(line.device)];
    }

    // Answers of a transaction: '+' well, '-' a failure, '0' not yet, 's' a stall, 'b' a babble.
    private void transact(int pipe) {
        Line line = lines.get(pipe);
        Job job = line.jobs.peek();
        Point p = at(line);
        int bytes = ideal(line);
        int paid = Math.max(1, bytes);
        hostLeft -= 2 + paid;
        used += 2 + paid;
        hubLeft[translator(line.device)] -= toTranslator(line.device, paid);
        tokens++;
        int doneBefore = job.done;
        char fault = (char) strike(p);
        char answer = line.kind == 's' ? bySound(line, job, p, bytes, fault)
            : p.isIn ? comeIn(line, job, p, bytes, fault) : goOut(line, job, p, bytes, fault);
        if (answer == '0' || answer == '-') {
            paused.add(pipe);
        }
        if (answer != '0') {
            line.failures = answer == '-' ? line.failures + 1 : 0;
        }
        if (answer == 'b') {
            units.get(line.device).blame++;
            disable(line.device);
        } else if (answer == 's') {
            finish(pipe, 's');
            line.halted = true;
            line.cause = 's';
        } else if (job.done >= job.total) {
            finish(pipe, job.lossy ? 'l' : 'd');
        } else if (p.isIn && job.done > doneBefore && bytes < p.greatest) {
            finish(pipe, 'h');
        } else if (answer == '-' && line.failures >= 3) {
            finish(pipe, 'e');
            line.halted = true;
            line.cause = fault;
        }
    }

    private char bySound(Line line, Job job, Point p, int bytes, char fault) {
        if (p.isIn && fault == 'b') {
            return 'b';
        }
        if (bytes == 0) {
            return '0';
        }
        data += fault == 0 || fault == 'd' || fault == 'a' ? 1 : 0;
        List<Integer> packet = p.isIn ? cut(p, bytes) : job.out.subList(job.done, job.done + bytes);
        if (fault == 0) {
            (p.isIn ? got : p.bytes).addAll(packet);
        } else {
            job.lossy = true;
        }
        job.done += bytes;
        return '+';
    }

    private char goOut(Line line, Job job, Point p, int bytes, char fault) {
        if (fault == 'c' || fault == 'b' || fault == 't') {
            return '-';
        }
        if (fault == 'n' || fault == 's') {
            handshakes++;
            return fault == 'n' ? '0' : 's';
        }
        data++;
        if (p.toggle == line.toggle) {
            p.toggle ^= 1;
            p.bytes.addAll(job.out.subList(job.done, job.done + bytes));
        }
        if (fault == 'd' || fault == 'a') {
            return '-';
        }
        handshakes++;
        line.toggle ^= 1;
        job.done += bytes;
        return '+';
    }

    private char comeIn(Line line, Job job, Point p, int bytes, char fault) {
        if (fault == 'c' || fault == 'b') {
            return fault == 'c' ? '-' : 'b';
        }
        if (fault == 's' || fault == 'n' || bytes == 0) {
            handshakes++;
            return fault == 's' ? 's' : '0';
        }
        data++;
        if (fault == 't') {
            units.get(line.device).blame++;
            handshakes++;
            cut(p, bytes);
            p.resend = 0;
            return '+';
        }
        p.resend = bytes;
        if (fault == 'd') {
            return '-';
        }
        if (p.toggle == line.toggle) {
            line.toggle ^= 1;
            got.addAll(p.bytes.subList(0, bytes));
            job.done += bytes;
        }
        if (fault == 'a') {
            return '-';
        }
        handshakes++;
        p.toggle ^= 1;
        p.resend = 0;
        cut(p, bytes);
        return '+';
    }

    private List<Integer> cut(Point p, int bytes) {
        List<Integer> packet = new ArrayList<>(p.bytes.subList(0, bytes));
        p.bytes.subList(0, bytes).clear();
        return packet;
    }
}
