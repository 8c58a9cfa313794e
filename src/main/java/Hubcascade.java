import java.util.NoSuchElementException;

/**
 * A serial bus with hubs: a tree of devices, their states and power, and the pipes by which the host talks to them
 * in frames. What each call promises is told in ../shared/DOC.md, under the call's name.
 */
public final class Hubcascade {
    private static final int DEVICES = 16;
    private static final int ENDPOINTS = 3;
    private static final int PIPES = 12;
    private static final int DRIVERS = 8;
    private static final int TRANSFERS = 4;
    private static final int EVENTS = 6;
    private static final int PHASES = 8;
    private static final int DEEPEST = 5;
    private static final int MOST_TYPED = 16;
    private static final int ROW = 32;

    private static final int HOST_UNITS = 100;
    private static final int HUB_UNITS = 60;
    private static final int HOST_RESERVABLE = 80;
    private static final int HUB_RESERVABLE = 48;
    // Far above the 33 transactions of at least 3 units that a frame of 100 units can hold.
    private static final int TURNS_BOUND = 1000;

    private static final char LOW = 'l';
    private static final char FULL = 'f';
    private static final char HIGH = 'h';

    private static final char UNPLUGGED = 'u';
    private static final char NEW = 'n';
    private static final char CONFIGURED = 'c';
    private static final char WEAK = 'p';
    private static final char DEAD = 'x';
    private static final char SHUT = 's';
    private static final char ASLEEP = 'z';

    private static final char BULK = 'b';
    private static final char INTERRUPT = 'i';
    private static final char SOUND = 's';

    private static final char NO_FAULT = ' ';
    private static final char HOST_SPOILED = 'c';
    private static final char DEVICE_SPOILED = 'd';
    private static final char HANDSHAKE_SPOILED = 'a';
    private static final char DELAY = 'n';
    private static final char STALL = 's';
    private static final char BABBLE = 'b';
    private static final char LIE = 't';

    private static final char OVER_DONE = 'd';
    private static final char OVER_SHORT = 'h';
    private static final char OVER_FAILED = 'e';
    private static final char OVER_STALLED = 's';
    private static final char OVER_LOSSY = 'l';
    private static final char OVER_CANCELLED = 'x';
    private static final char OVER_GONE = 'g';

    // How a transaction went, as far as its pipe is concerned.
    private static final int WENT_WELL = 0;
    private static final int FAILED = 1;
    private static final int NOT_YET = 2;
    private static final int STALLED = 3;
    private static final int BABBLED = 4;

    private final Device[] devices = new Device[DEVICES];
    private int deviceCount;
    private final int[] driverClasses = new int[DRIVERS];
    private final int[] driverSubclasses = new int[DRIVERS];
    private int driverCount;
    private final Pipe[] pipes = new Pipe[PIPES];
    // The bulk pipe that had the last turn; the round begins behind it.
    private int lastTurn = PIPES - 1;
    private int frames;
    private final ByteRow typed = new ByteRow();
    private final ByteRow received = new ByteRow();
    private final Units units = new Units();
    private final Events events = new Events();
    private final Sniffer sniffer = new Sniffer();

    public Hubcascade() {
        for (int i = 0; i < DEVICES; i++) {
            devices[i] = new Device(i);
        }
        for (int i = 0; i < PIPES; i++) {
            pipes[i] = new Pipe(i);
        }
        Device host = devices[0];
        host.ports = 4;
        host.hasOwn = true;
        host.state = CONFIGURED;
        host.depth = 0;
        deviceCount = 1;
    }

    // ---------------------------------------------------------------- devices

    public int make(char speed, int ports, int power, boolean hasOwn, int kind)
            throws IllegalArgumentException, IllegalStateException {
        if (!isSpeed(speed) || !isWithin(ports, 0, 4) || !isWithin(power, 1, 5) || !isWithin(kind, 0, 99)) {
            throw new IllegalArgumentException("no such device can be made");
        }
        if (speed == LOW && ports > 0) {
            throw new IllegalArgumentException("a hub is not low");
        }
        if (deviceCount >= DEVICES) {
            throw new IllegalStateException("there are 16 devices");
        }
        Device made = devices[deviceCount];
        made.speed = speed;
        made.runs = speed;
        made.ports = ports;
        made.power = power;
        made.told = power;
        made.hasOwn = hasOwn;
        made.kind = kind;
        deviceCount++;
        return made.number;
    }

    public int endpoint(int device, int number, boolean isIn, int greatest)
            throws IndexOutOfBoundsException, IllegalArgumentException, UnsupportedOperationException {
        Device d = deviceAt(device);
        if (!isWithin(number, 1, ENDPOINTS) || !isWithin(greatest, 1, 8)) {
            throw new IllegalArgumentException("no such endpoint can be made");
        }
        Endpoint e = d.endpoints[number - 1];
        if (e.isMade || d.state != UNPLUGGED) {
            throw new UnsupportedOperationException("the device has it, or is plugged");
        }
        e.isMade = true;
        e.isIn = isIn;
        e.greatest = greatest;
        return d.countEndpoints();
    }

    public int plug(int device, int hub, int port) throws IndexOutOfBoundsException, UnsupportedOperationException {
        Device d = deviceAt(device);
        Device h = deviceAt(hub);
        if (port < 0 || port >= h.ports) {
            throw new IndexOutOfBoundsException("no such port");
        }
        if (d.state != UNPLUGGED || !takesDevices(h) || isPortTaken(h, port)) {
            throw new UnsupportedOperationException("it can't be plugged there");
        }
        if (h.depth >= DEEPEST) {
            throw new UnsupportedOperationException("it would be too deep");
        }
        d.state = NEW;
        d.hub = h;
        d.port = port;
        d.depth = h.depth + 1;
        d.runs = lowerSpeed(d.speed, h.runs);
        d.translatorNumber = h.runs == HIGH ? h.number : h.translatorNumber;
        return d.depth;
    }

    public int unplug(int device) throws IndexOutOfBoundsException, UnsupportedOperationException {
        Device d = deviceBelowHost(device);
        if (d.state == UNPLUGGED) {
            throw new UnsupportedOperationException("it is not plugged");
        }
        return detach(d, true);
    }

    public char stateOf(int device) throws IndexOutOfBoundsException {
        return deviceAt(device).state;
    }

    public int hubOf(int device) throws IndexOutOfBoundsException {
        Device hub = deviceAt(device).hub;
        return hub == null ? -1 : hub.number;
    }

    public int depthOf(int device) throws IndexOutOfBoundsException {
        return deviceAt(device).depth;
    }

    public char speedOf(int device) throws IndexOutOfBoundsException {
        return deviceAt(device).runs;
    }

    public int translator(int device) throws IndexOutOfBoundsException, UnsupportedOperationException {
        Device d = deviceAt(device);
        if (d.hub == null) {
            throw new UnsupportedOperationException("it is in no hub");
        }
        return d.translatorNumber;
    }

    public int addressOf(int device) throws IndexOutOfBoundsException {
        return deviceAt(device).address;
    }

    public int look() throws NoSuchElementException {
        Device found = firstNewDevice();
        if (found == null) {
            throw new NoSuchElementException("no new device can be reached");
        }
        if (!answersControl(found)) {
            disable(found, DEAD);
            return found.number;
        }
        found.address = lowestFreeAddress();
        if (!found.hasOwn && found.power > portPower(found)) {
            found.state = WEAK;
        } else {
            found.state = CONFIGURED;
            found.driverNumber = fittingDriver(found.kind / 10, found.kind % 10);
        }
        return found.number;
    }

    public int driver(int kind, int subkind) throws IllegalArgumentException, IllegalStateException {
        if (!isWithin(kind, 0, 9) || !isWithin(subkind, -1, 9)) {
            throw new IllegalArgumentException("no such class or subclass");
        }
        if (driverCount >= DRIVERS) {
            throw new IllegalStateException("there are 8 drivers");
        }
        driverClasses[driverCount] = kind;
        driverSubclasses[driverCount] = subkind;
        driverCount++;
        return driverCount - 1;
    }

    public int driverOf(int device) throws IndexOutOfBoundsException {
        return deviceAt(device).driverNumber;
    }

    public int draw(int device, int units) throws IndexOutOfBoundsException, IllegalArgumentException {
        Device d = deviceBelowHost(device);
        if (!isWithin(units, 0, 9)) {
            throw new IllegalArgumentException("no such draw");
        }
        int before = drawnBy(d);
        d.told = units;
        return before;
    }

    public int sleep(int device) throws IndexOutOfBoundsException, UnsupportedOperationException {
        Device top = deviceBelowHost(device);
        if (top.state != CONFIGURED || hasTransferWithin(top)) {
            throw new UnsupportedOperationException("it can't be put asleep");
        }
        int many = 0;
        for (int i = 0; i < DEVICES; i++) {
            Device d = devices[i];
            if (d.state == CONFIGURED && isSameOrBelow(d, top)) {
                d.state = ASLEEP;
                many++;
            }
        }
        return many;
    }

    public int wake(int device) throws IndexOutOfBoundsException, UnsupportedOperationException {
        Device asked = deviceAt(device);
        if (asked.state != ASLEEP) {
            throw new UnsupportedOperationException("it is not asleep");
        }
        int many = 0;
        Device d = asked;
        for (int step = 0; step < DEVICES && d != null; step++) {
            if (d.state == ASLEEP) {
                d.state = CONFIGURED;
                many++;
            }
            d = d.hub;
        }
        asked.awakeBehind = frames + many;
        return many;
    }

    // ---------------------------------------------------------------- typed bytes

    public int five(int bits) throws IllegalArgumentException {
        if (!isWithin(bits, 0, 2047)) {
            throw new IllegalArgumentException("not eleven bits");
        }
        int check = 31;
        for (int i = 0; i < 11; i++) {
            check = checkBit(check, (bits >> i) & 1, 4, 5);
        }
        return 31 - check;
    }

    public int type(int value) throws IllegalArgumentException, IllegalStateException {
        if (!isWithin(value, 0, 255)) {
            throw new IllegalArgumentException("not a byte");
        }
        if (typed.size >= MOST_TYPED) {
            throw new IllegalStateException("16 bytes are typed");
        }
        typed.add(value);
        return typed.size;
    }

    public int wipe() {
        int many = typed.size;
        typed.drop(many);
        return many;
    }

    public int sixteen() {
        int check = 65535;
        for (int i = 0; i < typed.size; i++) {
            int value = typed.at(i);
            for (int bit = 0; bit < 8; bit++) {
                check = checkBit(check, (value >> bit) & 1, 15, 32773);
            }
        }
        return 65535 - check;
    }

    public int stuffed() {
        int sent = 0;
        int ones = 0;
        for (int i = 0; i < typed.size; i++) {
            int value = typed.at(i);
            for (int bit = 0; bit < 8; bit++) {
                sent++;
                ones = ((value >> bit) & 1) == 1 ? ones + 1 : 0;
                if (ones == 6) {
                    sent++;
                    ones = 0;
                }
            }
        }
        return sent;
    }

    // ---------------------------------------------------------------- pipes

    public int open(int device, int endpoint, char kind, int interval)
            throws IndexOutOfBoundsException, IllegalArgumentException, UnsupportedOperationException,
            IllegalStateException {
        Device d = deviceAt(device);
        Endpoint e = endpointAt(d, endpoint);
        if (kind != BULK && !(isPeriodic(kind) && isInterval(interval))) {
            throw new IllegalArgumentException("no such kind or interval");
        }
        if (d.state != CONFIGURED || e.isPiped) {
            throw new UnsupportedOperationException("no pipe can be opened for it");
        }
        int phase = -1;
        if (kind != BULK) {
            phase = units.bestPhase(interval, hostCost(e.greatest), d.translatorNumber, hubCost(d.runs, e.greatest));
            if (phase < 0) {
                throw new UnsupportedOperationException("there is no phase");
            }
        }
        Pipe pipe = firstClosedPipe();
        if (pipe == null) {
            throw new IllegalStateException("12 pipes are open");
        }
        pipe.attach(d, e, kind);
        pipe.interval = kind == BULK ? 1 : interval;
        pipe.phase = phase;
        reserveFor(pipe, d, e, 1);
        return pipe.number;
    }

    public int close(int pipe) throws NoSuchElementException {
        return closeBy(openPipe(pipe), OVER_CANCELLED);
    }

    public int phaseOf(int pipe) throws NoSuchElementException {
        return openPipe(pipe).phase;
    }

    public int reserved(int frame, int hub) throws IllegalArgumentException, IndexOutOfBoundsException {
        if (!isWithin(frame, 0, PHASES - 1)) {
            throw new IllegalArgumentException("no such frame");
        }
        if (hub == -1) {
            return units.host[frame];
        }
        return units.hubs[deviceAt(hub).number * PHASES + frame];
    }

    public int send(int pipe) throws NoSuchElementException, UnsupportedOperationException, IllegalStateException {
        Pipe p = openPipe(pipe);
        Endpoint e = p.endpoint;
        if (e == null || e.isIn || typed.size == 0) {
            throw new UnsupportedOperationException("it goes into the host, or nothing is typed");
        }
        if (p.count >= TRANSFERS) {
            throw new IllegalStateException("4 transfers wait");
        }
        Transfer t = p.addTransfer(typed.size);
        for (int i = 0; i < typed.size; i++) {
            t.bytes[i & (MOST_TYPED - 1)] = typed.at(i);
        }
        typed.drop(typed.size);
        return p.count;
    }

    public int ask(int pipe, int bytes)
            throws NoSuchElementException, IllegalArgumentException, UnsupportedOperationException,
            IllegalStateException {
        Pipe p = openPipe(pipe);
        if (!isWithin(bytes, 1, MOST_TYPED)) {
            throw new IllegalArgumentException("not so many can be asked for");
        }
        Endpoint e = p.endpoint;
        if (e == null || !e.isIn) {
            throw new UnsupportedOperationException("it goes out of the host");
        }
        if (p.count >= TRANSFERS) {
            throw new IllegalStateException("4 transfers wait");
        }
        p.addTransfer(bytes);
        return p.count;
    }

    public int ring(int pipe) throws NoSuchElementException {
        Pipe p = openPipe(pipe);
        int many = 0;
        for (int i = 0; i < p.count; i++) {
            Transfer t = p.transferAt(i);
            if (!t.isBegun) {
                t.isBegun = true;
                many++;
            }
        }
        return many;
    }

    public boolean isHalted(int pipe) throws NoSuchElementException {
        return openPipe(pipe).isStopped;
    }

    public int clear(int pipe) throws NoSuchElementException {
        Pipe p = openPipe(pipe);
        p.startAnew();
        return p.count;
    }

    public int cancel(int pipe) throws NoSuchElementException, UnsupportedOperationException {
        Pipe p = openPipe(pipe);
        if (p.count == 0) {
            throw new UnsupportedOperationException("there is no transfer");
        }
        int bytes = p.transferAt(0).done;
        endFirst(p, OVER_CANCELLED);
        return bytes;
    }

    public int load(int device, int endpoint)
            throws IndexOutOfBoundsException, UnsupportedOperationException,
            IllegalStateException {
        Endpoint e = endpointAt(deviceAt(device), endpoint);
        if (!e.isIn) {
            throw new UnsupportedOperationException("it goes out of the host");
        }
        if (e.bytes.size + typed.size > ROW) {
            throw new IllegalStateException("more than 32 bytes would wait");
        }
        for (int i = 0; i < typed.size; i++) {
            e.bytes.add(typed.at(i));
        }
        typed.drop(typed.size);
        return e.bytes.size;
    }

    public int fault(int device, int endpoint, char kind, int many)
            throws IndexOutOfBoundsException, IllegalArgumentException {
        Device d = deviceBelowHost(device);
        Fault f = endpoint == 0 ? d.control : endpointAt(d, endpoint).fault;
        if (!isFault(kind) || !isWithin(many, 1, 9)) {
            throw new IllegalArgumentException("no such fault");
        }
        int before = f.transactions;
        f.kind = kind;
        f.transactions = many;
        return before;
    }

    // ---------------------------------------------------------------- frames and events

    public int frame() {
        int before = sniffer.tokens;
        frames++;
        units.beginFrame();
        shutGreedyDevices();
        for (int i = 0; i < PIPES; i++) {
            Pipe p = pipes[i];
            p.hasPaused = false;
            if (p.isDueIn(frames) && canGo(p)) {
                takeTurn(p);
            }
        }
        Pipe next = nextBulkPipe();
        for (int turn = 0; turn < TURNS_BOUND && next != null; turn++) {
            lastTurn = next.number;
            takeTurn(next);
            next = nextBulkPipe();
        }
        return sniffer.tokens - before;
    }

    public int frames() {
        return frames;
    }

    public int left(int hub) throws IndexOutOfBoundsException, NoSuchElementException {
        int number = hub == -1 ? -1 : deviceAt(hub).number;
        if (frames == 0) {
            throw new NoSuchElementException("there was no frame");
        }
        return number < 0 ? units.hostLeft : units.hubsLeft[number];
    }

    public int events() {
        return events.size;
    }

    public char event() throws NoSuchElementException {
        if (events.size == 0) {
            throw new NoSuchElementException("there is no event");
        }
        return events.takeFirst();
    }

    public int eventPipe() throws NoSuchElementException {
        if (events.lastPipe < 0) {
            throw new NoSuchElementException("no event was taken");
        }
        return events.lastPipe;
    }

    public int eventBytes() throws NoSuchElementException {
        if (events.lastPipe < 0) {
            throw new NoSuchElementException("no event was taken");
        }
        return events.lastBytes;
    }

    public int missed() {
        return events.lost;
    }

    // ---------------------------------------------------------------- bytes and the sniffer

    public int taken(int device, int endpoint) throws IndexOutOfBoundsException, UnsupportedOperationException {
        return endpointOut(device, endpoint).bytes.total;
    }

    public int takenAt(int device, int endpoint, int index)
            throws IndexOutOfBoundsException, UnsupportedOperationException, NoSuchElementException {
        return newest(endpointOut(device, endpoint).bytes, index);
    }

    public int waiting(int device, int endpoint) throws IndexOutOfBoundsException, UnsupportedOperationException {
        Endpoint e = endpointAt(deviceAt(device), endpoint);
        if (!e.isIn) {
            throw new UnsupportedOperationException("it goes out of the host");
        }
        return e.bytes.size;
    }

    public int got() {
        return received.total;
    }

    public int gotAt(int index) throws NoSuchElementException {
        return newest(received, index);
    }

    public int packets(char what) throws IllegalArgumentException {
        if (what == 't') {
            return sniffer.tokens;
        }
        if (what == 'd') {
            return sniffer.data;
        }
        if (what == 'h') {
            return sniffer.handshakes;
        }
        throw new IllegalArgumentException("no such thing is counted");
    }

    public int blame(int device) throws IndexOutOfBoundsException {
        return deviceAt(device).blames;
    }

    public char causeOf(int pipe) throws NoSuchElementException, UnsupportedOperationException {
        Pipe p = openPipe(pipe);
        if (p.cause == NO_FAULT) {
            throw new UnsupportedOperationException("it was not halted");
        }
        return p.cause;
    }

    public float busyShare() throws ArithmeticException {
        if (frames == 0) {
            throw new ArithmeticException("there was no frame");
        }
        return (float) units.hostUsed / (float) (HOST_UNITS * frames);
    }

    public double meanBytes() throws ArithmeticException {
        if (events.overs == 0) {
            throw new ArithmeticException("no transfer is over");
        }
        return (double) events.overBytes / (double) events.overs;
    }

    public long checksum() {
        long sum = 7;
        for (int i = 0; i < deviceCount && i < DEVICES; i++) {
            Device d = devices[i];
            sum = 31 * sum + d.state + d.address + 100 * d.blames;
        }
        for (int i = 0; i < received.size; i++) {
            sum = 31 * sum + received.at(i);
        }
        return sum;
    }

    public boolean isSound() {
        return areReservesRight() && areAddressesUnlike() && areHubsPlugged() && isNothingInvented();
    }

    // ---------------------------------------------------------------- looking up what a call names

    private static boolean isWithin(int value, int least, int most) {
        return value >= least && value <= most;
    }

    private Device deviceAt(int device) {
        if (device < 0 || device >= deviceCount || device >= DEVICES) {
            throw new IndexOutOfBoundsException("no such device");
        }
        return devices[device];
    }

    private Device deviceBelowHost(int device) {
        if (device == 0) {
            throw new IndexOutOfBoundsException("not for the host's hub");
        }
        return deviceAt(device);
    }

    private static Endpoint endpointAt(Device device, int number) {
        if (!isWithin(number, 1, ENDPOINTS) || !device.endpoints[number - 1].isMade) {
            throw new IndexOutOfBoundsException("no such endpoint");
        }
        return device.endpoints[number - 1];
    }

    private Endpoint endpointOut(int device, int number) {
        Endpoint e = endpointAt(deviceAt(device), number);
        if (e.isIn) {
            throw new UnsupportedOperationException("it goes into the host");
        }
        return e;
    }

    private Pipe openPipe(int pipe) {
        if (!isWithin(pipe, 0, PIPES - 1) || !pipes[pipe].isOpen()) {
            throw new NoSuchElementException("no such pipe is open");
        }
        return pipes[pipe];
    }

    private static int newest(ByteRow row, int index) {
        if (index < 0 || index >= row.size) {
            throw new NoSuchElementException("no such byte is kept");
        }
        return row.at(row.size - 1 - index);
    }

    private static boolean isFault(char kind) {
        boolean isSpoiling = kind == HOST_SPOILED || kind == DEVICE_SPOILED || kind == HANDSHAKE_SPOILED;
        return isSpoiling || kind == DELAY || kind == STALL || kind == BABBLE || kind == LIE;
    }

    private static boolean isPeriodic(char kind) {
        return kind == INTERRUPT || kind == SOUND;
    }

    private static boolean isInterval(int interval) {
        return interval == 1 || interval == 2 || interval == 4 || interval == 8;
    }

    private static boolean isSpeed(char speed) {
        return speed == LOW || speed == FULL || speed == HIGH;
    }

    private static char lowerSpeed(char one, char other) {
        if (one == LOW || other == LOW) {
            return LOW;
        }
        return one == FULL || other == FULL ? FULL : HIGH;
    }

    // ---------------------------------------------------------------- the tree

    private static boolean takesDevices(Device hub) {
        return hub.state != UNPLUGGED && hub.state != SHUT && hub.state != DEAD;
    }

    private boolean isPortTaken(Device hub, int port) {
        for (int i = 0; i < DEVICES; i++) {
            if (devices[i].hub == hub && devices[i].port == port) {
                return true;
            }
        }
        return false;
    }

    private static boolean isSameOrBelow(Device device, Device top) {
        Device d = device;
        for (int step = 0; step < DEVICES && d != null; step++) {
            if (d == top) {
                return true;
            }
            d = d.hub;
        }
        return false;
    }

    // The pipes go first: to give their units back takes the place that a device still has.
    private int detach(Device top, boolean withTop) {
        for (int i = 0; i < DEVICES; i++) {
            Device d = devices[i];
            d.isLeaving = d == top ? withTop : isSameOrBelow(d, top);
        }
        for (int i = 0; i < PIPES; i++) {
            Device d = pipes[i].device;
            if (d != null && d.isLeaving) {
                closeBy(pipes[i], OVER_GONE);
            }
        }
        int many = 0;
        for (int i = 0; i < DEVICES; i++) {
            if (devices[i].isLeaving) {
                devices[i].leave();
                many++;
            }
        }
        return many;
    }

    private void disable(Device device, char state) {
        device.state = state;
        device.blames++;
        detach(device, false);
    }

    private Device firstNewDevice() {
        Device first = null;
        for (int i = 0; i < DEVICES; i++) {
            Device d = devices[i];
            boolean isReachable = d.state == NEW && d.hub != null && d.hub.state == CONFIGURED;
            if (isReachable && (first == null || d.depth < first.depth)) {
                first = d;
            }
        }
        return first;
    }

    private boolean answersControl(Device device) {
        for (int transaction = 0; transaction < 5; transaction++) {
            int failures = 0;
            boolean isAnswered = false;
            while (!isAnswered && failures < 3) {
                sniffer.tokens++;
                if (device.control.use() == NO_FAULT) {
                    isAnswered = true;
                } else {
                    failures++;
                }
            }
            if (!isAnswered) {
                return false;
            }
        }
        return true;
    }

    private int lowestFreeAddress() {
        int address = 1;
        while (address < DEVICES && isAddressUsed(address)) {
            address++;
        }
        return address;
    }

    private boolean isAddressUsed(int address) {
        for (int i = 0; i < DEVICES; i++) {
            if (devices[i].address == address) {
                return true;
            }
        }
        return false;
    }

    private static int portPower(Device device) {
        return device.hub != null && device.hub.hasOwn ? 5 : 1;
    }

    private static int drawnBy(Device device) {
        return device.hasOwn ? 0 : device.told;
    }

    private int fittingDriver(int kind, int subkind) {
        int exact = firstDriver(kind, subkind);
        return exact >= 0 ? exact : firstDriver(kind, -1);
    }

    private int firstDriver(int kind, int subkind) {
        for (int i = 0; i < driverCount && i < DRIVERS; i++) {
            if (driverClasses[i] == kind && driverSubclasses[i] == subkind) {
                return i;
            }
        }
        return -1;
    }

    private boolean hasTransferWithin(Device top) {
        for (int i = 0; i < PIPES; i++) {
            Device d = pipes[i].device;
            if (d != null && pipes[i].count > 0 && isSameOrBelow(d, top)) {
                return true;
            }
        }
        return false;
    }

    private void shutGreedyDevices() {
        for (int i = 1; i < DEVICES; i++) {
            Device d = devices[i];
            if (d.state == CONFIGURED && drawnBy(d) > portPower(d)) {
                disable(d, SHUT);
            }
        }
    }

    // ---------------------------------------------------------------- checks of bits

    private static int checkBit(int check, int bit, int top, int turn) {
        int highest = (check >> top) & 1;
        int shifted = (check << 1) & ((2 << top) - 1);
        return highest == bit ? shifted : shifted ^ turn;
    }

    // ---------------------------------------------------------------- pipes and their units

    private static int hostCost(int bytes) {
        return 2 + bytes;
    }

    private static int hubCost(char speed, int bytes) {
        if (speed == HIGH) {
            return 0;
        }
        return speed == FULL ? 4 + 2 * bytes : 8 + 8 * bytes;
    }

    private Pipe firstClosedPipe() {
        for (int i = 0; i < PIPES; i++) {
            if (!pipes[i].isOpen()) {
                return pipes[i];
            }
        }
        return null;
    }

    private int closeBy(Pipe pipe, char how) {
        Device d = pipe.device;
        Endpoint e = pipe.endpoint;
        if (d != null && e != null) {
            reserveFor(pipe, d, e, -1);
        }
        int many = pipe.count;
        for (int i = 0; i < many; i++) {
            endFirst(pipe, how);
        }
        pipe.detach();
        return many;
    }

    private void endFirst(Pipe pipe, char how) {
        events.put(how, pipe.number, pipe.transferAt(0).done);
        pipe.dropFirst();
    }

    private void reserveFor(Pipe pipe, Device device, Endpoint endpoint, int sign) {
        int host = sign * hostCost(endpoint.greatest);
        int hub = sign * hubCost(device.runs, endpoint.greatest);
        for (int f = 0; f < PHASES; f++) {
            if (pipe.isDueIn(f)) {
                units.reserve(f, host, device.translatorNumber, hub);
            }
        }
    }

    // ---------------------------------------------------------------- transactions

    private Pipe nextBulkPipe() {
        for (int i = 1; i <= PIPES; i++) {
            Pipe p = pipes[(lastTurn + i) % PIPES];
            if (p.kind == BULK && !p.hasPaused && canGo(p)) {
                return p;
            }
        }
        return null;
    }

    private boolean canGo(Pipe pipe) {
        Device d = pipe.device;
        Endpoint e = pipe.endpoint;
        if (d == null || e == null || pipe.isStopped || pipe.count == 0) {
            return false;
        }
        Transfer t = pipe.transferAt(0);
        if (!t.isBegun || d.state != CONFIGURED || frames <= d.awakeBehind) {
            return false;
        }
        int bytes = bytesPaid(e, t);
        return units.isRoomFor(hostCost(bytes), d.translatorNumber, hubCost(d.runs, bytes));
    }

    private static int bytesPaid(Endpoint endpoint, Transfer transfer) {
        return Math.max(1, packetBytes(endpoint, transfer));
    }

    private static int packetBytes(Endpoint endpoint, Transfer transfer) {
        int most = Math.min(transfer.total - transfer.done, endpoint.greatest);
        if (!endpoint.isIn) {
            return most;
        }
        return endpoint.unanswered > 0 ? endpoint.unanswered : Math.min(most, endpoint.bytes.size);
    }

    private void takeTurn(Pipe pipe) {
        Device d = pipe.device;
        Endpoint e = pipe.endpoint;
        if (d == null || e == null) {
            return;
        }
        Transfer t = pipe.transferAt(0);
        int paid = bytesPaid(e, t);
        units.use(hostCost(paid), d.translatorNumber, hubCost(d.runs, paid));
        sniffer.tokens++;
        char fault = e.fault.use();
        int bytes = packetBytes(e, t);
        int answer;
        if (pipe.kind == SOUND) {
            answer = passSound(e, t, bytes, fault);
        } else if (e.isIn) {
            answer = passIn(pipe, d, e, t, bytes, fault);
        } else {
            answer = passOut(pipe, e, t, bytes, fault);
        }
        if (answer == BABBLED) {
            disable(d, SHUT);
        } else {
            settle(pipe, t, answer, fault);
        }
    }

    // A failure whose packet was the last one that the host needed leaves the transfer well over.
    private void settle(Pipe pipe, Transfer transfer, int answer, char fault) {
        if (answer == NOT_YET) {
            pipe.hasPaused = true;
            return;
        }
        if (answer == FAILED) {
            pipe.hasPaused = true;
            pipe.failures++;
        } else {
            pipe.failures = 0;
        }
        if (answer == STALLED) {
            halt(pipe, OVER_STALLED, STALL);
        } else if (transfer.done >= transfer.total) {
            endFirst(pipe, transfer.isLossy ? OVER_LOSSY : OVER_DONE);
        } else if (transfer.isCutShort) {
            endFirst(pipe, OVER_SHORT);
        } else if (pipe.failures >= 3) {
            halt(pipe, OVER_FAILED, fault);
        }
    }

    private void halt(Pipe pipe, char how, char cause) {
        endFirst(pipe, how);
        pipe.isStopped = true;
        pipe.cause = cause;
    }

    private int passSound(Endpoint e, Transfer t, int bytes, char fault) {
        if (e.isIn && fault == BABBLE) {
            return BABBLED;
        }
        if (bytes == 0) {
            return NOT_YET;
        }
        boolean isSent = fault == NO_FAULT || fault == DEVICE_SPOILED || fault == HANDSHAKE_SPOILED;
        if (isSent) {
            sniffer.data++;
            e.sentThere += bytes;
        }
        if (fault != NO_FAULT) {
            t.isLossy = true;
        } else if (e.isIn) {
            receive(e, bytes);
        } else {
            e.takeFrom(t, bytes);
        }
        if (e.isIn) {
            e.bytes.drop(bytes);
            t.isCutShort = bytes < e.greatest;
        }
        t.done += bytes;
        return WENT_WELL;
    }

    private int passOut(Pipe p, Endpoint e, Transfer t, int bytes, char fault) {
        if (fault == HOST_SPOILED || fault == BABBLE || fault == LIE) {
            return FAILED;
        }
        if (fault == DELAY || fault == STALL) {
            sniffer.handshakes++;
            return fault == DELAY ? NOT_YET : STALLED;
        }
        sniffer.data++;
        e.sentThere += bytes;
        if (e.toggle == p.toggle) {
            e.takeFrom(t, bytes);
            e.toggle = 1 - e.toggle;
        }
        if (fault != NO_FAULT) {
            return FAILED;
        }
        sniffer.handshakes++;
        p.toggle = 1 - p.toggle;
        t.done += bytes;
        return WENT_WELL;
    }

    private int passIn(Pipe p, Device d, Endpoint e, Transfer t, int bytes, char fault) {
        if (fault == HOST_SPOILED) {
            return FAILED;
        }
        if (fault == BABBLE) {
            return BABBLED;
        }
        if (fault == STALL) {
            sniffer.handshakes++;
            return STALLED;
        }
        if (fault == DELAY || bytes == 0) {
            sniffer.handshakes++;
            return NOT_YET;
        }
        sniffer.data++;
        if (fault == LIE) {
            // The device believes the acknowledgement, so its bytes are gone, though the host has not got them.
            sniffer.handshakes++;
            d.blames++;
            e.forget(bytes);
            return WENT_WELL;
        }
        e.unanswered = bytes;
        if (fault == DEVICE_SPOILED) {
            return FAILED;
        }
        if (e.toggle == p.toggle) {
            receive(e, bytes);
            p.toggle = 1 - p.toggle;
            t.done += bytes;
            t.isCutShort = bytes < e.greatest;
        }
        if (fault == HANDSHAKE_SPOILED) {
            return FAILED;
        }
        sniffer.handshakes++;
        e.toggle = 1 - e.toggle;
        e.forget(bytes);
        return WENT_WELL;
    }

    private void receive(Endpoint endpoint, int bytes) {
        for (int i = 0; i < bytes; i++) {
            received.add(endpoint.bytes.at(i));
        }
    }

    // ---------------------------------------------------------------- soundness

    private boolean areReservesRight() {
        for (int f = 0; f < PHASES; f++) {
            if (units.host[f] != reckonReserved(f, -1) || units.host[f] > HOST_RESERVABLE) {
                return false;
            }
            for (int hub = 0; hub < DEVICES; hub++) {
                int kept = units.hubs[hub * PHASES + f];
                if (kept != reckonReserved(f, hub) || kept > HUB_RESERVABLE) {
                    return false;
                }
            }
        }
        return true;
    }

    private int reckonReserved(int frame, int hub) {
        int sum = 0;
        for (int i = 0; i < PIPES; i++) {
            Pipe p = pipes[i];
            Device d = p.device;
            Endpoint e = p.endpoint;
            if (d != null && e != null && p.isDueIn(frame)) {
                if (hub < 0) {
                    sum += hostCost(e.greatest);
                } else if (d.translatorNumber == hub) {
                    sum += hubCost(d.runs, e.greatest);
                }
            }
        }
        return sum;
    }

    private boolean areAddressesUnlike() {
        for (int i = 0; i < DEVICES; i++) {
            for (int k = 0; k < i; k++) {
                if (devices[i].address != 0 && devices[i].address == devices[k].address) {
                    return false;
                }
            }
        }
        return true;
    }

    private boolean areHubsPlugged() {
        for (int i = 1; i < DEVICES; i++) {
            Device d = devices[i];
            if (d.state != UNPLUGGED && (d.hub == null || d.hub.state == UNPLUGGED)) {
                return false;
            }
        }
        return true;
    }

    private boolean isNothingInvented() {
        for (int i = 0; i < DEVICES; i++) {
            for (int k = 0; k < ENDPOINTS; k++) {
                Endpoint e = devices[i].endpoints[k];
                if (e.isMade && !e.isIn && e.bytes.total > e.sentThere) {
                    return false;
                }
            }
        }
        return true;
    }

    // ---------------------------------------------------------------- the parts

    /** The last 32 bytes of a row, and how many there were in all. */
    private static final class ByteRow {
        private final int[] cells = new int[ROW];
        private int oldest;
        private int size;
        private int total;

        private void add(int value) {
            cells[(oldest + size) & (ROW - 1)] = value;
            total++;
            if (size < ROW) {
                size++;
            } else {
                oldest = (oldest + 1) & (ROW - 1);
            }
        }

        private int at(int index) {
            return cells[(oldest + index) & (ROW - 1)];
        }

        private void drop(int many) {
            int dropped = Math.min(many, size);
            oldest = (oldest + dropped) & (ROW - 1);
            size -= dropped;
        }
    }

    /** What goes wrong in the transactions to come. */
    private static final class Fault {
        private char kind = NO_FAULT;
        private int transactions;

        private char use() {
            if (transactions == 0) {
                return NO_FAULT;
            }
            transactions--;
            return kind;
        }
    }

    private static final class Endpoint {
        private boolean isMade;
        private boolean isIn;
        private boolean isPiped;
        private int greatest;
        private int toggle;
        // The length of the packet that was sent and not acknowledged, 0 for none.
        private int unanswered;
        private int sentThere;
        // Those that wait, into the host, or those that were taken, out of it.
        private final ByteRow bytes = new ByteRow();
        private final Fault fault = new Fault();

        private void takeFrom(Transfer transfer, int many) {
            for (int i = 0; i < many; i++) {
                bytes.add(transfer.bytes[(transfer.done + i) & (MOST_TYPED - 1)]);
            }
        }

        private void forget(int many) {
            bytes.drop(many);
            unanswered = 0;
        }
    }

    private static final class Device {
        private final int number;
        private char speed = HIGH;
        private int ports;
        private int power;
        private boolean hasOwn;
        private int kind;
        private int told;
        private char state = UNPLUGGED;
        private Device hub;
        private int port;
        private int depth = -1;
        private char runs = HIGH;
        private int translatorNumber = -1;
        private int address;
        private int driverNumber = -1;
        private int blames;
        private int awakeBehind;
        private boolean isLeaving;
        private final Fault control = new Fault();
        private final Endpoint[] endpoints = new Endpoint[ENDPOINTS];

        private Device(int number) {
            this.number = number;
            for (int i = 0; i < ENDPOINTS; i++) {
                endpoints[i] = new Endpoint();
            }
        }

        private int countEndpoints() {
            int many = 0;
            for (int i = 0; i < ENDPOINTS; i++) {
                if (endpoints[i].isMade) {
                    many++;
                }
            }
            return many;
        }

        private void leave() {
            state = UNPLUGGED;
            hub = null;
            depth = -1;
            runs = speed;
            translatorNumber = -1;
            address = 0;
            driverNumber = -1;
            awakeBehind = 0;
        }
    }

    private static final class Transfer {
        private final int[] bytes = new int[MOST_TYPED];
        private int total;
        private int done;
        private boolean isBegun;
        private boolean isLossy;
        private boolean isCutShort;
    }

    private static final class Pipe {
        private final int number;
        private Device device;
        private Endpoint endpoint;
        private char kind = BULK;
        private int interval = 1;
        private int phase = -1;
        private int toggle;
        private int failures;
        private boolean isStopped;
        private char cause = NO_FAULT;
        // True for the rest of a frame in which it failed or was told 'not yet'.
        private boolean hasPaused;
        private final Transfer[] transfers = new Transfer[TRANSFERS];
        private int first;
        private int count;

        private Pipe(int number) {
            this.number = number;
            for (int i = 0; i < TRANSFERS; i++) {
                transfers[i] = new Transfer();
            }
        }

        private boolean isOpen() {
            return device != null;
        }

        private void attach(Device newDevice, Endpoint newEndpoint, char newKind) {
            device = newDevice;
            endpoint = newEndpoint;
            kind = newKind;
            cause = NO_FAULT;
            newEndpoint.isPiped = true;
            startAnew();
        }

        private void detach() {
            if (endpoint != null) {
                endpoint.isPiped = false;
            }
            device = null;
            endpoint = null;
        }

        private void startAnew() {
            isStopped = false;
            failures = 0;
            toggle = 0;
            if (endpoint != null) {
                endpoint.toggle = 0;
                endpoint.unanswered = 0;
            }
        }

        // The phase of a bulk pipe, -1, is that of no frame; an interval is a power of two.
        private boolean isDueIn(int frame) {
            return (frame & (interval - 1)) == phase;
        }

        private Transfer transferAt(int index) {
            return transfers[(first + index) & (TRANSFERS - 1)];
        }

        private Transfer addTransfer(int total) {
            Transfer t = transferAt(count);
            t.total = total;
            t.done = 0;
            t.isBegun = false;
            t.isLossy = false;
            t.isCutShort = false;
            count++;
            return t;
        }

        private void dropFirst() {
            first = (first + 1) & (TRANSFERS - 1);
            count--;
        }
    }

    /** The units that are reserved in frames 0 to 7, and those that the last frame had left. */
    private static final class Units {
        private final int[] host = new int[PHASES];
        private final int[] hubs = new int[DEVICES * PHASES];
        private int hostLeft;
        private final int[] hubsLeft = new int[DEVICES];
        private int hostUsed;

        private void beginFrame() {
            hostLeft = HOST_UNITS;
            for (int i = 0; i < DEVICES; i++) {
                hubsLeft[i] = HUB_UNITS;
            }
        }

        private boolean isRoomFor(int hostUnits, int hub, int hubUnits) {
            return hostUnits <= hostLeft && (hub < 0 || hub >= DEVICES || hubUnits <= hubsLeft[hub]);
        }

        private void use(int hostUnits, int hub, int hubUnits) {
            hostLeft -= hostUnits;
            hostUsed += hostUnits;
            if (hub >= 0 && hub < DEVICES) {
                hubsLeft[hub] -= hubUnits;
            }
        }

        private void reserve(int frame, int hostUnits, int hub, int hubUnits) {
            if (frame < 0 || frame >= PHASES) {
                return;
            }
            host[frame] += hostUnits;
            if (hub >= 0 && hub < DEVICES) {
                hubs[hub * PHASES + frame] += hubUnits;
            }
        }

        private int bestPhase(int interval, int hostUnits, int hub, int hubUnits) {
            int best = -1;
            int least = HOST_RESERVABLE + 1;
            for (int phase = 0; phase < interval; phase++) {
                int peak = hostPeak(interval, phase, hostUnits);
                if (peak < least && hubPeak(interval, phase, hub, hubUnits) <= HUB_RESERVABLE) {
                    best = phase;
                    least = peak;
                }
            }
            return best;
        }

        private int hostPeak(int interval, int phase, int more) {
            int peak = 0;
            for (int f = 0; f < PHASES; f++) {
                boolean isDue = (f & (interval - 1)) == phase;
                peak = Math.max(peak, isDue ? host[f] + more : host[f]);
            }
            return peak;
        }

        private int hubPeak(int interval, int phase, int hub, int more) {
            int peak = 0;
            for (int f = 0; f < PHASES && hub >= 0 && hub < DEVICES; f++) {
                boolean isDue = (f & (interval - 1)) == phase;
                int kept = hubs[hub * PHASES + f];
                peak = Math.max(peak, isDue ? kept + more : kept);
            }
            return peak;
        }
    }

    /** The row of transfers that are over, and the account of all of them. */
    private static final class Events {
        // Rows of 8 for the 6 events, so that an index can be cut to three bits.
        private final char[] kinds = new char[8];
        private final int[] pipes = new int[8];
        private final int[] bytes = new int[8];
        private int first;
        private int size;
        private int lost;
        private int overs;
        private int overBytes;
        private int lastPipe = -1;
        private int lastBytes;

        private void put(char kind, int pipe, int done) {
            overs++;
            overBytes += done;
            if (size >= EVENTS) {
                lost++;
                return;
            }
            int at = (first + size) & 7;
            kinds[at] = kind;
            pipes[at] = pipe;
            bytes[at] = done;
            size++;
        }

        private char takeFirst() {
            int at = first & 7;
            lastPipe = pipes[at];
            lastBytes = bytes[at];
            first = (first + 1) & 7;
            size--;
            return kinds[at];
        }
    }

    private static final class Sniffer {
        private int tokens;
        private int data;
        private int handshakes;
    }
}
