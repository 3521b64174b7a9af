import java.util.Arrays;

/**
 * Devices behind rings in a guest's memory: a disk and a wire on the device's side, and a driver.
 * Nothing is made after the constructor: every row is used again from call to call.
 */
public final class RingDevices {
    public static final int NONE = -1, BAD = -2, STRANGE = -3, OFF = -4, BROKEN = -5;

    private static final int MEMORY_BYTES = 4096;
    private static final int SECTORS = 32, SECTOR_BYTES = 64;
    private static final int DISK_QUEUE = 0, COME_QUEUE = 1, GO_QUEUE = 2, QUEUES = 3;
    private static final int IS_OFF = 0, RUNS = 1, IS_BROKEN = 2;

    private static final int DESCRIPTOR_BYTES = 16, LENGTH_AT = 8, BITS_AT = 12, NEXT_AT = 14;
    private static final int NEXT = 1, WRITES = 2, TABLE = 4;
    private static final int MOST_PARTS = 16, MOST_TABLE_BYTES = 256;
    private static final int QUIET = 1, COUNT_AT = 2, PLACES_AT = 4;
    private static final int AVAILABLE_PLACE = 2, USED_PLACE = 8;
    private static final int SIXTEEN_BITS = 0xffff, LOWEST_31_BITS = 0x7fffffff;

    private static final int HEAD_BYTES = 16, NAME_BYTES = 20;
    private static final int KIND_READ = 0, KIND_WRITE = 1, KIND_NOTHING = 4, KIND_NAME = 8;
    private static final int GOOD = 0, ERROR = 1, NO_SUCH_KIND = 2;
    private static final String NAME = "rings";
    private static final int FRAME_HEAD = 12, MOST_FRAME = 80, KEPT_FRAMES = 16;

    private static final int DRIVER_SIZE = 8, QUEUE_BYTES = 256, AVAILABLE_FROM = 128, USED_FROM = 152;
    private static final int REQUESTS_FROM = 1024, TABLES_FROM = 1792, GO_FROM = 2304, COME_FROM = 3072;
    private static final int BUFFER_BYTES = 96, TABLE_BYTES = 64, RESULT_AT = 80, COME_BYTES = 92;

    private final Memory memory;
    private final Device device;
    private final Driver driver;

    public RingDevices() {
        Memory shared = new Memory();
        memory = shared;
        device = new Device(shared);
        driver = new Driver(shared);
    }

    public int start(boolean tables) {
        memory.clear();
        device.switchOff(tables);
        for (int q = 0; q < QUEUES; q++) {
            device.ringOf(q).lay(DRIVER_SIZE, descriptorsOf(q), availableOf(q), usedOf(q));
        }
        device.state = RUNS;
        driver.begin(tables);
        return 0;
    }

    public int reset(boolean tables) {
        device.switchOff(tables);
        driver.stop();
        return 0;
    }

    public int queue(int queue, int size, int descriptors, int available, int used) {
        if (!isQueue(queue) || device.state != IS_OFF || device.ringOf(queue).laid || !isSize(size)) {
            return BAD;
        }
        if (!isPlace(descriptors, DESCRIPTOR_BYTES, DESCRIPTOR_BYTES * size)
                || !isPlace(available, 2, PLACES_AT + AVAILABLE_PLACE * size)
                || !isPlace(used, 4, PLACES_AT + USED_PLACE * size)) {
            return BAD;
        }
        device.ringOf(queue).lay(size, descriptors, available, used);
        return 0;
    }

    public int run() {
        if (device.state != IS_OFF) {
            return BAD;
        }
        device.state = RUNS;
        return 0;
    }

    public int poke(int address, int b) {
        if (!isAddress(address) || b < 0 || b > 255) {
            return BAD;
        }
        int before = memory.at(address);
        memory.set(address, b);
        return before;
    }

    public int peek(int address) {
        return isAddress(address) ? memory.at(address) : BAD;
    }

    public int step(int queue) {
        if (queue != DISK_QUEUE && queue != GO_QUEUE) {
            return BAD;
        }
        return device.doChain(queue);
    }

    public int arrive(int n, long w) {
        return isFrame(n) ? device.frameComes(n, w) : BAD;
    }

    public int read(int sector) {
        return isSector(sector) ? driver.ask(KIND_READ, sector, 0L) : BAD;
    }

    public int write(int sector, long w) {
        return isSector(sector) ? driver.ask(KIND_WRITE, sector, w) : BAD;
    }

    public int send(int n, long w) {
        return isFrame(n) ? driver.letGo(n, w) : BAD;
    }

    public int post() {
        return driver.lendBuffer();
    }

    public int collect(int queue) {
        return isQueue(queue) ? driver.collectOne(queue) : BAD;
    }

    public int written(int queue) {
        return isQueue(queue) ? driver.loansOf(queue).latestWritten : BAD;
    }

    public int wire(int i, int k) {
        return device.line.byteOf(i, k);
    }

    public int disk(int sector, int k) {
        if (!isSector(sector) || k < 0 || k >= SECTOR_BYTES) {
            return BAD;
        }
        return device.sectors.at(SECTOR_BYTES * sector + k);
    }

    public int told(int queue, int what) {
        if (!isQueue(queue)) {
            return BAD;
        }
        Ring ring = device.ringOf(queue);
        Loans loans = driver.loansOf(queue);
        switch (what) {
            case 0: return ring.laid ? 1 : 0;
            case 1: return ring.taken;
            case 2: return ring.given;
            case 3: return ring.signals;
            case 4: return ring.size;
            case 5: return loans.freeOnes();
            case 6: return loans.saw;
            default: return BAD;
        }
    }

    public int count(int what) {
        switch (what) {
            case 0: return device.state;
            case 1: return device.line.went;
            case 2: return device.came;
            case 3: return device.dropped;
            case 4: return device.tables ? 1 : 0;
            default: return BAD;
        }
    }

    private static boolean isQueue(int queue) {
        return queue >= 0 && queue < QUEUES;
    }

    private static boolean isSize(int size) {
        return size == 1 || size == 2 || size == 4 || size == 8 || size == 16;
    }

    private static boolean isAddress(int address) {
        return address >= 0 && address < MEMORY_BYTES;
    }

    private static boolean isSector(int sector) {
        return sector >= 0 && sector < SECTORS;
    }

    private static boolean isFrame(int bytes) {
        return bytes >= 1 && bytes <= MOST_FRAME;
    }

    private static boolean isPlace(int address, int multiple, int bytes) {
        return liesInMemory(address, bytes) && multiple > 0 && address % multiple == 0;
    }

    private static boolean liesInMemory(long address, long bytes) {
        return address >= 0 && address <= MEMORY_BYTES - bytes;
    }

    private static int descriptorsOf(int queue) {
        return QUEUE_BYTES * queue;
    }

    private static int availableOf(int queue) {
        return QUEUE_BYTES * queue + AVAILABLE_FROM;
    }

    private static int usedOf(int queue) {
        return QUEUE_BYTES * queue + USED_FROM;
    }

    private static int patternByte(long w, int k) {
        return ((int) (w >>> (8 * (k & 7))) + k) & 255;
    }

    private static int oneMore(int count) {
        return (count + 1) & SIXTEEN_BITS;
    }

    /** The guest's MEMORY: a byte that does not lie in it reads as 0, and is lost when written. */
    private static final class Memory {
        private final byte[] bytes;

        Memory() {
            bytes = new byte[MEMORY_BYTES];
        }

        void clear() {
            Arrays.fill(bytes, (byte) 0);
        }

        int at(int address) {
            return address >= 0 && address < bytes.length ? bytes[address] & 255 : 0;
        }

        void set(int address, int b) {
            if (address >= 0 && address < bytes.length) {
                bytes[address] = (byte) b;
            }
        }

        long number(int address, int count) {
            long value = 0;
            for (int k = 0; k < count; k++) {
                value |= (long) at(address + k) << (8 * k);
            }
            return value;
        }

        void setNumber(int address, int count, long value) {
            for (int k = 0; k < count; k++) {
                set(address + k, (int) (value >>> (8 * k)) & 255);
            }
        }

        int two(int address) {
            return at(address) | (at(address + 1) << 8);
        }

        void setDescriptor(int place, int address, int length, int bits, int next) {
            setNumber(place, 8, address);
            setNumber(place + LENGTH_AT, 4, length);
            setNumber(place + BITS_AT, 2, bits);
            setNumber(place + NEXT_AT, 2, next);
        }
    }

    /** What the device keeps of one QUEUE. */
    private static final class Ring {
        private final Memory memory;
        boolean laid;
        int size;
        int descriptors;
        int available;
        int used;
        int taken;
        int given;
        int signals;

        Ring(Memory memory) {
            this.memory = memory;
        }

        void forget() {
            laid = false;
            size = 0;
            taken = 0;
            given = 0;
            signals = 0;
        }

        void lay(int size, int descriptors, int available, int used) {
            laid = true;
            this.size = size;
            this.descriptors = descriptors;
            this.available = available;
            this.used = used;
        }

        int waiting() {
            return laid ? (memory.two(available + COUNT_AT) - taken) & SIXTEEN_BITS : 0;
        }

        int nextHead() {
            return memory.two(available + PLACES_AT + AVAILABLE_PLACE * placeOf(taken));
        }

        void giveBack(int head, int bytes) {
            int place = used + PLACES_AT + USED_PLACE * placeOf(given);
            memory.setNumber(place, 4, head);
            memory.setNumber(place + 4, 4, bytes);
            given = oneMore(given);
            memory.setNumber(used + COUNT_AT, 2, given);
            // QUIET is asked for last: the rings may overlap what was just written
            if ((memory.two(available) & QUIET) == 0) {
                signals++;
            }
        }

        private int placeOf(int count) {
            return size > 0 ? count % size : 0;
        }
    }

    /**
     * The latest chain that was looked at: a copy of its parts, so that what the device writes
     * into MEMORY cannot change the chain that it is doing.
     */
    private static final class Chain {
        private final Memory memory;
        private final int[] addresses;
        private final int[] lengths;
        private int parts;
        private int readParts;
        private int part;
        private int end;
        private int offset;
        private int lastPlace;
        int head;
        int readable;
        int writable;

        Chain(Memory memory) {
            this.memory = memory;
            addresses = new int[MOST_PARTS];
            lengths = new int[MOST_PARTS];
        }

        private void forget() {
            parts = 0;
            readParts = 0;
            readable = 0;
            writable = 0;
            lastPlace = NONE;
        }

        /** Looks at a whole chain; false is a chain that breaks the device. */
        boolean gather(Ring ring, boolean tables) {
            forget();
            head = ring.nextHead();
            int base = ring.descriptors;
            int room = ring.size;
            int number = head;
            boolean inTable = false;
            // the 16 that a chain may have, and one that stands for a table
            for (int looked = 0; looked <= MOST_PARTS; looked++) {
                if (number >= room) {
                    return false;
                }
                int place = base + DESCRIPTOR_BYTES * number;
                int bits = memory.two(place + BITS_AT);
                if ((bits & TABLE) != 0) {
                    if (!tables || inTable || !isTable(place, bits)) {
                        return false;
                    }
                    inTable = true;
                    base = (int) memory.number(place, 8);
                    room = (int) memory.number(place + LENGTH_AT, 4) / DESCRIPTOR_BYTES;
                    number = 0;
                } else {
                    if (!addPart(place, (bits & WRITES) != 0)) {
                        return false;
                    }
                    if ((bits & NEXT) == 0) {
                        return true;
                    }
                    number = memory.two(place + NEXT_AT);
                }
            }
            return false;
        }

        private boolean isTable(int place, int bits) {
            long length = memory.number(place + LENGTH_AT, 4);
            return parts < MOST_PARTS && (bits & NEXT) == 0
                    && length > 0 && length <= MOST_TABLE_BYTES && length % DESCRIPTOR_BYTES == 0
                    && liesInMemory(memory.number(place, 8), length);
        }

        private boolean addPart(int place, boolean writes) {
            long address = memory.number(place, 8);
            long length = memory.number(place + LENGTH_AT, 4);
            if (parts >= MOST_PARTS || (length > 0 && !liesInMemory(address, length))) {
                return false;
            }
            if (!writes && readParts < parts) {
                return false;
            }
            addresses[parts] = (int) address;
            lengths[parts] = (int) length;
            parts++;
            if (!writes) {
                readParts = parts;
                readable += (int) length;
            } else if (length > 0) {
                writable += (int) length;
                lastPlace = (int) (address + length) - 1;
            }
            return true;
        }

        void toReads() {
            part = 0;
            offset = 0;
            end = readParts;
        }

        void toWrites() {
            part = readParts;
            offset = 0;
            end = parts;
        }

        int nextByte() {
            return memory.at(nextPlace());
        }

        long nextNumber(int count) {
            long value = 0;
            for (int k = 0; k < count; k++) {
                value |= (long) nextByte() << (8 * k);
            }
            return value;
        }

        void skip(int count) {
            for (int k = 0; k < count; k++) {
                nextPlace();
            }
        }

        void putByte(int b) {
            memory.set(nextPlace(), b);
        }

        void putLast(int b) {
            memory.set(lastPlace, b);
        }

        private int nextPlace() {
            while (part < end && part < MOST_PARTS) {
                if (offset < lengths[part]) {
                    offset++;
                    return addresses[part] + offset - 1;
                }
                part++;
                offset = 0;
            }
            return NONE;
        }
    }

    /** The DISK: all SECTORS in one row. */
    private static final class Disk {
        private final byte[] bytes;

        Disk() {
            bytes = new byte[SECTORS * SECTOR_BYTES];
        }

        int at(int place) {
            return place >= 0 && place < bytes.length ? bytes[place] & 255 : 0;
        }

        private void set(int place, int b) {
            if (place >= 0 && place < bytes.length) {
                bytes[place] = (byte) b;
            }
        }

        /** Does what a chain asks for, and answers how many bytes were written into it. */
        int answer(Chain chain) {
            if (chain.readable < HEAD_BYTES || chain.writable < 1) {
                return 0;
            }
            chain.toReads();
            int kind = (int) chain.nextNumber(4);
            chain.skip(4);
            long sector = chain.nextNumber(8);
            int result = resultOf(kind, sector, chain);
            int done = result == GOOD ? carryOut(kind, (int) sector, chain) : 0;
            chain.putLast(result);
            return done + 1;
        }

        private int resultOf(int kind, long sector, Chain chain) {
            switch (kind) {
                case KIND_READ: return areThere(sector, chain.writable - 1) ? GOOD : ERROR;
                case KIND_WRITE: return areThere(sector, chain.readable - HEAD_BYTES) ? GOOD : ERROR;
                case KIND_NOTHING: return GOOD;
                case KIND_NAME: return GOOD;
                default: return NO_SUCH_KIND;
            }
        }

        private boolean areThere(long sector, int count) {
            if (count == 0) {
                return true;
            }
            return count % SECTOR_BYTES == 0 && sector >= 0 && sector <= SECTORS - count / SECTOR_BYTES;
        }

        private int carryOut(int kind, int sector, Chain chain) {
            switch (kind) {
                case KIND_READ: return copyOut(SECTOR_BYTES * sector, chain);
                case KIND_WRITE: return copyIn(SECTOR_BYTES * sector, chain);
                case KIND_NAME: return tellName(chain);
                default: return 0;
            }
        }

        private int copyOut(int from, Chain chain) {
            int count = chain.writable - 1;
            chain.toWrites();
            for (int k = 0; k < count; k++) {
                chain.putByte(at(from + k));
            }
            return count;
        }

        private int copyIn(int from, Chain chain) {
            int count = chain.readable - HEAD_BYTES;
            for (int k = 0; k < count; k++) {
                set(from + k, chain.nextByte());
            }
            return 0;
        }

        private int tellName(Chain chain) {
            int count = Math.min(NAME_BYTES, chain.writable - 1);
            chain.toWrites();
            for (int k = 0; k < count; k++) {
                chain.putByte(k < NAME.length() ? NAME.charAt(k) : 0);
            }
            return count;
        }
    }

    /** THE WIRE: the latest FRAMES that went, in slots that are used in turn. */
    private static final class Wire {
        private final byte[] bytes;
        private final int[] lengths;
        private int latest;
        int went;

        Wire() {
            bytes = new byte[KEPT_FRAMES * MOST_FRAME];
            lengths = new int[KEPT_FRAMES];
        }

        void carry(Chain chain) {
            int length = chain.readable - FRAME_HEAD;
            if (!isFrame(length)) {
                return;
            }
            latest = (latest + 1) & (KEPT_FRAMES - 1);
            lengths[latest] = length;
            went++;
            chain.toReads();
            chain.skip(FRAME_HEAD);
            for (int k = 0; k < length; k++) {
                bytes[latest * MOST_FRAME + k] = (byte) chain.nextByte();
            }
        }

        int byteOf(int i, int k) {
            if (i < 0 || i >= KEPT_FRAMES) {
                return NONE;
            }
            // a slot that no FRAME was in has the length 0, so none of its bytes is there
            int slot = (latest - i) & (KEPT_FRAMES - 1);
            return k >= 0 && k < lengths[slot] ? bytes[slot * MOST_FRAME + k] & 255 : NONE;
        }
    }

    /** The device's side: its state, its QUEUES, and what lies behind them. */
    private static final class Device {
        private final Ring disks;
        private final Ring comes;
        private final Ring goes;
        private final Chain chain;
        final Disk sectors;
        final Wire line;
        int state;
        boolean tables;
        int came;
        int dropped;

        Device(Memory memory) {
            disks = new Ring(memory);
            comes = new Ring(memory);
            goes = new Ring(memory);
            chain = new Chain(memory);
            sectors = new Disk();
            line = new Wire();
        }

        Ring ringOf(int queue) {
            return queue == DISK_QUEUE ? disks : queue == COME_QUEUE ? comes : goes;
        }

        void switchOff(boolean tables) {
            state = IS_OFF;
            this.tables = tables;
            disks.forget();
            comes.forget();
            goes.forget();
        }

        int doChain(int queue) {
            Ring ring = ringOf(queue);
            int took = takeFrom(ring);
            if (took != 1) {
                return took;
            }
            int bytes = 0;
            if (queue == DISK_QUEUE) {
                bytes = sectors.answer(chain);
            } else {
                line.carry(chain);
            }
            ring.giveBack(chain.head, bytes);
            return 1;
        }

        int frameComes(int n, long w) {
            int took = takeFrom(comes);
            if (took < 0) {
                return took;
            }
            if (took == 1 && deliver(n, w)) {
                came++;
                return 1;
            }
            dropped++;
            return 0;
        }

        private boolean deliver(int n, long w) {
            boolean fits = chain.readable == 0 && chain.writable >= FRAME_HEAD + n;
            if (fits) {
                chain.toWrites();
                for (int k = 0; k < FRAME_HEAD; k++) {
                    chain.putByte(0);
                }
                for (int k = 0; k < n; k++) {
                    chain.putByte(patternByte(w, k));
                }
            }
            comes.giveBack(chain.head, fits ? FRAME_HEAD + n : 0);
            return fits;
        }

        /** 1: the chain is taken; 0: there is none; OFF or BROKEN. */
        private int takeFrom(Ring ring) {
            if (state != RUNS) {
                return state == IS_OFF ? OFF : BROKEN;
            }
            int waiting = ring.waiting();
            if (waiting == 0) {
                return 0;
            }
            if (waiting > ring.size || !chain.gather(ring, tables)) {
                state = IS_BROKEN;
                return BROKEN;
            }
            ring.taken = oneMore(ring.taken);
            return 1;
        }
    }

    /** What the DRIVER keeps of one QUEUE, in its own memory. */
    private static final class Loans {
        // by a chain's first DESCRIPTOR, a bit for each DESCRIPTOR of that chain; 0: no such chain is out
        private final int[] chains;
        private int free;
        int asked;
        int saw;
        int latestWritten;

        Loans() {
            chains = new int[DRIVER_SIZE];
            latestWritten = NONE;
        }

        void begin() {
            forget();
            free = (1 << DRIVER_SIZE) - 1;
        }

        /** As on a new object: a DRIVER that has not STARTED has none FREE, and SAW and COLLECTED nothing. */
        void forget() {
            Arrays.fill(chains, 0);
            free = 0;
            asked = 0;
            saw = 0;
            latestWritten = NONE;
        }

        int freeOnes() {
            return Integer.bitCount(free);
        }

        int lendFirst() {
            int first = leastFree();
            lend(first, first);
            return first;
        }

        int lendNext(int first) {
            int next = leastFree();
            lend(first, next);
            return next;
        }

        private int leastFree() {
            for (int d = 0; d < DRIVER_SIZE; d++) {
                if ((free & (1 << d)) != 0) {
                    return d;
                }
            }
            return NONE;
        }

        private void lend(int first, int descriptor) {
            if (first >= 0 && first < chains.length && descriptor >= 0) {
                chains[first] |= 1 << descriptor;
                free &= ~(1 << descriptor);
            }
        }

        boolean takeBack(long first) {
            if (first < 0 || first >= chains.length || chains[(int) first] == 0) {
                return false;
            }
            free |= chains[(int) first];
            chains[(int) first] = 0;
            return true;
        }
    }

    /** The DRIVER: lays chains out in MEMORY, offers them, and collects them. */
    private static final class Driver {
        private final Memory memory;
        private final Loans disks;
        private final Loans comes;
        private final Loans goes;
        private boolean tables;
        private boolean started;

        Driver(Memory memory) {
            this.memory = memory;
            disks = new Loans();
            comes = new Loans();
            goes = new Loans();
        }

        void begin(boolean tables) {
            started = true;
            this.tables = tables;
            disks.begin();
            comes.begin();
            goes.begin();
        }

        void stop() {
            started = false;
            disks.forget();
            comes.forget();
            goes.forget();
        }

        Loans loansOf(int queue) {
            return queue == DISK_QUEUE ? disks : queue == COME_QUEUE ? comes : goes;
        }

        private int refusal(Loans loans, int needed) {
            if (!started) {
                return OFF;
            }
            return loans.freeOnes() < needed ? NONE : 0;
        }

        int ask(int kind, int sector, long w) {
            int refused = refusal(disks, tables ? 1 : 3);
            if (refused != 0) {
                return refused;
            }
            int first = disks.lendFirst();
            int buffer = REQUESTS_FROM + BUFFER_BYTES * first;
            if (tables) {
                int table = TABLES_FROM + TABLE_BYTES * first;
                memory.setDescriptor(descriptorAt(DISK_QUEUE, first), table, 3 * DESCRIPTOR_BYTES, TABLE, 0);
                layRequest(table, 0, 1, 2, buffer, kind);
            } else {
                int second = disks.lendNext(first);
                int third = disks.lendNext(first);
                layRequest(descriptorsOf(DISK_QUEUE), first, second, third, buffer, kind);
            }
            fillRequest(buffer, kind, sector, w);
            offer(DISK_QUEUE, first);
            return first;
        }

        private void layRequest(int base, int first, int second, int third, int buffer, int kind) {
            int bits = kind == KIND_READ ? NEXT | WRITES : NEXT;
            memory.setDescriptor(base + DESCRIPTOR_BYTES * first, buffer, HEAD_BYTES, NEXT, second);
            memory.setDescriptor(base + DESCRIPTOR_BYTES * second, buffer + HEAD_BYTES, SECTOR_BYTES, bits, third);
            memory.setDescriptor(base + DESCRIPTOR_BYTES * third, buffer + RESULT_AT, 1, WRITES, 0);
        }

        private void fillRequest(int buffer, int kind, int sector, long w) {
            memory.setNumber(buffer, 8, kind);
            memory.setNumber(buffer + 8, 8, sector);
            if (kind == KIND_WRITE) {
                fillPattern(buffer + HEAD_BYTES, SECTOR_BYTES, w);
            }
        }

        private void fillPattern(int from, int count, long w) {
            for (int k = 0; k < count; k++) {
                memory.set(from + k, patternByte(w, k));
            }
        }

        int letGo(int n, long w) {
            int refused = refusal(goes, 2);
            if (refused != 0) {
                return refused;
            }
            int first = goes.lendFirst();
            int second = goes.lendNext(first);
            int buffer = GO_FROM + BUFFER_BYTES * first;
            memory.setDescriptor(descriptorAt(GO_QUEUE, first), buffer, FRAME_HEAD, NEXT, second);
            memory.setDescriptor(descriptorAt(GO_QUEUE, second), buffer + FRAME_HEAD, n, 0, 0);
            memory.setNumber(buffer, 8, 0L);
            memory.setNumber(buffer + 8, FRAME_HEAD - 8, 0L);
            fillPattern(buffer + FRAME_HEAD, n, w);
            offer(GO_QUEUE, first);
            return first;
        }

        int lendBuffer() {
            int refused = refusal(comes, 1);
            if (refused != 0) {
                return refused;
            }
            int first = comes.lendFirst();
            int buffer = COME_FROM + BUFFER_BYTES * first;
            memory.setDescriptor(descriptorAt(COME_QUEUE, first), buffer, COME_BYTES, WRITES, 0);
            offer(COME_QUEUE, first);
            return first;
        }

        private int descriptorAt(int queue, int number) {
            return descriptorsOf(queue) + DESCRIPTOR_BYTES * number;
        }

        private void offer(int queue, int first) {
            Loans loans = loansOf(queue);
            int ring = availableOf(queue);
            int place = ring + PLACES_AT + AVAILABLE_PLACE * (loans.asked % DRIVER_SIZE);
            memory.setNumber(place, 2, first);
            loans.asked = oneMore(loans.asked);
            memory.setNumber(ring + COUNT_AT, 2, loans.asked);
        }

        int collectOne(int queue) {
            if (!started) {
                return OFF;
            }
            Loans loans = loansOf(queue);
            int ring = usedOf(queue);
            if (memory.two(ring + COUNT_AT) == loans.saw) {
                return NONE;
            }
            int place = ring + PLACES_AT + USED_PLACE * (loans.saw % DRIVER_SIZE);
            loans.saw = oneMore(loans.saw);
            long first = memory.number(place, 4);
            if (!loans.takeBack(first)) {
                return STRANGE;
            }
            loans.latestWritten = (int) memory.number(place + 4, 4) & LOWEST_31_BITS;
            return (int) first;
        }
    }
}
