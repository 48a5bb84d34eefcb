/** A monitor that keeps up to four enclaves apart from the system and from one another. */
public final class EnclaveGuards {
    public static final long NONE = 1099511627776L;
    public static final long FAULT = 1099511627777L;

    private static final int WORD_COUNT = 256;
    private static final int PAGE_COUNT = 16;
    private static final int PAGE_WORDS = 16;
    private static final int PROCESSOR_COUNT = 2;
    private static final int REGISTER_COUNT = 8;
    private static final int ENCLAVE_COUNT = 4;
    private static final int ENCLAVE_PAGES_MOST = 8;
    private static final int STEPS_MOST = 100;

    private static final int OWNER_MONITOR = 0;
    private static final int OWNER_SYSTEM = 1;
    private static final int OWNER_ENCLAVE = 2;

    private static final int NO_ENCLAVE = -1;

    private static final int SHARED_NOTHING = -1;
    private static final int SHARED_PAGE = 256;
    private static final int SHARED_MOST = 271;

    private static final int NOT_THERE = 0;
    private static final int READY = 1;
    private static final int RUNNING = 2;
    private static final int STOPPED = 3;
    private static final int EXITED = 4;
    private static final int FAULTED = 5;

    private static final int MODE_OFF = 0;
    private static final int MODE_RANGE = 1;
    private static final int MODE_WORD = 2;
    private static final int MODE_BLOCK = 3;

    private static final int LOADING = 1;
    private static final int STORING = 2;
    private static final int FETCHING = 4;
    private static final int NO_RIGHTS = 0;
    private static final int SHARED_RIGHTS = 3;
    private static final int ALL_RIGHTS = 7;

    private static final int GUARD_COUNT = 11;
    private static final int GUARD_MONITOR = 0;
    private static final int GUARD_SHARED = 9;
    private static final int GUARD_REST = 10;

    private static final int FAULT_FETCH = 1;
    private static final int FAULT_LOAD = 2;
    private static final int FAULT_STORE = 3;
    private static final int FAULT_WORD = 4;

    private static final int MIX_PROOF = 3;
    private static final int MIX_SECRET = 7;

    private final int key;
    private final int[] memory;
    private final int[] owners;
    private final Processor[] processors;
    private final Enclave[] enclaves;
    private int deniedCount;

    public EnclaveGuards(int key) {
        this.key = key;
        memory = new int[WORD_COUNT];
        owners = new int[PAGE_COUNT];
        owners[0] = OWNER_MONITOR;
        for (int page = 1; page < PAGE_COUNT; page++) {
            owners[page] = OWNER_SYSTEM;
        }
        enclaves = new Enclave[ENCLAVE_COUNT];
        for (int e = 0; e < ENCLAVE_COUNT; e++) {
            enclaves[e] = new Enclave();
        }
        processors = new Processor[PROCESSOR_COUNT];
        for (int p = 0; p < PROCESSOR_COUNT; p++) {
            processors[p] = new Processor();
        }
        setAllGuards();
    }

    public long load(int processor, int address) {
        if (isBusy(processor)) {
            return NONE;
        }
        if (!isAllowed(processors[processor], address, LOADING)) {
            deniedCount++;
            return FAULT;
        }
        return memory[address];
    }

    public int store(int processor, int address, int v) {
        if (isBusy(processor)) {
            return -1;
        }
        if (!isAllowed(processors[processor], address, STORING)) {
            deniedCount++;
            return 1;
        }
        memory[address] = v;
        return 0;
    }

    public int denied() {
        return deniedCount;
    }

    public boolean give(int processor, int k, int v) {
        if (isBusy(processor) || !isRegister(k)) {
            return false;
        }
        processors[processor].registers[k] = v;
        return true;
    }

    public long register(int processor, int k) {
        if (isBusy(processor) || !isRegister(k)) {
            return NONE;
        }
        return processors[processor].registers[k];
    }

    public int create(int processor, int first, int pages, int entry, int shared) {
        if (isBusy(processor)) {
            return -1;
        }
        if (!arePages(first, pages) || !isOnPages(entry, first, pages) || !isShared(shared)) {
            return -2;
        }
        if (!areSystemPages(first, pages)) {
            return -3;
        }
        if (!canShare(shared, first, pages)) {
            return -4;
        }
        int e = leastFreeEnclave();
        if (e == NO_ENCLAVE) {
            return -5;
        }
        makeEnclave(e, first, pages, entry, shared);
        return e;
    }

    public int run(int processor, int e, int argument) {
        if (isBusy(processor)) {
            return -1;
        }
        if (!isThere(e)) {
            return -2;
        }
        Enclave enclave = enclaves[e];
        if (enclave.state != READY && enclave.state != STOPPED) {
            return -2;
        }
        if (enclave.state == READY) {
            enclave.startWith(argument);
        }
        enclave.state = RUNNING;
        processors[processor].enclave = e;
        setGuards(processors[processor]);
        return 0;
    }

    public int step(int processor, int n) {
        if (!runsEnclave(processor) || n < 1 || n > STEPS_MOST) {
            return -1;
        }
        Processor p = processors[processor];
        Enclave enclave = enclaves[p.enclave];
        int made = 0;
        while (made < n && enclave.state == RUNNING) {
            makeStep(p, enclave);
            made++;
        }
        if (enclave.state != RUNNING) {
            runSystem(p);
        }
        return made;
    }

    public int interrupt(int processor) {
        if (!runsEnclave(processor)) {
            return -1;
        }
        Processor p = processors[processor];
        int e = p.enclave;
        enclaves[e].state = STOPPED;
        runSystem(p);
        return e;
    }

    public int destroy(int processor, int e) {
        if (isBusy(processor)) {
            return -1;
        }
        if (!isThere(e)) {
            return -2;
        }
        if (enclaves[e].state == RUNNING) {
            return -3;
        }
        removeEnclave(enclaves[e]);
        return 0;
    }

    public int state(int e) {
        return isEnclaveNumber(e) ? enclaves[e].state : -1;
    }

    public long released(int e) {
        if (!isThere(e)) {
            return NONE;
        }
        Enclave enclave = enclaves[e];
        boolean ended = enclave.state == EXITED || enclave.state == FAULTED;
        return ended ? enclave.released : NONE;
    }

    public long measurement(int e) {
        return isThere(e) ? enclaves[e].measurement : NONE;
    }

    public boolean verify(int measurement, int data, int proof) {
        return proof == proofOf(measurement, data);
    }

    public int running(int processor) {
        return isProcessor(processor) ? processors[processor].enclave : -2;
    }

    public int owner(int page) {
        return isPage(page) ? owners[page] : -1;
    }

    public int guard(int processor, int k, int which) {
        if (!isProcessor(processor) || k < 0 || k >= GUARD_COUNT) {
            return -1;
        }
        Guard asked = processors[processor].guards[k];
        switch (which) {
            case 0:
                return asked.mode;
            case 1:
                return asked.rights;
            case 2:
                return asked.address;
            default:
                return -1;
        }
    }

    private static boolean isProcessor(int processor) {
        return processor >= 0 && processor < PROCESSOR_COUNT;
    }

    private static boolean isRegister(int k) {
        return k >= 0 && k < REGISTER_COUNT;
    }

    private static boolean isAddress(int address) {
        return address >= 0 && address < WORD_COUNT;
    }

    private static boolean isPage(int page) {
        return page >= 0 && page < PAGE_COUNT;
    }

    private static boolean isEnclaveNumber(int e) {
        return e >= 0 && e < ENCLAVE_COUNT;
    }

    private static boolean isShared(int shared) {
        return shared >= SHARED_NOTHING && shared <= SHARED_MOST;
    }

    private static boolean arePages(int first, int pages) {
        return pages >= 1 && pages <= ENCLAVE_PAGES_MOST && isPage(first) && isPage(first + pages - 1);
    }

    private static boolean isOnPages(int address, int first, int pages) {
        return address >= first * PAGE_WORDS && address < (first + pages) * PAGE_WORDS;
    }

    private boolean isBusy(int processor) {
        return !isProcessor(processor) || processors[processor].enclave != NO_ENCLAVE;
    }

    private boolean runsEnclave(int processor) {
        return isProcessor(processor) && processors[processor].enclave != NO_ENCLAVE;
    }

    private boolean isThere(int e) {
        return isEnclaveNumber(e) && enclaves[e].state != NOT_THERE;
    }

    private boolean areSystemPages(int first, int pages) {
        for (int page = first; page < first + pages; page++) {
            if (owners[page] != OWNER_SYSTEM) {
                return false;
            }
        }
        return true;
    }

    private boolean canShare(int shared, int first, int pages) {
        if (shared == SHARED_NOTHING) {
            return true;
        }
        int page = shared >= SHARED_PAGE ? shared - SHARED_PAGE : shared / PAGE_WORDS;
        boolean onItsOwn = page >= first && page < first + pages;
        return owners[page] == OWNER_SYSTEM && !onItsOwn;
    }

    private int leastFreeEnclave() {
        for (int e = 0; e < ENCLAVE_COUNT; e++) {
            if (enclaves[e].state == NOT_THERE) {
                return e;
            }
        }
        return NO_ENCLAVE;
    }

    private void makeEnclave(int e, int first, int pages, int entry, int shared) {
        Enclave enclave = enclaves[e];
        enclave.state = READY;
        enclave.first = first;
        enclave.pages = pages;
        enclave.entry = entry;
        enclave.shared = shared;
        enclave.measurement = measure(enclave);
        setOwner(enclave, OWNER_ENCLAVE + e);
        setAllGuards();
    }

    private void removeEnclave(Enclave enclave) {
        int end = enclave.endWord();
        for (int address = enclave.firstWord(); address < end; address++) {
            memory[address] = 0;
        }
        setOwner(enclave, OWNER_SYSTEM);
        enclave.state = NOT_THERE;
        setAllGuards();
    }

    private void setOwner(Enclave enclave, int whose) {
        int end = enclave.first + enclave.pages;
        for (int page = enclave.first; page < end; page++) {
            owners[page] = whose;
        }
    }

    private int measure(Enclave enclave) {
        int m = mix(enclave.pages, enclave.entry - enclave.firstWord());
        int end = enclave.endWord();
        for (int address = enclave.firstWord(); address < end; address++) {
            m = mix(m, memory[address]);
        }
        return m;
    }

    private static int mix(int a, int b) {
        int t = (31 * a ^ b) * 668265263;
        return t ^ (t >>> 15);
    }

    private int proofOf(int measured, int data) {
        return mix(mix(mix(key, MIX_PROOF), measured), data);
    }

    private int secretOf(int measured) {
        return mix(mix(key, MIX_SECRET), measured);
    }

    private boolean isAllowed(Processor p, int address, int right) {
        if (!isAddress(address)) {
            return false;
        }
        for (int k = 0; k < GUARD_COUNT; k++) {
            int addressBefore = k == 0 ? 0 : p.guards[k - 1].address;
            if (p.guards[k].matches(address, addressBefore)) {
                return (p.guards[k].rights & right) != 0;
            }
        }
        return false;
    }

    private void setAllGuards() {
        for (int p = 0; p < PROCESSOR_COUNT; p++) {
            setGuards(processors[p]);
        }
    }

    private void setGuards(Processor p) {
        p.guards[GUARD_MONITOR].setBlock(0, PAGE_WORDS, NO_RIGHTS);
        for (int e = 0; e < ENCLAVE_COUNT; e++) {
            int rights = p.enclave == e ? ALL_RIGHTS : NO_RIGHTS;
            setEnclaveGuards(enclaves[e], p.guards[1 + 2 * e], p.guards[2 + 2 * e], rights);
        }
        setSharedGuard(p);
        int restRights = p.enclave == NO_ENCLAVE ? ALL_RIGHTS : NO_RIGHTS;
        p.guards[GUARD_REST].setBlock(0, WORD_COUNT, restRights);
    }

    private static void setEnclaveGuards(Enclave enclave, Guard lower, Guard upper, int rights) {
        if (enclave.state == NOT_THERE) {
            lower.setOff(0);
            upper.setOff(0);
        } else if (enclave.isBlock()) {
            lower.setOff(0);
            upper.setBlock(enclave.firstWord(), enclave.endWord() - enclave.firstWord(), rights);
        } else {
            lower.setOff(enclave.firstWord());
            upper.setTo(MODE_RANGE, rights, enclave.endWord());
        }
    }

    private void setSharedGuard(Processor p) {
        int shared = p.enclave == NO_ENCLAVE ? SHARED_NOTHING : enclaves[p.enclave].shared;
        Guard sharedGuard = p.guards[GUARD_SHARED];
        if (shared == SHARED_NOTHING) {
            sharedGuard.setOff(0);
        } else if (shared < SHARED_PAGE) {
            sharedGuard.setTo(MODE_WORD, SHARED_RIGHTS, shared);
        } else {
            sharedGuard.setBlock((shared - SHARED_PAGE) * PAGE_WORDS, PAGE_WORDS, SHARED_RIGHTS);
        }
    }

    private void runSystem(Processor p) {
        p.enclave = NO_ENCLAVE;
        setGuards(p);
    }

    private void makeStep(Processor p, Enclave enclave) {
        int here = enclave.pc;
        if (!isAllowed(p, here, FETCHING)) {
            enclave.endWith(FAULTED, FAULT_FETCH);
            return;
        }
        int next = doWord(p, enclave, memory[here]);
        if (enclave.state != FAULTED) {
            enclave.pc = next;
        }
    }

    /** Does a word at PC and answers where PC goes, which counts only if the word did not fault. */
    private int doWord(Processor p, Enclave enclave, int word) {
        int[] r = enclave.registers;
        int a = word >> 4 & 7;
        int b = word >> 8 & 7;
        int i = word >> 16;
        int next = enclave.pc + 1;
        switch (word & 15) {
            case 0:
                enclave.endWith(EXITED, r[a]);
                return next;
            case 1:
                r[a] = r[b] + i;
                return next;
            case 2:
                r[a] = r[a] + r[b];
                return next;
            case 3:
                r[a] = r[a] ^ r[b];
                return next;
            case 4:
                loadFor(p, enclave, a, r[b] + i);
                return next;
            case 5:
                storeFor(p, enclave, a, r[b] + i);
                return next;
            case 6:
                return r[a] == 0 ? next + i : next;
            case 7:
                // Taken before ra changes, as a and b may be the same register.
                int target = r[b] + i;
                r[a] = next;
                return target;
            case 8:
                r[a] = proofOf(enclave.measurement, r[b]);
                return next;
            case 9:
                r[a] = secretOf(enclave.measurement);
                return next;
            case 10:
                enclave.state = STOPPED;
                return next;
            default:
                enclave.endWith(FAULTED, FAULT_WORD);
                return next;
        }
    }

    private void loadFor(Processor p, Enclave enclave, int a, int address) {
        if (isAllowed(p, address, LOADING)) {
            enclave.registers[a] = memory[address];
        } else {
            enclave.endWith(FAULTED, FAULT_LOAD);
        }
    }

    private void storeFor(Processor p, Enclave enclave, int a, int address) {
        if (isAllowed(p, address, STORING)) {
            memory[address] = enclave.registers[a];
        } else {
            enclave.endWith(FAULTED, FAULT_STORE);
        }
    }

    private static final class Guard {
        int mode;
        int rights;
        int address;

        Guard() {
            mode = MODE_OFF;
            rights = NO_RIGHTS;
            address = 0;
        }

        void setTo(int newMode, int newRights, int newAddress) {
            mode = newMode;
            rights = newRights;
            address = newAddress;
        }

        void setOff(int newAddress) {
            setTo(MODE_OFF, NO_RIGHTS, newAddress);
        }

        void setBlock(int firstWord, int words, int newRights) {
            setTo(MODE_BLOCK, newRights, firstWord + words / 2 - 1);
        }

        boolean matches(int x, int addressBefore) {
            switch (mode) {
                case MODE_RANGE:
                    return addressBefore <= x && x < address;
                case MODE_WORD:
                    return x == address;
                case MODE_BLOCK:
                    // The ones at the end and the zero before them: all that the division cuts off.
                    int cut = address ^ (address + 1);
                    return (x | cut) == (address | cut);
                default:
                    return false;
            }
        }
    }

    private static final class Processor {
        final int[] registers;
        final Guard[] guards;
        int enclave;

        Processor() {
            registers = new int[REGISTER_COUNT];
            guards = new Guard[GUARD_COUNT];
            for (int k = 0; k < GUARD_COUNT; k++) {
                guards[k] = new Guard();
            }
            enclave = NO_ENCLAVE;
        }
    }

    private static final class Enclave {
        final int[] registers;
        int state;
        int first;
        int pages;
        int entry;
        int shared;
        int measurement;
        int pc;
        int released;

        Enclave() {
            registers = new int[REGISTER_COUNT];
            state = NOT_THERE;
            shared = SHARED_NOTHING;
        }

        int firstWord() {
            return first * PAGE_WORDS;
        }

        int endWord() {
            return (first + pages) * PAGE_WORDS;
        }

        boolean isBlock() {
            boolean powerOfTwo = (pages & (pages - 1)) == 0;
            return powerOfTwo && (first & (pages - 1)) == 0;
        }

        void startWith(int argument) {
            for (int k = 0; k < REGISTER_COUNT; k++) {
                registers[k] = 0;
            }
            registers[1] = argument;
            pc = entry;
        }

        void endWith(int newState, int value) {
            state = newState;
            released = value;
        }
    }
}
