import java.util.Arrays;

/**
 * Several jobs share one processor, a few frames of core over a drum, a reader, a printer and a
 * console. The classes inside are the layers, from the lowest (rows, the processor, signals) to
 * the highest (the jobs' instructions); the public methods only look at their arguments and pass
 * them on.
 */
public final class DrumLayers {
    /** There is none. */
    public static final int NONE = -1;

    private static final int JOBS = 6;
    private static final int SEGMENTS = 6;
    private static final int READING = 7;
    private static final int PRINTING = 8;
    private static final int CONSOLE = 9;
    private static final int PROCESSES = 10;

    private static final int FOR_NOTHING = 0;
    private static final int FOR_SEGMENT = 1;
    private static final int FOR_CARD = 2;
    private static final int FOR_ROOM = 3;
    private static final int FOR_EMPTY_LINES = 4;
    private static final int FOR_REPLY = 5;
    private static final int FOR_RESOURCE = 6;
    private static final int FOR_WORK = 7;
    private static final int FOR_DEVICE = 8;

    private static final int NO_JOB = 0;
    private static final int SUBMITTED = 1;
    private static final int ADMITTED = 2;
    private static final int OVER = 3;

    private static final int ENDED = 1;
    private static final int LIMIT = 2;
    private static final int CLAIM = 3;
    private static final int TRAP = 4;
    private static final int CANCELLED = 5;

    private static final int SEGMENT_WORDS = 16;
    private static final int MOST_SEGMENTS = 8;
    private static final int MOST_CARDS = 40;
    private static final int MOST_STEPS = 5000;
    private static final int MOST_PAGES = 6;
    private static final int LINES_A_PAGE = 4;
    private static final int TAPE_LENGTH = 200;
    private static final int MOST_TICKS = 200;

    private static final int RESOURCES = 3;
    private static final int READER_RESOURCE = 0;
    private static final int PRINTER_RESOURCE = 1;
    private static final int PAGE_RESOURCE = 2;

    private static final int NEW_LINE = 10;

    private final Row tape;
    private final Processor processor;
    private final Core core;
    private final Job[] jobs;
    private final Pager pager;
    private final Bank bank;
    private final Reader reader;
    private final Printer printer;
    private final Console console;
    private final Interpreter interpreter;

    public DrumLayers(int frames, int pages, int quantum) {
        tape = new Row(TAPE_LENGTH);
        processor = new Processor(within(quantum, 1, 9));
        core = new Core(within(frames, 4, 12));
        jobs = new Job[JOBS];
        for (int k = 0; k < JOBS; k++) {
            jobs[k] = new Job(k, core);
        }
        pager = new Pager(processor, core, jobs);
        bank = new Bank(processor, jobs, within(pages, 1, MOST_PAGES));
        reader = new Reader(processor, jobs);
        printer = new Printer(processor, jobs);
        console = new Console(processor, core, jobs, bank);
        interpreter = new Interpreter(processor, core, pager, bank, reader, printer, console);
    }

    public int feed(int a, int b, int c, int d) {
        if (tape.size() + 4 > TAPE_LENGTH) {
            return NONE;
        }
        tape.append(a);
        tape.append(b);
        tape.append(c);
        tape.append(d);
        return tape.size();
    }

    public int submit(int program, int cards, int segments, int limit, int claims) {
        int number = NONE;
        if (isDeck(program, cards, segments) && limit >= 1 && limit <= MOST_STEPS
                && claims >= 0 && claims / 4 <= bank.pages()) {
            number = lowestNumberLeft();
        }
        if (number != NONE) {
            Job taken = jobs[number];
            taken.takeDeck(tape, program, cards);
            taken.takeTerms(segments, limit, claims);
        }
        tape.clear();
        return number;
    }

    public int tick(int n) {
        if (n < 0 || n > MOST_TICKS) {
            return NONE;
        }
        for (int i = 0; i < n; i++) {
            int first = processor.beginTick();
            switch (first) {
                case SEGMENTS:
                    pager.step();
                    break;
                case READING:
                    reader.step();
                    break;
                case PRINTING:
                    printer.step();
                    break;
                case CONSOLE:
                    console.step();
                    break;
                default:
                    if (isJob(first) && interpreter.goesOn(jobs[first])) {
                        interpreter.tryInstruction(jobs[first]);
                    }
                    break;
            }
            processor.endTick(first);
        }
        return processor.now();
    }

    public boolean done(int device) {
        switch (device) {
            case 0:
                return pager.finishDrum();
            case 1:
                return reader.finish();
            case 2:
                return printer.finish();
            default:
                return false;
        }
    }

    public boolean type(int b) {
        return console.takeByte(b);
    }

    public int process(int k, int what) {
        if (k < 0 || k >= PROCESSES) {
            return NONE;
        }
        switch (what) {
            case 0:
                return processor.placeOf(k);
            case 1:
                return processor.waitsFor(k);
            default:
                return NONE;
        }
    }

    public int job(int k, int what) {
        return isJob(k) ? jobs[k].show(what) : NONE;
    }

    public int paper(int k, int i) {
        if (!isJob(k) || i < 0 || i >= jobs[k].paper.size()) {
            return 0;
        }
        return jobs[k].paper.at(i);
    }

    public int word(int k, int address) {
        if (!isJob(k)) {
            return 0;
        }
        Job owner = jobs[k];
        boolean lives = owner.state == SUBMITTED || owner.state == ADMITTED;
        return lives && owner.hasAddress(address) ? pager.wordOf(owner, address) : 0;
    }

    public int frame(int f, int what) {
        return core.show(f, what);
    }

    public int about(int what) {
        switch (what) {
            case 0:
                return processor.now();
            case 1:
                return pager.drumDoes();
            case 2:
                return reader.works() ? 1 : 0;
            case 3:
                return printer.works() ? 1 : 0;
            case 4:
                return bank.freeOf(READER_RESOURCE);
            case 5:
                return bank.freeOf(PRINTER_RESOURCE);
            case 6:
                return bank.freeOf(PAGE_RESOURCE);
            case 7:
                return console.bytesSaid();
            case 8:
                return console.admittedJobs();
            case 9:
                return pager.segmentsBrought();
            case 10:
                return console.linesWaiting();
            default:
                return NONE;
        }
    }

    public int octet(int i) {
        return console.byteSaid(i);
    }

    private static int within(int value, int least, int most) {
        return Math.max(least, Math.min(most, value));
    }

    private static boolean isJob(int k) {
        return k >= 0 && k < JOBS;
    }

    private boolean isDeck(int program, int cards, int segments) {
        return segments >= 1 && segments <= MOST_SEGMENTS
                && program >= 0 && program <= segments * SEGMENT_WORDS
                && cards >= 0 && cards <= MOST_CARDS
                && program + cards <= tape.size();
    }

    private int lowestNumberLeft() {
        for (int k = 0; k < JOBS; k++) {
            if (jobs[k].state == NO_JOB || jobs[k].state == OVER) {
                return k;
            }
        }
        return NONE;
    }

    /** A row of ints: what comes stands at its end, and is refused beyond the row's limit. */
    private static final class Row {
        private static final int FIRST_LENGTH = 10;

        private final int limit;
        private int[] items;
        private int size;

        Row(int limit) {
            this.limit = Math.max(limit, 1);
            items = new int[Math.min(this.limit, FIRST_LENGTH)];
        }

        int size() {
            return size;
        }

        int at(int place) {
            return place >= 0 && place < size ? items[place] : NONE;
        }

        void append(int item) {
            if (size >= limit) {
                return;
            }
            if (size >= items.length) {
                items = Arrays.copyOf(items, Math.min(limit, 2 * size));
            }
            items[size] = item;
            size++;
        }

        int takeFirst() {
            int first = at(0);
            removeAt(0);
            return first;
        }

        void removeAt(int place) {
            if (place < 0 || place >= size) {
                return;
            }
            for (int i = place; i + 1 < size; i++) {
                items[i] = items[i + 1];
            }
            size--;
        }

        int placeOf(int item) {
            for (int i = 0; i < size; i++) {
                if (items[i] == item) {
                    return i;
                }
            }
            return NONE;
        }

        void clear() {
            size = 0;
        }
    }

    /** The ready row, what those outside it wait for, and the ticks. */
    private static final class Processor {
        private final int quantum;
        private final Row ready = new Row(PROCESSES);
        private final int[] reasons = new int[PROCESSES];
        private int now;
        // One counter serves all: only the first of the row steps, and it stays the first until
        // it waits, is gone or has had its quantum.
        private int turn;

        Processor(int quantum) {
            this.quantum = quantum;
        }

        int now() {
            return now;
        }

        int placeOf(int process) {
            return ready.placeOf(process);
        }

        int waitsFor(int process) {
            return process >= 0 && process < PROCESSES ? reasons[process] : FOR_NOTHING;
        }

        int beginTick() {
            now++;
            return ready.at(0);
        }

        void endTick(int stepped) {
            if (stepped == NONE || ready.at(0) != stepped) {
                return;
            }
            turn++;
            if (turn >= quantum) {
                turn = 0;
                ready.takeFirst();
                ready.append(stepped);
            }
        }

        void putToWait(int process, int reason) {
            if (process < 0 || process >= PROCESSES) {
                return;
            }
            reasons[process] = reason;
            leave(process);
        }

        void leave(int process) {
            ready.removeAt(ready.placeOf(process));
            turn = 0;
        }

        void wake(int process) {
            if (process < 0 || process >= PROCESSES) {
                return;
            }
            reasons[process] = FOR_NOTHING;
            ready.append(process);
        }
    }

    /** A counted signal of one of the processes 6 to 9. */
    private static final class Signal {
        private final Processor processor;
        private final int owner;
        private final int reason;
        private int count;
        private boolean awaited;

        Signal(Processor processor, int owner, int reason) {
            this.processor = processor;
            this.owner = owner;
            this.reason = reason;
        }

        /** The document's V. */
        void raise() {
            if (awaited) {
                awaited = false;
                processor.wake(owner);
            } else {
                count++;
            }
        }

        /** The document's P. */
        void await() {
            if (count > 0) {
                count--;
            } else {
                awaited = true;
                processor.putToWait(owner, reason);
            }
        }
    }

    /** A job: its deck, its registers, what it holds and what it printed. */
    private static final class Job {
        private final int number;
        private final Core core;
        private final int[] onDrum = new int[MOST_SEGMENTS * SEGMENT_WORDS];
        private final Row cards = new Row(MOST_CARDS);
        private final Row lines = new Row(LINES_A_PAGE * MOST_PAGES);
        private final Row paper = new Row(MOST_STEPS);
        private final int[] claims = new int[RESOURCES];
        private final int[] held = new int[RESOURCES];
        private int segments;
        private int limit;
        private int state;
        // The outcome that it begins to end with; it is shown only when the job is over.
        private int ending;
        private boolean toldToCancel;
        private int steps;
        private int place;
        private int a;
        private int x;
        private int cardsRead;
        private int wantedSegment;
        private int wantedResource;

        Job(int number, Core core) {
            this.number = number;
            this.core = core;
        }

        void takeDeck(Row tape, int program, int cardCount) {
            Arrays.fill(onDrum, 0);
            for (int i = 0; i < program && i < onDrum.length; i++) {
                onDrum[i] = tape.at(i);
            }
            cards.clear();
            for (int i = 0; i < cardCount && i < MOST_CARDS; i++) {
                cards.append(tape.at(program + i));
            }
            cardsRead = 0;
            lines.clear();
            paper.clear();
        }

        void takeTerms(int segmentCount, int stepLimit, int claimed) {
            segments = segmentCount;
            limit = stepLimit;
            claims[READER_RESOURCE] = claimed & 1;
            claims[PRINTER_RESOURCE] = claimed >> 1 & 1;
            claims[PAGE_RESOURCE] = claimed >> 2;
            Arrays.fill(held, 0);
            state = SUBMITTED;
            ending = 0;
            toldToCancel = false;
            steps = 0;
            place = 0;
            a = 0;
            x = 0;
        }

        boolean hasAddress(int address) {
            return address >= 0 && address < segments * SEGMENT_WORDS;
        }

        void beginToEnd(int outcome) {
            ending = outcome;
        }

        void finishInstruction() {
            finishJump(place + 1);
        }

        void finishJump(int target) {
            steps++;
            place = target;
            core.unpin(number);
        }

        int show(int what) {
            switch (what) {
                case 0:
                    return state;
                case 1:
                    return state == OVER ? ending : 0;
                case 2:
                    return steps;
                case 3:
                    return place;
                case 4:
                    return a;
                case 5:
                    return x;
                case 6:
                    return held[READER_RESOURCE];
                case 7:
                    return held[PRINTER_RESOURCE];
                case 8:
                    return held[PAGE_RESOURCE];
                case 9:
                    return cardsRead;
                case 10:
                    return paper.size();
                case 11:
                    return lines.size();
                case 12:
                    return toldToCancel ? 1 : 0;
                default:
                    return NONE;
            }
        }
    }

    /** The frames: what is in each, and which one is given up. */
    private static final class Core {
        private static final int FREE = NONE;
        private static final int BUSY = -2;

        private final int frames;
        private final int[] owner;
        private final int[] segment;
        private final int[] used;
        private final boolean[] changed;
        private final boolean[] pinned;
        private final int[] words;

        Core(int frames) {
            this.frames = Math.max(frames, 1);
            owner = new int[this.frames];
            segment = new int[this.frames];
            used = new int[this.frames];
            changed = new boolean[this.frames];
            pinned = new boolean[this.frames];
            words = new int[this.frames * SEGMENT_WORDS];
            Arrays.fill(owner, FREE);
        }

        int frames() {
            return frames;
        }

        boolean isFrame(int f) {
            return f >= 0 && f < frames;
        }

        int frameOf(int jobNumber, int wanted) {
            for (int f = 0; f < frames; f++) {
                if (owner[f] == jobNumber && segment[f] == wanted) {
                    return f;
                }
            }
            return NONE;
        }

        int read(int f, int offset) {
            return isFrame(f) && isOffset(offset) ? words[f * SEGMENT_WORDS + offset] : 0;
        }

        void write(int f, int offset, int value) {
            if (isFrame(f) && isOffset(offset)) {
                words[f * SEGMENT_WORDS + offset] = value;
                changed[f] = true;
            }
        }

        void use(int f, int tick) {
            if (isFrame(f)) {
                used[f] = tick;
            }
        }

        int choose() {
            int chosen = NONE;
            for (int f = 0; f < frames; f++) {
                if (owner[f] == FREE) {
                    return f;
                }
                if (owner[f] != BUSY && !pinned[f]
                        && (chosen == NONE || used[f] < used[chosen])) {
                    chosen = f;
                }
            }
            return chosen;
        }

        int ownerOf(int f) {
            return isFrame(f) ? owner[f] : FREE;
        }

        int segmentOf(int f) {
            return isFrame(f) ? segment[f] : NONE;
        }

        boolean isChanged(int f) {
            return isFrame(f) && changed[f];
        }

        void makeBusy(int f) {
            if (isFrame(f)) {
                owner[f] = BUSY;
                changed[f] = false;
                pinned[f] = false;
            }
        }

        void settle(int f, int jobNumber, int brought, int tick) {
            if (isFrame(f)) {
                owner[f] = jobNumber;
                segment[f] = brought;
                changed[f] = false;
                pinned[f] = true;
                used[f] = tick;
            }
        }

        void unpin(int jobNumber) {
            for (int f = 0; f < frames; f++) {
                if (owner[f] == jobNumber) {
                    pinned[f] = false;
                }
            }
        }

        void release(int jobNumber) {
            for (int f = 0; f < frames; f++) {
                if (owner[f] == jobNumber) {
                    owner[f] = FREE;
                    changed[f] = false;
                    pinned[f] = false;
                }
            }
        }

        void copyOut(int f, int[] drum, int wanted) {
            if (isFrame(f) && wanted >= 0 && wanted < drum.length / SEGMENT_WORDS) {
                System.arraycopy(words, f * SEGMENT_WORDS, drum, wanted * SEGMENT_WORDS,
                        SEGMENT_WORDS);
            }
        }

        void copyIn(int f, int[] drum, int wanted) {
            if (isFrame(f) && wanted >= 0 && wanted < drum.length / SEGMENT_WORDS) {
                System.arraycopy(drum, wanted * SEGMENT_WORDS, words, f * SEGMENT_WORDS,
                        SEGMENT_WORDS);
            }
        }

        int show(int f, int what) {
            if (!isFrame(f)) {
                return NONE;
            }
            if (what == 0) {
                return owner[f];
            }
            if (owner[f] == FREE || owner[f] == BUSY) {
                return NONE;
            }
            switch (what) {
                case 1:
                    return segment[f];
                case 2:
                    return changed[f] ? 1 : 0;
                case 3:
                    return pinned[f] ? 1 : 0;
                case 4:
                    return used[f];
                default:
                    return NONE;
            }
        }

        private static boolean isOffset(int offset) {
            return offset >= 0 && offset < SEGMENT_WORDS;
        }
    }

    /** The process SEGMENTS and its drum. */
    private static final class Pager {
        private static final int NOTHING = 0;
        private static final int WRITING_OUT = 1;
        private static final int READING_IN = 2;

        private final Processor processor;
        private final Core core;
        private final Job[] jobs;
        private final Row asking = new Row(JOBS);
        private final Signal wanted;
        private final Signal drum;
        private int drumDoes = NOTHING;
        // What the next step stands behind: WANTED (NOTHING), a writing or a reading.
        private int behind = NOTHING;
        private int frame = NONE;
        private int asker = NONE;
        private int writer = NONE;
        private int writtenSegment = NONE;
        private int brought;

        Pager(Processor processor, Core core, Job[] jobs) {
            this.processor = processor;
            this.core = core;
            this.jobs = jobs;
            wanted = new Signal(processor, SEGMENTS, FOR_WORK);
            drum = new Signal(processor, SEGMENTS, FOR_DEVICE);
            wanted.await();
        }

        int drumDoes() {
            return drumDoes;
        }

        int segmentsBrought() {
            return brought;
        }

        void ask(Job job, int segment) {
            job.wantedSegment = segment;
            asking.append(job.number);
            processor.putToWait(job.number, FOR_SEGMENT);
            wanted.raise();
        }

        void step() {
            switch (behind) {
                case WRITING_OUT:
                    begin(READING_IN);
                    break;
                case READING_IN:
                    bring();
                    break;
                default:
                    take();
                    break;
            }
        }

        private void begin(int work) {
            drumDoes = work;
            behind = work;
            drum.await();
        }

        private void take() {
            frame = core.choose();
            // The rule of admission leaves a frame that is not pinned for whoever asks.
            if (frame == NONE || asking.size() == 0) {
                wanted.await();
                return;
            }
            asker = asking.takeFirst();
            boolean mustWrite = core.isChanged(frame);
            if (mustWrite) {
                writer = core.ownerOf(frame);
                writtenSegment = core.segmentOf(frame);
            }
            core.makeBusy(frame);
            begin(mustWrite ? WRITING_OUT : READING_IN);
        }

        private void bring() {
            behind = NOTHING;
            brought++;
            if (isJob(asker)) {
                core.settle(frame, asker, jobs[asker].wantedSegment, processor.now());
                processor.wake(asker);
            }
            wanted.await();
        }

        boolean finishDrum() {
            if (drumDoes == NOTHING) {
                return false;
            }
            if (drumDoes == READING_IN && isJob(asker)) {
                core.copyIn(frame, jobs[asker].onDrum, jobs[asker].wantedSegment);
            }
            if (drumDoes == WRITING_OUT && isJob(writer)) {
                core.copyOut(frame, jobs[writer].onDrum, writtenSegment);
            }
            writer = NONE;
            drumDoes = NOTHING;
            drum.raise();
            return true;
        }

        /** A writing that is under way must not reach a later job of the same number. */
        void forget(int jobNumber) {
            if (writer == jobNumber) {
                writer = NONE;
            }
        }

        int wordOf(Job job, int address) {
            int segment = address / SEGMENT_WORDS;
            int offset = address % SEGMENT_WORDS;
            int inCore = core.frameOf(job.number, segment);
            if (inCore == NONE && writer == job.number && writtenSegment == segment) {
                inCore = frame;
            }
            if (inCore != NONE) {
                return core.read(inCore, offset);
            }
            return address >= 0 && address < job.onDrum.length ? job.onDrum[address] : 0;
        }
    }

    /** The reader, the printer and the pages as resources, and the row of GETS. */
    private static final class Bank {
        private final Processor processor;
        private final Job[] jobs;
        private final int pages;
        private final int[] free = new int[RESOURCES];
        private final Row gets = new Row(JOBS);
        private final int[] reachable = new int[RESOURCES];
        private final boolean[] canEnd = new boolean[JOBS];

        Bank(Processor processor, Job[] jobs, int pages) {
            this.processor = processor;
            this.jobs = jobs;
            this.pages = pages;
            free[READER_RESOURCE] = 1;
            free[PRINTER_RESOURCE] = 1;
            free[PAGE_RESOURCE] = pages;
        }

        int pages() {
            return pages;
        }

        int freeOf(int resource) {
            return isResource(resource) ? free[resource] : 0;
        }

        boolean isResource(int resource) {
            return resource >= 0 && resource < RESOURCES;
        }

        /** Grants it and answers true, or leaves all as it was. */
        boolean grant(Job job, int resource) {
            if (!isResource(resource) || free[resource] <= 0) {
                return false;
            }
            move(job, resource, 1);
            if (isSafe()) {
                return true;
            }
            move(job, resource, -1);
            return false;
        }

        void enqueue(Job job, int resource) {
            job.wantedResource = resource;
            gets.append(job.number);
            processor.putToWait(job.number, FOR_RESOURCE);
        }

        void dequeue(Job job) {
            gets.removeAt(gets.placeOf(job.number));
        }

        void giveBack(Job job, int resource) {
            if (isResource(resource)) {
                move(job, resource, -1);
            }
        }

        void giveBackAll(Job job) {
            // What it held is still shown of a job that is over, so only the free ones rise.
            for (int r = 0; r < RESOURCES; r++) {
                free[r] += job.held[r];
            }
        }

        void passOn() {
            int waiting = gets.size();
            int place = 0;
            for (int n = 0; n < waiting; n++) {
                int number = gets.at(place);
                if (isJob(number) && grant(jobs[number], jobs[number].wantedResource)) {
                    gets.removeAt(place);
                    jobs[number].finishInstruction();
                    processor.wake(number);
                } else {
                    place++;
                }
            }
        }

        private void move(Job job, int resource, int count) {
            free[resource] -= count;
            job.held[resource] += count;
        }

        private boolean isSafe() {
            int left = 0;
            for (int k = 0; k < JOBS; k++) {
                canEnd[k] = jobs[k].state != ADMITTED;
                left += canEnd[k] ? 0 : 1;
            }
            for (int r = 0; r < RESOURCES; r++) {
                reachable[r] = free[r];
            }
            // What can be reached only grows, so whoever can be put next may be, and no order is missed.
            for (int round = 0; round < JOBS && left > 0; round++) {
                for (int k = 0; k < JOBS; k++) {
                    if (!canEnd[k] && putNext(jobs[k])) {
                        canEnd[k] = true;
                        left--;
                    }
                }
            }
            return left == 0;
        }

        /** Puts it next in the order and answers true, or false if it can't have all that it claims. */
        private boolean putNext(Job job) {
            for (int r = 0; r < RESOURCES; r++) {
                if (job.claims[r] - job.held[r] > reachable[r]) {
                    return false;
                }
            }
            for (int r = 0; r < RESOURCES; r++) {
                reachable[r] += job.held[r];
            }
            return true;
        }
    }

    /** The process READING and its reader. */
    private static final class Reader {
        private final Processor processor;
        private final Job[] jobs;
        private final Row asking = new Row(JOBS);
        private final Signal cards;
        private final Signal device;
        private boolean works;
        private int taken = NONE;

        Reader(Processor processor, Job[] jobs) {
            this.processor = processor;
            this.jobs = jobs;
            cards = new Signal(processor, READING, FOR_WORK);
            device = new Signal(processor, READING, FOR_DEVICE);
            cards.await();
        }

        boolean works() {
            return works;
        }

        void ask(Job job) {
            asking.append(job.number);
            processor.putToWait(job.number, FOR_CARD);
            cards.raise();
        }

        void step() {
            if (isJob(taken)) {
                Job job = jobs[taken];
                job.a = job.cards.at(job.cardsRead);
                job.cardsRead++;
                job.finishInstruction();
                processor.wake(taken);
                taken = NONE;
                cards.await();
            } else {
                taken = asking.takeFirst();
                works = true;
                device.await();
            }
        }

        boolean finish() {
            if (!works) {
                return false;
            }
            works = false;
            device.raise();
            return true;
        }
    }

    /** The process PRINTING and its printer. */
    private static final class Printer {
        private final Processor processor;
        private final Job[] jobs;
        private final Signal prints;
        private final Signal device;
        private boolean works;
        private int holder = NONE;

        Printer(Processor processor, Job[] jobs) {
            this.processor = processor;
            this.jobs = jobs;
            prints = new Signal(processor, PRINTING, FOR_WORK);
            device = new Signal(processor, PRINTING, FOR_DEVICE);
            prints.await();
        }

        boolean works() {
            return works;
        }

        void addLine(Job job) {
            job.lines.append(job.a);
            prints.raise();
        }

        void step() {
            if (isJob(holder)) {
                putOnPaper(jobs[holder]);
                holder = NONE;
                prints.await();
            } else {
                holder = holderOfPrinter();
                works = true;
                device.await();
            }
        }

        private void putOnPaper(Job job) {
            if (job.lines.size() > 0) {
                job.paper.append(job.lines.takeFirst());
            }
            int reason = processor.waitsFor(job.number);
            if (reason == FOR_ROOM || reason == FOR_EMPTY_LINES && job.lines.size() == 0) {
                processor.wake(job.number);
            }
        }

        // A job keeps the printer while it has lines, so each PRINTS finds the one who raised it.
        private int holderOfPrinter() {
            for (int k = 0; k < JOBS; k++) {
                if (jobs[k].state == ADMITTED && jobs[k].held[PRINTER_RESOURCE] > 0) {
                    return k;
                }
            }
            return NONE;
        }

        boolean finish() {
            if (!works) {
                return false;
            }
            works = false;
            device.raise();
            return true;
        }
    }

    /** The process CONSOLE: what is typed, and what it says. */
    private static final class Console {
        private static final int LINE_LENGTH = 20;
        private static final int MOST_LINES = 8;
        private static final int BYTES_KEPT = 600;
        private static final int MOST_DIGITS = 9;

        private final Processor processor;
        private final Core core;
        private final Job[] jobs;
        private final Bank bank;
        // All that is typed and not yet done, each whole line with its 10 behind it.
        private final Row typed = new Row((MOST_LINES + 1) * (LINE_LENGTH + 1));
        private int linesWaiting;
        private int lengthTyped;
        private final Signal linesTyped;
        private final Row line = new Row(LINE_LENGTH);
        private final Row said = new Row(BYTES_KEPT);
        private int bytesSaid;

        Console(Processor processor, Core core, Job[] jobs, Bank bank) {
            this.processor = processor;
            this.core = core;
            this.jobs = jobs;
            this.bank = bank;
            linesTyped = new Signal(processor, CONSOLE, FOR_WORK);
            linesTyped.await();
        }

        int bytesSaid() {
            return bytesSaid;
        }

        int byteSaid(int i) {
            return said.at(i);
        }

        int linesWaiting() {
            return linesWaiting;
        }

        int admittedJobs() {
            int count = 0;
            for (int k = 0; k < JOBS; k++) {
                count += jobs[k].state == ADMITTED ? 1 : 0;
            }
            return count;
        }

        boolean takeByte(int b) {
            if (b == NEW_LINE) {
                return takeLineEnd();
            }
            if (b < 32 || b > 126 || lengthTyped >= LINE_LENGTH) {
                return false;
            }
            typed.append(b);
            lengthTyped++;
            return true;
        }

        private boolean takeLineEnd() {
            if (linesWaiting >= MOST_LINES) {
                return false;
            }
            typed.append(NEW_LINE);
            lengthTyped = 0;
            linesWaiting++;
            linesTyped.raise();
            return true;
        }

        void say(int b) {
            said.append(b);
            bytesSaid++;
        }

        void step() {
            takeFirstLine();
            if (!obey()) {
                say('?');
                say(NEW_LINE);
            }
            linesTyped.await();
        }

        private void takeFirstLine() {
            line.clear();
            for (int i = 0; i < LINE_LENGTH && typed.at(0) != NEW_LINE; i++) {
                line.append(typed.takeFirst());
            }
            typed.takeFirst();
            linesWaiting--;
        }

        private boolean obey() {
            int k = line.at(1) - '0';
            if (!isJob(k)) {
                return false;
            }
            switch (line.at(0)) {
                case 'A':
                    return line.size() == 2 && admit(jobs[k]);
                case 'C':
                    return line.size() == 2 && cancel(jobs[k]);
                case 'R':
                    return reply(jobs[k]);
                default:
                    return false;
            }
        }

        private boolean admit(Job job) {
            if (job.state != SUBMITTED || 2 * (admittedJobs() + 1) > core.frames()) {
                return false;
            }
            job.state = ADMITTED;
            processor.wake(job.number);
            return true;
        }

        private boolean cancel(Job job) {
            if (job.state != ADMITTED) {
                return false;
            }
            job.toldToCancel = true;
            int reason = processor.waitsFor(job.number);
            if (reason == FOR_RESOURCE) {
                bank.dequeue(job);
            }
            if (reason == FOR_RESOURCE || reason == FOR_REPLY) {
                processor.wake(job.number);
            }
            return true;
        }

        private boolean reply(Job job) {
            boolean negative = line.at(3) == '-';
            int from = negative ? 4 : 3;
            if (line.at(2) != ' ' || !hasNumber(from)
                    || processor.waitsFor(job.number) != FOR_REPLY) {
                return false;
            }
            job.a = negative ? -numberAt(from) : numberAt(from);
            job.finishInstruction();
            processor.wake(job.number);
            return true;
        }

        private boolean hasNumber(int from) {
            int digits = line.size() - from;
            for (int i = from; i < line.size(); i++) {
                if (line.at(i) < '0' || line.at(i) > '9') {
                    return false;
                }
            }
            return digits >= 1 && digits <= MOST_DIGITS;
        }

        private int numberAt(int from) {
            int number = 0;
            for (int i = from; i < line.size(); i++) {
                number = 10 * number + line.at(i) - '0';
            }
            return number;
        }
    }

    /** What a job does in a step. */
    private static final class Interpreter {
        private static final int END = 0;
        private static final int LOAD = 1;
        private static final int STORE = 2;
        private static final int ADD = 3;
        private static final int SUBTRACT = 4;
        private static final int MULTIPLY = 5;
        private static final int DIVIDE = 6;
        private static final int JUMP = 7;
        private static final int JUMP_IF_BELOW = 8;
        private static final int JUMP_IF_ZERO = 9;
        private static final int LOAD_X = 10;
        private static final int LOAD_INDEXED = 11;
        private static final int STORE_INDEXED = 12;
        private static final int READ = 13;
        private static final int PRINT = 14;
        private static final int ASK = 15;
        private static final int GET = 16;
        private static final int GIVE = 17;
        private static final int SET = 18;
        private static final int SET_TO_X = 19;

        private final Processor processor;
        private final Core core;
        private final Pager pager;
        private final Bank bank;
        private final Reader reader;
        private final Printer printer;
        private final Console console;

        Interpreter(Processor processor, Core core, Pager pager, Bank bank, Reader reader,
                Printer printer, Console console) {
            this.processor = processor;
            this.core = core;
            this.pager = pager;
            this.bank = bank;
            this.reader = reader;
            this.printer = printer;
            this.console = console;
        }

        /** Answers false when the step went into the job's ending. */
        boolean goesOn(Job job) {
            if (job.ending != 0) {
                end(job);
            } else if (job.toldToCancel) {
                job.beginToEnd(CANCELLED);
            } else if (job.steps >= job.limit) {
                job.beginToEnd(LIMIT);
            }
            return job.ending == 0;
        }

        private void end(Job job) {
            if (job.lines.size() > 0) {
                processor.putToWait(job.number, FOR_EMPTY_LINES);
                return;
            }
            core.release(job.number);
            pager.forget(job.number);
            bank.giveBackAll(job);
            job.state = OVER;
            console.say('0' + job.number);
            console.say('=');
            console.say('0' + job.ending);
            console.say(NEW_LINE);
            processor.leave(job.number);
            bank.passOn();
        }

        void tryInstruction(Job job) {
            if (!job.hasAddress(job.place)) {
                job.beginToEnd(TRAP);
                return;
            }
            int own = core.frameOf(job.number, job.place / SEGMENT_WORDS);
            if (own == NONE) {
                pager.ask(job, job.place / SEGMENT_WORDS);
                return;
            }
            int instruction = core.read(own, job.place % SEGMENT_WORDS);
            int kind = instruction < 0 ? NONE : instruction / 256;
            int address = instruction % 256;
            if (!hasOperand(kind)) {
                core.use(own, processor.now());
                perform(job, kind, address);
                return;
            }
            if (kind == LOAD_INDEXED || kind == STORE_INDEXED) {
                address += job.x;
            }
            if (!job.hasAddress(address)) {
                core.use(own, processor.now());
                job.beginToEnd(TRAP);
                return;
            }
            int frame = core.frameOf(job.number, address / SEGMENT_WORDS);
            if (frame == NONE) {
                pager.ask(job, address / SEGMENT_WORDS);
                return;
            }
            core.use(own, processor.now());
            core.use(frame, processor.now());
            performOnWord(job, kind, frame, address % SEGMENT_WORDS);
        }

        private static boolean hasOperand(int kind) {
            return kind >= LOAD && kind <= DIVIDE || kind >= LOAD_X && kind <= STORE_INDEXED;
        }

        private void performOnWord(Job job, int kind, int frame, int offset) {
            int operand = core.read(frame, offset);
            switch (kind) {
                case LOAD:
                case LOAD_INDEXED:
                    job.a = operand;
                    break;
                case STORE:
                case STORE_INDEXED:
                    core.write(frame, offset, job.a);
                    break;
                case ADD:
                    job.a += operand;
                    break;
                case SUBTRACT:
                    job.a -= operand;
                    break;
                case MULTIPLY:
                    job.a *= operand;
                    break;
                case LOAD_X:
                    job.x = operand;
                    break;
                default:
                    if (operand == 0) {
                        job.beginToEnd(TRAP);
                        return;
                    }
                    job.a = job.a / operand;
                    break;
            }
            job.finishInstruction();
        }

        private void perform(Job job, int kind, int a) {
            switch (kind) {
                case END:
                    job.finishInstruction();
                    job.beginToEnd(ENDED);
                    break;
                case JUMP:
                    job.finishJump(a);
                    break;
                case JUMP_IF_BELOW:
                    job.finishJump(job.a < 0 ? a : job.place + 1);
                    break;
                case JUMP_IF_ZERO:
                    job.finishJump(job.a == 0 ? a : job.place + 1);
                    break;
                case READ:
                    readCard(job);
                    break;
                case PRINT:
                    printLine(job);
                    break;
                case ASK:
                    console.say('0' + job.number);
                    console.say('?');
                    console.say(NEW_LINE);
                    processor.putToWait(job.number, FOR_REPLY);
                    break;
                case GET:
                    getResource(job, a);
                    break;
                case GIVE:
                    giveResource(job, a);
                    break;
                case SET:
                    job.a = a;
                    job.finishInstruction();
                    break;
                case SET_TO_X:
                    job.a = job.x;
                    job.finishInstruction();
                    break;
                default:
                    job.beginToEnd(TRAP);
                    break;
            }
        }

        private void readCard(Job job) {
            if (job.held[READER_RESOURCE] == 0 || job.cardsRead >= job.cards.size()) {
                job.beginToEnd(TRAP);
            } else {
                reader.ask(job);
            }
        }

        private void printLine(Job job) {
            int pages = job.held[PAGE_RESOURCE];
            if (job.held[PRINTER_RESOURCE] == 0 || pages == 0) {
                job.beginToEnd(TRAP);
            } else if (job.lines.size() >= LINES_A_PAGE * pages) {
                processor.putToWait(job.number, FOR_ROOM);
            } else {
                printer.addLine(job);
                job.finishInstruction();
            }
        }

        private void getResource(Job job, int resource) {
            if (!bank.isResource(resource)) {
                job.beginToEnd(TRAP);
            } else if (job.held[resource] >= job.claims[resource]) {
                job.beginToEnd(CLAIM);
            } else if (bank.grant(job, resource)) {
                job.finishInstruction();
            } else {
                bank.enqueue(job, resource);
            }
        }

        private void giveResource(Job job, int resource) {
            if (!bank.isResource(resource) || job.held[resource] == 0) {
                job.beginToEnd(TRAP);
            } else if (resource != READER_RESOURCE && job.lines.size() > 0) {
                processor.putToWait(job.number, FOR_EMPTY_LINES);
            } else {
                bank.giveBack(job, resource);
                job.finishInstruction();
                bank.passOn();
            }
        }
    }
}
