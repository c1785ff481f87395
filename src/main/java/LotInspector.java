import java.util.NoSuchElementException;

/** A quality inspection office; see README.md for its use and the document for its promises. */
public final class LotInspector {
    private static final int MOST_LOTS = 24;
    private static final int MOST_UNITS = 200;
    private static final int MOST_CHANGES = 8;
    private static final int PLACE_STEP = 1000;

    private static final int KINDS = 4;
    private static final int ALL_KINDS = 15;
    private static final int REPAIR_KIND = 3;
    private static final int REPAIR_CAUSE = 6;
    private static final int CAUSES = 7;

    private static final int HERE = 0;
    private static final int ASIDE = 1;
    private static final int SCRAPPED = 2;
    private static final int USED = 3;
    private static final int SHIPPED = 4;

    private static final int WAITING = 0;
    private static final int ACCEPTED = 1;
    private static final int REJECTED = 2;
    private static final int LOT_SHIPPED = 3;

    private static final int NORMAL = 0;
    private static final int TIGHTENED = 1;
    private static final int REDUCED = 2;
    private static final int STOPPED = 3;

    // What an office answers instead of a number when it refuses: its own numbers are never negative.
    private static final int NO_SUCH = -1;
    private static final int OUT_OF_RANGE = -2;
    private static final int NOT_NOW = -3;
    private static final int NOTHING_THERE = -4;

    private Office office = new Office();
    private Office spare = new Office();
    private final Office[] past = new Office[MOST_CHANGES];
    private int nextPast;
    private int undoable;
    private final Office kept = new Office();
    private boolean isKept;
    private final Drawer[] drawers = new Drawer[4];
    private final Commands commands = new Commands();
    private final Report written = new Report();
    private final Recall recalling = new Recall();
    private final Chance chances = new Chance();
    private final Product trial = new Product();

    public LotInspector() {
        for (int i = 0; i < past.length; i++) {
            past[i] = new Office();
        }
        for (int i = 0; i < drawers.length; i++) {
            drawers[i] = new Drawer();
        }
    }

    // ---- machines and products

    public int machine(int machine, int period, int kind) throws IndexOutOfBoundsException, IllegalArgumentException {
        beginChange();
        return endChange(office.setMachine(machine, period, kind));
    }

    public int worked(int machine) throws IndexOutOfBoundsException {
        Machine it = office.machineAt(machine);
        if (it == null) {
            throw new IndexOutOfBoundsException();
        }
        return it.count;
    }

    public int product(int product, int limit, int inspected, int repairable)
            throws IndexOutOfBoundsException, IllegalArgumentException {
        beginChange();
        return endChange(office.setProduct(product, limit, inspected, repairable));
    }

    public int policy(int product, int what) throws IndexOutOfBoundsException, IllegalArgumentException {
        Product it = existingProduct(product);
        if (what < 0 || what > 6) {
            throw new IllegalArgumentException();
        }
        return it.number(what);
    }

    public int table(int product, int units, int severity, boolean isSize)
            throws IndexOutOfBoundsException, IllegalArgumentException {
        Product it = existingProduct(product);
        if (units < 1 || units > MOST_UNITS || severity < NORMAL || severity > REDUCED) {
            throw new IllegalArgumentException();
        }
        int size = Product.sampleSize(units, severity);
        return isSize ? size : it.allowedIn(size, severity);
    }

    public int afterwards(int product, int found, int allowed)
            throws IndexOutOfBoundsException, IllegalArgumentException, IllegalStateException {
        Product it = existingProduct(product);
        if (found < 0 || found > MOST_UNITS || allowed < 0 || allowed > MOST_UNITS) {
            throw new IllegalArgumentException();
        }
        if (it.severity == STOPPED) {
            throw new IllegalStateException();
        }
        trial.copyFrom(it);
        trial.remember(found, allowed);
        return trial.severity;
    }

    public int release(int product) throws IndexOutOfBoundsException, IllegalStateException {
        beginChange();
        return endChange(office.releaseProduct(product));
    }

    public int seed(int seed) throws IllegalArgumentException {
        beginChange();
        return endChange(office.setSeed(seed));
    }

    // ---- lots

    public int raw(int machine, int product, int size)
            throws IndexOutOfBoundsException, IllegalArgumentException, IllegalStateException {
        beginChange();
        return endChange(office.makeRaw(machine, product, size));
    }

    public int make(int machine, int product, int size, int first, int second, int third)
            throws IndexOutOfBoundsException, IllegalArgumentException, IllegalStateException {
        beginChange();
        return endChange(office.assemble(machine, product, size, first, second, third));
    }

    public int inspect(int lot) throws IndexOutOfBoundsException, IllegalStateException {
        beginChange();
        return endChange(office.inspectLot(lot));
    }

    public int sort(int lot) throws IndexOutOfBoundsException, IllegalStateException {
        beginChange();
        return endChange(office.sortLot(lot));
    }

    public int ship(int lot) throws IndexOutOfBoundsException, IllegalStateException {
        beginChange();
        return endChange(office.shipLot(lot));
    }

    public int complain(int lot, int unit)
            throws IndexOutOfBoundsException, IllegalStateException, NoSuchElementException {
        beginChange();
        return endChange(office.putDownComplaint(lot, unit));
    }

    public int lot(int lot, int what) throws IndexOutOfBoundsException, IllegalArgumentException {
        Lot it = existingLot(lot);
        if (what < 0 || what > 9) {
            throw new IllegalArgumentException();
        }
        return it.number(what);
    }

    public int units(int lot, int state) throws IndexOutOfBoundsException, IllegalArgumentException {
        Lot it = existingLot(lot);
        if (state < -1 || state > SHIPPED) {
            throw new IllegalArgumentException();
        }
        return state == -1 ? it.badUnitsIn(HERE, office.inspectedOf(it)) : it.unitsIn(state);
    }

    public int unit(int lot, int unit, int what) throws IndexOutOfBoundsException, IllegalArgumentException {
        Lot it = lotWithUnit(lot, unit);
        switch (what) {
            case 0:
                return it.state[unit];
            case 1:
                return it.defects[unit];
            case 2:
                return it.repairs[unit];
            case 3:
                return it.isBad(unit, office.inspectedOf(it)) ? 1 : 0;
            default:
                throw new IllegalArgumentException();
        }
    }

    public long chance(int lot, int severity)
            throws IndexOutOfBoundsException, IllegalArgumentException, IllegalStateException {
        Lot it = existingLot(lot);
        if (severity < NORMAL || severity > REDUCED) {
            throw new IllegalArgumentException();
        }
        int here = it.unitsIn(HERE);
        Product product = office.productAt(it.product);
        if (here == 0 || product == null) {
            throw new IllegalStateException();
        }
        int sample = Product.sampleSize(here, severity);
        int bad = it.badUnitsIn(HERE, product.inspected);
        return Bits.ofDouble(chances.ofAcceptance(here, bad, sample, product.allowedIn(sample, severity)));
    }

    // ---- genealogy and causes

    public int madeOf(int lot, int unit, int part) throws IndexOutOfBoundsException, NoSuchElementException {
        Lot it = lotWithUnit(lot, unit);
        if (part < 0 || part >= it.partCount) {
            throw new NoSuchElementException();
        }
        return office.partOf(lot, unit, part);
    }

    public int whereabouts(int lot, int unit) throws IndexOutOfBoundsException {
        lotWithUnit(lot, unit);
        return office.outermost(placeOf(lot, unit));
    }

    public int trace(int lot, int unit, int kind, boolean isCause)
            throws IndexOutOfBoundsException, IllegalArgumentException, NoSuchElementException {
        Lot it = lotWithUnit(lot, unit);
        if (kind < 0 || kind >= KINDS) {
            throw new IllegalArgumentException();
        }
        if ((it.defects[unit] & 1 << kind) == 0) {
            throw new NoSuchElementException();
        }
        int origin = office.originOf(placeOf(lot, unit), kind);
        return isCause ? office.causeAt(origin, kind) : origin;
    }

    public int recall(int lot) throws IndexOutOfBoundsException {
        existingLot(lot);
        recalling.follow(office, lot);
        return recalling.lots;
    }

    public int recalled(int lot, int state) throws IndexOutOfBoundsException, IllegalArgumentException {
        existingLot(lot);
        if (state < HERE || state > SHIPPED) {
            throw new IllegalArgumentException();
        }
        recalling.follow(office, lot);
        return recalling.unitsIn(office, state);
    }

    public int blame(int cause, int kind) throws IllegalArgumentException {
        if (cause < 0 || cause >= CAUSES || kind < -1 || kind >= KINDS) {
            throw new IllegalArgumentException();
        }
        return office.timesBlamed(cause, kind);
    }

    public int worst(int rank) throws NoSuchElementException {
        int answer = office.mostBlamed(rank);
        if (answer < 0) {
            throw new NoSuchElementException();
        }
        return answer;
    }

    public int outgoing(int product) throws IndexOutOfBoundsException, ArithmeticException {
        Product it = existingProduct(product);
        int shipped = office.shippedOf(product);
        if (shipped == 0) {
            throw new ArithmeticException();
        }
        int bad = office.badShippedOf(product, it.inspected);
        return Bits.ofFloat((float) bad / (float) shipped);
    }

    public long foundShare(int product) throws IndexOutOfBoundsException, ArithmeticException {
        Product it = existingProduct(product);
        if (it.sampled == 0) {
            throw new ArithmeticException();
        }
        return Bits.ofDouble((double) it.found / (double) it.sampled);
    }

    // ---- drawers

    public int open(int drawer, int kind) throws IndexOutOfBoundsException, IllegalArgumentException {
        Drawer it = existingDrawer(drawer);
        if (kind < Drawer.ANY || kind > Drawer.TWICE_REPAIRED) {
            throw new IllegalArgumentException();
        }
        int before = it.size;
        it.size = 0;
        it.kind = kind;
        return before;
    }

    public int keep(int drawer, int lot, int unit)
            throws IndexOutOfBoundsException, IllegalStateException, UnsupportedOperationException {
        Drawer it = existingDrawer(drawer);
        Lot from = lotWithUnit(lot, unit);
        if (it.isFull()) {
            throw new IllegalStateException();
        }
        int repairs = from.repairs[unit];
        if (!it.takes(from.isBad(unit, office.inspectedOf(from)), repairs)) {
            throw new UnsupportedOperationException();
        }
        it.add(lot, unit, from.defects[unit], repairs);
        return it.size;
    }

    public int specimen(int drawer, int index, int what) throws IndexOutOfBoundsException, IllegalArgumentException {
        Drawer it = existingDrawer(drawer);
        if (index < 0 || index >= it.size) {
            throw new IndexOutOfBoundsException();
        }
        if (what < 0 || what > 3) {
            throw new IllegalArgumentException();
        }
        return it.number(index, what);
    }

    // ---- texts

    public int append(int packed) throws IllegalArgumentException, IllegalStateException {
        int added = Commands.charactersIn(packed);
        if (added < 0) {
            throw new IllegalArgumentException();
        }
        if (!commands.hasRoomFor(added)) {
            throw new IllegalStateException();
        }
        commands.add(packed);
        return commands.length;
    }

    public int run() throws IllegalArgumentException, IllegalStateException {
        if (!commands.isText()) {
            commands.empty();
            throw new IllegalArgumentException();
        }
        beginChange();
        commands.rewind();
        int done = 0;
        boolean isRefused = false;
        while (done < Commands.ROOM && !isRefused && commands.readCommand()) {
            isRefused = carryOut() < 0;
            done++;
        }
        commands.empty();
        if (isRefused) {
            commands.error = commands.start;
            office.copyFrom(spare);
            throw new IllegalStateException();
        }
        return endChange(done);
    }

    public int errorPosition() {
        return commands.error;
    }

    public int report(int lot) throws IndexOutOfBoundsException {
        Lot it = existingLot(lot);
        written.write(lot, it);
        return written.text.length();
    }

    public char character(int index) throws IndexOutOfBoundsException {
        if (index < 0 || index >= written.text.length()) {
            throw new IndexOutOfBoundsException();
        }
        return written.text.charAt(index);
    }

    // ---- undo and saving

    public int undo() throws IllegalStateException {
        if (undoable == 0) {
            throw new IllegalStateException();
        }
        nextPast = nextPast == 0 ? past.length - 1 : nextPast - 1;
        Office undone = office;
        office = past[nextPast];
        past[nextPast] = undone;
        undoable--;
        return undoable;
    }

    public int save() {
        kept.copyFrom(office);
        isKept = true;
        return office.lotCount;
    }

    public int restore() throws IllegalStateException {
        if (!isKept) {
            throw new IllegalStateException();
        }
        office.copyFrom(kept);
        undoable = 0;
        return office.lotCount;
    }

    public int count(int what) throws IllegalArgumentException {
        switch (what) {
            case 0:
                return office.lotCount;
            case 1:
                return office.allUnits();
            case 2:
                return office.repairs;
            case 3:
                return office.complaints;
            case 4:
                return undoable;
            case 5:
                return commands.length;
            case 6:
                return office.seed;
            default:
                if (what < 10 + HERE || what > 10 + SHIPPED) {
                    throw new IllegalArgumentException();
                }
                return office.allUnitsIn(what - 10);
        }
    }

    // ---- what the methods of the face share

    private Product existingProduct(int number) {
        Product it = office.productAt(number);
        if (it == null) {
            throw new IndexOutOfBoundsException();
        }
        return it;
    }

    private Lot existingLot(int number) {
        Lot it = office.lotAt(number);
        if (it == null) {
            throw new IndexOutOfBoundsException();
        }
        return it;
    }

    private Lot lotWithUnit(int number, int unit) {
        Lot it = office.lotAt(number);
        if (it == null || !it.has(unit)) {
            throw new IndexOutOfBoundsException();
        }
        return it;
    }

    private Drawer existingDrawer(int number) {
        if (number < 0 || number >= drawers.length) {
            throw new IndexOutOfBoundsException();
        }
        return drawers[number];
    }

    private void beginChange() {
        spare.copyFrom(office);
    }

    /** Throws what a refusal stands for; otherwise the copy made ahead becomes the latest of the past. */
    private int endChange(int answer) {
        refuse(answer);
        Office oldest = past[nextPast];
        past[nextPast] = spare;
        spare = oldest;
        nextPast = nextPast == past.length - 1 ? 0 : nextPast + 1;
        if (undoable < past.length) {
            undoable++;
        }
        return answer;
    }

    private static void refuse(int answer) {
        switch (answer) {
            case NO_SUCH:
                throw new IndexOutOfBoundsException();
            case OUT_OF_RANGE:
                throw new IllegalArgumentException();
            case NOT_NOW:
                throw new IllegalStateException();
            case NOTHING_THERE:
                throw new NoSuchElementException();
            default:
                break;
        }
    }

    /** Carries out the command that was read last; a negative answer is a refusal. */
    private int carryOut() {
        Word word = commands.word;
        if (word == null) {
            return NO_SUCH;
        }
        int[] given = commands.numbers;
        switch (word) {
            case MACHINE:
                return office.setMachine(given[0], given[1], given[2]);
            case PRODUCT:
                return office.setProduct(given[0], given[1], given[2], given[3]);
            case RAW:
                return office.makeRaw(given[0], given[1], given[2]);
            case MAKE:
                return office.assemble(given[0], given[1], given[2], given[3], given[4], given[5]);
            case INSPECT:
                return office.inspectLot(given[0]);
            case SORT:
                return office.sortLot(given[0]);
            case SHIP:
                return office.shipLot(given[0]);
            case RELEASE:
                return office.releaseProduct(given[0]);
            case SEED:
                return office.setSeed(given[0]);
            default:
                return NO_SUCH;
        }
    }

    /** A unit as the document names it: its lot and its number in one. */
    private static int placeOf(int lot, int unit) {
        return PLACE_STEP * lot + unit;
    }

    private static final class Machine {
        private int period;
        private int kind;
        private int count;

        private void copyFrom(Machine other) {
            period = other.period;
            kind = other.kind;
            count = other.count;
        }

        /** Works on one more unit and tells whether this causes a defect. */
        private boolean spoilsNext() {
            count++;
            return period > 0 && count % period == 0;
        }
    }

    private static final class Product {
        private static final int[] BAND_ENDS = {8, 15, 25, 50, 90, 150};
        private static final int[] SIZES = {2, 3, 5, 8, 13, 20, 32};
        private static final int LATEST_FIVE = 31;

        private int limit = 5;
        private int inspected = ALL_KINDS;
        private int repairable = 3;
        private int severity = NORMAL;
        private int score;
        private int remembered;
        // One bit for each inspection, the latest lowest, 1 for rejected: 24 lots have at most 24 of them.
        private int memory;
        private int sampled;
        private int found;

        private void copyFrom(Product other) {
            limit = other.limit;
            inspected = other.inspected;
            repairable = other.repairable;
            severity = other.severity;
            score = other.score;
            remembered = other.remembered;
            memory = other.memory;
            sampled = other.sampled;
            found = other.found;
        }

        private int number(int what) {
            switch (what) {
                case 0:
                    return limit;
                case 1:
                    return inspected;
                case 2:
                    return repairable;
                case 3:
                    return severity;
                case 4:
                    return score;
                case 5:
                    return remembered;
                default:
                    return Integer.bitCount(memory);
            }
        }

        private static int sampleSize(int units, int severity) {
            int band = 0;
            while (band < BAND_ENDS.length && units > BAND_ENDS[band]) {
                band++;
            }
            if (severity == REDUCED) {
                band = Math.max(band - 2, 0);
            }
            int size = band < SIZES.length ? SIZES[band] : 0;
            return Math.min(size, units);
        }

        private int allowedIn(int sample, int severity) {
            int allowed = sample * limit / 100;
            if (severity == TIGHTENED) {
                return Math.max(allowed - 1, 0);
            }
            return severity == REDUCED ? allowed + 1 : allowed;
        }

        /** Puts a first inspection into the memory and switches the severity by it. */
        private void remember(int foundNow, int allowed) {
            boolean isRejected = foundNow > allowed;
            memory = memory << 1 | (isRejected ? 1 : 0);
            remembered++;
            if (severity == NORMAL) {
                switchFromNormal(isRejected, 2 * foundNow <= allowed);
            } else if (severity == TIGHTENED) {
                switchFromTightened(isRejected);
            } else if (severity == REDUCED && foundNow >= allowed) {
                become(NORMAL);
            }
        }

        private void switchFromNormal(boolean isRejected, boolean isGood) {
            if (isRejected && Integer.bitCount(memory & LATEST_FIVE) >= 2) {
                become(TIGHTENED);
            } else if (!isRejected && isGood) {
                score += 3;
                if (score == 15) {
                    become(REDUCED);
                }
            } else {
                score = 0;
            }
        }

        private void switchFromTightened(boolean isRejected) {
            if (isRejected) {
                if (Integer.bitCount(memory) >= 5) {
                    become(STOPPED);
                }
            } else if (remembered >= 5 && (memory & LATEST_FIVE) == 0) {
                become(NORMAL);
            }
        }

        private void become(int other) {
            severity = other;
            score = 0;
            remembered = 0;
            memory = 0;
        }
    }

    private static final class Lot {
        private int product;
        private int machine;
        private int size;
        private int status;
        private int inspections;
        private int severity;
        private int sample;
        private int allowed;
        private int found;
        private int partCount;
        private final int[] parts = new int[3];
        private final int[] state = new int[MOST_UNITS];
        private final int[] defects = new int[MOST_UNITS];
        private final int[] repairs = new int[MOST_UNITS];
        // Which of the defects a repair caused. What neither a repair caused nor a part has, the machine caused.
        private final int[] fromRepair = new int[MOST_UNITS];
        // The place of the unit that was made of it, or -1.
        private final int[] usedIn = new int[MOST_UNITS];
        // 1 for a unit that was complained of, otherwise 0.
        private final int[] complained = new int[MOST_UNITS];

        /** Makes the lot a new one; it may have been another lot that was undone. */
        private void begin(int ofProduct, int byMachine, int unitCount) {
            product = ofProduct;
            machine = byMachine;
            size = Math.min(unitCount, MOST_UNITS);
            status = WAITING;
            inspections = 0;
            severity = -1;
            sample = -1;
            allowed = -1;
            found = -1;
            partCount = 0;
            for (int unit = 0; unit < size; unit++) {
                state[unit] = HERE;
                defects[unit] = 0;
                repairs[unit] = 0;
                fromRepair[unit] = 0;
                usedIn[unit] = -1;
                complained[unit] = 0;
            }
        }

        private void copyFrom(Lot other) {
            product = other.product;
            machine = other.machine;
            size = other.size;
            status = other.status;
            inspections = other.inspections;
            severity = other.severity;
            sample = other.sample;
            allowed = other.allowed;
            found = other.found;
            partCount = other.partCount;
            System.arraycopy(other.parts, 0, parts, 0, parts.length);
            System.arraycopy(other.state, 0, state, 0, size);
            System.arraycopy(other.defects, 0, defects, 0, size);
            System.arraycopy(other.repairs, 0, repairs, 0, size);
            System.arraycopy(other.fromRepair, 0, fromRepair, 0, size);
            System.arraycopy(other.usedIn, 0, usedIn, 0, size);
            System.arraycopy(other.complained, 0, complained, 0, size);
        }

        private void addPart(int number) {
            if (partCount < parts.length) {
                parts[partCount] = number;
                partCount++;
            }
        }

        private boolean has(int unit) {
            return unit >= 0 && unit < size;
        }

        private int number(int what) {
            switch (what) {
                case 0:
                    return product;
                case 1:
                    return size;
                case 2:
                    return status;
                case 3:
                    return inspections;
                case 4:
                    return severity;
                case 5:
                    return sample;
                case 6:
                    return allowed;
                case 7:
                    return found;
                case 8:
                    return partCount;
                default:
                    return machine;
            }
        }

        private boolean isBad(int unit, int inspected) {
            return has(unit) && (defects[unit] & inspected) != 0;
        }

        private int unitsIn(int wanted) {
            int counted = 0;
            for (int unit = 0; unit < size; unit++) {
                if (state[unit] == wanted) {
                    counted++;
                }
            }
            return counted;
        }

        private int badUnitsIn(int wanted, int inspected) {
            int counted = 0;
            for (int unit = 0; unit < size; unit++) {
                if (state[unit] == wanted && isBad(unit, inspected)) {
                    counted++;
                }
            }
            return counted;
        }

        private void workOn(int unit, Machine worker) {
            int bit = 1 << worker.kind;
            if (worker.spoilsNext() && has(unit)) {
                defects[unit] |= bit;
            }
        }

        private void lose(int unit, int kinds) {
            defects[unit] &= ~kinds;
            fromRepair[unit] &= ~kinds;
        }

        private void spoilByRepair(int unit) {
            int bit = 1 << REPAIR_KIND;
            if ((defects[unit] & bit) == 0) {
                defects[unit] |= bit;
                fromRepair[unit] |= bit;
            }
        }

        /** The unit that was used for the unit at a place, or -1. */
        private int unitUsedIn(int place) {
            for (int unit = 0; unit < size; unit++) {
                if (usedIn[unit] == place) {
                    return unit;
                }
            }
            return -1;
        }
    }

    /** Everything that undo and restore bring back. Its methods check first, so that a refusal changes nothing. */
    private static final class Office {
        private final Machine[] machines = new Machine[6];
        private final Product[] products = new Product[4];
        private final Lot[] lots = new Lot[MOST_LOTS];
        private final int[] blamed = new int[CAUSES * KINDS];
        // Used within one inspection only, and no part of the state.
        private final int[] drawable = new int[MOST_UNITS];
        private int lotCount;
        private int complaints;
        private int repairs;
        private int seed = 1;

        private Office() {
            for (int i = 0; i < machines.length; i++) {
                machines[i] = new Machine();
            }
            for (int i = 0; i < products.length; i++) {
                products[i] = new Product();
            }
        }

        private void copyFrom(Office other) {
            for (int i = 0; i < machines.length; i++) {
                machines[i].copyFrom(other.machines[i]);
            }
            for (int i = 0; i < products.length; i++) {
                products[i].copyFrom(other.products[i]);
            }
            for (int i = 0; i < other.lotCount && i < lots.length; i++) {
                Lot source = other.lots[i];
                if (source != null) {
                    slot(i).copyFrom(source);
                }
            }
            System.arraycopy(other.blamed, 0, blamed, 0, blamed.length);
            lotCount = other.lotCount;
            complaints = other.complaints;
            repairs = other.repairs;
            seed = other.seed;
        }

        /** Lots are made when they are first needed and used again afterwards: most offices need few. */
        private Lot slot(int number) {
            Lot it = lots[number];
            if (it == null) {
                it = new Lot();
                lots[number] = it;
            }
            return it;
        }

        private Machine machineAt(int number) {
            return number >= 0 && number < machines.length ? machines[number] : null;
        }

        private Product productAt(int number) {
            return number >= 0 && number < products.length ? products[number] : null;
        }

        private Lot lotAt(int number) {
            return number >= 0 && number < lotCount && number < lots.length ? lots[number] : null;
        }

        private int inspectedOf(Lot lot) {
            Product product = productAt(lot.product);
            return product == null ? 0 : product.inspected;
        }

        private int setMachine(int number, int period, int kind) {
            Machine it = machineAt(number);
            if (it == null) {
                return NO_SUCH;
            }
            if (period < 0 || period > 50 || kind < 0 || kind >= KINDS) {
                return OUT_OF_RANGE;
            }
            int before = 10 * it.period + it.kind;
            it.period = period;
            it.kind = kind;
            return before;
        }

        private int setProduct(int number, int limit, int inspected, int repairable) {
            Product it = productAt(number);
            if (it == null) {
                return NO_SUCH;
            }
            if (limit < 0 || limit > 30 || inspected < 0 || inspected > ALL_KINDS
                    || repairable < 0 || repairable > ALL_KINDS) {
                return OUT_OF_RANGE;
            }
            int before = it.limit;
            it.limit = limit;
            it.inspected = inspected;
            it.repairable = repairable;
            return before;
        }

        private int releaseProduct(int number) {
            Product it = productAt(number);
            if (it == null) {
                return NO_SUCH;
            }
            if (it.severity != STOPPED) {
                return NOT_NOW;
            }
            it.become(TIGHTENED);
            int waiting = 0;
            for (int i = 0; i < lotCount; i++) {
                Lot lot = lotAt(i);
                if (lot != null && lot.product == number && lot.status == WAITING) {
                    waiting++;
                }
            }
            return waiting;
        }

        private int setSeed(int other) {
            if (other < 0) {
                return OUT_OF_RANGE;
            }
            int before = seed;
            seed = other;
            return before;
        }

        private int makeRaw(int machine, int product, int size) {
            Machine worker = machineAt(machine);
            if (worker == null || productAt(product) == null) {
                return NO_SUCH;
            }
            if (size < 1 || size > MOST_UNITS) {
                return OUT_OF_RANGE;
            }
            if (lotCount >= lots.length) {
                return NOT_NOW;
            }
            Lot made = slot(lotCount);
            made.begin(product, machine, size);
            return finish(made, worker);
        }

        private int assemble(int machine, int product, int size, int first, int second, int third) {
            Machine worker = machineAt(machine);
            if (worker == null || productAt(product) == null || lotAt(first) == null
                    || second != -1 && lotAt(second) == null || third != -1 && lotAt(third) == null) {
                return NO_SUCH;
            }
            boolean isTwice = first == second || first == third || second != -1 && second == third;
            if (size < 1 || size > MOST_UNITS || isTwice || second == -1 && third != -1) {
                return OUT_OF_RANGE;
            }
            if (lotCount >= lots.length || !gives(first, size)
                    || second != -1 && !gives(second, size) || third != -1 && !gives(third, size)) {
                return NOT_NOW;
            }
            Lot made = slot(lotCount);
            made.begin(product, machine, size);
            usePart(made, first);
            usePart(made, second);
            usePart(made, third);
            return finish(made, worker);
        }

        private boolean gives(int number, int size) {
            Lot part = lotAt(number);
            return part != null && part.status == ACCEPTED && part.unitsIn(HERE) >= size;
        }

        private void usePart(Lot made, int number) {
            Lot part = lotAt(number);
            if (part == null) {
                return;
            }
            made.addPart(number);
            int position = 0;
            for (int unit = 0; unit < part.size && position < made.size; unit++) {
                if (part.state[unit] == HERE) {
                    part.state[unit] = USED;
                    part.usedIn[unit] = placeOf(lotCount, position);
                    made.defects[position] |= part.defects[unit];
                    position++;
                }
            }
        }

        /** The machine works on the units of the new lot, which gets its number. */
        private int finish(Lot made, Machine worker) {
            for (int unit = 0; unit < made.size; unit++) {
                made.workOn(unit, worker);
            }
            lotCount++;
            return lotCount - 1;
        }

        private int inspectLot(int number) {
            Lot lot = lotAt(number);
            if (lot == null) {
                return NO_SUCH;
            }
            Product product = productAt(lot.product);
            int here = listDrawable(lot);
            if (product == null || lot.status != WAITING || here == 0 || product.severity == STOPPED) {
                return NOT_NOW;
            }
            boolean isFirst = lot.inspections == 0;
            lot.severity = isFirst ? product.severity : TIGHTENED;
            lot.sample = Product.sampleSize(here, lot.severity);
            lot.allowed = product.allowedIn(lot.sample, lot.severity);
            lot.found = 0;
            for (int drawn = 0; drawn < lot.sample; drawn++) {
                int unit = drawUnit(here - drawn);
                if (lot.isBad(unit, product.inspected)) {
                    lot.found++;
                    lot.state[unit] = ASIDE;
                    blameDefects(number, unit, lot.defects[unit] & product.inspected);
                }
            }
            lot.inspections++;
            lot.status = lot.found > lot.allowed ? REJECTED : ACCEPTED;
            if (isFirst) {
                product.sampled += lot.sample;
                product.found += lot.found;
                product.remember(lot.found, lot.allowed);
            }
            return lot.found;
        }

        private int listDrawable(Lot lot) {
            int listed = 0;
            for (int unit = 0; unit < lot.size && listed < drawable.length; unit++) {
                if (lot.state[unit] == HERE) {
                    drawable[listed] = unit;
                    listed++;
                }
            }
            return listed;
        }

        /** Draws one of the units that are listed still, and takes it off the list. */
        private int drawUnit(int listed) {
            seed = (int) ((seed * 1103515245L + 12345L) % 2147483648L);
            if (listed < 1 || listed > drawable.length) {
                return -1;
            }
            int index = seed / 65536 % listed;
            int unit = drawable[index];
            System.arraycopy(drawable, index + 1, drawable, index, listed - index - 1);
            return unit;
        }

        private int sortLot(int number) {
            Lot lot = lotAt(number);
            if (lot == null) {
                return NO_SUCH;
            }
            Product product = productAt(lot.product);
            if (product == null || lot.status != REJECTED) {
                return NOT_NOW;
            }
            int scrapped = 0;
            for (int unit = 0; unit < lot.size; unit++) {
                boolean isAside = lot.state[unit] == ASIDE;
                boolean isFound = lot.state[unit] == HERE && lot.isBad(unit, product.inspected);
                if (isFound) {
                    blameDefects(number, unit, lot.defects[unit] & product.inspected);
                }
                if ((isFound || isAside) && !isRepaired(lot, unit, product)) {
                    lot.state[unit] = SCRAPPED;
                    scrapped++;
                }
            }
            lot.status = WAITING;
            return scrapped;
        }

        /** Repairs a unit if that can be done, and tells whether it could. */
        private boolean isRepaired(Lot lot, int unit, Product product) {
            int hopeless = lot.defects[unit] & product.inspected & ~product.repairable;
            if (hopeless != 0 || lot.repairs[unit] >= 2) {
                return false;
            }
            lot.lose(unit, product.repairable);
            lot.repairs[unit]++;
            lot.state[unit] = HERE;
            repairs++;
            if (repairs % 7 == 0) {
                lot.spoilByRepair(unit);
            }
            return true;
        }

        private int shipLot(int number) {
            Lot lot = lotAt(number);
            if (lot == null) {
                return NO_SUCH;
            }
            int here = lot.unitsIn(HERE);
            if (lot.status != ACCEPTED || here == 0) {
                return NOT_NOW;
            }
            for (int unit = 0; unit < lot.size; unit++) {
                if (lot.state[unit] == HERE) {
                    lot.state[unit] = SHIPPED;
                }
            }
            lot.status = LOT_SHIPPED;
            return here;
        }

        private int putDownComplaint(int number, int unit) {
            Lot lot = lotAt(number);
            if (lot == null || !lot.has(unit)) {
                return NO_SUCH;
            }
            if (lot.state[unit] != SHIPPED || lot.complained[unit] != 0) {
                return NOT_NOW;
            }
            if (lot.defects[unit] == 0) {
                return NOTHING_THERE;
            }
            lot.complained[unit] = 1;
            complaints++;
            blameDefects(number, unit, lot.defects[unit]);
            return complaints;
        }

        private void blameDefects(int number, int unit, int kinds) {
            for (int kind = 0; kind < KINDS; kind++) {
                if ((kinds & 1 << kind) != 0) {
                    int cause = causeAt(originOf(placeOf(number, unit), kind), kind);
                    int index = cause * KINDS + kind;
                    if (index >= 0 && index < blamed.length) {
                        blamed[index]++;
                    }
                }
            }
        }

        /** The place of the unit in which a defect of the unit at a place was caused. */
        private int originOf(int place, int kind) {
            int origin = place;
            for (int level = 0; level < MOST_LOTS; level++) {
                int further = partWithDefect(origin, kind);
                if (further < 0) {
                    return origin;
                }
                origin = further;
            }
            return origin;
        }

        /** The place of the unit from which a defect came into the unit at a place, or -1 if it was caused there. */
        private int partWithDefect(int place, int kind) {
            int bit = 1 << kind;
            int unit = place % PLACE_STEP;
            Lot lot = lotAt(place / PLACE_STEP);
            if (lot == null || !lot.has(unit) || (lot.fromRepair[unit] & bit) != 0) {
                return -1;
            }
            for (int i = 0; i < lot.partCount && i < lot.parts.length; i++) {
                Lot part = lotAt(lot.parts[i]);
                int used = part == null ? -1 : part.unitUsedIn(place);
                if (used >= 0 && (part.defects[used] & bit) != 0) {
                    return placeOf(lot.parts[i], used);
                }
            }
            return -1;
        }

        /** The cause of a defect that was caused in the unit at a place. */
        private int causeAt(int place, int kind) {
            int unit = place % PLACE_STEP;
            Lot lot = lotAt(place / PLACE_STEP);
            if (lot == null || !lot.has(unit)) {
                return NO_SUCH;
            }
            return (lot.fromRepair[unit] & 1 << kind) != 0 ? REPAIR_CAUSE : lot.machine;
        }

        private int partOf(int number, int unit, int index) {
            Lot lot = lotAt(number);
            if (lot == null || index < 0 || index >= lot.partCount || index >= lot.parts.length) {
                return NO_SUCH;
            }
            Lot part = lotAt(lot.parts[index]);
            int used = part == null ? -1 : part.unitUsedIn(placeOf(number, unit));
            return used < 0 ? NO_SUCH : placeOf(lot.parts[index], used);
        }

        /** The place of the unit that contains the one at a place and is not used itself. */
        private int outermost(int place) {
            int outer = place;
            for (int level = 0; level < MOST_LOTS; level++) {
                int unit = outer % PLACE_STEP;
                Lot lot = lotAt(outer / PLACE_STEP);
                if (lot == null || !lot.has(unit) || lot.usedIn[unit] < 0) {
                    return outer;
                }
                outer = lot.usedIn[unit];
            }
            return outer;
        }

        private int timesBlamed(int cause, int kind) {
            int sum = 0;
            for (int i = 0; i < blamed.length; i++) {
                if (i / KINDS == cause && (kind == -1 || i % KINDS == kind)) {
                    sum += blamed[i];
                }
            }
            return sum;
        }

        private int mostBlamed(int rank) {
            for (int i = 0; i < blamed.length; i++) {
                if (blamed[i] > 0 && moreBlamedThan(i) == rank) {
                    return 10 * (i / KINDS) + i % KINDS;
                }
            }
            return NOTHING_THERE;
        }

        private int moreBlamedThan(int index) {
            int ahead = 0;
            for (int i = 0; i < blamed.length; i++) {
                if (blamed[i] > blamed[index] || blamed[i] == blamed[index] && i < index) {
                    ahead++;
                }
            }
            return ahead;
        }

        private int shippedOf(int product) {
            int sum = 0;
            for (int i = 0; i < lotCount; i++) {
                Lot lot = lotAt(i);
                if (lot != null && lot.product == product) {
                    sum += lot.unitsIn(SHIPPED);
                }
            }
            return sum;
        }

        private int badShippedOf(int product, int inspected) {
            int sum = 0;
            for (int i = 0; i < lotCount; i++) {
                Lot lot = lotAt(i);
                if (lot != null && lot.product == product) {
                    sum += lot.badUnitsIn(SHIPPED, inspected);
                }
            }
            return sum;
        }

        private int allUnits() {
            int sum = 0;
            for (int i = 0; i < lotCount; i++) {
                Lot lot = lotAt(i);
                sum += lot == null ? 0 : lot.size;
            }
            return sum;
        }

        private int allUnitsIn(int state) {
            int sum = 0;
            for (int i = 0; i < lotCount; i++) {
                Lot lot = lotAt(i);
                sum += lot == null ? 0 : lot.unitsIn(state);
            }
            return sum;
        }
    }

    private static final class Recall {
        private final boolean[] marked = new boolean[MOST_LOTS * MOST_UNITS];
        private int lots;

        /** Marks the units of a lot and those that contain one: these are in later lots only, so one pass is enough. */
        private void follow(Office office, int first) {
            for (int i = 0; i < marked.length; i++) {
                marked[i] = false;
            }
            lots = 0;
            for (int number = first; number < office.lotCount; number++) {
                Lot lot = office.lotAt(number);
                for (int unit = 0; lot != null && unit < lot.size; unit++) {
                    if (number == first || isMarked(number, unit)) {
                        lots |= 1 << number;
                        mark(number, unit);
                        mark(lot.usedIn[unit] / PLACE_STEP, lot.usedIn[unit] % PLACE_STEP);
                    }
                }
            }
        }

        /** Does nothing for a unit below 0, as it comes from a place of -1. */
        private void mark(int lot, int unit) {
            int index = lot * MOST_UNITS + unit;
            if (index >= 0 && index < marked.length) {
                marked[index] = true;
            }
        }

        private boolean isMarked(int lot, int unit) {
            int index = lot * MOST_UNITS + unit;
            return index >= 0 && index < marked.length && marked[index];
        }

        private int unitsIn(Office office, int state) {
            int counted = 0;
            for (int number = 0; number < office.lotCount; number++) {
                Lot lot = office.lotAt(number);
                for (int unit = 0; lot != null && unit < lot.size; unit++) {
                    if (isMarked(number, unit) && lot.state[unit] == state) {
                        counted++;
                    }
                }
            }
            return counted;
        }
    }

    private static final class Chance {
        // p[k]: the chance that k bad units were drawn so far; the greatest sample has 32 units.
        private final double[] p = new double[33];

        private double ofAcceptance(int units, int bad, int sample, int allowed) {
            for (int k = 0; k < p.length; k++) {
                p[k] = k == 0 ? 1.0 : 0.0;
            }
            for (int j = 0; j < sample && j < units && j < p.length - 1; j++) {
                drawOneMore(j, units, bad);
            }
            double sum = 0.0;
            for (int k = 0; k <= allowed && k <= sample && k < p.length; k++) {
                sum += p[k];
            }
            return sum;
        }

        /** Goes downwards, so that p[k - 1] is still the one of before. */
        private void drawOneMore(int j, int units, int bad) {
            double left = units - j;
            for (int k = Math.min(j + 1, p.length - 1); k >= 0; k--) {
                double goodLeft = Math.max(units - bad - (j - k), 0);
                double badLeft = Math.max(bad - (k - 1), 0);
                double fewer = k == 0 ? 0.0 : p[k - 1];
                p[k] = p[k] * goodLeft / left + fewer * badLeft / left;
            }
        }
    }

    /** The bits of chances and shares, which are 0 or normal numbers below 2. */
    private static final class Bits {
        private static long ofDouble(double value) {
            if (!(value > 0.0)) {
                return 0L;
            }
            long exponent = 1023L;
            double rest = value;
            while (rest < 1.0 && exponent > 1L) {
                rest *= 2.0;
                exponent--;
            }
            return (exponent << 52) + (long) ((rest - 1.0) * 4503599627370496.0);
        }

        private static int ofFloat(float value) {
            if (!(value > 0.0f)) {
                return 0;
            }
            int exponent = 127;
            float rest = value;
            while (rest < 1.0f && exponent > 1) {
                rest *= 2.0f;
                exponent--;
            }
            return (exponent << 23) + (int) ((rest - 1.0f) * 8388608.0f);
        }
    }

    private static final class Drawer {
        private static final int ANY = 0;
        private static final int BAD = 1;
        private static final int TWICE_REPAIRED = 2;

        private int kind = ANY;
        private int size;
        private final int[] lots = new int[5];
        private final int[] units = new int[5];
        private final int[] defects = new int[5];
        private final int[] repairs = new int[5];

        private boolean isFull() {
            return size >= lots.length;
        }

        private boolean takes(boolean isBad, int repaired) {
            return kind == ANY || isBad && (kind == BAD || repaired == 2);
        }

        private void add(int lot, int unit, int defectSet, int repaired) {
            if (size < lots.length) {
                lots[size] = lot;
                units[size] = unit;
                defects[size] = defectSet;
                repairs[size] = repaired;
                size++;
            }
        }

        private int number(int index, int what) {
            switch (what) {
                case 0:
                    return lots[index];
                case 1:
                    return units[index];
                case 2:
                    return defects[index];
                default:
                    return repairs[index];
            }
        }
    }

    private enum Word {
        MACHINE("machine", 3, 3),
        PRODUCT("product", 4, 4),
        RAW("raw", 3, 3),
        MAKE("make", 4, 6),
        INSPECT("inspect", 1, 1),
        SORT("sort", 1, 1),
        SHIP("ship", 1, 1),
        RELEASE("release", 1, 1),
        SEED("seed", 1, 1);

        private final String letters;
        private final int fewest;
        private final int most;

        Word(String letters, int fewest, int most) {
            this.letters = letters;
            this.fewest = fewest;
            this.most = most;
        }
    }

    /** The buffer, and the reading of it as a text of commands. */
    private static final class Commands {
        private static final int ROOM = 60;
        private static final int MOST_DIGITS = 5;
        private static final char NONE = 0;
        private static final Word[] WORDS = Word.values();

        private final char[] text = new char[ROOM];
        private int length;
        private int position;
        private int error = -1;
        // The command that was read last.
        private int start;
        private Word word;
        private final int[] numbers = new int[6];

        /** The number of characters that are packed in an int, or -1 if one of them is not allowed. */
        private static int charactersIn(int packed) {
            int counted = 0;
            for (int shift = 24; shift >= 0; shift -= 8) {
                int character = packed >>> shift & 255;
                if (character != 0 && (character < 33 || character > 126)) {
                    return -1;
                }
                if (character != 0) {
                    counted++;
                }
            }
            return counted;
        }

        private boolean hasRoomFor(int more) {
            return length + more <= text.length;
        }

        private void add(int packed) {
            for (int shift = 24; shift >= 0; shift -= 8) {
                int character = packed >>> shift & 255;
                if (character != 0 && length < text.length) {
                    text[length] = (char) character;
                    length++;
                }
            }
        }

        private void empty() {
            length = 0;
        }

        private void rewind() {
            position = 0;
        }

        /** Reads the whole text and sets the error position by it. */
        private boolean isText() {
            rewind();
            boolean isRight = length > 0;
            for (int n = 0; n < ROOM && isRight && position < length; n++) {
                isRight = readCommand();
            }
            error = isRight ? -1 : position;
            return isRight;
        }

        /** Reads a command; if there is none, the position is that of the error. */
        private boolean readCommand() {
            start = position;
            readWord();
            if (word == null || !skip(':')) {
                return false;
            }
            for (int n = 0; n < word.most && n < numbers.length; n++) {
                if (!readNumber(n)) {
                    return false;
                }
                if (n + 1 >= word.fewest && skip(';')) {
                    leaveOut(n + 1);
                    return true;
                }
                if (n + 1 == word.most || !skip(',')) {
                    return false;
                }
            }
            return false;
        }

        /** Stays at the first letter if the letters are no word. */
        private void readWord() {
            int end = position;
            while (end < length && at(end) >= 'a' && at(end) <= 'z') {
                end++;
            }
            word = null;
            for (Word candidate : WORDS) {
                if (spells(candidate.letters, end)) {
                    word = candidate;
                }
            }
            if (word != null) {
                position = end;
            }
        }

        private boolean spells(String letters, int end) {
            if (end - position != letters.length()) {
                return false;
            }
            for (int i = 0; i < letters.length(); i++) {
                if (letters.charAt(i) != at(position + i)) {
                    return false;
                }
            }
            return true;
        }

        private boolean readNumber(int index) {
            int value = 0;
            int digits = 0;
            boolean isZero = false;
            while (digits < MOST_DIGITS && !isZero && at(position) >= '0' && at(position) <= '9') {
                value = 10 * value + at(position) - '0';
                isZero = value == 0;
                digits++;
                position++;
            }
            numbers[index] = value;
            return digits > 0;
        }

        /** Gives the numbers that a command may have and does not have the value -1. */
        private void leaveOut(int from) {
            for (int i = from; i < numbers.length; i++) {
                numbers[i] = -1;
            }
        }

        private boolean skip(char wanted) {
            if (at(position) != wanted) {
                return false;
            }
            position++;
            return true;
        }

        private char at(int index) {
            return index >= 0 && index < length && index < text.length ? text[index] : NONE;
        }
    }

    private static final class Report {
        private final StringBuilder text = new StringBuilder();

        private void write(int number, Lot lot) {
            text.setLength(0);
            text.append("lot ").append(number);
            text.append(": product ").append(lot.product);
            text.append(", ").append(lot.unitsIn(HERE));
            text.append(" of ").append(lot.size).append(" here, ");
            if (lot.inspections == 0) {
                text.append("not inspected");
            } else {
                text.append(severityName(lot.severity));
                text.append(' ').append(lot.sample).append('/').append(lot.allowed);
                text.append(", found ").append(lot.found);
            }
            text.append(", ").append(statusName(lot.status));
        }

        private static String severityName(int severity) {
            switch (severity) {
                case NORMAL:
                    return "normal";
                case TIGHTENED:
                    return "tightened";
                default:
                    return "reduced";
            }
        }

        private static String statusName(int status) {
            switch (status) {
                case WAITING:
                    return "waiting";
                case ACCEPTED:
                    return "accepted";
                case REJECTED:
                    return "rejected";
                default:
                    return "shipped";
            }
        }
    }
}
