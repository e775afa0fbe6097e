import java.util.Arrays;
import java.util.NoSuchElementException;

/** A land that foes cross in waves, along ways that towers bend. */
public final class LaneKeep {
    private static final int NONE = -1;

    private static final int WIDTH = 10;
    private static final int HEIGHT = 8;
    private static final int CELLS = WIDTH * HEIGHT;
    private static final int SIDES = 4;
    private static final int FIRST_ORDER = 1234;
    private static final int MOST_ENTRIES = 3;
    private static final int MOST_EXITS = 2;

    private static final char FREE = '.';
    private static final char ROCK = '#';
    private static final char TOWER = 't';
    private static final char ENTRY = 'e';
    private static final char EXIT = 'x';

    private static final int MOST_KINDS = 6;
    private static final int MOST_TOWERS = 20;
    private static final int MOST_LEVEL = 3;
    private static final int MOST_SIGN = 5;
    private static final int MOST_FLIGHT = 9;
    private static final int MOST_EFFECT_TICKS = 30;
    private static final int MOST_JUMP_SQUARE = 4;
    private static final int MOST_ALIVE = 40;
    private static final int MOST_WAVES = 8;
    private static final int MOST_OF_WAVE = 20;
    private static final int MOST_PLANS = 10;
    private static final int MOST_TICK = 9999;
    private static final int MOST_RUN = 200;
    private static final int MOST_SAVES = 3;

    // A tower shoots once a tick at most, and a shot that left 9 ticks ago has hit before it shoots again.
    private static final int MOST_SHOTS = MOST_TOWERS * MOST_FLIGHT;
    // One foe of kind 5 and all that may come out of it: 1 + 3 + 9 + 27 + 81 + 243.
    private static final int MOST_OF_ONE = 364;
    private static final int MOST_EVER = MOST_WAVES * MOST_OF_WAVE * MOST_OF_ONE;
    // The bits of a long.
    private static final int WORD = 64;
    // One more than the longest burn, so that a burn that begins never ends in the slot of its own tick.
    private static final int BURN_SLOTS = MOST_EFFECT_TICKS + 1;

    private static final int FIRST_GOLD = 200;
    private static final int FIRST_LIVES = 20;
    private static final int FULL_STEP = 100;
    private static final int EARLY_GOLD = 5;
    private static final int INTEREST_TICKS = 50;
    private static final int INTEREST_PART = 20;
    private static final int MOST_INTEREST = 50;
    private static final int SOUND_TICKS = 5;

    private final FoeKind[] foeKinds = new FoeKind[MOST_KINDS];
    private final TowerKind[] towerKinds = new TowerKind[MOST_KINDS];
    private final World[] saves = new World[MOST_SAVES];
    private final World world;
    private final World trial;
    private int foeKindCount;
    private int towerKindCount;
    private int saveCount;

    public LaneKeep() {
        for (int i = 0; i < MOST_KINDS; i++) {
            foeKinds[i] = new FoeKind();
            towerKinds[i] = new TowerKind();
        }
        for (int i = 0; i < MOST_SAVES; i++) {
            saves[i] = new World();
        }
        world = new World();
        trial = new World();
    }

    // ---- the map

    public boolean setRock(int x, int y, boolean is)
            throws IllegalArgumentException, IllegalStateException, UnsupportedOperationException {
        if (!isCell(x, y)) {
            throw new IllegalArgumentException("no such cell");
        }
        if (world.called > 0) {
            throw new IllegalStateException("a wave was called");
        }
        Land land = world.land;
        int cell = cellOf(x, y);
        char was = land.cells[cell];
        if (was != FREE && was != ROCK) {
            throw new UnsupportedOperationException("an entry, an exit or a tower is there");
        }
        if (is) {
            land.measure(land.trialWays, cell);
            if (!land.entriesReach(land.trialWays)) {
                throw new UnsupportedOperationException("an entry would have no way");
            }
        }
        land.put(cell, is ? ROCK : FREE);
        return was == ROCK;
    }

    public int addEntry(int x, int y)
            throws IllegalArgumentException, IllegalStateException, UnsupportedOperationException {
        if (!isCell(x, y)) {
            throw new IllegalArgumentException("no such cell");
        }
        Land land = world.land;
        if (world.called > 0 || land.entryCount >= MOST_ENTRIES) {
            throw new IllegalStateException("a wave was called, or there are 3 entries");
        }
        int cell = cellOf(x, y);
        if (land.cells[cell] != FREE) {
            throw new UnsupportedOperationException("the cell is not free");
        }
        if (land.exitCount > 0 && land.ways[cell] == NONE) {
            throw new UnsupportedOperationException("the entry would have no way");
        }
        land.entries[land.entryCount] = cell;
        land.entryCount++;
        land.put(cell, ENTRY);
        return land.entryCount - 1;
    }

    public int addExit(int x, int y)
            throws IllegalArgumentException, IllegalStateException, UnsupportedOperationException {
        if (!isCell(x, y)) {
            throw new IllegalArgumentException("no such cell");
        }
        Land land = world.land;
        if (world.called > 0 || land.exitCount >= MOST_EXITS) {
            throw new IllegalStateException("a wave was called, or there are 2 exits");
        }
        int cell = cellOf(x, y);
        if (land.cells[cell] != FREE) {
            throw new UnsupportedOperationException("the cell is not free");
        }
        if (!land.openExit(cell)) {
            throw new UnsupportedOperationException("an entry would have no way");
        }
        return land.exitCount - 1;
    }

    public int setOrder(int order) throws IllegalArgumentException {
        if (!isOrder(order)) {
            throw new IllegalArgumentException("not the digits 1 to 4, once each");
        }
        int before = world.land.order;
        world.land.order = order;
        return before;
    }

    public int wayLength(int x, int y, boolean flies) throws IllegalArgumentException, NoSuchElementException {
        if (!isCell(x, y)) {
            throw new IllegalArgumentException("no such cell");
        }
        int steps = world.land.wayOf(cellOf(x, y), flies);
        if (steps == NONE) {
            throw new NoSuchElementException("no way");
        }
        return steps;
    }

    public char cellAt(int x, int y) throws IllegalArgumentException {
        if (!isCell(x, y)) {
            throw new IllegalArgumentException("no such cell");
        }
        return world.land.cells[cellOf(x, y)];
    }

    // ---- kinds

    public int addFoeKind(int life, int speed, int armour, int shield, int bounty, boolean flies)
            throws IllegalArgumentException, IllegalStateException {
        if (!isWithin(life, 1, 9999) || !isWithin(speed, 1, 100) || !isWithin(armour, 0, 50)
                || !isWithin(shield, 0, 99) || !isWithin(bounty, 0, 99)) {
            throw new IllegalArgumentException("a number is out of range");
        }
        if (foeKindCount >= MOST_KINDS) {
            throw new IllegalStateException("there are 6 kinds of foes");
        }
        FoeKind kind = foeKinds[foeKindCount];
        kind.life = life;
        kind.speed = speed;
        kind.armour = armour;
        kind.shield = shield;
        kind.bounty = bounty;
        kind.flies = flies;
        foeKindCount++;
        return foeKindCount - 1;
    }

    public int setSplit(int kind, int into, int many) throws IndexOutOfBoundsException, IllegalArgumentException {
        if (!isFoeKind(kind) || !isFoeKind(into)) {
            throw new IndexOutOfBoundsException("no such kind of foes");
        }
        if (!isWithin(many, 1, 3) || into >= kind) {
            throw new IllegalArgumentException("the number is out of range, or the other kind is not lower");
        }
        FoeKind splitting = foeKinds[kind];
        int before = splitting.splitMany;
        splitting.splitInto = foeKinds[into];
        splitting.splitMany = many;
        return before;
    }

    public int addTowerKind(int range, int damage, int wait, int flight, int price)
            throws IllegalArgumentException, IllegalStateException {
        if (!isWithin(range, 1, 200) || !isWithin(damage, 1, 999) || !isWithin(wait, 1, 20)
                || !isWithin(flight, 0, MOST_FLIGHT) || !isWithin(price, 1, 999)) {
            throw new IllegalArgumentException("a number is out of range");
        }
        if (towerKindCount >= MOST_KINDS) {
            throw new IllegalStateException("there are 6 kinds of towers");
        }
        TowerKind kind = towerKinds[towerKindCount];
        kind.range = range;
        kind.damage = damage;
        kind.wait = wait;
        kind.flight = flight;
        kind.price = price;
        towerKindCount++;
        return towerKindCount - 1;
    }

    public char setEffect(int kind, char effect, int strength, int ticks)
            throws IndexOutOfBoundsException, IllegalArgumentException {
        if (!isTowerKind(kind)) {
            throw new IndexOutOfBoundsException("no such kind of towers");
        }
        if (!isEffect(effect, strength, ticks)) {
            throw new IllegalArgumentException("no such effect, or a number is out of range");
        }
        TowerKind changed = towerKinds[kind];
        char before = changed.effect;
        changed.effect = effect;
        changed.strength = strength;
        changed.ticks = ticks;
        return before;
    }

    public int setJumps(int kind, int jumps) throws IndexOutOfBoundsException, IllegalArgumentException {
        if (!isTowerKind(kind)) {
            throw new IndexOutOfBoundsException("no such kind of towers");
        }
        if (!isWithin(jumps, 0, 3)) {
            throw new IllegalArgumentException("the number is out of range");
        }
        int before = towerKinds[kind].jumps;
        towerKinds[kind].jumps = jumps;
        return before;
    }

    // ---- towers

    public int build(int kind, int x, int y) throws IndexOutOfBoundsException, IllegalArgumentException,
            IllegalStateException, UnsupportedOperationException {
        if (!isTowerKind(kind)) {
            throw new IndexOutOfBoundsException("no such kind of towers");
        }
        if (!isCell(x, y)) {
            throw new IllegalArgumentException("no such cell");
        }
        if (world.built >= MOST_TOWERS) {
            throw new IllegalStateException("there were 20 towers");
        }
        if (!world.raise(towerKinds[kind], cellOf(x, y))) {
            throw new UnsupportedOperationException("it may not be there, or there is not enough gold");
        }
        return world.built - 1;
    }

    public int upgrade(int tower) throws IndexOutOfBoundsException, UnsupportedOperationException {
        Tower raised = towerOf(tower);
        if (raised.isSold() || raised.level >= MOST_LEVEL || world.gold < raised.kind.price) {
            throw new UnsupportedOperationException("it is 3, the tower is sold, or there is not enough gold");
        }
        world.gold -= raised.kind.price;
        raised.level++;
        return raised.level;
    }

    public int sell(int tower) throws IndexOutOfBoundsException, UnsupportedOperationException {
        Tower sold = towerOf(tower);
        if (sold.isSold()) {
            throw new UnsupportedOperationException("the tower is sold");
        }
        int brings = sold.kind.price * sold.level * 3 / 4;
        world.gold += brings;
        sold.level = 0;
        world.land.put(sold.cell, FREE);
        return brings;
    }

    public char setAim(int tower, char aim)
            throws IndexOutOfBoundsException, IllegalArgumentException, UnsupportedOperationException {
        Tower told = towerOf(tower);
        if (aim != 'f' && aim != 'l' && aim != 's' && aim != 'n') {
            throw new IllegalArgumentException("no such aim");
        }
        if (told.isSold()) {
            throw new UnsupportedOperationException("the tower is sold");
        }
        char before = told.aim;
        told.aim = aim;
        return before;
    }

    public int setProgram(int tower, int program)
            throws IndexOutOfBoundsException, IllegalArgumentException, UnsupportedOperationException {
        Tower told = towerOf(tower);
        if (!isProgram(program)) {
            throw new IllegalArgumentException("not three digits, 0 to 5 each");
        }
        if (told.isSold()) {
            throw new UnsupportedOperationException("the tower is sold");
        }
        int before = told.program;
        told.program = program;
        return before;
    }

    public int level(int tower) throws IndexOutOfBoundsException {
        return towerOf(tower).level;
    }

    public int aimedAt(int tower) throws IndexOutOfBoundsException, NoSuchElementException {
        Tower aiming = towerOf(tower);
        int at = aiming.isSold() ? NONE : world.targetOf(aiming);
        if (at == NONE) {
            throw new NoSuchElementException("at none");
        }
        return world.foes[at].number;
    }

    // ---- waves, ticks

    public int addWave(int kind, int many, int gap, int entry)
            throws IndexOutOfBoundsException, IllegalArgumentException, IllegalStateException {
        if (!isFoeKind(kind) || !isWithin(entry, 0, world.land.entryCount - 1)) {
            throw new IndexOutOfBoundsException("no such kind of foes, or no such entry");
        }
        if (!isWithin(many, 1, MOST_OF_WAVE) || !isWithin(gap, 1, 20)) {
            throw new IllegalArgumentException("a number is out of range");
        }
        if (world.told >= MOST_WAVES) {
            throw new IllegalStateException("there are 8 waves");
        }
        Wave wave = world.waves[world.told];
        wave.kind = foeKinds[kind];
        wave.many = many;
        wave.gap = gap;
        wave.cell = world.land.entries[entry];
        world.told++;
        return world.told - 1;
    }

    public int callWave() throws NoSuchElementException, IllegalStateException {
        if (world.called >= world.told) {
            throw new NoSuchElementException("all waves were called");
        }
        Land land = world.land;
        if (world.lives == 0 || land.exitCount == 0 || !land.entriesReach(land.ways)) {
            throw new IllegalStateException("the game is lost, or an entry has no way");
        }
        world.gold += EARLY_GOLD * world.stillToCome();
        Wave wave = world.waves[world.called];
        wave.toCome = wave.many;
        wave.dueAt = world.time + 1;
        world.called++;
        return world.called - 1;
    }

    public int run(int ticks) throws IllegalArgumentException, IllegalStateException {
        if (!isWithin(ticks, 1, MOST_RUN)) {
            throw new IllegalArgumentException("the number is out of range");
        }
        if (world.lives == 0) {
            throw new IllegalStateException("the game is lost");
        }
        return world.advance(ticks);
    }

    public int time() {
        return world.time;
    }

    public int plan(int tick, int kind, int x, int y)
            throws IndexOutOfBoundsException, IllegalArgumentException, IllegalStateException {
        if (!isTowerKind(kind)) {
            throw new IndexOutOfBoundsException("no such kind of towers");
        }
        if (!isWithin(tick, 0, MOST_TICK) || !isCell(x, y)) {
            throw new IllegalArgumentException("the tick is out of range, or there is no such cell");
        }
        if (world.planned >= MOST_PLANS) {
            throw new IllegalStateException("10 plans wait");
        }
        Plan plan = world.plans[world.planned];
        plan.tick = tick;
        plan.kind = towerKinds[kind];
        plan.cell = cellOf(x, y);
        world.planned++;
        if (tick <= world.time) {
            world.late++;
        }
        return world.planned;
    }

    public int lateInputs() {
        return world.late;
    }

    public int failedInputs() {
        return world.failed;
    }

    // ---- foes, money

    public int foes() {
        return world.came;
    }

    public int alive() {
        return world.alive;
    }

    public int foeCell(int foe) throws IndexOutOfBoundsException, NoSuchElementException {
        return foeOf(foe).cell;
    }

    public int foeLife(int foe) throws IndexOutOfBoundsException, NoSuchElementException {
        return foeOf(foe).life;
    }

    public int foeShield(int foe) throws IndexOutOfBoundsException, NoSuchElementException {
        return foeOf(foe).shield;
    }

    public int foeSlow(int foe) throws IndexOutOfBoundsException, NoSuchElementException {
        return foeOf(foe).slow;
    }

    public char foeEnd(int foe) throws IndexOutOfBoundsException {
        if (!isWithin(foe, 0, world.came - 1)) {
            throw new IndexOutOfBoundsException("no such foe");
        }
        if (world.indexOf(foe) != NONE) {
            return '-';
        }
        return world.hasLeaked(foe) ? 'x' : 'd';
    }

    public int gold() {
        return world.gold;
    }

    public int lives() {
        return world.lives;
    }

    public boolean isLost() {
        return world.lives == 0;
    }

    public int shots() {
        return world.flying;
    }

    public int coverOf(int entry) throws IndexOutOfBoundsException, NoSuchElementException {
        Land land = world.land;
        if (!isWithin(entry, 0, land.entryCount - 1)) {
            throw new IndexOutOfBoundsException("no such entry");
        }
        int cell = land.entries[entry];
        if (land.ways[cell] == NONE) {
            throw new NoSuchElementException("the entry has no way");
        }
        int sum = 0;
        for (int left = land.ways[cell]; left >= 0; left--) {
            sum += world.coverAt(cell);
            cell = land.nextCell(cell, false);
        }
        return sum;
    }

    // ---- saves, figures

    public int save() throws IllegalStateException {
        if (saveCount >= MOST_SAVES) {
            throw new IllegalStateException("there are 3 saves");
        }
        saves[saveCount].become(world);
        saveCount++;
        return saveCount - 1;
    }

    public long load(int save) throws IndexOutOfBoundsException {
        if (!isWithin(save, 0, saveCount - 1)) {
            throw new IndexOutOfBoundsException("no such save");
        }
        world.become(saves[save]);
        return world.sum();
    }

    public long checksum() {
        return world.sum();
    }

    public float leakShare() throws ArithmeticException {
        if (world.came == 0) {
            throw new ArithmeticException("no foe came");
        }
        return (float) world.leaks / (float) world.came;
    }

    public double meanLife() throws ArithmeticException {
        if (world.alive == 0) {
            throw new ArithmeticException("no foe is there");
        }
        int sum = 0;
        for (int i = 0; i < world.alive; i++) {
            sum += world.foes[i].life;
        }
        return (double) sum / (double) world.alive;
    }

    public boolean isSound() {
        if (!world.isInOrder()) {
            return false;
        }
        trial.become(world);
        trial.advance(SOUND_TICKS);
        long once = trial.sum();
        trial.become(world);
        trial.advance(SOUND_TICKS);
        return trial.sum() == once;
    }

    private boolean isFoeKind(int kind) {
        return isWithin(kind, 0, foeKindCount - 1);
    }

    private boolean isTowerKind(int kind) {
        return isWithin(kind, 0, towerKindCount - 1);
    }

    private Tower towerOf(int tower) {
        if (!isWithin(tower, 0, world.built - 1)) {
            throw new IndexOutOfBoundsException("no such tower");
        }
        return world.towers[tower];
    }

    private Foe foeOf(int foe) {
        if (!isWithin(foe, 0, world.came - 1)) {
            throw new IndexOutOfBoundsException("no such foe");
        }
        int at = world.indexOf(foe);
        if (at == NONE) {
            throw new NoSuchElementException("the foe is gone");
        }
        return world.foes[at];
    }

    private static boolean isWithin(int number, int least, int most) {
        return number >= least && number <= most;
    }

    private static boolean isCell(int x, int y) {
        return x >= 0 && x < WIDTH && y >= 0 && y < HEIGHT;
    }

    private static int cellOf(int x, int y) {
        return y * WIDTH + x;
    }

    private static boolean isOrder(int order) {
        if (!isWithin(order, 1234, 4321)) {
            return false;
        }
        int seen = 0;
        int rest = order;
        for (int i = 0; i < SIDES; i++) {
            int side = rest % 10;
            if (side >= 1 && side <= SIDES) {
                seen |= 1 << side;
            }
            rest /= 10;
        }
        return Integer.bitCount(seen) == SIDES;
    }

    private static boolean isProgram(int program) {
        return program >= 0 && program % 10 <= MOST_SIGN && program / 10 % 10 <= MOST_SIGN
                && program / 100 <= MOST_SIGN;
    }

    private static boolean isEffect(char effect, int strength, int ticks) {
        switch (effect) {
            case '-':
                return true;
            case 'u':
                return isWithin(ticks, 1, MOST_EFFECT_TICKS);
            case 'w':
            case 'b':
                return isWithin(strength, 1, 90) && isWithin(ticks, 1, MOST_EFFECT_TICKS);
            default:
                return false;
        }
    }

    /** The neighbour at a side, 1 north, 2 east, 3 south, 4 west, or NONE beyond the map. */
    private static int beside(int cell, int side) {
        switch (side) {
            case 1:
                return cell >= WIDTH ? cell - WIDTH : NONE;
            case 2:
                return cell % WIDTH < WIDTH - 1 ? cell + 1 : NONE;
            case 3:
                return cell < CELLS - WIDTH ? cell + WIDTH : NONE;
            default:
                return cell % WIDTH > 0 ? cell - 1 : NONE;
        }
    }

    private static int squareBetween(int one, int other) {
        int dx = one % WIDTH - other % WIDTH;
        int dy = one / WIDTH - other / WIDTH;
        return dx * dx + dy * dy;
    }

    private static int stepsBetween(int one, int other) {
        return Math.abs(one % WIDTH - other % WIDTH) + Math.abs(one / WIDTH - other / WIDTH);
    }

    private static final class FoeKind {
        int life;
        int speed;
        int armour;
        int shield;
        int bounty;
        boolean flies;
        // null as long as it splits into none.
        FoeKind splitInto;
        int splitMany;
    }

    private static final class TowerKind {
        int range;
        int damage;
        int wait;
        int flight;
        int price;
        char effect = '-';
        int strength;
        int ticks;
        int jumps;
    }

    /** The cells, with the ways over them. */
    private static final class Land {
        final char[] cells = new char[CELLS];
        final int[] entries = new int[MOST_ENTRIES];
        final int[] exits = new int[MOST_EXITS];
        final int[] ways = new int[CELLS];
        final int[] flights = new int[CELLS];
        final int[] trialWays = new int[CELLS];
        final int[] queue = new int[CELLS];
        int entryCount;
        int exitCount;
        int order = FIRST_ORDER;

        Land() {
            for (int i = 0; i < CELLS; i++) {
                cells[i] = FREE;
            }
            Arrays.fill(ways, NONE);
            Arrays.fill(flights, NONE);
        }

        void become(Land other) {
            for (int i = 0; i < CELLS; i++) {
                cells[i] = other.cells[i];
            }
            System.arraycopy(other.entries, 0, entries, 0, MOST_ENTRIES);
            System.arraycopy(other.exits, 0, exits, 0, MOST_EXITS);
            System.arraycopy(other.ways, 0, ways, 0, CELLS);
            System.arraycopy(other.flights, 0, flights, 0, CELLS);
            entryCount = other.entryCount;
            exitCount = other.exitCount;
            order = other.order;
        }

        void put(int cell, char sign) {
            cells[cell] = sign;
            measure(ways, NONE);
        }

        /** Adds an exit, unless an entry would have no way to it. */
        boolean openExit(int cell) {
            if (exitCount >= MOST_EXITS) {
                return false;
            }
            exits[exitCount] = cell;
            exitCount++;
            measure(trialWays, NONE);
            if (!entriesReach(trialWays)) {
                exitCount--;
                return false;
            }
            put(cell, EXIT);
            for (int i = 0; i < CELLS; i++) {
                int steps = stepsBetween(i, cell);
                flights[i] = exitCount == 1 ? steps : Math.min(flights[i], steps);
            }
            return true;
        }

        /** Whether each entry has a way of those given, which none needs as long as there is no exit. */
        boolean entriesReach(int[] steps) {
            if (exitCount == 0) {
                return true;
            }
            for (int i = 0; i < entryCount; i++) {
                if (steps[entries[i]] == NONE) {
                    return false;
                }
            }
            return true;
        }

        /** Fills in how many steps there are from each cell to an exit, as if one more cell were blocked. */
        void measure(int[] steps, int blocked) {
            Arrays.fill(steps, NONE);
            int end = 0;
            for (int i = 0; i < exitCount; i++) {
                steps[exits[i]] = 0;
                queue[end] = exits[i];
                end++;
            }
            for (int at = 0; at < end && at < CELLS; at++) {
                for (int side = 1; side <= SIDES; side++) {
                    int next = beside(queue[at], side);
                    if (next != NONE && next != blocked && steps[next] == NONE && isOpen(next) && end < CELLS) {
                        steps[next] = steps[queue[at]] + 1;
                        queue[end] = next;
                        end++;
                    }
                }
            }
        }

        boolean isOpen(int cell) {
            return cells[cell] != ROCK && cells[cell] != TOWER;
        }

        int wayOf(int cell, boolean flies) {
            return flies ? flights[cell] : ways[cell];
        }

        /** The next cell on the way, or the cell itself where there is none. */
        int nextCell(int cell, boolean flies) {
            int steps = wayOf(cell, flies);
            if (steps <= 0) {
                return cell;
            }
            int found = cell;
            int rest = order;
            // The digits are read from the last side to the first one, so that the first one stands at the end.
            for (int i = 0; i < SIDES; i++) {
                int next = beside(cell, rest % 10);
                if (next != NONE && wayOf(next, flies) == steps - 1) {
                    found = next;
                }
                rest /= 10;
            }
            return found;
        }
    }

    private static final class Foe {
        final int[] burnEnds = new int[BURN_SLOTS];
        FoeKind kind;
        int number;
        int wave;
        int cell;
        int progress;
        int life;
        int shield;
        int slow;
        int slowTicks;
        int stun;
        int stunsBefore;
        int burning;

        Foe(FoeKind kind) {
            this.kind = kind;
        }

        void enter(FoeKind as, int newNumber, int ofWave, int at) {
            kind = as;
            number = newNumber;
            wave = ofWave;
            cell = at;
            progress = 0;
            life = as.life * (10 + ofWave) / 10;
            shield = as.shield;
            slow = 0;
            slowTicks = 0;
            stun = 0;
            stunsBefore = 0;
            burning = 0;
            Arrays.fill(burnEnds, 0);
        }

        void become(Foe other) {
            System.arraycopy(other.burnEnds, 0, burnEnds, 0, BURN_SLOTS);
            kind = other.kind;
            number = other.number;
            wave = other.wave;
            cell = other.cell;
            progress = other.progress;
            life = other.life;
            shield = other.shield;
            slow = other.slow;
            slowTicks = other.slowTicks;
            stun = other.stun;
            stunsBefore = other.stunsBefore;
            burning = other.burning;
        }

        void move(Land land) {
            if (stun > 0) {
                return;
            }
            progress += Math.max(1, kind.speed * (100 - slow) / 100);
            if (progress >= FULL_STEP) {
                progress -= FULL_STEP;
                cell = land.nextCell(cell, kind.flies);
            }
        }

        /** Lets burns hit, effects lose a tick and the shield heal. */
        void wear(int now) {
            life -= burning;
            int slot = Math.floorMod(now, BURN_SLOTS);
            burning -= burnEnds[slot];
            burnEnds[slot] = 0;
            if (slowTicks > 0) {
                slowTicks--;
            }
            if (slowTicks == 0) {
                slow = 0;
            }
            if (stun > 0) {
                stun--;
            }
            if (shield < kind.shield) {
                shield++;
            }
        }

        void takeHit(int damage) {
            int stopped = Math.min(shield, damage);
            shield -= stopped;
            int left = damage - stopped;
            if (left > 0) {
                life -= Math.max(1, left - kind.armour);
            }
        }

        void takeEffect(TowerKind of, int now) {
            switch (of.effect) {
                case 'w':
                    if (of.strength >= slow) {
                        slow = of.strength;
                        slowTicks = of.ticks;
                    }
                    break;
                case 'b':
                    burning += of.strength;
                    burnEnds[Math.floorMod(now + of.ticks, BURN_SLOTS)] += of.strength;
                    break;
                case 'u':
                    stun = Math.max(stun, Math.max(1, of.ticks - stunsBefore));
                    stunsBefore++;
                    break;
                default:
                    break;
            }
        }

        boolean fits(int program) {
            return holds(program % 10) && holds(program / 10 % 10) && holds(program / 100);
        }

        boolean holds(int sign) {
            switch (sign) {
                case 1:
                    return kind.flies;
                case 2:
                    return !kind.flies;
                case 3:
                    return slow == 0;
                case 4:
                    return shield == 0;
                case 5:
                    return stun == 0;
                default:
                    return true;
            }
        }
    }

    private static final class Tower {
        TowerKind kind;
        int cell;
        int level;
        int program;
        int readyAt;
        char aim = 'f';

        Tower(TowerKind kind) {
            this.kind = kind;
        }

        void become(Tower other) {
            kind = other.kind;
            cell = other.cell;
            level = other.level;
            program = other.program;
            readyAt = other.readyAt;
            aim = other.aim;
        }

        boolean isSold() {
            return level == 0;
        }

        int damage() {
            return kind.damage * level;
        }

        boolean reaches(int other) {
            return squareBetween(cell, other) <= kind.range;
        }

        /** The least one is what the tower aims at. */
        int rankOf(Foe foe, Land land) {
            int left = FULL_STEP * land.wayOf(foe.cell, foe.kind.flies) - foe.progress;
            switch (aim) {
                case 'l':
                    return -left;
                case 's':
                    return -(foe.life + foe.shield);
                case 'n':
                    return squareBetween(cell, foe.cell);
                default:
                    return left;
            }
        }
    }

    private static final class Shot {
        TowerKind kind;
        int foe;
        int damage;
        int hitsAt;

        Shot(TowerKind kind) {
            this.kind = kind;
        }

        void become(Shot other) {
            kind = other.kind;
            foe = other.foe;
            damage = other.damage;
            hitsAt = other.hitsAt;
        }
    }

    private static final class Wave {
        FoeKind kind;
        int many;
        int gap;
        int cell;
        // 0 until the wave is called.
        int toCome;
        int dueAt;

        Wave(FoeKind kind) {
            this.kind = kind;
        }

        void become(Wave other) {
            kind = other.kind;
            many = other.many;
            gap = other.gap;
            cell = other.cell;
            toCome = other.toCome;
            dueAt = other.dueAt;
        }
    }

    private static final class Plan {
        TowerKind kind;
        int tick;
        int cell;

        Plan(TowerKind kind) {
            this.kind = kind;
        }

        void become(Plan other) {
            kind = other.kind;
            tick = other.tick;
            cell = other.cell;
        }
    }

    /** All that a save holds. Kinds are shared by all worlds, for they are as they are now for all. */
    private static final class World {
        final Land land = new Land();
        final Foe[] foes = new Foe[MOST_ALIVE];
        final Tower[] towers = new Tower[MOST_TOWERS];
        final Shot[] shots = new Shot[MOST_SHOTS];
        final Wave[] waves = new Wave[MOST_WAVES];
        final Plan[] plans = new Plan[MOST_PLANS];
        // A bit for each foe that came, as there may be far more of them than are ever there at a time.
        final long[] leaked = new long[MOST_EVER / WORD];
        int alive;
        int came;
        int leaks;
        int built;
        int flying;
        int told;
        int called;
        int planned;
        int late;
        int failed;
        int gold = FIRST_GOLD;
        int lives = FIRST_LIVES;
        int time;

        World() {
            // They stand in what is not used yet, so that no kind is ever null.
            FoeKind anyFoe = new FoeKind();
            TowerKind anyTower = new TowerKind();
            for (int i = 0; i < MOST_ALIVE; i++) {
                foes[i] = new Foe(anyFoe);
            }
            for (int i = 0; i < MOST_TOWERS; i++) {
                towers[i] = new Tower(anyTower);
            }
            for (int i = 0; i < MOST_SHOTS; i++) {
                shots[i] = new Shot(anyTower);
            }
            for (int i = 0; i < MOST_WAVES; i++) {
                waves[i] = new Wave(anyFoe);
            }
            for (int i = 0; i < MOST_PLANS; i++) {
                plans[i] = new Plan(anyTower);
            }
        }

        void become(World other) {
            land.become(other.land);
            for (int i = 0; i < other.alive; i++) {
                foes[i].become(other.foes[i]);
            }
            for (int i = 0; i < other.built; i++) {
                towers[i].become(other.towers[i]);
            }
            for (int i = 0; i < other.flying; i++) {
                shots[i].become(other.shots[i]);
            }
            for (int i = 0; i < other.told; i++) {
                waves[i].become(other.waves[i]);
            }
            for (int i = 0; i < other.planned; i++) {
                plans[i].become(other.plans[i]);
            }
            for (int i = 0; i < leaked.length && i * WORD < other.came; i++) {
                leaked[i] = other.leaked[i];
            }
            alive = other.alive;
            came = other.came;
            leaks = other.leaks;
            built = other.built;
            flying = other.flying;
            told = other.told;
            called = other.called;
            planned = other.planned;
            late = other.late;
            failed = other.failed;
            gold = other.gold;
            lives = other.lives;
            time = other.time;
        }

        int advance(int ticks) {
            int gone = 0;
            while (gone < ticks && lives > 0) {
                tick();
                gone++;
            }
            return gone;
        }

        void tick() {
            time++;
            doPlans();
            bringWaves();
            moveFoes();
            for (int i = 0; i < alive; i++) {
                foes[i].wear(time);
            }
            landShots();
            fireTowers();
            buryFoes();
            if (time % INTEREST_TICKS == 0) {
                gold += Math.min(MOST_INTEREST, gold / INTEREST_PART);
            }
        }

        void doPlans() {
            int kept = 0;
            for (int i = 0; i < planned; i++) {
                Plan plan = plans[i];
                if (plan.tick > time) {
                    // Swapped, not overwritten: each plan object is used again.
                    plans[i] = plans[kept];
                    plans[kept] = plan;
                    kept++;
                } else if (!raise(plan.kind, plan.cell)) {
                    failed++;
                }
            }
            planned = kept;
        }

        /** Builds a tower, if it may be there and is paid. */
        boolean raise(TowerKind kind, int cell) {
            if (built >= MOST_TOWERS || gold < kind.price || !mayBlock(cell)) {
                return false;
            }
            Tower tower = towers[built];
            tower.kind = kind;
            tower.cell = cell;
            tower.level = 1;
            tower.program = 0;
            tower.readyAt = time;
            tower.aim = 'f';
            built++;
            gold -= kind.price;
            land.cells[cell] = TOWER;
            land.measure(land.ways, NONE);
            return true;
        }

        boolean mayBlock(int cell) {
            if (land.cells[cell] != FREE) {
                return false;
            }
            land.measure(land.trialWays, cell);
            if (!land.entriesReach(land.trialWays)) {
                return false;
            }
            // A foe in the cell itself is one without a way too, for a blocked cell has none.
            for (int i = 0; i < alive; i++) {
                if (!foes[i].kind.flies && land.trialWays[foes[i].cell] == NONE) {
                    return false;
                }
            }
            return true;
        }

        int stillToCome() {
            int sum = 0;
            for (int i = 0; i < called; i++) {
                sum += waves[i].toCome;
            }
            return sum;
        }

        void bringWaves() {
            for (int i = 0; i < called; i++) {
                Wave wave = waves[i];
                if (wave.toCome > 0 && wave.dueAt <= time && bring(wave.kind, i, wave.cell)) {
                    wave.toCome--;
                    wave.dueAt = time + wave.gap;
                }
            }
        }

        /** Lets a foe come, if there is room. */
        boolean bring(FoeKind kind, int wave, int cell) {
            if (alive >= MOST_ALIVE || came >= MOST_EVER) {
                return false;
            }
            foes[alive].enter(kind, came, wave, cell);
            // What a world that was loaded over left there must not count.
            leaked[came / WORD] &= ~(1L << came % WORD);
            alive++;
            came++;
            return true;
        }

        void moveFoes() {
            int count = alive;
            int at = 0;
            for (int seen = 0; seen < count; seen++) {
                Foe foe = foes[at];
                foe.move(land);
                if (land.cells[foe.cell] == EXIT) {
                    leaked[foe.number / WORD] |= 1L << foe.number % WORD;
                    leaks++;
                    lives = Math.max(0, lives - 1);
                    remove(at);
                } else {
                    at++;
                }
            }
        }

        /** Takes a foe out of the row, its object going behind the end to be used again. */
        void remove(int at) {
            Foe gone = foes[at];
            for (int i = at + 1; i < alive; i++) {
                foes[i - 1] = foes[i];
            }
            alive--;
            foes[alive] = gone;
        }

        void landShots() {
            int kept = 0;
            for (int i = 0; i < flying; i++) {
                Shot shot = shots[i];
                if (shot.hitsAt > time) {
                    shots[i] = shots[kept];
                    shots[kept] = shot;
                    kept++;
                } else {
                    int at = indexOf(shot.foe);
                    if (at != NONE && foes[at].life > 0) {
                        strike(shot.kind, at, shot.damage);
                    }
                }
            }
            flying = kept;
        }

        void fireTowers() {
            for (int i = 0; i < built; i++) {
                Tower tower = towers[i];
                int at = tower.isSold() || tower.readyAt > time ? NONE : targetOf(tower);
                if (at != NONE) {
                    tower.readyAt = time + tower.kind.wait;
                    if (tower.kind.flight == 0) {
                        strike(tower.kind, at, tower.damage());
                    } else {
                        launch(tower, foes[at].number);
                    }
                }
            }
        }

        void launch(Tower tower, int foe) {
            if (flying >= MOST_SHOTS) {
                return;
            }
            Shot shot = shots[flying];
            shot.kind = tower.kind;
            shot.foe = foe;
            shot.damage = tower.damage();
            shot.hitsAt = time + tower.kind.flight;
            flying++;
        }

        /** The place in the row of the foe that a tower aims at, or NONE. */
        int targetOf(Tower tower) {
            int best = NONE;
            int bestRank = 0;
            for (int i = 0; i < alive; i++) {
                Foe foe = foes[i];
                if (foe.life > 0 && tower.reaches(foe.cell) && foe.fits(tower.program)) {
                    int rank = tower.rankOf(foe, land);
                    if (best == NONE || rank < bestRank) {
                        best = i;
                        bestRank = rank;
                    }
                }
            }
            return best;
        }

        void strike(TowerKind kind, int first, int damage) {
            // A bit for each place in the row; no foe goes from its place as long as a shot hits.
            long struck = 0;
            int at = first;
            int force = damage;
            for (int hit = 0; hit <= kind.jumps && at != NONE && force >= 1; hit++) {
                Foe foe = foes[at];
                foe.takeHit(force);
                foe.takeEffect(kind, time);
                struck |= 1L << at;
                force /= 2;
                at = nearestTo(foe.cell, struck);
            }
        }

        int nearestTo(int cell, long struck) {
            int best = NONE;
            int bestSquare = MOST_JUMP_SQUARE + 1;
            for (int i = 0; i < alive; i++) {
                int square = squareBetween(cell, foes[i].cell);
                if (foes[i].life > 0 && (struck >> i & 1) == 0 && square < bestSquare) {
                    best = i;
                    bestSquare = square;
                }
            }
            return best;
        }

        void buryFoes() {
            int count = alive;
            int at = 0;
            for (int seen = 0; seen < count; seen++) {
                Foe foe = foes[at];
                if (foe.life > 0) {
                    at++;
                } else {
                    // Read ahead of the split: what comes out of a foe may take its object.
                    FoeKind kind = foe.kind;
                    int wave = foe.wave;
                    int cell = foe.cell;
                    remove(at);
                    gold += kind.bounty;
                    split(kind, wave, cell);
                }
            }
        }

        void split(FoeKind kind, int wave, int cell) {
            FoeKind into = kind.splitInto;
            if (into == null || !into.flies && land.ways[cell] == NONE) {
                return;
            }
            for (int i = 0; i < kind.splitMany; i++) {
                bring(into, wave, cell);
            }
        }

        /** The place in the row of a foe, or NONE if it is gone. */
        int indexOf(int foe) {
            for (int i = 0; i < alive; i++) {
                if (foes[i].number == foe) {
                    return i;
                }
            }
            return NONE;
        }

        boolean hasLeaked(int foe) {
            return (leaked[foe / WORD] >> foe % WORD & 1) != 0;
        }

        int coverAt(int cell) {
            int sum = 0;
            for (int i = 0; i < built; i++) {
                if (!towers[i].isSold() && towers[i].reaches(cell)) {
                    sum += towers[i].damage();
                }
            }
            return sum;
        }

        long sum() {
            long sum = 7;
            sum = 31 * sum + gold;
            sum = 31 * sum + lives;
            sum = 31 * sum + time;
            for (int i = 0; i < alive; i++) {
                Foe foe = foes[i];
                sum = 31 * sum + foe.number;
                sum = 31 * sum + foe.cell;
                sum = 31 * sum + foe.progress;
                sum = 31 * sum + foe.life;
                sum = 31 * sum + foe.shield;
            }
            for (int i = 0; i < built; i++) {
                if (!towers[i].isSold()) {
                    sum = 31 * sum + towers[i].cell;
                    sum = 31 * sum + towers[i].level;
                }
            }
            return sum;
        }

        boolean isInOrder() {
            if (gold < 0 || lives < 0) {
                return false;
            }
            for (int i = 0; i < alive; i++) {
                int cell = foes[i].cell;
                if (!foes[i].kind.flies && (land.ways[cell] == NONE || !land.isOpen(cell))) {
                    return false;
                }
            }
            return true;
        }
    }
}
