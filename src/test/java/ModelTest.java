import java.lang.reflect.InvocationTargetException;
import java.lang.reflect.Method;
import java.util.ArrayDeque;
import java.util.ArrayList;
import java.util.Arrays;
import java.util.Comparator;
import java.util.HashMap;
import java.util.HashSet;
import java.util.LinkedHashMap;
import java.util.List;
import java.util.Map;
import java.util.NoSuchElementException;
import java.util.Random;
import java.util.Set;

/**
 * Compares the class with a second, plain writing of the document, call by call, over runs made from fixed seeds.
 * An argument is the number of runs, 600 if there is none.
 */
public final class ModelTest {
    private static final int CALLS = 512;
    private static final Map<String, Method> FACE = new LinkedHashMap<>();
    private static final Map<String, Method> MODEL = new HashMap<>();

    private final Random random;
    private final LaneKeep land = new LaneKeep();
    private final Model model = new Model();
    private final List<String> run = new ArrayList<>();

    private ModelTest(long seed) {
        random = new Random(seed);
    }

    public static void main(String[] args) {
        for (Method method : LaneKeep.class.getDeclaredMethods()) {
            if (java.lang.reflect.Modifier.isPublic(method.getModifiers())) {
                FACE.put(method.getName(), method);
            }
        }
        for (Method method : Model.class.getDeclaredMethods()) {
            MODEL.put(method.getName(), method);
        }
        int runs = args.length > 0 ? Integer.parseInt(args[0]) : 600;
        Map<String, Integer> answers = new java.util.TreeMap<>();
        for (int seed = 0; seed < runs; seed++) {
            ModelTest test = new ModelTest(seed);
            if (!test.doRun(seed)) {
                System.out.println("run " + seed + " went wrong:");
                test.run.forEach(System.out::println);
                System.exit(1);
            }
            for (String line : test.run) {
                String kind = line.replaceFirst("\\(.*\\) = ", " ").replaceFirst(" (?!throws).*", "");
                answers.merge(kind, 1, Integer::sum);
            }
        }
        System.out.println(runs + " runs of " + CALLS + " calls are as the model's");
        if (args.length > 1) {
            answers.forEach((kind, count) -> System.out.println(kind + " " + count));
        }
    }

    private boolean doRun(int seed) {
        boolean wild = seed % 3 == 0;
        boolean ok = wild || setUp();
        while (ok && run.size() < CALLS) {
            ok = wild ? wildCall() : gameCall();
        }
        return ok;
    }

    // ---- runs

    private int some(int least, int most) {
        return least + random.nextInt(most - least + 1);
    }

    private boolean chance(int percent) {
        return random.nextInt(100) < percent;
    }

    /** A number mostly within its bounds, at them or just beyond now and then. */
    private int edgy(int least, int most) {
        int which = random.nextInt(40);
        return switch (which) {
            case 0 -> least - 1;
            case 1 -> most + 1;
            case 2, 3 -> least;
            case 4, 5 -> most;
            default -> some(least, most);
        };
    }

    private boolean setUp() {
        boolean ok = true;
        int rocks = some(0, 14);
        for (int i = 0; ok && i < rocks; i++) {
            ok = call("setRock", some(0, 9), some(0, 7), true);
        }
        int exits = some(1, 2);
        int entries = some(1, 3);
        for (int i = 0; ok && i < exits; i++) {
            ok = call("addExit", some(0, 9), some(0, 7));
        }
        for (int i = 0; ok && i < entries; i++) {
            ok = call("addEntry", some(0, 9), some(0, 7));
        }
        int foeKinds = some(1, 6);
        boolean slow = chance(30);
        for (int i = 0; ok && i < foeKinds; i++) {
            ok = call("addFoeKind", chance(50) ? some(1, 30) : some(1, 400), slow ? some(1, 5) : some(1, 100),
                    some(0, 6), some(0, 15), some(0, 30), chance(35));
            if (ok && i > 0 && chance(50)) {
                ok = call("setSplit", i, some(0, i - 1), some(1, 3));
            }
        }
        int towerKinds = some(1, 6);
        for (int i = 0; ok && i < towerKinds; i++) {
            ok = call("addTowerKind", chance(50) ? 200 : some(1, 60), some(1, 40), some(1, 6), chance(50) ? 0 : some(1, 9),
                    some(1, 30));
            ok = ok && (chance(30) || randomEffect(i)) && (chance(40) || call("setJumps", i, some(0, 3)));
        }
        int waves = some(2, 8);
        for (int i = 0; ok && i < waves; i++) {
            ok = call("addWave", some(0, foeKinds - 1), some(1, 20), chance(60) ? 1 : some(1, 20), some(0, entries - 1));
        }
        return ok;
    }

    private boolean randomEffect(int kind) {
        return call("setEffect", kind, "-wbu".charAt(random.nextInt(4)), edgy(1, 90), edgy(1, 30));
    }

    private boolean gameCall() {
        int foe = Math.max(0, model.foes() - 1 - random.nextInt(50));
        int tower = some(-1, Math.max(3, model.world.towers.size()));
        switch (random.nextInt(26)) {
            case 0, 1, 2, 3:
                return call("run", chance(70) ? some(1, 8) : some(1, 40));
            case 4:
                return call("callWave");
            case 5, 6, 7:
                return call("build", some(0, 5), some(0, 9), some(0, 7));
            case 8:
                return call("upgrade", tower);
            case 9:
                return chance(60) ? call("level", tower) : call("sell", tower);
            case 10:
                return call("setAim", tower, "flsn".charAt(random.nextInt(4)));
            case 11:
                return call("setProgram", tower, some(0, 5) * 100 + some(0, 5) * 10 + some(0, 5));
            case 12, 13:
                return call("aimedAt", tower);
            case 14:
                return call("plan", chance(80) ? Math.min(9999, Math.max(0, model.time() + some(-2, 9))) : edgy(0, 9999),
                        some(0, 5), some(0, 9), some(0, 7));
            case 15:
                return call("foeCell", foe) && call("foeLife", foe) && call("foeShield", foe);
            case 16:
                return call("foeSlow", foe) && call("foeEnd", foe);
            case 17:
                return call("checksum") && call("shots") && call("foes") && call("alive");
            case 18:
                return call("gold") && call("lives") && call("lateInputs") && call("failedInputs") && call("time");
            case 19:
                return call("coverOf", some(0, 2)) && call("wayLength", some(0, 9), some(0, 7), chance(50));
            case 20:
                return call("leakShare") && call("meanLife") && call("isSound") && call("isLost");
            case 21:
                return chance(30) ? call("save") : chance(30) ? call("load", some(0, 2)) : call("cellAt", some(0, 9), some(0, 7));
            case 22:
                return chance(80) || call("setOrder", 1234 + some(0, 30) * 9);
            case 23:
                return chance(70) || randomEffect(some(0, 5));
            case 24:
                return chance(80) || call("setSplit", some(0, 5), some(0, 5), some(1, 3));
            default:
                return chance(80) || call("setJumps", some(0, 5), some(0, 3));
        }
    }

    private boolean wildCall() {
        List<Method> all = new ArrayList<>(FACE.values());
        all.sort(Comparator.comparing(Method::getName));
        Method method = all.get(random.nextInt(all.size()));
        return switch (method.getName()) {
            case "setRock" -> call("setRock", edgy(0, 9), edgy(0, 7), chance(60));
            case "addEntry", "addExit", "cellAt" -> call(method.getName(), edgy(0, 9), edgy(0, 7));
            case "wayLength" -> call("wayLength", edgy(0, 9), edgy(0, 7), chance(50));
            case "setOrder" -> call("setOrder", chance(50) ? some(1000, 5000) : List.of(4321, 1324, 2413, 3142).get(some(0, 3)));
            case "addFoeKind" -> call("addFoeKind", edgy(1, 9999), edgy(1, 100), edgy(0, 50), edgy(0, 99), edgy(0, 99), chance(50));
            case "setSplit" -> call("setSplit", edgy(0, 5), edgy(0, 5), edgy(1, 3));
            case "addTowerKind" -> call("addTowerKind", edgy(1, 200), edgy(1, 999), edgy(1, 20), edgy(0, 9), chance(70) ? some(1, 9) : edgy(1, 999));
            case "setEffect" -> call("setEffect", edgy(0, 5), "-wbu?".charAt(random.nextInt(5)), edgy(1, 90), edgy(1, 30));
            case "setJumps" -> call("setJumps", edgy(0, 5), edgy(0, 3));
            case "build" -> call("build", edgy(0, 5), edgy(0, 9), edgy(0, 7));
            case "setAim" -> call("setAim", edgy(0, 9), "flsn?".charAt(random.nextInt(5)));
            case "setProgram" -> call("setProgram", edgy(0, 9), chance(20) ? some(-999, 9999) : some(0, 666));
            case "upgrade", "sell", "level", "aimedAt" -> call(method.getName(), edgy(0, 9));
            case "addWave" -> call("addWave", edgy(0, 5), edgy(1, 20), edgy(1, 20), edgy(0, 2));
            case "run" -> call("run", chance(50) ? edgy(1, 20) : edgy(1, 200));
            case "plan" -> call("plan", chance(60) ? some(0, 300) : edgy(0, 9999), edgy(0, 5), edgy(0, 9), edgy(0, 7));
            case "foeCell", "foeLife", "foeShield", "foeSlow", "foeEnd" -> call(method.getName(), edgy(0, Math.max(3, model.foes())));
            case "coverOf", "load" -> call(method.getName(), edgy(0, 2));
            default -> call(method.getName());
        };
    }

    private boolean call(String name, Object... arguments) {
        String got = answer(FACE.get(name), land, arguments);
        String due = answer(MODEL.get(name), model, arguments);
        String told = name + Arrays.toString(arguments).replace('[', '(').replace(']', ')') + " = " + got;
        run.add(got.equals(due) ? told : told + ", due is " + due);
        return got.equals(due);
    }

    private static String answer(Method method, Object target, Object... arguments) {
        try {
            return String.valueOf(method.invoke(target, arguments));
        } catch (InvocationTargetException thrown) {
            return "throws." + thrown.getCause().getClass().getSimpleName() + (isOfMachine(thrown.getCause()) ? " of the machine" : "");
        } catch (IllegalAccessException refused) {
            return refused.toString();
        }
    }

    /** The class throws every exception with a text of its own; the machine's are of other classes, or say "/ by zero". */
    private static boolean isOfMachine(Throwable thrown) {
        return thrown instanceof ArrayIndexOutOfBoundsException || thrown instanceof NullPointerException
                || thrown instanceof ClassCastException || thrown instanceof NegativeArraySizeException
                || thrown instanceof ArrayStoreException || "/ by zero".equals(thrown.getMessage());
    }

    // ---- the model

    record Cell(int x, int y) {
        boolean isThere() {
            return x >= 0 && x < 10 && y >= 0 && y < 8;
        }

        int told() {
            return 10 * y + x;
        }

        int square(Cell other) {
            return (x - other.x) * (x - other.x) + (y - other.y) * (y - other.y);
        }

        Cell at(char side) {
            return switch (side) {
                case '1' -> new Cell(x, y - 1);
                case '2' -> new Cell(x + 1, y);
                case '3' -> new Cell(x, y + 1);
                default -> new Cell(x - 1, y);
            };
        }
    }

    static final class FoeSort {
        int life, speed, armour, shield, bounty, into, many;
        boolean flies;
    }

    static final class TowerSort {
        int range, damage, wait, flight, price, strength, ticks, jumps;
        char effect = '-';
    }

    static final class Burn {
        int damage, left;

        Burn(int damage, int left) {
            this.damage = damage;
            this.left = left;
        }
    }

    static final class Mob implements Cloneable {
        int number, sort, wave, progress, life, shield, slow, slowLeft, stunLeft, stuns;
        Cell cell;
        List<Burn> burns = new ArrayList<>();

        Mob copy() {
            try {
                Mob copy = (Mob) clone();
                copy.burns = new ArrayList<>();
                burns.forEach(burn -> copy.burns.add(new Burn(burn.damage, burn.left)));
                return copy;
            } catch (CloneNotSupportedException impossible) {
                throw new AssertionError(impossible);
            }
        }
    }

    static final class Turret implements Cloneable {
        int sort, level = 1, program, waitLeft, paid;
        char aim = 'f';
        Cell cell;

        Turret copy() {
            try {
                return (Turret) clone();
            } catch (CloneNotSupportedException impossible) {
                throw new AssertionError(impossible);
            }
        }
    }

    record Bolt(int sort, int mob, int damage, int at) {
    }

    record Order(int tick, int sort, Cell cell) {
    }

    static final class Troop implements Cloneable {
        int sort, many, gap, entry, left, next;

        Troop copy() {
            try {
                return (Troop) clone();
            } catch (CloneNotSupportedException impossible) {
                throw new AssertionError(impossible);
            }
        }
    }

    static final class State {
        Set<Cell> rocks = new HashSet<>();
        List<Cell> entries = new ArrayList<>();
        List<Cell> exits = new ArrayList<>();
        int order = 1234;
        List<Turret> towers = new ArrayList<>();
        List<Mob> mobs = new ArrayList<>();
        List<Character> ends = new ArrayList<>();
        List<Bolt> bolts = new ArrayList<>();
        List<Troop> troops = new ArrayList<>();
        List<Order> orders = new ArrayList<>();
        int called, late, failed, time;
        int gold = 200;
        int lives = 20;

        State copy() {
            State copy = new State();
            copy.rocks.addAll(rocks);
            copy.entries.addAll(entries);
            copy.exits.addAll(exits);
            copy.order = order;
            towers.forEach(tower -> copy.towers.add(tower.copy()));
            mobs.forEach(mob -> copy.mobs.add(mob.copy()));
            copy.ends.addAll(ends);
            copy.bolts.addAll(bolts);
            troops.forEach(troop -> copy.troops.add(troop.copy()));
            copy.orders.addAll(orders);
            copy.called = called;
            copy.late = late;
            copy.failed = failed;
            copy.time = time;
            copy.gold = gold;
            copy.lives = lives;
            return copy;
        }
    }

    /** The document once more, with no thought of room or speed. */
    public static final class Model {
        final List<FoeSort> foeSorts = new ArrayList<>();
        final List<TowerSort> towerSorts = new ArrayList<>();
        final List<State> saves = new ArrayList<>();
        State world = new State();

        private static void need(boolean holds, RuntimeException otherwise) {
            if (!holds) {
                throw otherwise;
            }
        }

        private static RuntimeException argument() {
            return new IllegalArgumentException();
        }

        private static RuntimeException state() {
            return new IllegalStateException();
        }

        private static RuntimeException index() {
            return new IndexOutOfBoundsException();
        }

        private static RuntimeException refused() {
            return new UnsupportedOperationException();
        }

        private static boolean in(int number, int least, int most) {
            return least <= number && number <= most;
        }

        private boolean hasTower(Cell cell) {
            return world.towers.stream().anyMatch(tower -> tower.level > 0 && tower.cell.equals(cell));
        }

        private boolean free(Cell cell) {
            return cell.isThere() && !world.rocks.contains(cell) && !hasTower(cell);
        }

        private boolean plain(Cell cell) {
            return free(cell) && !world.entries.contains(cell) && !world.exits.contains(cell);
        }

        /** The steps from each cell to the nearest exit, for cells that have a way. */
        private Map<Cell, Integer> ways(boolean flies, Cell blocked) {
            Map<Cell, Integer> steps = new HashMap<>();
            ArrayDeque<Cell> next = new ArrayDeque<>();
            for (Cell exit : world.exits) {
                steps.put(exit, 0);
                next.add(exit);
            }
            while (!next.isEmpty()) {
                Cell cell = next.remove();
                for (char side : "1234".toCharArray()) {
                    Cell beside = cell.at(side);
                    boolean open = flies ? beside.isThere() : free(beside) && !beside.equals(blocked);
                    if (open && !steps.containsKey(beside)) {
                        steps.put(beside, steps.get(cell) + 1);
                        next.add(beside);
                    }
                }
            }
            return steps;
        }

        private boolean entriesOpen(Cell blocked) {
            return world.exits.isEmpty() || ways(false, blocked).keySet().containsAll(world.entries);
        }

        public boolean setRock(int x, int y, boolean is) {
            Cell cell = new Cell(x, y);
            need(cell.isThere(), argument());
            need(world.called == 0, state());
            need(!world.entries.contains(cell) && !world.exits.contains(cell) && !hasTower(cell), refused());
            need(!is || entriesOpen(cell), refused());
            return is ? !world.rocks.add(cell) : world.rocks.remove(cell);
        }

        public int addEntry(int x, int y) {
            Cell cell = new Cell(x, y);
            need(cell.isThere(), argument());
            need(world.called == 0 && world.entries.size() < 3, state());
            need(plain(cell) && (world.exits.isEmpty() || ways(false, null).containsKey(cell)), refused());
            world.entries.add(cell);
            return world.entries.size() - 1;
        }

        public int addExit(int x, int y) {
            Cell cell = new Cell(x, y);
            need(cell.isThere(), argument());
            need(world.called == 0 && world.exits.size() < 2, state());
            need(plain(cell), refused());
            world.exits.add(cell);
            if (!entriesOpen(null)) {
                world.exits.remove(cell);
                throw refused();
            }
            return world.exits.size() - 1;
        }

        public int setOrder(int order) {
            char[] digits = String.valueOf(order).toCharArray();
            Arrays.sort(digits);
            need(new String(digits).equals("1234"), argument());
            int before = world.order;
            world.order = order;
            return before;
        }

        public int wayLength(int x, int y, boolean flies) {
            Cell cell = new Cell(x, y);
            need(cell.isThere(), argument());
            Integer steps = ways(flies, null).get(cell);
            need(steps != null, new NoSuchElementException());
            return steps;
        }

        public char cellAt(int x, int y) {
            Cell cell = new Cell(x, y);
            need(cell.isThere(), argument());
            return world.rocks.contains(cell) ? '#' : hasTower(cell) ? 't' : world.entries.contains(cell) ? 'e'
                    : world.exits.contains(cell) ? 'x' : '.';
        }

        public int addFoeKind(int life, int speed, int armour, int shield, int bounty, boolean flies) {
            need(in(life, 1, 9999) && in(speed, 1, 100) && in(armour, 0, 50) && in(shield, 0, 99) && in(bounty, 0, 99),
                    argument());
            need(foeSorts.size() < 6, state());
            FoeSort sort = new FoeSort();
            sort.life = life;
            sort.speed = speed;
            sort.armour = armour;
            sort.shield = shield;
            sort.bounty = bounty;
            sort.flies = flies;
            foeSorts.add(sort);
            return foeSorts.size() - 1;
        }

        public int setSplit(int kind, int into, int many) {
            need(in(kind, 0, foeSorts.size() - 1) && in(into, 0, foeSorts.size() - 1), index());
            need(in(many, 1, 3) && into < kind, argument());
            int before = foeSorts.get(kind).many;
            foeSorts.get(kind).into = into;
            foeSorts.get(kind).many = many;
            return before;
        }

        public int addTowerKind(int range, int damage, int wait, int flight, int price) {
            need(in(range, 1, 200) && in(damage, 1, 999) && in(wait, 1, 20) && in(flight, 0, 9) && in(price, 1, 999),
                    argument());
            need(towerSorts.size() < 6, state());
            TowerSort sort = new TowerSort();
            sort.range = range;
            sort.damage = damage;
            sort.wait = wait;
            sort.flight = flight;
            sort.price = price;
            towerSorts.add(sort);
            return towerSorts.size() - 1;
        }

        public char setEffect(int kind, char effect, int strength, int ticks) {
            need(in(kind, 0, towerSorts.size() - 1), index());
            need("-wbu".indexOf(effect) >= 0, argument());
            need(effect == '-' || in(ticks, 1, 30), argument());
            need(effect == '-' || effect == 'u' || in(strength, 1, 90), argument());
            TowerSort sort = towerSorts.get(kind);
            char before = sort.effect;
            sort.effect = effect;
            sort.strength = strength;
            sort.ticks = ticks;
            return before;
        }

        public int setJumps(int kind, int jumps) {
            need(in(kind, 0, towerSorts.size() - 1), index());
            need(in(jumps, 0, 3), argument());
            int before = towerSorts.get(kind).jumps;
            towerSorts.get(kind).jumps = jumps;
            return before;
        }

        public int build(int kind, int x, int y) {
            Cell cell = new Cell(x, y);
            need(in(kind, 0, towerSorts.size() - 1), index());
            need(cell.isThere(), argument());
            need(world.towers.size() < 20, state());
            need(plain(cell) && entriesOpen(cell), refused());
            Map<Cell, Integer> left = ways(false, cell);
            for (Mob mob : world.mobs) {
                need(foeSorts.get(mob.sort).flies || !mob.cell.equals(cell) && left.containsKey(mob.cell), refused());
            }
            int price = towerSorts.get(kind).price;
            need(world.gold >= price, refused());
            world.gold -= price;
            Turret tower = new Turret();
            tower.sort = kind;
            tower.cell = cell;
            tower.paid = price;
            world.towers.add(tower);
            return world.towers.size() - 1;
        }

        private Turret tower(int tower) {
            need(in(tower, 0, world.towers.size() - 1), index());
            return world.towers.get(tower);
        }

        public int upgrade(int number) {
            Turret tower = tower(number);
            int price = towerSorts.get(tower.sort).price;
            need(tower.level != 0 && tower.level < 3 && world.gold >= price, refused());
            world.gold -= price;
            tower.paid += price;
            return ++tower.level;
        }

        public int sell(int number) {
            Turret tower = tower(number);
            need(tower.level > 0, refused());
            tower.level = 0;
            world.gold += 3 * tower.paid / 4;
            return 3 * tower.paid / 4;
        }

        public char setAim(int number, char aim) {
            Turret tower = tower(number);
            need("flsn".indexOf(aim) >= 0, argument());
            need(tower.level > 0, refused());
            char before = tower.aim;
            tower.aim = aim;
            return before;
        }

        public int setProgram(int number, int program) {
            Turret tower = tower(number);
            need(in(program, 0, 999) && String.format("%03d", program).matches("[0-5]{3}"), argument());
            need(tower.level > 0, refused());
            int before = tower.program;
            tower.program = program;
            return before;
        }

        public int level(int number) {
            return tower(number).level;
        }

        private boolean holds(char sign, Mob mob) {
            boolean flies = foeSorts.get(mob.sort).flies;
            return switch (sign) {
                case '0' -> true;
                case '1' -> flies;
                case '2' -> !flies;
                case '3' -> mob.slow == 0;
                case '4' -> mob.shield == 0;
                default -> mob.stunLeft == 0;
            };
        }

        private int wayLeft(Mob mob, Map<Cell, Integer> walks, Map<Cell, Integer> flights) {
            return 100 * (foeSorts.get(mob.sort).flies ? flights : walks).get(mob.cell) - mob.progress;
        }

        private Mob target(Turret tower) {
            Map<Cell, Integer> walks = ways(false, null);
            Map<Cell, Integer> flights = ways(true, null);
            Comparator<Mob> better = switch (tower.aim) {
                case 'f' -> Comparator.comparing((Mob mob) -> wayLeft(mob, walks, flights));
                case 'l' -> Comparator.comparing((Mob mob) -> wayLeft(mob, walks, flights)).reversed();
                case 's' -> Comparator.comparing((Mob mob) -> mob.life + mob.shield).reversed();
                default -> Comparator.comparing((Mob mob) -> mob.cell.square(tower.cell));
            };
            return world.mobs.stream()
                    .filter(mob -> mob.life > 0 && mob.cell.square(tower.cell) <= towerSorts.get(tower.sort).range)
                    .filter(mob -> String.format("%03d", tower.program).chars().allMatch(sign -> holds((char) sign, mob)))
                    .min(better.thenComparing(mob -> mob.number)).orElse(null);
        }

        public int aimedAt(int number) {
            Turret tower = tower(number);
            Mob mob = tower.level > 0 ? target(tower) : null;
            need(mob != null, new NoSuchElementException());
            return mob.number;
        }

        public int addWave(int kind, int many, int gap, int entry) {
            need(in(kind, 0, foeSorts.size() - 1) && in(entry, 0, world.entries.size() - 1), index());
            need(in(many, 1, 20) && in(gap, 1, 20), argument());
            need(world.troops.size() < 8, state());
            Troop troop = new Troop();
            troop.sort = kind;
            troop.many = many;
            troop.gap = gap;
            troop.entry = entry;
            world.troops.add(troop);
            return world.troops.size() - 1;
        }

        public int callWave() {
            need(world.called < world.troops.size(), new NoSuchElementException());
            need(world.lives > 0 && ways(false, null).keySet().containsAll(world.entries), state());
            world.gold += 5 * world.troops.stream().mapToInt(troop -> troop.left).sum();
            Troop troop = world.troops.get(world.called);
            troop.left = troop.many;
            troop.next = world.time + 1;
            return world.called++;
        }

        public int run(int ticks) {
            need(in(ticks, 1, 200), argument());
            need(world.lives > 0, state());
            int done = 0;
            while (done < ticks && world.lives > 0) {
                tick();
                done++;
            }
            return done;
        }

        private void tick() {
            world.time++;
            List<Order> due = new ArrayList<>(world.orders);
            due.removeIf(order -> order.tick > world.time);
            world.orders.removeAll(due);
            world.orders.removeIf(order -> order.tick <= world.time);
            for (Order order : due) {
                try {
                    build(order.sort, order.cell.x, order.cell.y);
                } catch (RuntimeException fails) {
                    world.failed++;
                }
            }
            for (int wave = 0; wave < world.called; wave++) {
                Troop troop = world.troops.get(wave);
                if (troop.left > 0 && troop.next <= world.time && world.mobs.size() < 40) {
                    come(troop.sort, wave, world.entries.get(troop.entry));
                    troop.left--;
                    troop.next = world.time + troop.gap;
                }
            }
            moveAll();
            for (Mob mob : world.mobs) {
                mob.burns.forEach(burn -> mob.life -= burn.damage);
                mob.burns.forEach(burn -> burn.left--);
                mob.burns.removeIf(burn -> burn.left == 0);
                mob.slowLeft = Math.max(0, mob.slowLeft - 1);
                mob.slow = mob.slowLeft == 0 ? 0 : mob.slow;
                mob.stunLeft = Math.max(0, mob.stunLeft - 1);
                mob.shield = Math.min(foeSorts.get(mob.sort).shield, mob.shield + 1);
            }
            List<Bolt> arriving = new ArrayList<>(world.bolts);
            arriving.removeIf(bolt -> bolt.at != world.time);
            world.bolts.removeIf(bolt -> bolt.at == world.time);
            for (Bolt bolt : arriving) {
                world.mobs.stream().filter(mob -> mob.number == bolt.mob && mob.life > 0).findFirst()
                        .ifPresent(mob -> hit(bolt.sort, mob, bolt.damage));
            }
            shootAll();
            for (Mob mob : new ArrayList<>(world.mobs)) {
                if (mob.life <= 0) {
                    die(mob);
                }
            }
            if (world.time % 50 == 0) {
                world.gold += Math.min(50, world.gold / 20);
            }
        }

        private void come(int sort, int wave, Cell cell) {
            Mob mob = new Mob();
            mob.number = world.ends.size();
            mob.sort = sort;
            mob.wave = wave;
            mob.cell = cell;
            mob.life = foeSorts.get(sort).life + foeSorts.get(sort).life * wave / 10;
            mob.shield = foeSorts.get(sort).shield;
            world.mobs.add(mob);
            world.ends.add('-');
        }

        private void moveAll() {
            Map<Cell, Integer> walks = ways(false, null);
            Map<Cell, Integer> flights = ways(true, null);
            for (Mob mob : new ArrayList<>(world.mobs)) {
                FoeSort sort = foeSorts.get(mob.sort);
                if (mob.stunLeft == 0) {
                    mob.progress += Math.max(1, sort.speed * (100 - mob.slow) / 100);
                    if (mob.progress >= 100) {
                        mob.progress -= 100;
                        Map<Cell, Integer> steps = sort.flies ? flights : walks;
                        int left = steps.get(mob.cell);
                        Cell from = mob.cell;
                        mob.cell = String.valueOf(world.order).chars().mapToObj(side -> from.at((char) side))
                                .filter(cell -> steps.containsKey(cell) && steps.get(cell) == left - 1).findFirst().orElseThrow();
                    }
                    if (world.exits.contains(mob.cell)) {
                        world.mobs.remove(mob);
                        world.ends.set(mob.number, 'x');
                        world.lives = Math.max(0, world.lives - 1);
                    }
                }
            }
        }

        private void shootAll() {
            for (Turret tower : world.towers) {
                tower.waitLeft = Math.max(0, tower.waitLeft - 1);
                if (tower.level > 0 && tower.waitLeft == 0) {
                    Mob mob = target(tower);
                    if (mob != null) {
                        TowerSort sort = towerSorts.get(tower.sort);
                        tower.waitLeft = sort.wait;
                        if (sort.flight == 0) {
                            hit(tower.sort, mob, sort.damage * tower.level);
                        } else {
                            world.bolts.add(new Bolt(tower.sort, mob.number, sort.damage * tower.level, world.time + sort.flight));
                        }
                    }
                }
            }
        }

        private void hit(int kind, Mob first, int damage) {
            TowerSort sort = towerSorts.get(kind);
            Set<Mob> struck = new HashSet<>();
            Mob mob = first;
            int force = damage;
            strike(sort, mob, force);
            struck.add(mob);
            for (int jump = 0; jump < sort.jumps; jump++) {
                force /= 2;
                Mob from = mob;
                mob = world.mobs.stream()
                        .filter(other -> other.life > 0 && !struck.contains(other) && other.cell.square(from.cell) <= 4)
                        .min(Comparator.comparing((Mob other) -> other.cell.square(from.cell)).thenComparing(other -> other.number))
                        .orElse(null);
                if (force < 1 || mob == null) {
                    return;
                }
                strike(sort, mob, force);
                struck.add(mob);
            }
        }

        private void strike(TowerSort by, Mob mob, int damage) {
            int left = Math.max(0, damage - mob.shield);
            mob.shield = Math.max(0, mob.shield - damage);
            if (left > 0) {
                mob.life -= Math.max(1, left - foeSorts.get(mob.sort).armour);
            }
            if (by.effect == 'w' && by.strength >= mob.slow) {
                mob.slow = by.strength;
                mob.slowLeft = by.ticks;
            } else if (by.effect == 'b') {
                mob.burns.add(new Burn(by.strength, by.ticks));
            } else if (by.effect == 'u') {
                mob.stunLeft = Math.max(mob.stunLeft, Math.max(1, by.ticks - mob.stuns));
                mob.stuns++;
            }
        }

        private void die(Mob mob) {
            FoeSort sort = foeSorts.get(mob.sort);
            world.mobs.remove(mob);
            world.ends.set(mob.number, 'd');
            world.gold += sort.bounty;
            for (int i = 0; i < sort.many; i++) {
                boolean stands = foeSorts.get(sort.into).flies || ways(false, null).containsKey(mob.cell);
                if (stands && world.mobs.size() < 40) {
                    come(sort.into, mob.wave, mob.cell);
                }
            }
        }

        public int time() {
            return world.time;
        }

        public int plan(int tick, int kind, int x, int y) {
            Cell cell = new Cell(x, y);
            need(in(kind, 0, towerSorts.size() - 1), index());
            need(in(tick, 0, 9999) && cell.isThere(), argument());
            need(world.orders.size() < 10, state());
            world.orders.add(new Order(tick, kind, cell));
            world.late += tick <= world.time ? 1 : 0;
            return world.orders.size();
        }

        public int lateInputs() {
            return world.late;
        }

        public int failedInputs() {
            return world.failed;
        }

        public int foes() {
            return world.ends.size();
        }

        public int alive() {
            return world.mobs.size();
        }

        private Mob mob(int foe) {
            need(in(foe, 0, world.ends.size() - 1), index());
            return world.mobs.stream().filter(mob -> mob.number == foe).findFirst().orElseThrow(NoSuchElementException::new);
        }

        public int foeCell(int foe) {
            return mob(foe).cell.told();
        }

        public int foeLife(int foe) {
            return mob(foe).life;
        }

        public int foeShield(int foe) {
            return mob(foe).shield;
        }

        public int foeSlow(int foe) {
            return mob(foe).slow;
        }

        public char foeEnd(int foe) {
            need(in(foe, 0, world.ends.size() - 1), index());
            return world.ends.get(foe);
        }

        public int gold() {
            return world.gold;
        }

        public int lives() {
            return world.lives;
        }

        public boolean isLost() {
            return world.lives == 0;
        }

        public int shots() {
            return world.bolts.size();
        }

        public int coverOf(int entry) {
            need(in(entry, 0, world.entries.size() - 1), index());
            Map<Cell, Integer> steps = ways(false, null);
            Cell cell = world.entries.get(entry);
            need(steps.containsKey(cell), new NoSuchElementException());
            int sum = cover(cell);
            while (steps.get(cell) > 0) {
                Cell from = cell;
                cell = String.valueOf(world.order).chars().mapToObj(side -> from.at((char) side))
                        .filter(next -> steps.getOrDefault(next, -1) == steps.get(from) - 1).findFirst().orElseThrow();
                sum += cover(cell);
            }
            return sum;
        }

        private int cover(Cell cell) {
            return world.towers.stream().filter(tower -> tower.cell.square(cell) <= towerSorts.get(tower.sort).range)
                    .mapToInt(tower -> tower.level * towerSorts.get(tower.sort).damage).sum();
        }

        public int save() {
            need(saves.size() < 3, state());
            saves.add(world.copy());
            return saves.size() - 1;
        }

        public long load(int save) {
            need(in(save, 0, saves.size() - 1), index());
            world = saves.get(save).copy();
            return checksum();
        }

        public long checksum() {
            List<Integer> parts = new ArrayList<>(List.of(world.gold, world.lives, world.time));
            world.mobs.forEach(mob -> parts.addAll(List.of(mob.number, mob.cell.told(), mob.progress, mob.life, mob.shield)));
            world.towers.stream().filter(tower -> tower.level > 0)
                    .forEach(tower -> parts.addAll(List.of(tower.cell.told(), tower.level)));
            return parts.stream().mapToLong(part -> part).reduce(7, (sum, part) -> 31 * sum + part);
        }

        public float leakShare() {
            need(!world.ends.isEmpty(), new ArithmeticException());
            return (float) world.ends.stream().filter(end -> end == 'x').count() / (float) world.ends.size();
        }

        public double meanLife() {
            need(!world.mobs.isEmpty(), new ArithmeticException());
            return (double) world.mobs.stream().mapToInt(mob -> mob.life).sum() / (double) world.mobs.size();
        }

        public boolean isSound() {
            return true;
        }
    }
}
