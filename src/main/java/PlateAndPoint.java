import java.util.NoSuchElementException;

/** An armoury: men, the plates that are made for them, what lies beneath, and the blows that they get. */
public final class PlateAndPoint {
    private static final int MOST_MEN = 3;
    private static final int MOST_PLATES = 24;
    private static final int PARTS = 9;
    private static final int JOINTS = 8;

    private static final int LEAST_SIZE = 20;
    private static final int MOST_SIZE = 99;
    private static final int LEAST_WORKED = 5;
    private static final int LEAST_RUSTED = 1;
    private static final int MOST_DRAWN = 30;
    private static final int MOST_RIDGE = 20;
    private static final int MOST_DENTS = 99;
    private static final int RUST_THROUGH = 30;
    private static final int FIT = 4;
    private static final int LEATHER_WORN_OUT = 50;
    private static final int MOST_ANGLE = 150;
    private static final int DOWN = 100;
    private static final int PROOF_ENERGY = 400;
    private static final int NO_BLOW = -1;

    private static final char SOFT = 's';
    private static final char HARD = 'h';
    private static final char TEMPERED = 't';
    private static final char CRACKED = 'x';
    private static final char WATER = 'w';
    private static final char OIL = 'o';
    private static final char LEATHERS = 'l';
    private static final char SLIDING = 's';
    private static final char FIXED = 'f';
    private static final char POINT = 'p';
    private static final char EDGE = 'e';
    private static final char HAMMER = 'h';
    private static final char BOLT = 'b';
    private static final char SHOT = 's';

    private final Man[] men = new Man[MOST_MEN];
    private final Plate[] plates = new Plate[MOST_PLATES];
    private int manCount = 0;
    private int plateCount = 0;
    private int z = 1;
    private int lastDepth = NO_BLOW;

    // All men and plates are made here, so that no later call makes an object and no element is null.
    public PlateAndPoint() {
        for (int k = 0; k < MOST_MEN; k++) {
            men[k] = new Man();
        }
        for (int k = 0; k < MOST_PLATES; k++) {
            plates[k] = new Plate(k);
        }
    }

    /** A plate, of which only the number stands before it is forged. */
    private static final class Plate {
        final int number;
        int size = LEAST_SIZE;
        int carbon = 0;
        int slag = 0;
        int thickness = LEAST_WORKED;
        int mark = 0;
        char state = SOFT;
        int hardness = 0;
        boolean hasProof = false;
        boolean isWorn = false;
        int flare = 0;
        int rise = 0;
        int ridge = 0;
        int dents = 0;
        int holes = 0;
        int rust = 0;

        Plate(int number) {
            this.number = number;
        }

        void forge(int newSize, int newCarbon, int newSlag, int newThickness, int newMark) {
            size = newSize;
            carbon = newCarbon;
            slag = newSlag;
            thickness = newThickness;
            mark = newMark;
            soften();
        }

        int softHardness() {
            return 80 + carbon / 2 - slag;
        }

        void soften() {
            state = SOFT;
            hardness = softHardness();
        }

        // A cracked plate keeps a hardness of 0, by which it also withstands 0.
        void harden(boolean isWater) {
            if (isWater && carbon + 2 * slag > 70) {
                state = CRACKED;
                hardness = 0;
                return;
            }
            int hard = 80 + (isWater ? 4 : 3) * carbon - 2 * slag;
            state = HARD;
            hardness = Math.max(hard, softHardness());
        }

        void letDown(int degrees) {
            state = TEMPERED;
            hardness -= (hardness - softHardness()) * degrees / 1000;
        }

        int withstood() {
            int whole = thickness * thickness * hardness * (100 + 2 * ridge) / 10000;
            return Math.max(0, whole - holes * (whole / 10));
        }

        int heft() {
            return size * size * thickness / 100 + (flare + rise) * thickness / 10;
        }

        boolean isCrackedOrWorn() {
            return state == CRACKED || isWorn;
        }

        boolean fits(Part part) {
            return Math.abs(size - part.size) <= FIT;
        }

        boolean rustsThinner(int days) {
            int all = rust + days;
            int before = thickness;
            rust = all % RUST_THROUGH;
            thickness = Math.max(LEAST_RUSTED, thickness - all / RUST_THROUGH);
            return thickness < before;
        }

        void dent(int more) {
            dents = Math.min(MOST_DENTS, dents + more);
        }
    }

    /** A part of a man: the plate on it, null for none, and what lies beneath. */
    private static final class Part {
        int size = 40;
        Plate plate = null;
        Joint above = null;
        int layers = 0;
        int gauge = 0;
        boolean hasRivets = false;

        int flareBelow() {
            return plate == null ? 0 : plate.flare;
        }

        int riseAbove() {
            return plate == null ? 0 : plate.rise;
        }

        int heft() {
            int beneath = gauge * size + layers * size / 10;
            return plate == null ? beneath : beneath + plate.heft();
        }

        // A blow catches where the lower plate lies over the upper one.
        boolean isCatching() {
            return above != null && above.upper.plate != null && !above.isUpperOver;
        }

        int leftBehindMail(int left, char kind) {
            int takes = gauge * gauge * (hasRivets ? 6 : 2);
            if (kind == EDGE) {
                takes += takes / 2;
            }
            return Math.max(0, left - takes);
        }

        int leftBehindCloth(int left, char kind) {
            return Math.max(0, left - layers * (kind == HAMMER ? 16 : 8));
        }
    }

    /** A joint between an upper part and the lower one next to it. */
    private static final class Joint {
        final Part upper;
        final Part lower;
        int range = 90;
        int bent = 0;
        int lames = 0;
        char kind = LEATHERS;
        int room = 0;
        int leatherWear = 0;
        boolean isUpperOver = true;

        Joint(Part upper, Part lower) {
            this.upper = upper;
            this.lower = lower;
        }

        int slide() {
            if (kind == SLIDING) {
                return 8 * lames;
            }
            return kind == LEATHERS && leatherWear < LEATHER_WORN_OUT ? 6 * lames : 0;
        }

        int opening(int degrees) {
            return degrees * ((upper.size + lower.size) / 2) / 57;
        }

        int gapAt(int degrees) {
            return Math.max(0, opening(degrees) - upper.flareBelow() - lower.riseAbove() - slide());
        }

        boolean bindsAt(int degrees) {
            if (upper.plate == null || lower.plate == null) {
                return false;
            }
            int free = room + slide() - upper.plate.dents / 10 - lower.plate.dents / 10;
            return opening(degrees) / 2 > free;
        }

        int farthest() {
            int degrees = 0;
            while (degrees <= range && !bindsAt(degrees)) {
                degrees++;
            }
            return degrees - 1;
        }

        void bendTo(int degrees) {
            boolean wears = degrees != bent && kind == LEATHERS && lames > 0;
            if (wears && leatherWear < LEATHER_WORN_OUT) {
                leatherWear++;
            }
            bent = degrees;
        }
    }

    /** A man with his parts in a row and the joints between them. */
    private static final class Man {
        final Part[] parts = new Part[PARTS];
        final Joint[] joints = new Joint[JOINTS];
        int hurt = 0;

        Man() {
            for (int k = 0; k < PARTS; k++) {
                parts[k] = new Part();
            }
            for (int k = 0; k < JOINTS; k++) {
                joints[k] = new Joint(parts[k], parts[k + 1]);
                parts[k + 1].above = joints[k];
            }
        }

        boolean isBeaten() {
            return hurt >= DOWN;
        }

        int burden() {
            int sum = 0;
            for (Part part : parts) {
                sum += part.heft();
            }
            return sum;
        }

        int layersInAll() {
            int sum = 0;
            for (Part part : parts) {
                sum += part.layers;
            }
            return sum;
        }
    }

    // ---- men

    public int addMan() throws IllegalStateException {
        if (manCount >= MOST_MEN) {
            throw new IllegalStateException("no more men");
        }
        manCount++;
        return manCount - 1;
    }

    public int setPart(int man, int part, int size)
            throws IndexOutOfBoundsException, IllegalArgumentException, UnsupportedOperationException {
        Part chosen = partAt(man, part);
        needWithin(size, LEAST_SIZE, MOST_SIZE);
        if (chosen.plate != null) {
            throw new UnsupportedOperationException("a plate is worn on it");
        }
        int before = chosen.size;
        chosen.size = size;
        return before;
    }

    public int setRange(int man, int joint, int range) throws IndexOutOfBoundsException, IllegalArgumentException {
        Joint chosen = jointAt(man, joint);
        needWithin(range, 30, MOST_ANGLE);
        int before = chosen.range;
        chosen.range = range;
        chosen.bent = 0;
        return before;
    }

    // ---- plates

    public int makePlate(int size, int carbon, int slag, int thickness, int mark)
            throws IllegalArgumentException, IllegalStateException {
        needWithin(size, LEAST_SIZE, MOST_SIZE);
        needWithin(carbon, 0, 90);
        needWithin(slag, 0, 20);
        needWithin(thickness, LEAST_WORKED, 60);
        needWithin(mark, 0, 99);
        if (plateCount >= MOST_PLATES) {
            throw new IllegalStateException("no more plates");
        }
        plates[plateCount].forge(size, carbon, slag, thickness, mark);
        plateCount++;
        return plateCount - 1;
    }

    public int draw(int plate, boolean isFlare, int by)
            throws IndexOutOfBoundsException, IllegalArgumentException, UnsupportedOperationException {
        Plate worked = plateNumbered(plate);
        needWithin(by, 1, MOST_DRAWN);
        int drawn = (isFlare ? worked.flare : worked.rise) + by;
        int thickness = worked.thickness - (by + 4) / 5;
        needThinnable(worked, thickness);
        if (drawn > MOST_DRAWN) {
            throw new UnsupportedOperationException("drawn out too far");
        }
        if (isFlare) {
            worked.flare = drawn;
        } else {
            worked.rise = drawn;
        }
        worked.thickness = thickness;
        return thickness;
    }

    public int thin(int plate, int by)
            throws IndexOutOfBoundsException, IllegalArgumentException, UnsupportedOperationException {
        Plate worked = plateNumbered(plate);
        needWithin(by, 1, 20);
        int thickness = worked.thickness - by;
        needThinnable(worked, thickness);
        worked.thickness = thickness;
        return thickness;
    }

    public int crease(int plate, int by)
            throws IndexOutOfBoundsException, IllegalArgumentException, UnsupportedOperationException {
        Plate worked = plateNumbered(plate);
        needWithin(by, 1, MOST_RIDGE);
        needWorkable(worked);
        if (worked.ridge + by > MOST_RIDGE) {
            throw new UnsupportedOperationException("creased too far");
        }
        worked.ridge += by;
        return worked.ridge;
    }

    public char quench(int plate, int degrees, char bath)
            throws IndexOutOfBoundsException, IllegalArgumentException, UnsupportedOperationException {
        Plate treated = plateNumbered(plate);
        if (bath != WATER && bath != OIL) {
            throw new IllegalArgumentException("no such bath");
        }
        needWithin(degrees, 600, 1100);
        if (treated.state != SOFT || treated.isWorn) {
            throw new UnsupportedOperationException("not soft, or worn");
        }
        if (degrees >= 750) {
            treated.harden(bath == WATER);
        }
        return treated.state;
    }

    public int temper(int plate, int degrees)
            throws IndexOutOfBoundsException, IllegalArgumentException, UnsupportedOperationException {
        Plate treated = plateNumbered(plate);
        needWithin(degrees, 100, 600);
        needWorkable(treated);
        if (treated.state == SOFT) {
            throw new UnsupportedOperationException("soft");
        }
        treated.letDown(degrees);
        return treated.hardness;
    }

    public boolean gild(int plate) throws IndexOutOfBoundsException, UnsupportedOperationException {
        Plate treated = plateNumbered(plate);
        needWorkable(treated);
        boolean wasNotSoft = treated.state != SOFT;
        treated.soften();
        return wasNotSoft;
    }

    public boolean prove(int plate) throws IndexOutOfBoundsException, UnsupportedOperationException {
        Plate tested = plateNumbered(plate);
        needWorkable(tested);
        tested.hasProof = biteOf(PROOF_ENERGY, BOLT) <= tested.withstood();
        if (!tested.hasProof) {
            tested.holes++;
        }
        return tested.hasProof;
    }

    public char state(int plate) throws IndexOutOfBoundsException {
        return plateNumbered(plate).state;
    }

    public boolean isProved(int plate) throws IndexOutOfBoundsException {
        return plateNumbered(plate).hasProof;
    }

    public int of(int plate, char what) throws IndexOutOfBoundsException, IllegalArgumentException {
        Plate asked = plateNumbered(plate);
        switch (what) {
            case 't':
                return asked.thickness;
            case 'h':
                return asked.hardness;
            case 'f':
                return asked.flare;
            case 'r':
                return asked.rise;
            case 'g':
                return asked.ridge;
            case 'd':
                return asked.dents;
            case 'o':
                return asked.holes;
            case 'u':
                return asked.rust;
            case 'w':
                return asked.heft();
            case 'n':
                return asked.withstood();
            default:
                throw new IllegalArgumentException("no such thing");
        }
    }

    public int planish(int plate) throws IndexOutOfBoundsException, UnsupportedOperationException {
        Plate worked = plateNumbered(plate);
        needWorkable(worked);
        int before = worked.dents;
        worked.dents = 0;
        return before;
    }

    public int oil(int plate) throws IndexOutOfBoundsException {
        Plate oiled = plateNumbered(plate);
        int before = oiled.rust;
        oiled.rust = 0;
        return before;
    }

    public int days(int days) throws IllegalArgumentException {
        needWithin(days, 1, 999);
        int thinner = 0;
        for (int k = 0; k < plateCount; k++) {
            if (plates[k].rustsThinner(days)) {
                thinner++;
            }
        }
        return thinner;
    }

    // ---- wearing

    public int wear(int man, int part, int plate) throws IndexOutOfBoundsException, UnsupportedOperationException {
        Part chosen = partAt(man, part);
        Plate put = plateNumbered(plate);
        needWorkable(put);
        needFit(put, chosen);
        if (chosen.plate != null) {
            throw new UnsupportedOperationException("the part has a plate");
        }
        chosen.plate = put;
        put.isWorn = true;
        return manNumbered(man).burden();
    }

    public int takeOff(int man, int part) throws IndexOutOfBoundsException, NoSuchElementException {
        Part chosen = partAt(man, part);
        Plate taken = plateOn(chosen);
        chosen.plate = null;
        taken.isWorn = false;
        return taken.number;
    }

    public int plateAt(int man, int part) throws IndexOutOfBoundsException, NoSuchElementException {
        return plateOn(partAt(man, part)).number;
    }

    public int setLames(int man, int joint, int many, char kind)
            throws IndexOutOfBoundsException, IllegalArgumentException {
        Joint chosen = jointAt(man, joint);
        if (kind != LEATHERS && kind != SLIDING && kind != FIXED) {
            throw new IllegalArgumentException("no such kind of lames");
        }
        needWithin(many, 0, 4);
        int before = chosen.lames;
        chosen.lames = many;
        chosen.kind = kind;
        chosen.leatherWear = 0;
        return before;
    }

    public int setRoom(int man, int joint, int room) throws IndexOutOfBoundsException, IllegalArgumentException {
        Joint chosen = jointAt(man, joint);
        needWithin(room, 0, 60);
        int before = chosen.room;
        chosen.room = room;
        return before;
    }

    public boolean setOrder(int man, int joint, boolean isUpper) throws IndexOutOfBoundsException {
        Joint chosen = jointAt(man, joint);
        boolean before = chosen.isUpperOver;
        chosen.isUpperOver = isUpper;
        return before;
    }

    public int leather(int man, int joint) throws IndexOutOfBoundsException {
        return jointAt(man, joint).leatherWear;
    }

    public int mend(int man, int joint) throws IndexOutOfBoundsException {
        Joint chosen = jointAt(man, joint);
        int before = chosen.leatherWear;
        chosen.leatherWear = 0;
        return before;
    }

    public int setCloth(int man, int part, int layers) throws IndexOutOfBoundsException, IllegalArgumentException {
        Part chosen = partAt(man, part);
        needWithin(layers, 0, 30);
        int before = chosen.layers;
        chosen.layers = layers;
        return before;
    }

    public int setMail(int man, int part, int gauge, boolean isRiveted)
            throws IndexOutOfBoundsException, IllegalArgumentException {
        Part chosen = partAt(man, part);
        needWithin(gauge, 0, 9);
        int before = chosen.gauge;
        chosen.gauge = gauge;
        chosen.hasRivets = isRiveted;
        return before;
    }

    // ---- poses

    public int gap(int man, int joint, int angle) throws IndexOutOfBoundsException, IllegalArgumentException {
        Joint chosen = jointAt(man, joint);
        needWithin(angle, 0, MOST_ANGLE);
        return chosen.gapAt(angle);
    }

    public boolean binds(int man, int joint, int angle) throws IndexOutOfBoundsException, IllegalArgumentException {
        Joint chosen = jointAt(man, joint);
        needWithin(angle, 0, MOST_ANGLE);
        return chosen.bindsAt(angle);
    }

    public int reach(int man, int joint) throws IndexOutOfBoundsException {
        return jointAt(man, joint).farthest();
    }

    public int bend(int man, int joint, int angle)
            throws IndexOutOfBoundsException, IllegalArgumentException, UnsupportedOperationException {
        Joint chosen = jointAt(man, joint);
        needWithin(angle, 0, MOST_ANGLE);
        if (angle > chosen.farthest()) {
            throw new UnsupportedOperationException("beyond its reach");
        }
        int before = chosen.bent;
        chosen.bendTo(angle);
        return before;
    }

    public int angle(int man, int joint) throws IndexOutOfBoundsException {
        return jointAt(man, joint).bent;
    }

    // ---- blows

    public char strike(int man, int part, char kind, int angle, int energy)
            throws IndexOutOfBoundsException, IllegalArgumentException {
        Part hit = partAt(man, part);
        if (!isHandKind(kind) && kind != BOLT && kind != SHOT) {
            throw new IllegalArgumentException("no such kind of blow");
        }
        needWithin(angle, 0, 90);
        needWithin(energy, 1, 5000);
        return land(manNumbered(man), hit, kind, angle, energy);
    }

    public int depth() throws NoSuchElementException {
        if (lastDepth == NO_BLOW) {
            throw new NoSuchElementException("there was no blow");
        }
        return lastDepth;
    }

    public int wounds(int man) throws IndexOutOfBoundsException {
        return manNumbered(man).hurt;
    }

    public int heal(int man) throws IndexOutOfBoundsException {
        Man healed = manNumbered(man);
        int before = healed.hurt;
        healed.hurt = 0;
        return before;
    }

    private static boolean isHandKind(char kind) {
        return kind == POINT || kind == EDGE || kind == HAMMER;
    }

    private static int glancingAngle(char kind) {
        switch (kind) {
            case POINT:
                return 60;
            case EDGE:
                return 45;
            case HAMMER:
                return 75;
            case BOLT:
                return 65;
            default:
                return 70;
        }
    }

    private static int biteOf(int force, char kind) {
        switch (kind) {
            case POINT:
                return force;
            case EDGE:
                return force * 40 / 100;
            case HAMMER:
                return force * 20 / 100;
            case BOLT:
                return force * 130 / 100;
            default:
                return force * 150 / 100;
        }
    }

    private char land(Man man, Part part, char kind, int angle, int energy) {
        Plate plate = part.plate;
        if (plate != null && angle + plate.ridge / 2 >= glancingAngle(kind) && !part.isCatching()) {
            lastDepth = 0;
            return 'g';
        }
        int force = energy * (90 - angle) * (90 - angle) / 8100;
        if (plate == null) {
            boolean isWound = goBeneath(man, part, kind, biteOf(force, kind), 0);
            return isWound ? 'w' : '-';
        }
        int holesBefore = plate.holes;
        int dentsBefore = plate.dents;
        int left = meetPlate(plate, kind, force);
        if (goBeneath(man, part, kind, left, left > 0 ? 1 : 0)) {
            return 'w';
        }
        if (plate.holes > holesBefore) {
            return 'x';
        }
        return plate.dents > dentsBefore ? 'd' : '-';
    }

    private static int meetPlate(Plate plate, char kind, int force) {
        int bite = biteOf(force, kind);
        int withstood = plate.withstood();
        if (bite > withstood) {
            plate.holes++;
            return bite - withstood;
        }
        boolean isHammer = kind == HAMMER;
        plate.dent(quotient((isHammer ? 20 : 10) * force, withstood + 1));
        return isHammer ? force / 4 : 0;
    }

    // Answers whether the man is wounded; what is not there is not counted into the depth.
    private boolean goBeneath(Man man, Part part, char kind, int force, int through) {
        int depth = through;
        int left = part.leftBehindMail(force, kind);
        if (left > 0 && part.gauge > 0) {
            depth++;
        }
        left = part.leftBehindCloth(left, kind);
        if (left > 0 && part.layers > 0) {
            depth++;
        }
        lastDepth = depth;
        if (left > 0) {
            man.hurt += left / 10 + 1;
        }
        return left > 0;
    }

    // ---- weight

    public int weight(int man) throws IndexOutOfBoundsException {
        return manNumbered(man).burden();
    }

    public int breath(int man, int effort) throws IndexOutOfBoundsException, IllegalArgumentException {
        Man chosen = manNumbered(man);
        needWithin(effort, 1, 10);
        int toil = 50 + chosen.burden() / 10 * effort + 5 * chosen.layersInAll();
        return Math.max(0, quotient(60000, toil) - chosen.hurt);
    }

    // ---- two men

    public boolean exchange(int man, int other, int part)
            throws IndexOutOfBoundsException, IllegalArgumentException, NoSuchElementException,
                    UnsupportedOperationException {
        Part first = partAt(man, part);
        Part second = partAt(other, part);
        needTwo(man, other);
        Plate given = plateOn(first);
        Plate got = plateOn(second);
        needFit(got, first);
        needFit(given, second);
        first.plate = got;
        second.plate = given;
        return given.mark == got.mark;
    }

    public boolean isMatched(int man) throws IndexOutOfBoundsException {
        int mark = -1;
        for (Part part : manNumbered(man).parts) {
            if (part.plate != null) {
                if (mark >= 0 && part.plate.mark != mark) {
                    return false;
                }
                mark = part.plate.mark;
            }
        }
        return true;
    }

    public int seed(int z) throws IllegalArgumentException {
        needWithin(z, 1, 2147483646);
        int before = this.z;
        this.z = z;
        return before;
    }

    public int duel(int man, int other, char kind, char second, int rounds)
            throws IndexOutOfBoundsException, IllegalArgumentException, UnsupportedOperationException {
        Man one = manNumbered(man);
        Man two = manNumbered(other);
        needTwo(man, other);
        if (!isHandKind(kind) || !isHandKind(second)) {
            throw new IllegalArgumentException("no such kind of blow in a duel");
        }
        needWithin(rounds, 1, 50);
        if (one.isBeaten() || two.isBeaten()) {
            throw new UnsupportedOperationException("one is down");
        }
        int begun = 0;
        while (begun < rounds && !one.isBeaten() && !two.isBeaten()) {
            begun++;
            fight(two, kind);
            if (!two.isBeaten()) {
                fight(one, second);
            }
        }
        return begun;
    }

    public boolean isDown(int man) throws IndexOutOfBoundsException {
        return manNumbered(man).isBeaten();
    }

    private void fight(Man struck, char kind) {
        Part part = struck.parts[nextBelow(PARTS)];
        int angle = nextBelow(91);
        int energy = nextBelow(400) + 100;
        land(struck, part, kind, angle, energy);
    }

    // z is never 0 or less, so that the remainder is from 0 to many - 1.
    private int nextBelow(int many) {
        z = (int) (z * 48271L % 2147483647L);
        return many > 0 ? z % many : 0;
    }

    // ---- sums

    public long checksum() {
        long sum = 7;
        for (int k = 0; k < plateCount; k++) {
            Plate plate = plates[k];
            sum = 31 * sum + plate.thickness;
            sum = 31 * sum + plate.hardness;
            sum = 31 * sum + plate.dents;
            sum = 31 * sum + plate.holes;
        }
        for (int k = 0; k < manCount; k++) {
            sum = 31 * sum + men[k].hurt;
            for (Joint joint : men[k].joints) {
                sum = 31 * sum + joint.bent;
            }
        }
        return 31 * sum + z;
    }

    public float provedShare() throws ArithmeticException {
        needPlates();
        int proved = 0;
        for (int k = 0; k < plateCount; k++) {
            if (plates[k].hasProof) {
                proved++;
            }
        }
        return (float) proved / (float) plateCount;
    }

    public double meanThickness() throws ArithmeticException {
        needPlates();
        int sum = 0;
        for (int k = 0; k < plateCount; k++) {
            sum += plates[k].thickness;
        }
        return (double) sum / (double) plateCount;
    }

    public boolean isSound() {
        for (int k = 0; k < plateCount; k++) {
            if (!isSoundPlate(plates[k])) {
                return false;
            }
        }
        for (int k = 0; k < manCount; k++) {
            if (!isSoundMan(men[k])) {
                return false;
            }
        }
        return true;
    }

    private boolean isSoundPlate(Plate plate) {
        return isWithin(plate.dents, 0, MOST_DENTS) && plate.thickness >= LEAST_RUSTED && timesWorn(plate) <= 1;
    }

    private int timesWorn(Plate plate) {
        int times = 0;
        for (int k = 0; k < manCount; k++) {
            for (Part part : men[k].parts) {
                if (part.plate == plate) {
                    times++;
                }
            }
        }
        return times;
    }

    private static boolean isSoundMan(Man man) {
        for (Part part : man.parts) {
            if (part.plate != null && (part.plate.state == CRACKED || !part.plate.fits(part))) {
                return false;
            }
        }
        for (Joint joint : man.joints) {
            if (!isWithin(joint.bent, 0, joint.range)) {
                return false;
            }
        }
        return true;
    }

    // ---- what the calls look at before they begin

    private static boolean isWithin(int number, int least, int most) {
        return number >= least && number <= most;
    }

    private static void needWithin(int number, int least, int most) {
        if (!isWithin(number, least, most)) {
            throw new IllegalArgumentException("out of range");
        }
    }

    private static void needTwo(int man, int other) {
        if (man == other) {
            throw new IllegalArgumentException("both men are the same");
        }
    }

    private Man manNumbered(int man) {
        if (!isWithin(man, 0, manCount - 1)) {
            throw new IndexOutOfBoundsException("no such man");
        }
        return men[man];
    }

    private Part partAt(int man, int part) {
        Man chosen = manNumbered(man);
        if (!isWithin(part, 0, PARTS - 1)) {
            throw new IndexOutOfBoundsException("no such part");
        }
        return chosen.parts[part];
    }

    private Joint jointAt(int man, int joint) {
        Man chosen = manNumbered(man);
        if (!isWithin(joint, 0, JOINTS - 1)) {
            throw new IndexOutOfBoundsException("no such joint");
        }
        return chosen.joints[joint];
    }

    private Plate plateNumbered(int plate) {
        if (!isWithin(plate, 0, plateCount - 1)) {
            throw new IndexOutOfBoundsException("no such plate");
        }
        return plates[plate];
    }

    private static Plate plateOn(Part part) {
        if (part.plate == null) {
            throw new NoSuchElementException("no plate is worn there");
        }
        return part.plate;
    }

    private static void needWorkable(Plate plate) {
        if (plate.isCrackedOrWorn()) {
            throw new UnsupportedOperationException("cracked or worn");
        }
    }

    private static void needThinnable(Plate plate, int thickness) {
        needWorkable(plate);
        if (plate.hasProof || thickness < LEAST_WORKED) {
            throw new UnsupportedOperationException("proved, or too thin then");
        }
    }

    private static void needFit(Plate plate, Part part) {
        if (!plate.fits(part)) {
            throw new UnsupportedOperationException("it does not fit");
        }
    }

    private void needPlates() {
        if (plateCount == 0) {
            throw new ArithmeticException("there are no plates");
        }
    }

    private static int quotient(int number, int divisor) {
        return divisor == 0 ? 0 : number / divisor;
    }
}
