import java.util.ArrayList;
import java.util.List;
import java.util.Set;
import java.util.TreeSet;

/**
 * What each call of the face changes, and that it changes nothing else: beside each call stand the names of all that
 * is seen otherwise behind it, in an armoury where little is as it is at first. {@link View} has the names.
 */
public final class EffectTests {
    private static final int MOST_CALLS = 512;
    private static final int MOST_CALLS_OF_A_LOOK = 40;

    /** Of these plates, 0 to 4 are worn by man 0 and 5 and 6 by man 1, on parts from 0 on. */
    private static final int PLATES = 12;
    private static final int SOFT = 7;
    private static final int HARD = 8;
    private static final int TEMPERED = 9;
    private static final int CRACKED = 10;
    private static final int PROVED = 11;

    private static final List<Run.Call> CALLS = armoury(3);
    private static final View BEFORE = new View(CALLS);

    public static void main(String[] args) {
        Due.count(CALLS.size() + 1 + MOST_CALLS_OF_A_LOOK <= MOST_CALLS, "the armoury takes too many calls");
        looksAtAll();
        men();
        work();
        heat();
        proofsAndRust();
        wearing();
        joints();
        beneath();
        bends();
        blows();
        woundsAndDuels();
        answersAlone();
        Due.end();
    }

    // ---- what is looked at

    /** Each name as it is written here stands for as many: "plate 7: t w" for "plate 7 t" and "plate 7 w". */
    private static Set<String> namesOf(String... groups) {
        Set<String> names = new TreeSet<>();
        for (String group : groups) {
            int colon = group.indexOf(':');
            if (colon < 0) {
                names.add(group);
                continue;
            }
            for (String last : group.substring(colon + 1).trim().split(" ")) {
                names.add(group.substring(0, colon) + " " + last);
            }
        }
        return names;
    }

    private static void changes(String sentence, Run.Call call, String... groups) {
        changes(sentence, CALLS, BEFORE, call, groups);
    }

    private static void changes(String sentence, List<Run.Call> calls, View before, Run.Call call, String... groups) {
        List<Run.Call> more = new ArrayList<>(calls);
        boolean[] isThrown = new boolean[1];
        more.add(x -> {
            Object got = Run.answerOf(x, call);
            isThrown[0] = got instanceof Class;
            return got;
        });
        Set<String> changed = new View(more).apartFrom(before);
        Due.is(sentence + " throws", isThrown[0], false);
        Due.is(sentence + " changes", changed.toString(), namesOf(groups).toString());
    }

    /** The view sees what was set at the beginning, so that a change of it would be seen. */
    private static void looksAtAll() {
        String[] states = {"s", "h", "t", "x", "s"};
        for (int k = SOFT; k <= PROVED; k++) {
            Due.is("state of " + k, BEFORE.answer("plate " + k + " state").toString(), states[k - SOFT]);
            for (char what : "frgdu".toCharArray()) {
                Due.count((Integer) BEFORE.answer("plate " + k + " " + what) > 0, "plate " + k + " has no " + what);
            }
        }
        for (int k : new int[] {SOFT, HARD, TEMPERED, PROVED}) {
            Due.is("a hole of " + k, (Integer) BEFORE.answer("plate " + k + " o"), 1);
        }
        for (int k : new int[] {0, 5, CRACKED, PROVED}) {
            Due.is("proof of " + k, (Boolean) BEFORE.answer("plate " + k + " proof"), true);
        }
        for (int k = 0; k < 3; k++) {
            Due.count((Integer) BEFORE.answer("man " + k + " wounds") > 0, "man " + k + " has no wounds");
        }
        Due.is("leathers of man 0", (Integer) BEFORE.answer("man 0 joint 0 leather"), 2);
        Due.is("leathers of man 2", (Integer) BEFORE.answer("man 2 joint 1 leather"), 50);
        Due.is("depth", (Integer) BEFORE.answer("depth"), 2);
        Due.is("z", (Integer) BEFORE.answer("z"), 12345);
    }

    // ---- an armoury where little is as it is at first

    private static List<Run.Call> armoury(int men) {
        List<Run.Call> calls = new ArrayList<>();
        for (int k = 0; k < men; k++) {
            calls.add(PlateAndPoint::addMan);
        }
        for (int k = 0; k < PLATES; k++) {
            addPlate(calls, k);
        }
        for (int k = 0; k < SOFT; k++) {
            int plate = k;
            calls.add(x -> x.wear(plate / 5, plate % 5, plate));
        }
        for (int k = 0; k < men; k++) {
            addBeneath(calls, k);
            addJoints(calls, k);
        }
        addWornOut(calls, men - 1);
        calls.add(x -> x.heal(0));
        for (int k = 0; k < men; k++) {
            int man = k;
            calls.add(x -> x.strike(man, 6, 's', 0, 600 + 5 * man));
        }
        calls.add(x -> x.seed(12345));
        return calls;
    }

    /** A plate with a flare, a rise, a ridge, dents, rust, and from 7 to 9, and on the last one, a hole. */
    private static void addPlate(List<Run.Call> calls, int plate) {
        int carbon = plate == CRACKED ? 80 : 20 + plate;
        int thickness = plate >= CRACKED ? 50 : plate >= SOFT ? 23 : 27;
        calls.add(x -> x.makePlate(40, carbon, plate % 5, thickness, plate % 4));
        calls.add(x -> x.draw(plate, true, 2 + plate % 4));
        calls.add(x -> x.draw(plate, false, 3 + plate % 3));
        calls.add(x -> x.crease(plate, 1 + plate % 3));
        calls.add(x -> x.days(1));
        calls.add(x -> x.prove(plate));
        calls.add(x -> x.wear(0, 8, plate));
        calls.add(x -> x.strike(0, 8, 'p', 0, 200 + 10 * plate));
        if (plate == PROVED) {
            calls.add(x -> x.strike(0, 8, 's', 0, 5000));
        }
        calls.add(x -> x.takeOff(0, 8));
        if (plate == HARD || plate == TEMPERED) {
            calls.add(x -> x.quench(plate, 800, 'o'));
        }
        if (plate == TEMPERED) {
            calls.add(x -> x.temper(plate, 300));
        }
        if (plate == CRACKED) {
            calls.add(x -> x.quench(plate, 800, 'w'));
        }
    }

    private static void addBeneath(List<Run.Call> calls, int man) {
        for (int k = 0; k < 9; k++) {
            int part = k;
            calls.add(x -> x.setCloth(man, part, 1 + (man + part) % 5));
            calls.add(x -> x.setMail(man, part, 3 + (man + part) % 7, (man + part) % 2 == 0));
        }
        for (int k = 5; k < 9; k++) {
            int part = k;
            calls.add(x -> x.setPart(man, part, 38 + part % 5));
        }
    }

    private static void addJoints(List<Run.Call> calls, int man) {
        for (int k = 0; k < 8; k++) {
            int joint = k;
            calls.add(x -> x.setLames(man, joint, 1 + (man + joint) % 4, "lsf".charAt((man + joint) % 3)));
            calls.add(x -> x.setRoom(man, joint, 20 + joint));
            calls.add(x -> x.setOrder(man, joint, joint % 2 == 0));
            calls.add(x -> x.setRange(man, joint, 91 + joint));
            calls.add(x -> x.bend(man, joint, 5 + joint));
            calls.add(x -> x.bend(man, joint, 15 + joint));
        }
    }

    private static void addWornOut(List<Run.Call> calls, int man) {
        for (int k = 0; k < 50; k++) {
            int angle = 15 + k % 2;
            calls.add(x -> x.bend(man, 1, angle));
        }
    }

    // ---- what each call changes

    private static void men() {
        List<Run.Call> ofTwo = armoury(2);
        List<String> all = new ArrayList<>(List.of("men", "man 2: wounds weight breath match down"));
        for (int k = 0; k < 9; k++) {
            all.add("man 2 part " + k + ": plate cloth mail size rings");
        }
        for (int k = 0; k < 8; k++) {
            all.add("man 2 joint " + k + ": angle gap bind reach leather room order range lames");
        }
        changes("2 adds a man", ofTwo, new View(ofTwo), PlateAndPoint::addMan, all.toArray(new String[0]));
        changes("3 sets the size of a part", x -> x.setPart(0, 7, 60), "man 0: weight breath", "man 0 part 7: size",
                "man 0 joint 6: gap", "man 0 joint 7: gap");
        changes("4 sets the range of a joint, which is at 0 degrees then", x -> x.setRange(0, 0, 140),
                "man 0 joint 0: range angle");
        changes("4 a lesser one", x -> x.setRange(2, 3, 40), "man 2 joint 3: range angle reach");
        changes("4 the same one", x -> x.setRange(2, 1, 92), "man 2 joint 1: angle");
    }

    private static void work() {
        changes("5 makes a plate", x -> x.makePlate(30, 1, 2, 10, 3), "plates",
                "plate 12: state proof t h f r g d o u w n work soft hard");
        changes("6 draws a plate out, its flare", x -> x.draw(SOFT, true, 6), "plate 7: f t w n");
        changes("6 otherwise its rise", x -> x.draw(HARD, false, 6), "plate 8: r t w n");
        changes("7 thins a plate", x -> x.thin(TEMPERED, 2), "plate 9: t w n");
        changes("8 creases a plate", x -> x.crease(SOFT, 2), "plate 7: g n");
        changes("8 creases a proved plate", x -> x.crease(PROVED, 2), "plate 11: g n");
        changes("16 takes the dents out of a plate", x -> x.planish(SOFT), "plate 7: d");
        changes("16 takes the dents out of a proved plate", x -> x.planish(PROVED), "plate 11: d");
    }

    private static void heat() {
        changes("9 quenches a plate, in oil", x -> x.quench(SOFT, 750, 'o'), "plate 7: state h n");
        changes("9 quenches a plate, in water", x -> x.quench(SOFT, 750, 'w'), "plate 7: state h n");
        changes("9 quenches a proved plate", x -> x.quench(PROVED, 750, 'w'), "plate 11: state h n");
        changes("9 below 750 nothing comes of it", x -> x.quench(SOFT, 749, 'w'));
        changes("10 tempers a plate, a hard one", x -> x.temper(HARD, 300), "plate 8: state h n");
        changes("10 tempers a plate, a tempered one", x -> x.temper(TEMPERED, 300), "plate 9: h n");
        changes("11 gilds a plate, a hard one", x -> x.gild(HARD), "plate 8: state h n");
        changes("11 gilds a plate, a tempered one", x -> x.gild(TEMPERED), "plate 9: state h n");
        changes("11 gilds a plate, a soft one", x -> x.gild(SOFT));
        List<Run.Call> tempered = new ArrayList<>(CALLS);
        tempered.add(x -> x.makePlate(40, 50, 11, 40, 1));
        changes("9 it cracks", tempered, new View(tempered), x -> x.quench(12, 750, 'w'),
                "plate 12: state h n work soft hard");
    }

    private static void proofsAndRust() {
        changes("12 proves a plate, which withstands", x -> x.prove(HARD), "plate 8: proof");
        changes("12 proves a proved plate again", x -> x.prove(PROVED));
        changes("12 proves a plate, which does not withstand", x -> x.prove(SOFT), "plate 7: o n");
        changes("17 oils a plate", x -> x.oil(SOFT), "plate 7: u");
        changes("17 oils a plate, which is worn", x -> x.oil(0), "plate 0: u");
        changes("17 oils a plate, which is cracked", x -> x.oil(CRACKED), "plate 10: u");
        List<String> rust = new ArrayList<>();
        List<String> thinner = new ArrayList<>(List.of("man 0: weight breath", "man 1: weight breath"));
        for (int k = 0; k < PLATES; k++) {
            rust.add("plate " + k + ": u");
            // what a cracked one withstands is 0
            thinner.add("plate " + k + (k == CRACKED ? ": t w" : ": t w n"));
        }
        changes("18 lets a day go by", x -> x.days(1), rust.toArray(new String[0]));
        changes("18 lets 30 days go by", x -> x.days(30), thinner.toArray(new String[0]));
    }

    private static void wearing() {
        changes("19 puts a plate on a part", x -> x.wear(2, 0, SOFT), "man 2: weight breath", "man 2 part 0: plate",
                "man 2 joint 0: gap", "plate 7: work");
        changes("19 puts a plate on a part below another one", x -> x.wear(0, 5, HARD), "man 0: weight breath",
                "man 0 part 5: plate", "man 0 joint 4: gap bind", "man 0 joint 5: gap", "plate 8: work");
        changes("20 takes a plate off", x -> x.takeOff(0, 4), "man 0: weight breath", "man 0 part 4: plate",
                "man 0 joint 3: gap bind", "man 0 joint 4: gap", "plate 4: work");
        changes("20 takes one of two plates off", x -> x.takeOff(1, 0), "man 1: weight breath match",
                "man 1 part 0: plate", "man 1 joint 0: gap bind", "plate 5: work");
        changes("40 exchanges the plates of a part of two men", x -> x.exchange(0, 1, 0), "man 0: weight",
                "man 1: weight breath", "man 0 part 0: plate", "man 1 part 0: plate", "man 0 joint 0: gap",
                "man 1 joint 0: gap");
    }

    private static void joints() {
        changes("22 sets the lames of a joint, with new leathers", x -> x.setLames(0, 0, 4, 's'),
                "man 0 joint 0: lames leather gap reach bind");
        changes("22 sets the lames of a joint, of leathers that are worn out", x -> x.setLames(2, 1, 4, 'l'),
                "man 2 joint 1: leather gap");
        changes("23 sets the room of a joint", x -> x.setRoom(0, 0, 0), "man 0 joint 0: room reach");
        changes("24 sets the order of a joint", x -> x.setOrder(0, 0, false), "man 0 joint 0: order");
        changes("24 sets the order of a joint, back", x -> x.setOrder(0, 1, true), "man 0 joint 1: order");
        changes("26 mends the leathers of a joint", x -> x.mend(0, 0), "man 0 joint 0: leather");
        changes("26 mends leathers that are worn out", x -> x.mend(2, 1), "man 2 joint 1: leather gap");
        changes("26 mends no rivets, sliding ones", x -> x.mend(0, 1));
        changes("26 mends no rivets, fixed ones", x -> x.mend(0, 2));
    }

    private static void beneath() {
        changes("27 gives a part cloth", x -> x.setCloth(0, 0, 30), "man 0: weight breath", "man 0 part 0: cloth");
        changes("27 gives a part none", x -> x.setCloth(0, 0, 0), "man 0: weight breath", "man 0 part 0: cloth");
        changes("28 gives a part mail", x -> x.setMail(0, 0, 9, true), "man 0: weight breath", "man 0 part 0: mail rings");
        changes("28 gives a part none", x -> x.setMail(0, 0, 0, true), "man 0: weight breath", "man 0 part 0: mail rings");
        changes("28 whether its rings are riveted", x -> x.setMail(0, 0, 3, false), "man 0 part 0: rings");
    }

    private static void bends() {
        changes("32 bends a joint on leathers", x -> x.bend(0, 0, 40), "man 0 joint 0: angle leather");
        changes("32 bends a joint on leathers that are worn out", x -> x.bend(2, 1, 40), "man 2 joint 1: angle");
        changes("32 bends a joint on rivets", x -> x.bend(0, 1, 40), "man 0 joint 1: angle");
        changes("32 bends a joint to where it is", x -> x.bend(0, 0, 15));
    }

    private static void blows() {
        changes("34 a blow that glances", x -> x.strike(0, 0, 'p', 60, 5000), "depth");
        changes("34 a blow of which nothing comes", x -> x.strike(0, 0, 'p', 0, 1), "depth");
        changes("34 a blow that dents", x -> x.strike(0, 0, 'p', 0, 300), "depth", "plate 0: d");
        changes("34 a blow that dents a plate, which binds then sooner", x -> x.strike(0, 1, 'p', 0, x.of(1, 'n')), "depth",
                "plate 1: d", "man 0 joint 0: reach");
        changes("34 a blow that makes a hole and a wound", x -> x.strike(0, 1, 's', 0, 1000), "man 0: wounds breath down",
                "plate 1: o n", "depth");
        changes("34 a blow on a part without a plate", x -> x.strike(0, 8, 'p', 0, 500), "man 0: wounds breath");
        changes("34 a blow that the mail takes", x -> x.strike(0, 8, 'p', 0, 20), "depth");
        changes("34 a blow that the cloth takes", x -> x.strike(0, 5, 'p', 0, 130), "depth");
    }

    private static void woundsAndDuels() {
        changes("37 heals a man", x -> x.heal(0), "man 0: wounds breath");
        changes("42 sets z", x -> x.seed(7), "z");
        changes("43 lets two men duel", x -> x.duel(1, 2, 'p', 'e', 50), "z", "plate 5: d",
                "man 2: wounds breath down");
    }

    private static void answersAlone() {
        changes("13", x -> x.state(SOFT));
        changes("14", x -> x.isProved(SOFT));
        for (char what : "thfrgdouwn".toCharArray()) {
            changes("15", x -> x.of(SOFT, what));
        }
        changes("21", x -> x.plateAt(0, 0));
        changes("25", x -> x.leather(0, 0));
        changes("29", x -> x.gap(0, 0, 150));
        changes("30", x -> x.binds(0, 0, 150));
        changes("31", x -> x.reach(0, 0));
        changes("33", x -> x.angle(0, 0));
        changes("35", PlateAndPoint::depth);
        changes("36", x -> x.wounds(0));
        changes("38", x -> x.weight(0));
        changes("39", x -> x.breath(0, 10));
        changes("41", x -> x.isMatched(0));
        changes("44", x -> x.isDown(0));
        changes("45", PlateAndPoint::checksum);
        changes("46", PlateAndPoint::provedShare);
        changes("47", PlateAndPoint::meanThickness);
        changes("48", PlateAndPoint::isSound);
    }
}
