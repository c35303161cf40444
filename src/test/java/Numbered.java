import java.util.List;

/**
 * The calls of the face by what they take a number of, each with the rest of its arguments right and, where one can be
 * wrong, wrong as well: without such a man, part, joint or plate both are due to throw the same.
 */
final class Numbered {
    private Numbered() {
    }

    static final List<Run.NumberCall> BY_MAN = List.of(
            (x, man) -> x.setPart(man, 0, 40),
            (x, man) -> x.setPart(man, 0, 19),
            (x, man) -> x.setRange(man, 0, 90),
            (x, man) -> x.setRange(man, 0, 151),
            (x, man) -> x.takeOff(man, 0),
            (x, man) -> x.plateAt(man, 0),
            (x, man) -> x.setLames(man, 0, 1, 'l'),
            (x, man) -> x.setLames(man, 0, 1, 'q'),
            (x, man) -> x.setLames(man, 0, 5, 'l'),
            (x, man) -> x.setRoom(man, 0, 1),
            (x, man) -> x.setRoom(man, 0, 61),
            (x, man) -> x.setOrder(man, 0, false),
            (x, man) -> x.leather(man, 0),
            (x, man) -> x.mend(man, 0),
            (x, man) -> x.setCloth(man, 0, 1),
            (x, man) -> x.setCloth(man, 0, 31),
            (x, man) -> x.setMail(man, 0, 1, true),
            (x, man) -> x.setMail(man, 0, 10, true),
            (x, man) -> x.gap(man, 0, 90),
            (x, man) -> x.gap(man, 0, 151),
            (x, man) -> x.binds(man, 0, 90),
            (x, man) -> x.binds(man, 0, 151),
            (x, man) -> x.reach(man, 0),
            (x, man) -> x.bend(man, 0, 1),
            (x, man) -> x.bend(man, 0, 150),
            (x, man) -> x.bend(man, 0, 151),
            (x, man) -> x.angle(man, 0),
            (x, man) -> x.strike(man, 0, 'p', 0, 1),
            (x, man) -> x.strike(man, 0, 'q', 91, 0),
            (x, man) -> x.wounds(man),
            (x, man) -> x.heal(man),
            (x, man) -> x.weight(man),
            (x, man) -> x.breath(man, 1),
            (x, man) -> x.breath(man, 11),
            (x, man) -> x.exchange(man, man, 0),
            (x, man) -> x.isMatched(man),
            (x, man) -> x.duel(man, man, 'p', 'p', 1),
            (x, man) -> x.duel(man, man, 'q', 'q', 51),
            (x, man) -> x.isDown(man));

    /** For the man 0 of two men, as calls of a part. */
    static final List<Run.NumberCall> BY_PART = List.of(
            (x, part) -> x.setPart(0, part, 40),
            (x, part) -> x.setPart(0, part, 100),
            (x, part) -> x.wear(0, part, 0),
            (x, part) -> x.takeOff(0, part),
            (x, part) -> x.plateAt(0, part),
            (x, part) -> x.setCloth(0, part, 1),
            (x, part) -> x.setCloth(0, part, -1),
            (x, part) -> x.setMail(0, part, 1, true),
            (x, part) -> x.setMail(0, part, -1, true),
            (x, part) -> x.strike(0, part, 'p', 0, 1),
            (x, part) -> x.strike(0, part, 'q', -1, 5001),
            (x, part) -> x.exchange(0, 1, part),
            (x, part) -> x.exchange(0, 0, part));

    static final List<Run.NumberCall> BY_JOINT = List.of(
            (x, joint) -> x.setRange(0, joint, 90),
            (x, joint) -> x.setRange(0, joint, 29),
            (x, joint) -> x.setLames(0, joint, 1, 'l'),
            (x, joint) -> x.setLames(0, joint, -1, 'l'),
            (x, joint) -> x.setLames(0, joint, 1, 'q'),
            (x, joint) -> x.setRoom(0, joint, 1),
            (x, joint) -> x.setRoom(0, joint, -1),
            (x, joint) -> x.setOrder(0, joint, false),
            (x, joint) -> x.leather(0, joint),
            (x, joint) -> x.mend(0, joint),
            (x, joint) -> x.gap(0, joint, 90),
            (x, joint) -> x.gap(0, joint, -1),
            (x, joint) -> x.binds(0, joint, 90),
            (x, joint) -> x.binds(0, joint, -1),
            (x, joint) -> x.reach(0, joint),
            (x, joint) -> x.bend(0, joint, 1),
            (x, joint) -> x.bend(0, joint, 150),
            (x, joint) -> x.bend(0, joint, -1),
            (x, joint) -> x.angle(0, joint));

    static final List<Run.NumberCall> BY_PLATE = List.of(
            (x, plate) -> x.draw(plate, true, 1),
            (x, plate) -> x.draw(plate, true, 0),
            (x, plate) -> x.draw(plate, false, 31),
            (x, plate) -> x.thin(plate, 1),
            (x, plate) -> x.thin(plate, 21),
            (x, plate) -> x.crease(plate, 1),
            (x, plate) -> x.crease(plate, 21),
            (x, plate) -> x.quench(plate, 800, 'o'),
            (x, plate) -> x.quench(plate, 800, 'q'),
            (x, plate) -> x.quench(plate, 599, 'o'),
            (x, plate) -> x.temper(plate, 300),
            (x, plate) -> x.temper(plate, 601),
            (x, plate) -> x.gild(plate),
            (x, plate) -> x.prove(plate),
            (x, plate) -> x.state(plate),
            (x, plate) -> x.isProved(plate),
            (x, plate) -> x.of(plate, 't'),
            (x, plate) -> x.of(plate, 'q'),
            (x, plate) -> x.planish(plate),
            (x, plate) -> x.oil(plate));
}
