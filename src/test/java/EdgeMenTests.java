/** The edges of promises 1 to 4, and of what the document says of men. Each run names the sentence that it tests. */
public final class EdgeMenTests {
    public static void main(String[] args) {
        p1WithoutMenAndPlates();
        p1WhatIsThereAtFirst();
        p2AtMostThree();
        p2NumberedFromNought();
        p2NineParts();
        p2EightJoints();
        p2FortyAtFirst();
        p2NinetyAtFirst();
        p2AtNoughtDegreesAtFirst();
        p2JointBetweenTwoParts();
        p3Sizes();
        p3HalfOfTheSumCut();
        p3NoPlateIsWorn();
        p3SizeBeforePlate();
        p4Ranges();
        p4AtNoughtDegreesThen();
        p4RangeEndsTheReach();
        Due.end();
    }

    private static void p1WithoutMenAndPlates() {
        String sentence = "1 creates an armoury without men and plates";
        for (Run.NumberCall call : Numbered.BY_MAN) {
            Run.of(sentence).numbered(0, call);
        }
        for (Run.NumberCall call : Numbered.BY_PLATE) {
            Run.of(sentence).numbered(0, call);
        }
    }

    private static void p1WhatIsThereAtFirst() {
        Run.of("1 a new object").refuses(Due.NONE, PlateAndPoint::depth)
                .refuses(Due.ARITHMETIC, PlateAndPoint::provedShare)
                .refuses(Due.ARITHMETIC, PlateAndPoint::meanThickness)
                .is(7L * 31 + 1, PlateAndPoint::checksum)
                .is(true, PlateAndPoint::isSound)
                .is(0, x -> x.days(999))
                .is(1, x -> x.seed(1))
                .is(0, PlateAndPoint::addMan)
                .is(0, x -> x.makePlate(40, 0, 0, 20, 1));
    }

    private static void p2AtMostThree() {
        Run.of("2 throws IllegalStateException if there are 3")
                .is(0, PlateAndPoint::addMan)
                .is(1, PlateAndPoint::addMan)
                .takes(PlateAndPoint::addMan)
                .is(2, PlateAndPoint::addMan)
                .refuses(Due.STATE, PlateAndPoint::addMan)
                .with(x -> x.strike(2, 0, 'p', 0, 5000))
                .refuses(Due.STATE, PlateAndPoint::addMan);
    }

    private static void p2NumberedFromNought() {
        for (Run.NumberCall call : Numbered.BY_MAN) {
            for (int men = 1; men <= 3; men++) {
                Run.of("2 men are numbered from 0, with " + men).men(men).plates(1).numbered(men, call);
            }
        }
        Run two = Run.of("2 either of two men").men(2).plates(1);
        two.numbered(2, (x, man) -> x.wear(man, 0, 0));
        two.numbered(2, (x, man) -> x.exchange(man, 0, 0)).numbered(2, (x, man) -> x.exchange(0, man, 0));
        two.numbered(2, (x, man) -> x.exchange(man, 1, 8)).numbered(2, (x, man) -> x.exchange(1, man, 8));
        two.numbered(2, (x, man) -> x.duel(man, 0, 'p', 'p', 1)).numbered(2, (x, man) -> x.duel(0, man, 'p', 'p', 1));
        two.numbered(2, (x, man) -> x.duel(man, 1, 'q', 'p', 0)).numbered(2, (x, man) -> x.duel(1, man, 'p', 'q', 51));
    }

    private static void p2NineParts() {
        for (Run.NumberCall call : Numbered.BY_PART) {
            Run.of("2 each with 9 parts in a row, numbered from 0").men(2).plates(1).numbered(9, call);
        }
    }

    private static void p2EightJoints() {
        for (Run.NumberCall call : Numbered.BY_JOINT) {
            Run.of("2 and 8 joints").men(1).numbered(8, call);
        }
    }

    private static void p2FortyAtFirst() {
        Run run = Run.of("2 of sizes, 40 at first").men(3);
        for (int k = 0; k < 27; k++) {
            int number = k;
            run.is(40, x -> x.setPart(number / 9, number % 9, 20 + number));
        }
    }

    private static void p2NinetyAtFirst() {
        Run run = Run.of("2 each with a range, 90 at first").men(3);
        for (int k = 0; k < 24; k++) {
            int number = k;
            run.is(90, x -> x.reach(number / 8, number % 8));
            run.is(90, x -> x.setRange(number / 8, number % 8, 30));
        }
    }

    private static void p2AtNoughtDegreesAtFirst() {
        Run run = Run.of("2 at 0 degrees at first").men(3);
        for (int k = 0; k < 24; k++) {
            int number = k;
            run.is(0, x -> x.angle(number / 8, number % 8));
            run.is(0, x -> x.bend(number / 8, number % 8, 1));
        }
    }

    private static void p2JointBetweenTwoParts() {
        for (int k = 0; k < 9; k++) {
            int part = k;
            Run run = Run.of("2 the joint k between the parts k and k and 1, part " + k).men(2);
            run.is(40, x -> x.setPart(1, part, 60));
            for (int n = 0; n < 8; n++) {
                int joint = n;
                // at 57 degrees a joint opens by its size
                run.is(n == k || n == k - 1 ? 50 : 40, x -> x.gap(1, joint, 57));
                run.is(40, x -> x.gap(0, joint, 57));
            }
        }
    }

    private static void p3Sizes() {
        Run.of("3 size: 20 to 99").men(3)
                .within(20, 99, (x, size) -> x.setPart(0, 0, size))
                .within(20, 99, (x, size) -> x.setPart(2, 8, size))
                .is(40, x -> x.setPart(2, 8, 20))
                .is(20, x -> x.setPart(2, 8, 99))
                .is(99, x -> x.setPart(2, 8, 99))
                .is(99, x -> x.setPart(2, 8, 21))
                .is(40, x -> x.setPart(2, 7, 40))
                .is(40, x -> x.setPart(1, 8, 40));
    }

    private static void p3HalfOfTheSumCut() {
        // the sizes of both parts, and by how much the joint opens at 57 and at 150 degrees, where an uncut half shows
        int[][] sizes = {{20, 20, 20, 52}, {20, 21, 20, 52}, {21, 20, 20, 52}, {21, 21, 21, 55}, {98, 99, 98, 257},
            {99, 98, 98, 257}, {99, 99, 99, 260}};
        for (int[] size : sizes) {
            Run.of("3 the size of a joint is half of the sum of both parts, cut").men(1)
                    .with(x -> x.setPart(0, 3, size[0]))
                    .with(x -> x.setPart(0, 4, size[1]))
                    .is(size[2], x -> x.gap(0, 3, 57))
                    .is(size[3], x -> x.gap(0, 3, 150));
        }
        // at 150 degrees it opens by 155 with a size of 59, and closes by 77; of 59.5 it would be 156, and 78
        Run.of("3 and so it closes").men(1).plate(59, 0, 0, 20).plate(60, 0, 0, 20)
                .with(x -> x.setPart(0, 0, 59)).with(x -> x.setPart(0, 1, 60))
                .with(x -> x.wear(0, 0, 0)).with(x -> x.wear(0, 1, 1))
                // 18 is what three lames slide
                .with(x -> x.setLames(0, 0, 3, 'l')).with(x -> x.setRoom(0, 0, 59))
                .is(false, x -> x.binds(0, 0, 150))
                .with(x -> x.setRoom(0, 0, 58))
                .is(true, x -> x.binds(0, 0, 150));
    }

    private static void p3NoPlateIsWorn() {
        Run.of("3 throws UnsupportedOperationException if a plate is worn on it").men(2).plates(1)
                .is(320, x -> x.wear(0, 8, 0))
                .refuses(Due.UNSUPPORTED, x -> x.setPart(0, 8, 41))
                .refuses(Due.UNSUPPORTED, x -> x.setPart(0, 8, 40))
                .refuses(Due.UNSUPPORTED, x -> x.setPart(0, 8, 20))
                .refuses(Due.UNSUPPORTED, x -> x.setPart(0, 8, 99))
                .takes(x -> x.setPart(0, 7, 41))
                .takes(x -> x.setPart(1, 8, 41))
                .is(0, x -> x.takeOff(0, 8))
                .is(40, x -> x.setPart(0, 8, 41));
    }

    private static void p3SizeBeforePlate() {
        Run.of("3 out of range is listed before a plate that is worn").men(1).plates(1)
                .with(x -> x.wear(0, 0, 0))
                .refuses(Due.ARGUMENT, x -> x.setPart(0, 0, 19))
                .refuses(Due.ARGUMENT, x -> x.setPart(0, 0, 100))
                .refuses(Due.INDEX, x -> x.setPart(1, 0, 100))
                .refuses(Due.INDEX, x -> x.setPart(0, 9, 100));
    }

    private static void p4Ranges() {
        Run.of("4 range: 30 to 150").men(3)
                .within(30, 150, (x, range) -> x.setRange(0, 0, range))
                .within(30, 150, (x, range) -> x.setRange(2, 7, range))
                .is(90, x -> x.setRange(2, 7, 150))
                .is(150, x -> x.setRange(2, 7, 30))
                .is(30, x -> x.setRange(2, 7, 30))
                .is(90, x -> x.setRange(2, 6, 90))
                .is(90, x -> x.setRange(1, 7, 90));
    }

    private static void p4AtNoughtDegreesThen() {
        Run.of("4 sets the range of a joint, which is at 0 degrees then").men(1)
                .with(x -> x.setLames(0, 3, 1, 'l'))
                .with(x -> x.bend(0, 3, 90))
                .with(x -> x.bend(0, 4, 80))
                .refuses(Due.ARGUMENT, x -> x.setRange(0, 3, 151))
                .is(90, x -> x.setRange(0, 3, 90))
                .is(0, x -> x.angle(0, 3))
                .is(1, x -> x.leather(0, 3))
                .is(80, x -> x.angle(0, 4))
                .is(0, x -> x.bend(0, 3, 31))
                .is(90, x -> x.setRange(0, 3, 30))
                .is(0, x -> x.bend(0, 3, 30))
                .is(30, x -> x.setRange(0, 3, 150))
                .is(0, x -> x.angle(0, 3))
                .is(true, PlateAndPoint::isSound);
    }

    private static void p4RangeEndsTheReach() {
        Run run = Run.of("4 a joint bends up to its range, and no further").men(1);
        for (int range : new int[] {30, 31, 89, 149, 150}) {
            run.with(x -> x.setRange(0, 7, range))
                    .is(range, x -> x.reach(0, 7))
                    .takes(x -> x.bend(0, 7, range))
                    .refuses(range == 150 ? Due.ARGUMENT : Due.UNSUPPORTED, x -> x.bend(0, 7, range + 1));
        }
    }
}
