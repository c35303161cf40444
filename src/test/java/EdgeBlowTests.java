/** The edges of promises 27, 28 and 34 to 39: cloth and mail, blows, their depth, wounds, weight and breath. */
public final class EdgeBlowTests {
    private static final String KINDS = "pehbs";
    private static final int[] GLANCING = {60, 45, 75, 65, 70};

    public static void main(String[] args) {
        p27NoneAtFirst();
        p27Layers();
        p28Gauges();
        p28RivetedOrNot();
        p34Kinds();
        p34Angles();
        p34Energies();
        p34PartBeforeKindAndRange();
        p34GlancesFrom();
        p34HalfOfTheRidgeCut();
        p34OnAPlateAlone();
        p34UnlessItCatches();
        p34ForceCut();
        p34BiteCut();
        p34BiteOfTheForceCut();
        p34DentsOfTheForceCut();
        p34BiteOfMoreThanItWithstands();
        p34OfAPlateThatWithstandsNothing();
        p34BiteGoesOnLessByThat();
        p34DentsCut();
        p34DentsUpToNinetyNine();
        p34HammerGoesOn();
        p34MailTakes();
        p34NoMail();
        p34ClothTakes();
        p34MailThenCloth();
        p34WoundOfATenth();
        p34EndsWith();
        p35NoBlowYet();
        p35DepthOfThePlate();
        p35DepthOfMailAndCloth();
        p35WhatIsNotThereIsNotCounted();
        p35NoughtIfItGlanced();
        p35OfTheLastBlow();
        p36Sum();
        p37Heals();
        p38OfEachPart();
        p38AtMost();
        p39Effort();
        p39BearsByTenCut();
        p39LayersSummed();
        p39LessByWounds();
        Due.end();
    }

    /** A man with plates that withstand 320 on the parts 0 and 1. */
    private static Run withPlates(String sentence) {
        return Run.of(sentence).men(1).plates(2)
                .with(x -> x.wear(0, 0, 0))
                .with(x -> x.wear(0, 1, 1));
    }

    private static void p27NoneAtFirst() {
        Run run = Run.of("27 each part has cloth and mail, none at first").men(3);
        for (int k = 0; k < 27; k++) {
            int number = k;
            run.is('w', x -> x.strike(number / 9, number % 9, 'p', 0, 1))
                    .is(0, PlateAndPoint::depth)
                    .is(0, x -> x.setCloth(number / 9, number % 9, 30))
                    .is(0, x -> x.setMail(number / 9, number % 9, 9, true));
        }
    }

    private static void p27Layers() {
        Run.of("27 layers: 0 to 30").men(3)
                .within(0, 30, (x, layers) -> x.setCloth(0, 0, layers))
                .within(0, 30, (x, layers) -> x.setCloth(2, 8, layers))
                .is(0, x -> x.setCloth(2, 8, 30))
                .is(30, x -> x.setCloth(2, 8, 0))
                .is(0, x -> x.setCloth(2, 8, 1))
                .is(1, x -> x.setCloth(2, 8, 1))
                .is(0, x -> x.setCloth(2, 7, 1))
                .is(0, x -> x.setCloth(1, 8, 1))
                .refuses(Due.INDEX, x -> x.setCloth(2, 9, 31))
                .refuses(Due.INDEX, x -> x.setCloth(3, 8, 31));
    }

    private static void p28Gauges() {
        for (int k = 0; k < 2; k++) {
            boolean isRiveted = k == 0;
            Run.of("28 gauge: 0 to 9").men(3)
                    .within(0, 9, (x, gauge) -> x.setMail(0, 0, gauge, isRiveted))
                    .within(0, 9, (x, gauge) -> x.setMail(2, 8, gauge, isRiveted))
                    .is(0, x -> x.setMail(2, 8, 9, isRiveted))
                    .is(9, x -> x.setMail(2, 8, 0, isRiveted))
                    .is(0, x -> x.setMail(2, 8, 1, isRiveted))
                    .is(1, x -> x.setMail(2, 8, 1, !isRiveted))
                    .is(0, x -> x.setMail(2, 7, 1, isRiveted))
                    .is(0, x -> x.setMail(1, 8, 1, isRiveted))
                    .refuses(Due.ARGUMENT, x -> x.setMail(2, 8, 10, isRiveted))
                    .refuses(Due.INDEX, x -> x.setMail(2, 9, 10, isRiveted))
                    .refuses(Due.INDEX, x -> x.setMail(3, 8, 10, isRiveted));
        }
    }

    private static void p28RivetedOrNot() {
        Run.of("28 whether its rings are riveted, also by the same gauge").men(1)
                .with(x -> x.setMail(0, 0, 9, true))
                .is('-', x -> x.strike(0, 0, 'p', 0, 486))
                .refuses(Due.ARGUMENT, x -> x.setMail(0, 0, 10, false))
                .refuses(Due.ARGUMENT, x -> x.setMail(0, 0, -1, false))
                .is(9, x -> x.setMail(0, 0, 9, false))
                .is('w', x -> x.strike(0, 0, 'p', 0, 163))
                .is('-', x -> x.strike(0, 0, 'p', 0, 162))
                .refuses(Due.ARGUMENT, x -> x.setMail(0, 0, 10, true))
                .is(9, x -> x.setMail(0, 0, 9, true))
                .is('-', x -> x.strike(0, 0, 'p', 0, 486))
                .is('w', x -> x.strike(0, 0, 'p', 0, 487));
    }

    private static void p34Kinds() {
        withPlates("34 kind: 'p', 'e', 'h', 'b' or 's'")
                .signs(KINDS, (x, kind) -> x.strike(0, 0, kind, 0, 100))
                .signs(KINDS, (x, kind) -> x.strike(0, 8, kind, 90, 5000));
    }

    private static void p34Angles() {
        for (char kind : KINDS.toCharArray()) {
            withPlates("34 angle: 0 straight to 90")
                    .within(0, 90, (x, angle) -> x.strike(0, 0, kind, angle, 5000))
                    .within(0, 90, (x, angle) -> x.strike(0, 8, kind, angle, 1));
        }
    }

    private static void p34Energies() {
        for (char kind : KINDS.toCharArray()) {
            withPlates("34 energy: 1 to 5000")
                    .within(1, 5000, (x, energy) -> x.strike(0, 0, kind, 0, energy))
                    .within(1, 5000, (x, energy) -> x.strike(0, 8, kind, 90, energy));
        }
    }

    private static void p34PartBeforeKindAndRange() {
        Run run = withPlates("34 no such man or part is listed before no such kind and out of range");
        for (int k = 0; k < 3; k++) {
            char kind = "pqp".charAt(k);
            int angle = k == 0 ? 91 : 0;
            int energy = k == 2 ? 0 : 5001;
            run.refuses(Due.INDEX, x -> x.strike(1, 0, kind, angle, energy))
                    .refuses(Due.INDEX, x -> x.strike(0, 9, kind, angle, energy))
                    .refuses(Due.INDEX, x -> x.strike(0, -1, kind, angle, energy))
                    .refuses(Due.ARGUMENT, x -> x.strike(0, 8, kind, angle, energy));
        }
    }

    private static void p34GlancesFrom() {
        for (int k = 0; k < 5; k++) {
            char kind = KINDS.charAt(k);
            int angle = GLANCING[k];
            withPlates("34 it glances, if the angle is at least " + angle + ", " + kind)
                    .is('-', x -> x.strike(0, 0, kind, angle - 1, 1))
                    .is('g', x -> x.strike(0, 0, kind, angle, 1))
                    .is('g', x -> x.strike(0, 0, kind, angle, 5000))
                    .is('g', x -> x.strike(0, 0, kind, 90, 5000))
                    .is('g', x -> x.strike(0, 1, kind, angle, 5000))
                    .is(0, x -> x.of(0, 'd')).is(0, x -> x.of(0, 'o')).is(0, x -> x.wounds(0));
            withPlates("34 it does not glance below that, " + kind)
                    .with(x -> x.strike(0, 0, kind, angle - 1, 5000))
                    .is(true, x -> x.of(0, 'd') + x.of(0, 'o') > 0);
        }
    }

    private static void p34HalfOfTheRidgeCut() {
        int[][] halves = {{1, 0}, {2, 1}, {19, 9}, {20, 10}};
        for (int[] half : halves) {
            for (int k = 0; k < 5; k++) {
                char kind = KINDS.charAt(k);
                int angle = GLANCING[k] - half[1];
                Run.of("34 the angle and half of the ridge, cut, ridge " + half[0] + ", " + kind).men(1).plates(1)
                        .with(x -> x.crease(0, half[0]))
                        .with(x -> x.wear(0, 0, 0))
                        .is('-', x -> x.strike(0, 0, kind, angle - 1, 1))
                        .is('g', x -> x.strike(0, 0, kind, angle, 1))
                        .is(false, x -> x.strike(0, 0, kind, 0, 5000) == 'g');
            }
        }
    }

    private static void p34OnAPlateAlone() {
        for (char kind : KINDS.toCharArray()) {
            withPlates("34 without a plate it does not glance, " + kind)
                    .is('-', x -> x.strike(0, 2, kind, 90, 5000))
                    // 5000 * 1 / 8100, and 5000 * 25 / 8100 is 15
                    .is('-', x -> x.strike(0, 2, kind, 89, 5000))
                    .is('w', x -> x.strike(0, 2, kind, 85, 5000))
                    .is('g', x -> x.strike(0, 1, kind, 90, 5000))
                    .with(x -> x.takeOff(0, 1))
                    .is('w', x -> x.strike(0, 1, kind, 85, 5000));
        }
    }

    private static void p34UnlessItCatches() {
        withPlates("34 unless it catches: the part above has a plate, too, and the order of the joint between both")
                .is('g', x -> x.strike(0, 1, 'p', 60, 5000))
                .is(true, x -> x.setOrder(0, 0, false))
                .is('g', x -> x.strike(0, 0, 'p', 60, 5000))
                .is('-', x -> x.strike(0, 1, 'p', 90, 5000))
                // 5000 * 900 / 8100 is 555, of which 320 are withstood
                .is('w', x -> x.strike(0, 1, 'p', 60, 5000))
                .is(24, x -> x.wounds(0))
                .with(x -> x.takeOff(0, 0))
                .is('g', x -> x.strike(0, 1, 'p', 60, 5000))
                .with(x -> x.wear(0, 0, 0))
                .is(false, x -> x.setOrder(0, 0, true))
                .is('g', x -> x.strike(0, 1, 'p', 60, 5000))
                .with(x -> x.setOrder(0, 1, false))
                .is('g', x -> x.strike(0, 1, 'p', 60, 5000));
        Run all = Run.of("34 of each joint the lower part").men(2).plates(9);
        for (int k = 0; k < 9; k++) {
            int part = k;
            all.with(x -> x.wear(1, part, part));
        }
        for (int k = 0; k < 8; k++) {
            int joint = k;
            all.with(x -> x.setOrder(1, joint, false))
                    .is('g', x -> x.strike(1, joint, 'p', 90, 1))
                    .is('-', x -> x.strike(1, joint + 1, 'p', 90, 1))
                    .with(x -> x.setOrder(1, joint, true));
        }
        all.is('g', x -> x.strike(1, 8, 'p', 90, 1));
    }

    /** On a part with nothing on it a point bites as its force, so that there is a wound if it is 1 or more. */
    private static void p34ForceCut() {
        // at 45 degrees the force is a fourth of the energy
        Run run = Run.of("34 the energy times the square of 90 less the angle, divided by 8100, cut").men(1)
                .is('w', x -> x.strike(0, 0, 'p', 0, 1))
                .is('-', x -> x.strike(0, 0, 'p', 45, 3))
                .is('w', x -> x.strike(0, 0, 'p', 45, 4))
                .is('-', x -> x.strike(0, 0, 'p', 1, 1))
                .is('w', x -> x.strike(0, 0, 'p', 1, 2))
                .is('-', x -> x.strike(0, 0, 'p', 89, 5000))
                // 4 * 2024 is 8096, and 4 * 2025 is 8100
                .is('-', x -> x.strike(0, 0, 'p', 88, 2024))
                .is('w', x -> x.strike(0, 0, 'p', 88, 2025))
                .is('-', x -> x.strike(0, 0, 'p', 90, 5000))
                .is(4, x -> x.wounds(0))
                .is(4, x -> x.heal(0));
        run.is('w', x -> x.strike(0, 0, 'p', 0, 5000)).is(501, x -> x.heal(0))
                // 5000 * 7921 / 8100 is 4889
                .is('w', x -> x.strike(0, 0, 'p', 1, 5000)).is(489, x -> x.heal(0))
                // 3611 * 900 / 8100 is 401.2
                .is('w', x -> x.strike(0, 0, 'p', 60, 3611)).is(41, x -> x.heal(0))
                // 3599 * 900 / 8100 is 399.9
                .is('w', x -> x.strike(0, 0, 'p', 60, 3599)).is(40, x -> x.heal(0));
    }

    private static void p34BiteCut() {
        // bites of 8, 8.8, 16.8, 7.8 and 7.5, which a layer of cloth takes whole, and of 9, 9.2, 17, 9.1 and 9
        int[][] forces = {{8, 9}, {22, 23}, {84, 85}, {6, 7}, {5, 6}};
        for (int k = 0; k < 5; k++) {
            char kind = KINDS.charAt(k);
            int last = forces[k][0];
            int first = forces[k][1];
            Run.of("34 its bite is the force times 100, 40, 20, 130 and 150, divided by 100, cut, " + kind).men(1)
                    .with(x -> x.setCloth(0, 0, 1))
                    .is('-', x -> x.strike(0, 0, kind, 0, last))
                    .is('w', x -> x.strike(0, 0, kind, 0, first))
                    .is(1, x -> x.wounds(0));
        }
        // an edge of 2 and a hammer of 4 bite 0.8
        Run.of("34 a bite of less than 1 is none").men(1)
                .is('-', x -> x.strike(0, 0, 'e', 0, 2))
                .is('w', x -> x.strike(0, 0, 'e', 0, 3))
                .is('-', x -> x.strike(0, 0, 'h', 0, 4))
                .is('w', x -> x.strike(0, 0, 'h', 0, 5));
        int[] wounds = {501, 201, 101, 651, 751};
        for (int k = 0; k < 5; k++) {
            char kind = KINDS.charAt(k);
            int wound = wounds[k];
            Run.of("34 its bite at most, " + kind).men(1)
                    .is('w', x -> x.strike(0, 0, kind, 0, 5000))
                    .is(wound, x -> x.wounds(0));
        }
    }

    /** At 30 degrees the force is 4 times the energy, divided by 9; at 36 it is 36 of 100. */
    private static void p34BiteOfTheForceCut() {
        Run.of("34 the bite is that of the force as it is cut").men(1)
                .with(x -> x.setCloth(0, 0, 1)).with(x -> x.setCloth(0, 1, 2))
                // an edge of 22.6 would bite 9, of 22 it bites 8
                .is('-', x -> x.strike(0, 0, 'e', 30, 51)).is('w', x -> x.strike(0, 0, 'e', 30, 52))
                // a bolt of 13.3 would bite 17, of 13 it bites 16
                .is('-', x -> x.strike(0, 1, 'b', 30, 30)).is('w', x -> x.strike(0, 1, 'b', 30, 32))
                // a shot of 11.5 would bite 17, of 11 it bites 16
                .is('-', x -> x.strike(0, 1, 's', 30, 26)).is('w', x -> x.strike(0, 1, 's', 30, 27))
                .is(3, x -> x.wounds(0));
        withPlates("34 and so on a plate")
                // an edge of 802.6 would bite 321, of 802 it bites 320
                .with(x -> x.strike(0, 0, 'e', 30, 1806)).is(0, x -> x.of(0, 'o'))
                .with(x -> x.strike(0, 0, 'e', 30, 1807)).is(1, x -> x.of(0, 'o'))
                // with a hole it withstands 288; a shot of 192.8 would bite 289, of 192 it bites 288
                .with(x -> x.strike(0, 0, 's', 30, 434)).is(1, x -> x.of(0, 'o'))
                .with(x -> x.strike(0, 0, 's', 30, 435)).is(2, x -> x.of(0, 'o'))
                // a bolt of 246.96 would bite 321, of 246 it bites 319
                .with(x -> x.strike(0, 1, 'b', 36, 686)).is(0, x -> x.of(1, 'o'))
                .with(x -> x.strike(0, 1, 'b', 36, 687)).is(1, x -> x.of(1, 'o'));
    }

    /** At 45 degrees the force is a fourth of the energy. */
    private static void p34DentsOfTheForceCut() {
        withPlates("34 the dents are those of the force as it is cut").with(x -> x.setCloth(0, 0, 30))
                // 322.5 in 321 would be 1, 320 are 0
                .is('-', x -> x.strike(0, 0, 'p', 45, 129)).is('d', x -> x.strike(0, 0, 'p', 45, 132))
                // 325 in 321 would be 1, 320 are 0
                .is('-', x -> x.strike(0, 0, 'h', 45, 65)).is('d', x -> x.strike(0, 0, 'h', 45, 68))
                .is(2, x -> x.of(0, 'd'));
    }

    private static void p34BiteOfMoreThanItWithstands() {
        // the greatest force that 320 withstand, and the next one: bites of 320, 320.8, 320.8, 319.8 and 319.5
        int[] forces = {320, 802, 1604, 246, 213};
        for (int k = 0; k < 5; k++) {
            char kind = KINDS.charAt(k);
            int force = forces[k];
            withPlates("34 if the bite is more than the plate withstands, the plate has a hole more, " + kind)
                    .with(x -> x.strike(0, 0, kind, 0, force))
                    .is(0, x -> x.of(0, 'o'))
                    .is(320, x -> x.of(0, 'n'))
                    .with(x -> x.strike(0, 0, kind, 0, force + 1))
                    .is(1, x -> x.of(0, 'o'))
                    .is(288, x -> x.of(0, 'n'))
                    .is(0, x -> x.of(1, 'o'));
        }
    }

    private static void p34OfAPlateThatWithstandsNothing() {
        String sentence = "34 a plate that withstands 0";
        Run run = Run.of(sentence).men(1).plates(1)
                .with(x -> x.days(999))
                .is(0, x -> x.of(0, 'n'))
                .with(x -> x.wear(0, 0, 0))
                .with(x -> x.setCloth(0, 0, 30));
        // an edge of 2 and a hammer of 4 bite 0: 10 * 2 / 1, and 20 * 4 / 1
        run.is('d', x -> x.strike(0, 0, 'e', 0, 2)).is(20, x -> x.of(0, 'd')).is(0, x -> x.of(0, 'o'))
                .is('d', x -> x.strike(0, 0, 'h', 0, 3)).is(80, x -> x.of(0, 'd'))
                .is('d', x -> x.strike(0, 0, 'h', 0, 4)).is(99, x -> x.of(0, 'd'))
                .is('x', x -> x.strike(0, 0, 'p', 0, 1)).is(1, x -> x.of(0, 'o'))
                .is('x', x -> x.strike(0, 0, 'e', 0, 3)).is(2, x -> x.of(0, 'o'))
                .is('x', x -> x.strike(0, 0, 'h', 0, 5)).is(3, x -> x.of(0, 'o'))
                .is('-', x -> x.strike(0, 0, 'p', 45, 3)).is(3, x -> x.of(0, 'o'));
        Run.of("34 0 at least, by its holes").men(1).plate(40, 0, 0, 5)
                .often(11, (x, k) -> x.prove(0))
                .is(0, x -> x.of(0, 'n'))
                .with(x -> x.wear(0, 0, 0))
                .is('w', x -> x.strike(0, 0, 'p', 0, 1))
                .is(12, x -> x.of(0, 'o'))
                .is(1, x -> x.wounds(0));
    }

    private static void p34BiteGoesOnLessByThat() {
        withPlates("34 and the bite goes on, less by that")
                .is('w', x -> x.strike(0, 0, 'p', 0, 329)).is(1, x -> x.heal(0))
                .is('w', x -> x.strike(0, 1, 'p', 0, 330)).is(2, x -> x.heal(0))
                // with a hole each they withstand 288; a hammer of 1490 bites 298
                .is('w', x -> x.strike(0, 0, 'h', 0, 1489)).is(1, x -> x.heal(0))
                .is('w', x -> x.strike(0, 1, 'h', 0, 1490)).is(2, x -> x.heal(0))
                .is(0, x -> x.of(0, 'd'));
    }

    private static void p34DentsCut() {
        // 320 and 330 in 321; 320 and 340 in 321
        withPlates("34 dents: 10 times the force, divided by 1 more than what it withstands, cut")
                .is('-', x -> x.strike(0, 0, 'p', 0, 32)).is(0, x -> x.of(0, 'd'))
                .is('d', x -> x.strike(0, 0, 'p', 0, 33)).is(1, x -> x.of(0, 'd'))
                .is('-', x -> x.strike(0, 0, 'e', 0, 32)).is('d', x -> x.strike(0, 0, 'e', 0, 33))
                .is('-', x -> x.strike(0, 0, 'b', 0, 32)).is('d', x -> x.strike(0, 0, 'b', 0, 33))
                .is('-', x -> x.strike(0, 0, 's', 0, 32)).is('d', x -> x.strike(0, 0, 's', 0, 33))
                .is(4, x -> x.of(0, 'd'))
                // 3200 in 321
                .is('d', x -> x.strike(0, 0, 'p', 0, 320)).is(13, x -> x.of(0, 'd'))
                // 6420 in 321, by its force, not by its bite
                .is('d', x -> x.strike(0, 0, 'e', 0, 642)).is(33, x -> x.of(0, 'd'))
                .is(0, x -> x.wounds(0));
        withPlates("34 twice that by a hammer").with(x -> x.setCloth(0, 0, 30))
                .is('-', x -> x.strike(0, 0, 'h', 0, 16)).is(0, x -> x.of(0, 'd'))
                .is('d', x -> x.strike(0, 0, 'h', 0, 17)).is(1, x -> x.of(0, 'd'))
                .is('d', x -> x.strike(0, 0, 'h', 0, 320)).is(20, x -> x.of(0, 'd'))
                .is('d', x -> x.strike(0, 0, 'h', 0, 321)).is(40, x -> x.of(0, 'd'));
    }

    private static void p34DentsUpToNinetyNine() {
        withPlates("34 dents, up to 99").with(x -> x.setCloth(0, 0, 30)).with(x -> x.setCloth(0, 1, 30))
                // 20 * 1573 is 98.006 times 321
                .is('d', x -> x.strike(0, 0, 'h', 0, 1573)).is(98, x -> x.of(0, 'd'))
                .is('-', x -> x.strike(0, 0, 'p', 0, 32)).is(98, x -> x.of(0, 'd'))
                .is('d', x -> x.strike(0, 0, 'p', 0, 33)).is(99, x -> x.of(0, 'd'))
                .is('-', x -> x.strike(0, 0, 'p', 0, 33)).is(99, x -> x.of(0, 'd'))
                .is('-', x -> x.strike(0, 0, 'h', 0, 1600)).is(99, x -> x.of(0, 'd'))
                .is('d', x -> x.strike(0, 1, 'h', 0, 1573)).is(98, x -> x.of(1, 'd'))
                .is('d', x -> x.strike(0, 1, 'p', 0, 65)).is(99, x -> x.of(1, 'd'))
                .is('x', x -> x.strike(0, 1, 'p', 0, 321)).is(99, x -> x.of(1, 'd'))
                .is(true, PlateAndPoint::isSound);
    }

    private static void p34HammerGoesOn() {
        withPlates("34 by a hammer a fourth of the force, cut, goes on")
                .is('-', x -> x.strike(0, 0, 'h', 0, 3)).is(0, x -> x.wounds(0))
                .is('w', x -> x.strike(0, 0, 'h', 0, 4)).is(1, x -> x.heal(0))
                .is('w', x -> x.strike(0, 0, 'h', 0, 39)).is(1, x -> x.heal(0))
                .is('w', x -> x.strike(0, 0, 'h', 0, 40)).is(2, x -> x.heal(0))
                .is('w', x -> x.strike(0, 0, 'h', 0, 1604)).is(41, x -> x.heal(0))
                .is(0, x -> x.of(0, 'o'))
                // a bite of 321, of which 1 goes on
                .is('w', x -> x.strike(0, 0, 'h', 0, 1605)).is(1, x -> x.heal(0))
                .is(1, x -> x.of(0, 'o'))
                .is('d', x -> x.strike(0, 1, 'p', 0, 320)).is(0, x -> x.wounds(0))
                .is('d', x -> x.strike(0, 1, 'e', 0, 800)).is(0, x -> x.wounds(0))
                .is('d', x -> x.strike(0, 1, 'b', 0, 246)).is(0, x -> x.wounds(0))
                .is('d', x -> x.strike(0, 1, 's', 0, 213)).is(0, x -> x.wounds(0));
    }

    /** The first force of a kind that is not taken whole by mail of a gauge. */
    private static void mail(int gauge, boolean isRiveted, char kind, int force) {
        Run.of("34 mail takes the square of its gauge times 6, or times 2, half as much more from an edge: "
                + gauge + isRiveted + kind).men(1)
                .with(x -> x.setMail(0, 0, gauge, isRiveted))
                .is('-', x -> x.strike(0, 0, kind, 0, force - 1))
                .is('w', x -> x.strike(0, 0, kind, 0, force))
                .is(1, x -> x.wounds(0));
    }

    private static void p34MailTakes() {
        // 6, and 9 of an edge
        mail(1, true, 'p', 7);
        mail(1, true, 'e', 25);
        mail(1, true, 'h', 35);
        mail(1, true, 'b', 6);
        mail(1, true, 's', 5);
        // 2, and 3 of an edge
        mail(1, false, 'p', 3);
        mail(1, false, 'e', 10);
        mail(1, false, 'h', 15);
        mail(1, false, 'b', 3);
        mail(1, false, 's', 2);
        // 486, and 729 of an edge
        mail(9, true, 'p', 487);
        mail(9, true, 'e', 1825);
        mail(9, true, 'h', 2435);
        mail(9, true, 'b', 375);
        mail(9, true, 's', 325);
        // 162, and 243 of an edge
        mail(9, false, 'p', 163);
        mail(9, false, 'e', 610);
        mail(9, false, 'h', 815);
        mail(9, false, 'b', 126);
        mail(9, false, 's', 109);
        // 24 and 8
        mail(2, true, 'p', 25);
        mail(2, false, 'p', 9);
    }

    private static void p34NoMail() {
        for (int k = 0; k < 2; k++) {
            boolean isRiveted = k == 0;
            Run.of("34 mail of a gauge, 0 for none").men(1)
                    .with(x -> x.setMail(0, 0, 0, isRiveted))
                    .is('w', x -> x.strike(0, 0, 'p', 0, 1))
                    .is(0, PlateAndPoint::depth)
                    .with(x -> x.setMail(0, 1, 9, true))
                    .is('w', x -> x.strike(0, 0, 'p', 0, 1));
        }
    }

    private static void cloth(int layers, char kind, int force) {
        Run.of("34 the cloth, which takes 8 for each layer, and twice that of a hammer: " + layers + kind).men(1)
                .with(x -> x.setCloth(0, 0, layers))
                .is('-', x -> x.strike(0, 0, kind, 0, force - 1))
                .is('w', x -> x.strike(0, 0, kind, 0, force))
                .is(1, x -> x.wounds(0));
    }

    private static void p34ClothTakes() {
        // bites of 9, and of 17 of a hammer
        cloth(1, 'p', 9);
        cloth(1, 'e', 23);
        cloth(1, 'h', 85);
        cloth(1, 'b', 7);
        cloth(1, 's', 6);
        // bites of 17, and of 33 of a hammer
        cloth(2, 'p', 17);
        cloth(2, 'h', 165);
        cloth(2, 'b', 14);
        cloth(2, 's', 12);
        // bites of 241, and of 481 of a hammer
        cloth(30, 'p', 241);
        cloth(30, 'e', 603);
        cloth(30, 'h', 2405);
        cloth(30, 'b', 186);
        cloth(30, 's', 161);
    }

    private static void p34MailThenCloth() {
        Run.of("34 if more is left, the cloth").men(1)
                .with(x -> x.setMail(0, 0, 2, true))
                .with(x -> x.setCloth(0, 0, 3))
                // 24 and 24; 36 and 24 of an edge; 24 and 48 of a hammer
                .is('-', x -> x.strike(0, 0, 'p', 0, 48)).is('w', x -> x.strike(0, 0, 'p', 0, 49))
                .is('-', x -> x.strike(0, 0, 'e', 0, 152)).is('w', x -> x.strike(0, 0, 'e', 0, 153))
                .is('-', x -> x.strike(0, 0, 'h', 0, 364)).is('w', x -> x.strike(0, 0, 'h', 0, 365))
                .is(3, x -> x.wounds(0));
        withPlates("34 behind a plate").with(x -> x.setMail(0, 0, 1, true)).with(x -> x.setCloth(0, 0, 1))
                .is('x', x -> x.strike(0, 0, 'p', 0, 320 + 6 + 8))
                .is('w', x -> x.strike(0, 0, 'p', 0, 288 + 6 + 8 + 1))
                .is(1, x -> x.wounds(0))
                // a fourth of 88 is 6 and 16
                .is('d', x -> x.strike(0, 0, 'h', 0, 91))
                .is('w', x -> x.strike(0, 0, 'h', 0, 92))
                .is(2, x -> x.wounds(0));
    }

    private static void p34WoundOfATenth() {
        int[][] wounds = {{1, 1}, {9, 1}, {10, 2}, {19, 2}, {20, 3}, {99, 10}, {100, 11}, {5000, 501}};
        for (int[] wound : wounds) {
            Run.of("34 what is left is a wound of a tenth of it, cut, and 1, of " + wound[0]).men(1)
                    .is('w', x -> x.strike(0, 4, 'p', 0, wound[0]))
                    .is(wound[1], x -> x.wounds(0));
        }
    }

    private static void p34EndsWith() {
        withPlates("34 a blow ends with 'g'; with 'w'; else with 'x'; else with 'd'; else with '-'")
                .with(x -> x.setOrder(0, 0, false))
                .is('g', x -> x.strike(0, 0, 'p', 60, 5000))
                // it catches, makes a hole, and wounds
                .is('w', x -> x.strike(0, 1, 'p', 60, 5000))
                .with(x -> x.setCloth(0, 0, 30))
                .is('x', x -> x.strike(0, 0, 'p', 0, 560))
                .is('w', x -> x.strike(0, 0, 'p', 0, 529))
                .is('d', x -> x.strike(0, 0, 'p', 0, 256))
                .is('-', x -> x.strike(0, 0, 'p', 0, 25))
                .is('-', x -> x.strike(0, 8, 'p', 90, 1))
                .is('w', x -> x.strike(0, 8, 'p', 0, 1));
    }

    private static void p35NoBlowYet() {
        withPlates("35 throws NoSuchElementException if there was none")
                .refuses(Due.NONE, PlateAndPoint::depth)
                .with(x -> x.takeOff(0, 0))
                .with(x -> x.prove(0))
                .refuses(Due.NONE, PlateAndPoint::depth)
                .refuses(Due.ARGUMENT, x -> x.strike(0, 0, 'p', 0, 5001))
                .refuses(Due.INDEX, x -> x.strike(0, 9, 'p', 0, 1))
                .refuses(Due.NONE, PlateAndPoint::depth)
                .is('-', x -> x.strike(0, 0, 'p', 90, 1))
                .is(0, PlateAndPoint::depth);
        Run.of("35 a blow that glanced is one").men(1).plates(1)
                .with(x -> x.wear(0, 0, 0))
                .refuses(Due.NONE, PlateAndPoint::depth)
                .is('g', x -> x.strike(0, 0, 'p', 90, 1))
                .is(0, PlateAndPoint::depth);
    }

    private static void p35DepthOfThePlate() {
        withPlates("35 a plate with a hole or hammered through")
                .is('d', x -> x.strike(0, 0, 'p', 0, 320)).is(0, PlateAndPoint::depth)
                .is('w', x -> x.strike(0, 0, 'p', 0, 321)).is(1, PlateAndPoint::depth)
                .is('d', x -> x.strike(0, 0, 'p', 0, 288)).is(0, PlateAndPoint::depth)
                .is('-', x -> x.strike(0, 1, 'h', 0, 3)).is(0, PlateAndPoint::depth)
                .is('w', x -> x.strike(0, 1, 'h', 0, 4)).is(1, PlateAndPoint::depth)
                .with(x -> x.setCloth(0, 0, 30))
                .is('x', x -> x.strike(0, 0, 'p', 0, 289)).is(1, PlateAndPoint::depth)
                .is('d', x -> x.strike(0, 0, 'h', 0, 100)).is(1, PlateAndPoint::depth);
    }

    private static void p35DepthOfMailAndCloth() {
        withPlates("35 mail of a gauge, cloth of a layer or more, if something was left behind it")
                .with(x -> x.setMail(0, 2, 1, true)).with(x -> x.setCloth(0, 2, 1))
                .is('-', x -> x.strike(0, 2, 'p', 0, 6)).is(0, PlateAndPoint::depth)
                .is('-', x -> x.strike(0, 2, 'p', 0, 7)).is(1, PlateAndPoint::depth)
                .is('-', x -> x.strike(0, 2, 'p', 0, 14)).is(1, PlateAndPoint::depth)
                .is('w', x -> x.strike(0, 2, 'p', 0, 15)).is(2, PlateAndPoint::depth)
                .with(x -> x.setMail(0, 0, 1, true)).with(x -> x.setCloth(0, 0, 1))
                .is('x', x -> x.strike(0, 0, 'p', 0, 326)).is(1, PlateAndPoint::depth)
                .is('x', x -> x.strike(0, 0, 'p', 0, 288 + 14)).is(2, PlateAndPoint::depth)
                .is('w', x -> x.strike(0, 0, 'p', 0, 256 + 15)).is(3, PlateAndPoint::depth)
                // with three holes it withstands 224; a fourth of 27, 28 and 92 is 6, 7 and 23
                .is('d', x -> x.strike(0, 0, 'h', 0, 27)).is(1, PlateAndPoint::depth)
                .is('d', x -> x.strike(0, 0, 'h', 0, 28)).is(2, PlateAndPoint::depth)
                .is('w', x -> x.strike(0, 0, 'h', 0, 92)).is(3, PlateAndPoint::depth);
    }

    private static void p35WhatIsNotThereIsNotCounted() {
        withPlates("35 one that is not there not counted")
                .is('w', x -> x.strike(0, 2, 'p', 0, 5000)).is(0, PlateAndPoint::depth)
                .with(x -> x.setCloth(0, 2, 1))
                .is('w', x -> x.strike(0, 2, 'p', 0, 5000)).is(1, PlateAndPoint::depth)
                .with(x -> x.setCloth(0, 2, 0)).with(x -> x.setMail(0, 2, 1, false))
                .is('w', x -> x.strike(0, 2, 'p', 0, 5000)).is(1, PlateAndPoint::depth)
                .is('w', x -> x.strike(0, 0, 'p', 0, 5000)).is(1, PlateAndPoint::depth)
                .with(x -> x.setMail(0, 0, 1, false))
                .is('w', x -> x.strike(0, 0, 'p', 0, 5000)).is(2, PlateAndPoint::depth)
                .with(x -> x.setMail(0, 0, 0, true)).with(x -> x.setCloth(0, 0, 1))
                .is('w', x -> x.strike(0, 0, 'p', 0, 5000)).is(2, PlateAndPoint::depth);
    }

    private static void p35NoughtIfItGlanced() {
        withPlates("35 0 if it glanced").with(x -> x.setMail(0, 0, 1, false)).with(x -> x.setCloth(0, 0, 1))
                .is('w', x -> x.strike(0, 0, 's', 0, 5000)).is(3, PlateAndPoint::depth)
                .is('g', x -> x.strike(0, 0, 's', 70, 5000)).is(0, PlateAndPoint::depth);
    }

    private static void p35OfTheLastBlow() {
        withPlates("35 returns the depth of the last blow")
                .with(x -> x.addMan())
                .is('w', x -> x.strike(0, 0, 'p', 0, 5000)).is(1, PlateAndPoint::depth)
                .refuses(Due.ARGUMENT, x -> x.strike(0, 2, 'p', 91, 1))
                .is(1, PlateAndPoint::depth)
                .with(x -> x.heal(0)).with(x -> x.takeOff(0, 0)).with(x -> x.prove(0))
                .is(1, PlateAndPoint::depth)
                .is('w', x -> x.strike(1, 2, 'p', 0, 1)).is(0, PlateAndPoint::depth);
    }

    private static void p36Sum() {
        Run.of("36 returns the sum").men(3)
                .is(0, x -> x.wounds(0))
                .with(x -> x.strike(0, 0, 'p', 0, 1)).is(1, x -> x.wounds(0))
                .with(x -> x.strike(0, 8, 'p', 0, 980)).is(100, x -> x.wounds(0))
                .with(x -> x.strike(0, 8, 's', 0, 5000)).is(851, x -> x.wounds(0))
                .is(0, x -> x.wounds(1)).is(0, x -> x.wounds(2))
                .with(x -> x.strike(2, 8, 'p', 0, 10)).is(2, x -> x.wounds(2));
        Run.of("36 of as many blows as an object is used for").men(1)
                .often(510, (x, k) -> x.strike(0, k % 9, 's', 0, 5000))
                .is(510 * 751, x -> x.wounds(0));
    }

    private static void p37Heals() {
        Run.of("37 returns the wounds before").men(3)
                .is(0, x -> x.heal(0))
                .with(x -> x.strike(0, 0, 'p', 0, 1)).with(x -> x.strike(2, 0, 'p', 0, 2000))
                .is(1, x -> x.heal(0)).is(0, x -> x.heal(0)).is(0, x -> x.wounds(0))
                .is(201, x -> x.wounds(2)).is(true, x -> x.isDown(2))
                .is(201, x -> x.heal(2)).is(0, x -> x.wounds(2)).is(false, x -> x.isDown(2));
    }

    private static void p38OfEachPart() {
        Run.of("38 for each part, its gauge times its size, and its layers times its size, divided by 10, cut").men(2)
                .is(0, x -> x.weight(0))
                .with(x -> x.setPart(0, 0, 29)).with(x -> x.setCloth(0, 0, 1)).is(2, x -> x.weight(0))
                .with(x -> x.setPart(0, 8, 25)).with(x -> x.setCloth(0, 8, 1)).is(4, x -> x.weight(0))
                .with(x -> x.setMail(0, 8, 1, true)).is(29, x -> x.weight(0))
                .with(x -> x.setMail(0, 8, 1, false)).is(29, x -> x.weight(0))
                .with(x -> x.setMail(0, 0, 9, false)).is(29 + 261, x -> x.weight(0))
                // 30 * 29 / 10
                .with(x -> x.setCloth(0, 0, 30)).is(29 + 261 + 87 - 2, x -> x.weight(0))
                .is(0, x -> x.weight(1));
    }

    private static void p38AtMost() {
        Run run = Run.of("38 a man bears that of his plates, at most").men(1);
        for (int k = 0; k < 9; k++) {
            int number = k;
            run.plate(99, 0, 0, 60)
                    .with(x -> x.draw(number, true, 30)).with(x -> x.draw(number, false, 30))
                    .with(x -> x.setPart(0, number, 99))
                    .with(x -> x.setMail(0, number, 9, true)).with(x -> x.setCloth(0, number, 30))
                    // 99 * 99 * 48 / 100 and 60 * 48 / 10, 9 * 99, 30 * 99 / 10
                    .is((4704 + 288 + 891 + 297) * (k + 1), x -> x.wear(0, number, number));
        }
        // 55620 / 10 * 10, and 5 * 270
        run.is(55620, x -> x.weight(0)).is(60000 / (50 + 55620 + 1350), x -> x.breath(0, 10))
                .is(60000 / (50 + 5562 + 1350), x -> x.breath(0, 1));
    }

    private static void p39Effort() {
        Run.of("39 effort: 1 to 10").men(3)
                .within(1, 10, (x, effort) -> x.breath(0, effort))
                .within(1, 10, (x, effort) -> x.breath(2, effort))
                .is(1200, x -> x.breath(2, 1))
                .is(1200, x -> x.breath(2, 10))
                .refuses(Due.INDEX, x -> x.breath(3, 0))
                .with(x -> x.setMail(2, 0, 1, false))
                // 40 / 10
                .is(60000 / 54, x -> x.breath(2, 1)).is(60000 / 58, x -> x.breath(2, 2))
                .is(60000 / 86, x -> x.breath(2, 9)).is(60000 / 90, x -> x.breath(2, 10));
    }

    private static void p39BearsByTenCut() {
        // plates of 2 weigh 9, 10 and 19
        int[][] sizes = {{22, 9, 0}, {23, 10, 1}, {31, 19, 1}, {32, 20, 2}};
        for (int[] size : sizes) {
            Run.of("39 what he bears divided by 10, cut, times the effort").men(1).plate(size[0], 0, 0, 5)
                    .with(x -> x.days(90))
                    .with(x -> x.setPart(0, 0, size[0]))
                    .is(size[1], x -> x.wear(0, 0, 0))
                    .is(60000 / (50 + size[2]), x -> x.breath(0, 1))
                    .is(60000 / (50 + 10 * size[2]), x -> x.breath(0, 10));
        }
    }

    private static void p39LayersSummed() {
        Run.of("39 and 5 for each layer of his cloth, summed, cut").men(1)
                .with(x -> x.setPart(0, 0, 20)).with(x -> x.setCloth(0, 0, 1))
                // he bears 2
                .is(60000 / 55, x -> x.breath(0, 10))
                .with(x -> x.setPart(0, 8, 20)).with(x -> x.setCloth(0, 8, 2))
                .is(60000 / 65, x -> x.breath(0, 10))
                .with(x -> x.setCloth(0, 8, 4))
                // 2 and 8
                .is(60000 / (50 + 10 + 25), x -> x.breath(0, 10));
    }

    private static void p39LessByWounds() {
        Run.of("39 less by his wounds, 0 at least").men(2)
                .with(x -> x.strike(0, 0, 'p', 0, 5000)).with(x -> x.strike(0, 0, 'p', 0, 5000))
                .is(198, x -> x.breath(0, 1))
                .with(x -> x.strike(0, 0, 'p', 0, 1960)).is(1199, x -> x.wounds(0))
                .is(1, x -> x.breath(0, 1)).is(1, x -> x.breath(0, 10))
                .with(x -> x.strike(0, 0, 'p', 0, 1)).is(1200, x -> x.wounds(0))
                .is(0, x -> x.breath(0, 1))
                .with(x -> x.strike(0, 0, 'p', 0, 1)).is(1201, x -> x.wounds(0))
                .is(0, x -> x.breath(0, 1)).is(0, x -> x.breath(0, 10))
                .is(1200, x -> x.breath(1, 1))
                .with(x -> x.heal(0)).is(1200, x -> x.breath(0, 1));
    }
}
