/** The edges of promises 9 to 12 and 18, and of what the document says of heat, proofs and rust. */
public final class EdgeSteelTests {
    public static void main(String[] args) {
        p9Degrees();
        p9Baths();
        p9FromSevenHundredFiftyOn();
        p9Hardness();
        p9NoLessThanWhenSoft();
        p9Cracks();
        p9CrackedIsNeverTreated();
        p9NotSoftOrWorn();
        p10Degrees();
        p10LessByCut();
        p10SoftCrackedOrWorn();
        p11Answers();
        p11CrackedOrWorn();
        p12Withstood();
        p12NotWithstood();
        p12CrackedOrWorn();
        p12NothingElseEndsAProof();
        p12WithstandsCut();
        p12LessForEachHole();
        p18Days();
        p18WithThirtyItIsNoughtAgain();
        p18DownToOne();
        p18OnAllPlates();
        Due.end();
    }

    private static void p9Degrees() {
        Run.of("9 degrees: 600 to 1100").plate(40, 20, 4, 20)
                .within(600, 1100, (x, degrees) -> x.quench(0, degrees, 'w'))
                .within(600, 1100, (x, degrees) -> x.quench(0, degrees, 'o'));
    }

    private static void p9Baths() {
        Run.of("9 bath: 'w' or 'o'").plate(40, 20, 4, 20)
                .signs("wo", (x, bath) -> x.quench(0, 800, bath))
                .signs("wo", (x, bath) -> x.quench(0, 600, bath));
    }

    private static void p9FromSevenHundredFiftyOn() {
        for (char bath : "wo".toCharArray()) {
            Run.of("9 quenched from 750 degrees on; below 750 nothing comes of it").plate(40, 20, 4, 20)
                    .is('s', x -> x.quench(0, 600, bath))
                    .is('s', x -> x.quench(0, 749, bath))
                    .is(86, x -> x.of(0, 'h'))
                    .is('h', x -> x.quench(0, 750, bath))
                    .is(bath == 'w' ? 152 : 132, x -> x.of(0, 'h'))
                    .is(true, x -> x.gild(0))
                    .is('h', x -> x.quench(0, 1100, bath))
                    .is(bath == 'w' ? 152 : 132, x -> x.of(0, 'h'));
        }
    }

    private static void hard(String sentence, int carbon, int slag, char bath, int due) {
        Run.of(sentence + ", carbon " + carbon + ", slag " + slag).plate(40, carbon, slag, 20)
                .is('h', x -> x.quench(0, 750, bath))
                .is('h', x -> x.state(0))
                .is(due, x -> x.of(0, 'h'));
    }

    private static void p9Hardness() {
        hard("9 of a hardness of 80 and 4 times its carbon in water, less twice its slag", 0, 0, 'w', 80);
        hard("9 of a hardness of 80 and 4 times its carbon in water, less twice its slag", 1, 0, 'w', 84);
        hard("9 of a hardness of 80 and 4 times its carbon in water, less twice its slag", 70, 0, 'w', 360);
        hard("9 of a hardness of 80 and 4 times its carbon in water, less twice its slag", 30, 20, 'w', 160);
        hard("9 3 times in oil", 0, 0, 'o', 80);
        hard("9 3 times in oil", 1, 0, 'o', 83);
        hard("9 3 times in oil", 90, 0, 'o', 350);
        hard("9 3 times in oil", 90, 20, 'o', 310);
    }

    private static void p9NoLessThanWhenSoft() {
        // soft it is 80 less its slag, so that in water it would be 1 more, as much, and 1 less
        hard("9 but no less than when soft, water", 1, 3, 'w', 78);
        hard("9 but no less than when soft, water", 1, 4, 'w', 76);
        hard("9 but no less than when soft, water", 1, 5, 'w', 75);
        hard("9 but no less than when soft, water", 0, 20, 'w', 60);
        hard("9 but no less than when soft, oil", 1, 2, 'o', 79);
        hard("9 but no less than when soft, oil", 1, 3, 'o', 77);
        hard("9 but no less than when soft, oil", 1, 4, 'o', 76);
        hard("9 but no less than when soft, oil", 0, 20, 'o', 60);
    }

    private static void p9Cracks() {
        int[][] whole = {{70, 0}, {68, 1}, {30, 20}, {0, 20}, {69, 0}};
        for (int[] made : whole) {
            Run.of("9 it does not crack with 70").plate(40, made[0], made[1], 20)
                    .is('h', x -> x.quench(0, 1100, 'w'));
        }
        int[][] broken = {{71, 0}, {69, 1}, {31, 20}, {90, 0}, {90, 20}};
        for (int[] made : broken) {
            Run.of("9 in water it cracks, if its carbon and twice its slag are above 70")
                    .plate(40, made[0], made[1], 20)
                    .is('s', x -> x.quench(0, 749, 'w'))
                    .takes(x -> x.gild(0))
                    .is('x', x -> x.quench(0, 750, 'w'))
                    .is('x', x -> x.state(0))
                    .is(0, x -> x.of(0, 'h'));
            Run.of("9 in oil it does not").plate(40, made[0], made[1], 20).is('h', x -> x.quench(0, 1100, 'o'));
        }
    }

    private static void p9CrackedIsNeverTreated() {
        Run.of("9 then it is never worked, treated or worn any more").men(1).cracked(0)
                .refuses(Due.UNSUPPORTED, x -> x.draw(0, true, 1))
                .refuses(Due.UNSUPPORTED, x -> x.thin(0, 1))
                .refuses(Due.UNSUPPORTED, x -> x.crease(0, 1))
                .refuses(Due.UNSUPPORTED, x -> x.quench(0, 600, 'w'))
                .refuses(Due.UNSUPPORTED, x -> x.quench(0, 1100, 'o'))
                .refuses(Due.UNSUPPORTED, x -> x.temper(0, 600))
                .refuses(Due.UNSUPPORTED, x -> x.gild(0))
                .refuses(Due.UNSUPPORTED, x -> x.prove(0))
                .refuses(Due.UNSUPPORTED, x -> x.planish(0))
                .refuses(Due.UNSUPPORTED, x -> x.wear(0, 0, 0))
                .with(x -> x.days(30))
                .is(19, x -> x.of(0, 't'))
                .refuses(Due.UNSUPPORTED, x -> x.gild(0))
                .takes(x -> x.oil(0));
    }

    private static void p9NotSoftOrWorn() {
        Run run = Run.of("9 throws UnsupportedOperationException if it is not soft, or worn").men(1)
                .plate(40, 20, 4, 20).plate(40, 20, 4, 20).plate(40, 20, 4, 20).cracked(3)
                .with(x -> x.quench(0, 800, 'o'))
                .with(x -> x.quench(1, 800, 'o'))
                .with(x -> x.temper(1, 100))
                .with(x -> x.wear(0, 0, 2));
        for (int k = 0; k < 4; k++) {
            int plate = k;
            run.refuses(Due.UNSUPPORTED, x -> x.quench(plate, 600, 'w'))
                    .refuses(Due.UNSUPPORTED, x -> x.quench(plate, 1100, 'o'))
                    .refuses(Due.ARGUMENT, x -> x.quench(plate, 599, 'o'))
                    .refuses(Due.ARGUMENT, x -> x.quench(plate, 1101, 'o'))
                    .refuses(Due.ARGUMENT, x -> x.quench(plate, 800, 'q'));
        }
        run.refuses(Due.INDEX, x -> x.quench(4, 599, 'o')).refuses(Due.INDEX, x -> x.quench(4, 800, 'q'))
                .with(x -> x.takeOff(0, 0))
                .takes(x -> x.quench(2, 800, 'w'))
                .with(x -> x.gild(1))
                .takes(x -> x.quench(1, 800, 'w'));
    }

    private static Run hardened(String sentence) {
        return Run.of(sentence).plate(40, 20, 4, 20).is('h', x -> x.quench(0, 800, 'o'));
    }

    private static void p10Degrees() {
        hardened("10 degrees: 100 to 600").within(100, 600, (x, degrees) -> x.temper(0, degrees));
        hardened("10 degrees: 100 to 600, tempered before").is(128, x -> x.temper(0, 100))
                .within(100, 600, (x, degrees) -> x.temper(0, degrees));
    }

    private static void p10LessByCut() {
        // 132 is 46 more than when soft
        hardened("10 less by what it has more than when soft, times the degrees, divided by 1000, cut")
                .takes(x -> x.temper(0, 600))
                .is(119, x -> x.temper(0, 300))
                .is(119, x -> x.of(0, 'h'))
                // 33 times 600 is 19800
                .is(100, x -> x.temper(0, 600))
                // 14 times 100 is 1400
                .is(99, x -> x.temper(0, 100));
        Run.of("10 divided by 1000, cut").plate(40, 4, 0, 20)
                .is('h', x -> x.quench(0, 800, 'o'))
                // 92 is 10 more than when soft: just 1
                .is(91, x -> x.temper(0, 100))
                // 9 more: 0.999
                .is(91, x -> x.temper(0, 111))
                // 9 more: 1.008
                .is(90, x -> x.temper(0, 112));
        Run.of("10 by 199 of 10").plate(40, 4, 0, 20).with(x -> x.quench(0, 800, 'o')).is(91, x -> x.temper(0, 199));
        Run.of("10 by 200 of 10").plate(40, 4, 0, 20).with(x -> x.quench(0, 800, 'o')).is(90, x -> x.temper(0, 200));
        Run.of("10 nothing of nothing").plate(40, 0, 20, 20)
                .is('h', x -> x.quench(0, 800, 'w'))
                .is(60, x -> x.temper(0, 600))
                .is('t', x -> x.state(0));
        Run.of("10 never less than when soft").plate(40, 70, 0, 20)
                .with(x -> x.quench(0, 800, 'w'))
                .often(30, (x, k) -> x.temper(0, 600))
                // where 1 more is left, 600 takes 0 of it
                .is(116, x -> x.of(0, 'h'));
    }

    private static void p10SoftCrackedOrWorn() {
        Run run = Run.of("10 throws UnsupportedOperationException if it is soft, cracked or worn").men(1)
                .plate(40, 20, 4, 20).plate(40, 20, 4, 20).cracked(2)
                .with(x -> x.quench(1, 800, 'o'))
                .with(x -> x.wear(0, 0, 1));
        for (int k = 0; k < 3; k++) {
            int plate = k;
            run.refuses(Due.UNSUPPORTED, x -> x.temper(plate, 100))
                    .refuses(Due.UNSUPPORTED, x -> x.temper(plate, 600))
                    .refuses(Due.ARGUMENT, x -> x.temper(plate, 99))
                    .refuses(Due.ARGUMENT, x -> x.temper(plate, 601));
        }
        run.refuses(Due.INDEX, x -> x.temper(3, 99))
                .with(x -> x.takeOff(0, 0))
                .is(119, x -> x.temper(1, 300))
                .is(true, x -> x.gild(1))
                .refuses(Due.UNSUPPORTED, x -> x.temper(1, 300));
    }

    private static void p11Answers() {
        hardened("11 returns whether it was not soft; gilded, it is soft again")
                .is(true, x -> x.gild(0))
                .is('s', x -> x.state(0))
                .is(86, x -> x.of(0, 'h'))
                .is(false, x -> x.gild(0))
                .is('s', x -> x.state(0))
                .is('h', x -> x.quench(0, 750, 'w'))
                .with(x -> x.temper(0, 100))
                .is(true, x -> x.gild(0))
                .is(86, x -> x.of(0, 'h'))
                .is(false, x -> x.gild(0));
    }

    private static void p11CrackedOrWorn() {
        Run.of("11 throws UnsupportedOperationException if it is cracked or worn").men(1).cracked(0)
                .plate(40, 20, 4, 20).plate(40, 0, 0, 60)
                .with(x -> x.quench(1, 800, 'o'))
                .with(x -> x.wear(0, 0, 1))
                .with(x -> x.prove(2))
                .refuses(Due.UNSUPPORTED, x -> x.gild(0))
                .refuses(Due.UNSUPPORTED, x -> x.gild(1))
                .refuses(Due.INDEX, x -> x.gild(3))
                .is(false, x -> x.gild(2))
                .is(true, x -> x.isProved(2))
                .with(x -> x.takeOff(0, 0))
                .is(true, x -> x.gild(1));
    }

    /** A plate 0 that withstands 520, as much as the proof bites: 20 * 20 * 125 * 104 / 10000. */
    private static Run withstanding520(String sentence) {
        return Run.of(sentence).plate(40, 90, 0, 20).with(x -> x.crease(0, 2)).is(520, x -> x.of(0, 'n'));
    }

    private static void p12Withstood() {
        withstanding520("12 a straight bolt of 400: withstood, it is proved")
                .is(true, x -> x.prove(0))
                .is(true, x -> x.isProved(0))
                .is(0, x -> x.of(0, 'o'))
                .is(0, x -> x.of(0, 'd'))
                .is(true, x -> x.prove(0))
                .is(520, x -> x.of(0, 'n'));
    }

    private static void p12NotWithstood() {
        // 20 * 20 * 114 * 114 / 10000 is 519.84
        Run.of("12 else it has a hole more, and is not proved").plate(40, 68, 0, 20)
                .with(x -> x.crease(0, 7))
                .is(519, x -> x.of(0, 'n'))
                .is(false, x -> x.prove(0))
                .is(false, x -> x.isProved(0))
                .is(1, x -> x.of(0, 'o'))
                .is(0, x -> x.of(0, 'd'))
                .is(468, x -> x.of(0, 'n'))
                .is(false, x -> x.prove(0))
                .is(2, x -> x.of(0, 'o'));
        Run.of("12 which leaves no dents, and takes none out").men(1).plate(40, 90, 0, 20)
                .with(x -> x.wear(0, 0, 0))
                // it withstands 500: 20 * 260 / 501
                .with(x -> x.strike(0, 0, 'h', 0, 260))
                .with(x -> x.takeOff(0, 0))
                .is(false, x -> x.prove(0))
                .is(10, x -> x.of(0, 'd'));
        withstanding520("12 a proof that is not withstood ends one that was").with(x -> x.prove(0))
                .with(x -> x.days(30))
                .is(true, x -> x.isProved(0))
                .is(false, x -> x.prove(0))
                .is(false, x -> x.isProved(0))
                .is(18, x -> x.thin(0, 1));
    }

    private static void p12CrackedOrWorn() {
        Run.of("12 throws UnsupportedOperationException if it is cracked or worn").men(1).cracked(0)
                .plate(40, 0, 0, 60)
                .with(x -> x.wear(0, 0, 1))
                .refuses(Due.UNSUPPORTED, x -> x.prove(0))
                .refuses(Due.UNSUPPORTED, x -> x.prove(1))
                .refuses(Due.INDEX, x -> x.prove(2))
                .with(x -> x.takeOff(0, 0))
                .is(true, x -> x.prove(1))
                .with(x -> x.wear(0, 0, 1))
                .refuses(Due.UNSUPPORTED, x -> x.prove(1));
    }

    private static void p12NothingElseEndsAProof() {
        Run.of("12 nothing but that ends a proof, cracking neither").men(2).plate(40, 71, 0, 60).plate(40, 0, 0, 20)
                .is(true, x -> x.prove(0))
                .with(x -> x.crease(0, 5)).is(true, x -> x.isProved(0))
                .with(x -> x.quench(0, 800, 'o')).is(true, x -> x.isProved(0))
                .with(x -> x.temper(0, 300)).is(true, x -> x.isProved(0))
                .with(x -> x.gild(0)).is(true, x -> x.isProved(0))
                .with(x -> x.wear(0, 0, 0)).is(true, x -> x.isProved(0))
                .with(x -> x.strike(0, 0, 'h', 0, 5000)).is(true, x -> x.isProved(0))
                .with(x -> x.strike(0, 0, 's', 0, 5000)).is(true, x -> x.isProved(0))
                .is(1, x -> x.of(0, 'o'))
                .with(x -> x.wear(1, 0, 1))
                .with(x -> x.exchange(0, 1, 0)).is(true, x -> x.isProved(0)).is(false, x -> x.isProved(1))
                .with(x -> x.takeOff(1, 0)).is(true, x -> x.isProved(0))
                .with(x -> x.planish(0)).is(true, x -> x.isProved(0))
                .with(x -> x.oil(0)).is(true, x -> x.isProved(0))
                .with(x -> x.days(999)).is(true, x -> x.isProved(0))
                .refuses(Due.UNSUPPORTED, x -> x.thin(0, 1))
                .is('x', x -> x.quench(0, 800, 'w')).is(true, x -> x.isProved(0));
    }

    private static void p12WithstandsCut() {
        // a thickness of 5 and a hardness of 60 are 15 without a ridge
        int[][] ridges = {{1, 15}, {3, 15}, {4, 16}, {20, 21}};
        for (int[] ridge : ridges) {
            Run.of("12 times 100 and twice its ridge, divided by 10000, cut").plate(40, 0, 20, 5)
                    .is(15, x -> x.of(0, 'n'))
                    .with(x -> x.crease(0, ridge[0]))
                    .is(ridge[1], x -> x.of(0, 'n'));
        }
        Run.of("12 what a plate withstands, at most").plate(99, 70, 0, 60)
                .with(x -> x.quench(0, 1100, 'w'))
                .with(x -> x.crease(0, 20))
                .is(18144, x -> x.of(0, 'n'));
        Run.of("12 what a plate withstands, at least").plate(40, 0, 20, 5)
                .with(x -> x.days(60)).is(5, x -> x.of(0, 'n'))
                .with(x -> x.days(30)).is(2, x -> x.of(0, 'n'))
                .with(x -> x.days(30)).is(0, x -> x.of(0, 'n'));
    }

    private static void holes(String sentence, int slag, int thickness, int rusted, int[] due) {
        Run run = Run.of(sentence).plate(40, 0, slag, thickness);
        if (rusted > 0) {
            run.with(x -> x.days(30 * rusted));
        }
        for (int k = 0; k < due.length; k++) {
            run.is(k, x -> x.of(0, 'o')).is(due[k], x -> x.of(0, 'n')).with(x -> x.prove(0));
        }
    }

    private static void p12LessForEachHole() {
        String sentence = "12 less, for each hole, by a tenth of that, cut, as it is without holes, 0 at least";
        holes(sentence, 0, 5, 0, new int[] {20, 18, 16, 14, 12, 10, 8, 6, 4, 2, 0, 0, 0});
        holes(sentence, 0, 9, 0, new int[] {64, 58, 52, 46, 40, 34, 28, 22, 16, 10, 4, 0, 0});
        holes(sentence, 20, 5, 0, new int[] {15, 14, 13, 12, 11, 10, 9, 8, 7, 6, 5, 4, 3, 2, 1, 0, 0});
        // 4 * 4 * 60 / 100 is 9, a tenth of which is 0
        holes(sentence, 20, 5, 1, new int[] {9, 9, 9});
        holes(sentence, 20, 5, 4, new int[] {0, 0, 0});
    }

    private static void p18Days() {
        Run.of("18 days: 1 to 999").within(1, 999, (x, days) -> x.days(days));
        Run.of("18 days: 1 to 999, with plates").plates(24).within(1, 999, (x, days) -> x.days(days))
                .is(24, x -> x.days(999))
                // 33 times, down to 1, and 9 days more
                .is(1, x -> x.of(23, 't'))
                .is(9, x -> x.of(23, 'u'));
        Run.of("18 without plates none became thinner").is(0, x -> x.days(1)).is(0, x -> x.days(999));
    }

    private static void p18WithThirtyItIsNoughtAgain() {
        Run.of("18 with 30 it is 0 again, and the plate 1 thinner").plates(1)
                .is(0, x -> x.of(0, 'u'))
                .is(0, x -> x.days(29))
                .is(29, x -> x.of(0, 'u'))
                .is(20, x -> x.of(0, 't'))
                .is(1, x -> x.days(1))
                .is(0, x -> x.of(0, 'u'))
                .is(19, x -> x.of(0, 't'))
                .is(1, x -> x.days(59))
                .is(29, x -> x.of(0, 'u'))
                .is(18, x -> x.of(0, 't'))
                .is(1, x -> x.days(31))
                .is(0, x -> x.of(0, 'u'))
                .is(16, x -> x.of(0, 't'))
                .is(1, x -> x.days(30))
                .is(15, x -> x.of(0, 't'));
    }

    private static void p18DownToOne() {
        Run.of("18 down to 1").plate(40, 0, 0, 5)
                .is(1, x -> x.days(90)).is(2, x -> x.of(0, 't'))
                .is(0, x -> x.days(29)).is(2, x -> x.of(0, 't'))
                .is(1, x -> x.days(1)).is(1, x -> x.of(0, 't')).is(0, x -> x.of(0, 'u'))
                .is(0, x -> x.days(29)).is(29, x -> x.of(0, 'u'))
                .is(0, x -> x.days(1)).is(1, x -> x.of(0, 't')).is(0, x -> x.of(0, 'u'))
                .is(0, x -> x.days(999)).is(1, x -> x.of(0, 't')).is(9, x -> x.of(0, 'u'))
                .is(true, PlateAndPoint::isSound);
        Run.of("18 down to 1, past it in one call").plate(40, 0, 0, 5).is(1, x -> x.days(999)).is(1, x -> x.of(0, 't'));
    }

    private static void p18OnAllPlates() {
        Run.of("18 1 more behind each day, on all plates").men(1).plate(40, 0, 0, 60).cracked(1).plates(1)
                .with(x -> x.prove(0))
                .with(x -> x.wear(0, 0, 2))
                .with(x -> x.days(1))
                .with(x -> x.makePlate(40, 0, 0, 20, 1))
                .is(3, x -> x.days(29))
                .is(59, x -> x.of(0, 't'))
                .is(19, x -> x.of(1, 't'))
                .is(19, x -> x.of(2, 't'))
                .is(20, x -> x.of(3, 't'))
                .is(29, x -> x.of(3, 'u'))
                .is(304, x -> x.weight(0))
                .is(1, x -> x.days(1));
    }
}
