/** The edges of promises 5 to 8 and 13 to 17, and of what the document says of plates and of their work. */
public final class EdgePlateTests {
    public static void main(String[] args) {
        p5NumbersInRange();
        p5AtMostTwentyFour();
        p5NumberedFromNought();
        p5RangeBeforeFull();
        p5AtFirst();
        p5Mark();
        p6By();
        p6ForEachFiveBegun();
        p6ByOneCall();
        p6EachUpToThirty();
        p6NeverThinnerThanFive();
        p6ProvedCrackedOrWorn();
        p6ProvedWhateverWasDoneBefore();
        p6RangeBeforeTheRest();
        p7By();
        p7NeverThinnerThanFive();
        p7ProvedCrackedOrWorn();
        p8By();
        p8UpToTwenty();
        p8CrackedOrWorn();
        p13Answers();
        p14Answers();
        p15Things();
        p15OfACrackedOne();
        p15Weight();
        p16Dents();
        p16CrackedOrWorn();
        p17Rust();
        Due.end();
    }

    /** A plate 0 of 60 that is proved, a plate 1 that is cracked, and a plate 2 that a man wears. */
    private static Run withThree(String sentence) {
        return Run.of(sentence).men(1)
                .plate(40, 0, 0, 60).is(true, x -> x.prove(0))
                .cracked(1)
                .plate(40, 0, 0, 60).is(960, x -> x.wear(0, 0, 2));
    }

    private static void p5NumbersInRange() {
        Run.of("5 size: 20 to 99").within(20, 99, (x, size) -> x.makePlate(size, 0, 0, 5, 0))
                .within(20, 99, (x, size) -> x.makePlate(size, 90, 20, 60, 99));
        Run.of("5 carbon: 0 to 90").within(0, 90, (x, carbon) -> x.makePlate(20, carbon, 0, 5, 0))
                .within(0, 90, (x, carbon) -> x.makePlate(99, carbon, 20, 60, 99));
        Run.of("5 slag: 0 to 20").within(0, 20, (x, slag) -> x.makePlate(20, 0, slag, 5, 0))
                .within(0, 20, (x, slag) -> x.makePlate(99, 90, slag, 60, 99));
        Run.of("5 thickness: 5 to 60").within(5, 60, (x, thickness) -> x.makePlate(20, 0, 0, thickness, 0))
                .within(5, 60, (x, thickness) -> x.makePlate(99, 90, 20, thickness, 99));
        Run.of("5 mark: 0 to 99").within(0, 99, (x, mark) -> x.makePlate(20, 0, 0, 5, mark))
                .within(0, 99, (x, mark) -> x.makePlate(99, 90, 20, 60, mark));
    }

    private static void p5AtMostTwentyFour() {
        Run run = Run.of("5 throws IllegalStateException if there are 24");
        for (int k = 0; k < 23; k++) {
            run.is(k, x -> x.makePlate(40, 0, 0, 20, 1));
        }
        run.takes(x -> x.makePlate(99, 90, 20, 60, 99))
                .is(23, x -> x.makePlate(40, 90, 0, 20, 1))
                .refuses(Due.STATE, x -> x.makePlate(40, 0, 0, 20, 1))
                .refuses(Due.STATE, x -> x.makePlate(99, 90, 20, 60, 99))
                .is('x', x -> x.quench(23, 800, 'w'))
                .refuses(Due.STATE, x -> x.makePlate(20, 0, 0, 5, 0));
    }

    private static void p5NumberedFromNought() {
        for (Run.NumberCall call : Numbered.BY_PLATE) {
            for (int plates : new int[] {1, 2, 23, 24}) {
                Run.of("5 plates are numbered from 0, with " + plates).men(1).plates(plates).numbered(plates, call);
            }
        }
        Run.of("5 no plate by a call that throws").plates(1)
                .refuses(Due.ARGUMENT, x -> x.makePlate(19, 0, 0, 5, 0))
                .is(1, x -> x.makePlate(20, 0, 0, 5, 0));
    }

    private static void p5RangeBeforeFull() {
        Run.of("5 out of range is listed before 24 plates").plates(24)
                .refuses(Due.ARGUMENT, x -> x.makePlate(19, 0, 0, 5, 0))
                .refuses(Due.ARGUMENT, x -> x.makePlate(100, 0, 0, 5, 0))
                .refuses(Due.ARGUMENT, x -> x.makePlate(20, -1, 0, 5, 0))
                .refuses(Due.ARGUMENT, x -> x.makePlate(20, 91, 0, 5, 0))
                .refuses(Due.ARGUMENT, x -> x.makePlate(20, 0, -1, 5, 0))
                .refuses(Due.ARGUMENT, x -> x.makePlate(20, 0, 21, 5, 0))
                .refuses(Due.ARGUMENT, x -> x.makePlate(20, 0, 0, 4, 0))
                .refuses(Due.ARGUMENT, x -> x.makePlate(20, 0, 0, 61, 0))
                .refuses(Due.ARGUMENT, x -> x.makePlate(20, 0, 0, 5, -1))
                .refuses(Due.ARGUMENT, x -> x.makePlate(20, 0, 0, 5, 100));
    }

    private static void p5AtFirst() {
        int[][] hardness = {{0, 0, 80}, {1, 0, 80}, {2, 0, 81}, {89, 0, 124}, {90, 0, 125}, {0, 20, 60}, {90, 20, 105}};
        for (int[] made : hardness) {
            Run.of("5 its hardness is 80 and half of its carbon, cut, less its slag").plate(20, made[0], made[1], 60)
                    .is(made[2], x -> x.of(0, 'h'));
        }
        Run run = Run.of("5 a plate at first").plate(20, 0, 0, 5)
                .is('s', x -> x.state(0))
                .is(false, x -> x.isProved(0))
                .is(5, x -> x.of(0, 't'));
        for (char what : "frgdou".toCharArray()) {
            run.is(0, x -> x.of(0, what));
        }
    }

    private static void p5Mark() {
        Run.of("5 marks from 0 to 99 are kept").men(1)
                .with(x -> x.makePlate(40, 0, 0, 20, 0))
                .with(x -> x.makePlate(40, 0, 0, 20, 99))
                .with(x -> x.makePlate(40, 0, 0, 20, 99))
                .with(x -> x.wear(0, 0, 1))
                .with(x -> x.wear(0, 1, 2))
                .is(true, x -> x.isMatched(0))
                .with(x -> x.wear(0, 2, 0))
                .is(false, x -> x.isMatched(0));
    }

    private static void p6By() {
        Run.of("6 by: 1 to 30").plate(40, 0, 0, 60)
                .within(1, 30, (x, by) -> x.draw(0, true, by))
                .within(1, 30, (x, by) -> x.draw(0, false, by));
    }

    private static void p6ForEachFiveBegun() {
        for (int by = 1; by <= 30; by++) {
            int drawn = by;
            int thinner = by % 5 == 0 ? by / 5 : by / 5 + 1;
            Run.of("6 for each 5 begun it becomes 1 thinner, flare " + by).plate(40, 0, 0, 60)
                    .is(60 - thinner, x -> x.draw(0, true, drawn))
                    .is(60 - thinner, x -> x.of(0, 't'))
                    .is(drawn, x -> x.of(0, 'f'))
                    .is(0, x -> x.of(0, 'r'));
            Run.of("6 for each 5 begun it becomes 1 thinner, rise " + by).plate(40, 0, 0, 60)
                    .is(60 - thinner, x -> x.draw(0, false, drawn))
                    .is(60 - thinner, x -> x.of(0, 't'))
                    .is(drawn, x -> x.of(0, 'r'))
                    .is(0, x -> x.of(0, 'f'));
        }
    }

    private static void p6ByOneCall() {
        Run.of("6 of what is drawn by one call").plate(40, 0, 0, 60)
                .is(59, x -> x.draw(0, true, 1))
                .is(58, x -> x.draw(0, true, 4))
                .is(56, x -> x.draw(0, true, 6))
                .is(11, x -> x.of(0, 'f'));
    }

    private static void p6EachUpToThirty() {
        Run.of("6 its flare or its rise, each up to 30").plate(40, 0, 0, 60)
                .is(54, x -> x.draw(0, true, 29))
                .refuses(Due.UNSUPPORTED, x -> x.draw(0, true, 2))
                .refuses(Due.UNSUPPORTED, x -> x.draw(0, true, 30))
                .is(53, x -> x.draw(0, true, 1))
                .is(30, x -> x.of(0, 'f'))
                .refuses(Due.UNSUPPORTED, x -> x.draw(0, true, 1))
                .refuses(Due.UNSUPPORTED, x -> x.draw(0, true, 30))
                .is(52, x -> x.draw(0, false, 1))
                .refuses(Due.UNSUPPORTED, x -> x.draw(0, false, 30))
                .is(46, x -> x.draw(0, false, 29))
                .is(30, x -> x.of(0, 'r'))
                .refuses(Due.UNSUPPORTED, x -> x.draw(0, false, 1))
                .is(30, x -> x.of(0, 'f'));
    }

    private static void p6NeverThinnerThanFive() {
        String sentence = "6 it is never thinner than 5 by work";
        Run.of(sentence).plate(40, 0, 0, 5)
                .refuses(Due.UNSUPPORTED, x -> x.draw(0, true, 1))
                .refuses(Due.UNSUPPORTED, x -> x.draw(0, false, 30));
        Run.of(sentence).plate(40, 0, 0, 6)
                .refuses(Due.UNSUPPORTED, x -> x.draw(0, true, 6))
                .is(5, x -> x.draw(0, true, 5));
        Run.of(sentence).plate(40, 0, 0, 10)
                .refuses(Due.UNSUPPORTED, x -> x.draw(0, false, 26))
                .is(5, x -> x.draw(0, false, 25));
        Run.of(sentence).plate(40, 0, 0, 11).is(5, x -> x.draw(0, false, 30));
        Run.of("6 nor is one that rust made thinner").plate(40, 0, 0, 5)
                .is(1, x -> x.days(30))
                .refuses(Due.UNSUPPORTED, x -> x.draw(0, true, 1))
                .is(4, x -> x.of(0, 't'));
    }

    private static void p6ProvedCrackedOrWorn() {
        withThree("6 throws UnsupportedOperationException if it is proved, cracked or worn")
                .refuses(Due.UNSUPPORTED, x -> x.draw(0, true, 1))
                .refuses(Due.UNSUPPORTED, x -> x.draw(0, false, 30))
                .refuses(Due.UNSUPPORTED, x -> x.draw(1, true, 1))
                .refuses(Due.UNSUPPORTED, x -> x.draw(1, false, 30))
                .refuses(Due.UNSUPPORTED, x -> x.draw(2, true, 1))
                .refuses(Due.UNSUPPORTED, x -> x.draw(2, false, 30))
                .is(2, x -> x.takeOff(0, 0))
                .is(59, x -> x.draw(2, false, 1));
    }

    private static void p6ProvedWhateverWasDoneBefore() {
        Run.of("6 a proved one is not thinned by work at all, whatever was done before").plate(40, 20, 4, 60)
                .with(x -> x.draw(0, true, 5)).with(x -> x.draw(0, false, 5)).with(x -> x.thin(0, 1))
                .with(x -> x.crease(0, 5)).with(x -> x.quench(0, 800, 'o')).with(x -> x.temper(0, 300))
                .is(true, x -> x.prove(0))
                .refuses(Due.UNSUPPORTED, x -> x.draw(0, true, 1))
                .refuses(Due.UNSUPPORTED, x -> x.draw(0, false, 1))
                .refuses(Due.UNSUPPORTED, x -> x.thin(0, 1))
                .with(x -> x.gild(0))
                .refuses(Due.UNSUPPORTED, x -> x.draw(0, true, 1))
                .refuses(Due.UNSUPPORTED, x -> x.thin(0, 1))
                .is(57, x -> x.of(0, 't'));
    }

    private static void p6RangeBeforeTheRest() {
        Run run = withThree("6 out of range is listed before the rest");
        for (int k = 0; k < 3; k++) {
            int plate = k;
            run.refuses(Due.ARGUMENT, x -> x.draw(plate, true, 0)).refuses(Due.ARGUMENT, x -> x.draw(plate, false, 31));
        }
        run.refuses(Due.INDEX, x -> x.draw(3, true, 0)).refuses(Due.INDEX, x -> x.draw(-1, true, 31));
        Run.of("6 out of range is listed before a flare above 30").plate(40, 0, 0, 11)
                .is(5, x -> x.draw(0, true, 30))
                .refuses(Due.ARGUMENT, x -> x.draw(0, true, 31))
                .refuses(Due.ARGUMENT, x -> x.draw(0, true, 0))
                .refuses(Due.UNSUPPORTED, x -> x.draw(0, true, 1));
    }

    private static void p7By() {
        Run.of("7 by: 1 to 20").plate(40, 0, 0, 60).within(1, 20, (x, by) -> x.thin(0, by))
                .is(59, x -> x.thin(0, 1))
                .is(39, x -> x.thin(0, 20))
                .is(39, x -> x.of(0, 't'));
    }

    private static void p7NeverThinnerThanFive() {
        String sentence = "7 it is never thinner than 5 by work";
        Run.of(sentence).plate(40, 0, 0, 25)
                .takes(x -> x.thin(0, 20))
                .is(24, x -> x.thin(0, 1))
                .refuses(Due.UNSUPPORTED, x -> x.thin(0, 20))
                .is(5, x -> x.thin(0, 19))
                .refuses(Due.UNSUPPORTED, x -> x.thin(0, 1))
                .refuses(Due.UNSUPPORTED, x -> x.thin(0, 20))
                .refuses(Due.ARGUMENT, x -> x.thin(0, 0))
                .refuses(Due.ARGUMENT, x -> x.thin(0, 21));
        Run.of(sentence + ", also behind rust").plate(40, 0, 0, 5)
                .with(x -> x.days(999))
                .is(1, x -> x.of(0, 't'))
                .refuses(Due.UNSUPPORTED, x -> x.thin(0, 1));
    }

    private static void p7ProvedCrackedOrWorn() {
        Run run = withThree("7 throws UnsupportedOperationException if it is proved, cracked or worn");
        for (int k = 0; k < 3; k++) {
            int plate = k;
            run.refuses(Due.UNSUPPORTED, x -> x.thin(plate, 1))
                    .refuses(Due.UNSUPPORTED, x -> x.thin(plate, 20))
                    .refuses(Due.ARGUMENT, x -> x.thin(plate, 0))
                    .refuses(Due.ARGUMENT, x -> x.thin(plate, 21));
        }
        run.refuses(Due.INDEX, x -> x.thin(3, 0)).is(2, x -> x.takeOff(0, 0)).is(40, x -> x.thin(2, 20));
    }

    private static void p8By() {
        Run.of("8 by: 1 to 20").plate(40, 0, 0, 5).within(1, 20, (x, by) -> x.crease(0, by));
    }

    private static void p8UpToTwenty() {
        Run.of("8 to crease it makes its ridge more, up to 20").plate(40, 0, 0, 5)
                .is(19, x -> x.crease(0, 19))
                .refuses(Due.UNSUPPORTED, x -> x.crease(0, 2))
                .refuses(Due.UNSUPPORTED, x -> x.crease(0, 20))
                .is(20, x -> x.crease(0, 1))
                .is(20, x -> x.of(0, 'g'))
                .refuses(Due.UNSUPPORTED, x -> x.crease(0, 1))
                .refuses(Due.UNSUPPORTED, x -> x.crease(0, 20))
                .refuses(Due.ARGUMENT, x -> x.crease(0, 21))
                .refuses(Due.ARGUMENT, x -> x.crease(0, 0))
                .is(5, x -> x.of(0, 't'));
    }

    private static void p8CrackedOrWorn() {
        Run run = withThree("8 throws UnsupportedOperationException if it is cracked or worn, not if it is proved");
        for (int k = 1; k < 3; k++) {
            int plate = k;
            run.refuses(Due.UNSUPPORTED, x -> x.crease(plate, 1))
                    .refuses(Due.UNSUPPORTED, x -> x.crease(plate, 20))
                    .refuses(Due.ARGUMENT, x -> x.crease(plate, 0))
                    .refuses(Due.ARGUMENT, x -> x.crease(plate, 21));
        }
        run.refuses(Due.INDEX, x -> x.crease(3, 0))
                .is(20, x -> x.crease(0, 20))
                .is(60, x -> x.of(0, 't'))
                .is(true, x -> x.isProved(0));
    }

    private static void p13Answers() {
        Run.of("13 returns 's', 'h', 't' or 'x'").plate(40, 20, 0, 20).cracked(1)
                .is('s', x -> x.state(0))
                .with(x -> x.quench(0, 749, 'w')).is('s', x -> x.state(0))
                .with(x -> x.quench(0, 750, 'w')).is('h', x -> x.state(0))
                .with(x -> x.temper(0, 100)).is('t', x -> x.state(0))
                .with(x -> x.temper(0, 600)).is('t', x -> x.state(0))
                .with(x -> x.gild(0)).is('s', x -> x.state(0))
                .is('x', x -> x.state(1));
    }

    private static void p14Answers() {
        withThree("14 returns whether a plate is proved")
                .is(true, x -> x.isProved(0))
                .is(false, x -> x.isProved(1))
                .is(false, x -> x.isProved(2))
                .with(x -> x.takeOff(0, 0))
                .with(x -> x.prove(2))
                .with(x -> x.wear(0, 0, 2))
                .is(true, x -> x.isProved(2));
    }

    private static void p15Things() {
        Run.of("15 throws IllegalArgumentException if there is no such thing").plate(40, 0, 0, 20)
                .signs("thfrgdouwn", (x, what) -> x.of(0, what))
                .refuses(Due.INDEX, x -> x.of(1, 'q'));
    }

    private static void p15OfACrackedOne() {
        Run.of("15 hardness and what it withstands, of a cracked one 0").plate(40, 71, 0, 20)
                .with(x -> x.draw(0, true, 1))
                .with(x -> x.draw(0, false, 2))
                .with(x -> x.crease(0, 3))
                .with(x -> x.prove(0))
                .is(115, x -> x.of(0, 'h'))
                // 18 * 18 * 115 * 106 / 10000 is 394, less 39 for the hole
                .is(355, x -> x.of(0, 'n'))
                .is('x', x -> x.quench(0, 750, 'w'))
                .is(0, x -> x.of(0, 'h'))
                .is(0, x -> x.of(0, 'n'))
                .is(18, x -> x.of(0, 't'))
                .is(1, x -> x.of(0, 'f'))
                .is(2, x -> x.of(0, 'r'))
                .is(3, x -> x.of(0, 'g'))
                .is(1, x -> x.of(0, 'o'))
                .is(0, x -> x.of(0, 'd'))
                // 40 * 40 * 18 / 100 and 3 * 18 / 10
                .is(293, x -> x.of(0, 'w'))
                .signs("thfrgdouwn", (x, what) -> x.of(0, what));
    }

    private static void p15Weight() {
        Run.of("15 a plate weighs its size times itself times its thickness, divided by 100, cut")
                .plate(20, 0, 0, 5).is(20, x -> x.of(0, 'w'))
                .plate(21, 0, 0, 5).is(22, x -> x.of(1, 'w'))
                .plate(99, 0, 0, 60).is(5880, x -> x.of(2, 'w'))
                // 33 * 33 * 11 is 11979
                .plate(33, 0, 0, 11).is(119, x -> x.of(3, 'w'));
        Run.of("15 and its flare and rise together times its thickness, divided by 10, cut").plate(20, 0, 0, 7)
                .is(6, x -> x.draw(0, true, 1))
                // 24 and 6 / 10
                .is(24, x -> x.of(0, 'w'))
                .is(5, x -> x.draw(0, false, 1))
                // 20 and 10 / 10
                .is(21, x -> x.of(0, 'w'));
        Run.of("15 both are cut by themselves").plate(23, 0, 0, 7)
                .is(6, x -> x.draw(0, true, 1))
                // 31.74 and 0.6
                .is(31, x -> x.of(0, 'w'));
        Run.of("15 at most").plate(99, 0, 0, 60)
                .with(x -> x.draw(0, true, 30))
                .with(x -> x.draw(0, false, 30))
                .is(4704 + 288, x -> x.of(0, 'w'));
        Run.of("15 at least").plate(20, 0, 0, 5).with(x -> x.days(120)).is(4, x -> x.of(0, 'w'));
    }

    private static void p16Dents() {
        Run.of("16 returns how many there were").men(1).plates(1)
                .is(0, x -> x.planish(0))
                .with(x -> x.wear(0, 0, 0))
                // 20 * 1600 / 321 is 99.7, and 20 * 17 / 321 is 1.06
                .with(x -> x.strike(0, 0, 'h', 0, 1600))
                .with(x -> x.takeOff(0, 0))
                .is(99, x -> x.planish(0))
                .is(0, x -> x.of(0, 'd'))
                .is(0, x -> x.planish(0))
                .with(x -> x.wear(0, 0, 0))
                .with(x -> x.strike(0, 0, 'h', 0, 17))
                .with(x -> x.takeOff(0, 0))
                .is(1, x -> x.planish(0));
        Run.of("16 takes the dents out, and no hole").men(1).plates(2)
                .with(x -> x.wear(0, 0, 0))
                .with(x -> x.wear(0, 1, 1))
                .with(x -> x.strike(0, 0, 'h', 0, 400))
                .with(x -> x.strike(0, 1, 'h', 0, 400))
                .with(x -> x.strike(0, 0, 'p', 0, 321))
                .with(x -> x.takeOff(0, 0))
                .is(24, x -> x.planish(0))
                .is(1, x -> x.of(0, 'o'))
                .is(20, x -> x.of(0, 't'))
                .is(24, x -> x.of(1, 'd'));
    }

    private static void p16CrackedOrWorn() {
        withThree("16 throws UnsupportedOperationException if it is cracked or worn, not if it is proved")
                .with(x -> x.strike(0, 0, 'h', 0, 5000))
                .is(0, x -> x.planish(0))
                .refuses(Due.UNSUPPORTED, x -> x.planish(1))
                .refuses(Due.UNSUPPORTED, x -> x.planish(2))
                .refuses(Due.INDEX, x -> x.planish(3))
                .with(x -> x.takeOff(0, 0))
                // 60 * 60 * 80 / 100 is 2880, and 20 * 5000 / 2881 is 34
                .is(34, x -> x.planish(2));
    }

    private static void p17Rust() {
        withThree("17 oils a plate, by which its rust is 0, also a proved, a cracked and a worn one")
                .is(0, x -> x.oil(0))
                .with(x -> x.days(1))
                .is(1, x -> x.oil(0))
                .is(0, x -> x.of(0, 'u'))
                .is(0, x -> x.oil(0))
                .with(x -> x.days(28))
                .is(29, x -> x.oil(1))
                .is(0, x -> x.of(1, 'u'))
                .is(29, x -> x.oil(2))
                .is(28, x -> x.of(0, 'u'))
                .refuses(Due.INDEX, x -> x.oil(3))
                .is(0, x -> x.days(1));
    }
}
