/** The edges of promises 19 to 21, 40 and 41: what is worn, exchanged and matched. */
public final class EdgeWearTests {
    public static void main(String[] args) {
        p19ManPartOrPlate();
        p19DifferByAtMostFour();
        p19FitAtTheBoundsOfSizes();
        p19APartHasOnePlate();
        p19APlateIsWornByOne();
        p19Cracked();
        p19AllParts();
        p19WhatTheManBears();
        p20None();
        p20Answers();
        p21None();
        p21Answers();
        p40SuchMenAndPart();
        p40BothTheSame();
        p40OneHasNoPlate();
        p40OneWouldNotFit();
        p40NoneBeforeNoFit();
        p40MarksAlike();
        p40BothAreWornThen();
        p41WithoutPlates();
        p41PartsBetween();
        p41OneMark();
        Due.end();
    }

    private static void p19ManPartOrPlate() {
        Run run = Run.of("19 throws IndexOutOfBoundsException if there is no such man, part or plate").men(2).plates(2)
                .cracked(2)
                .with(x -> x.wear(1, 8, 1));
        run.numbered(2, (x, man) -> x.wear(man, 0, 0)).numbered(2, (x, man) -> x.wear(man, 8, 1));
        run.numbered(9, (x, part) -> x.wear(1, part, 0)).numbered(9, (x, part) -> x.wear(1, part, 2));
        run.numbered(3, (x, plate) -> x.wear(0, 0, plate)).numbered(3, (x, plate) -> x.wear(1, 8, plate));
        run.refuses(Due.INDEX, x -> x.wear(2, 9, 3)).refuses(Due.INDEX, x -> x.wear(-1, 0, 2));
        Run.of("19 without plates").men(1).numbered(0, (x, plate) -> x.wear(0, 0, plate));
    }

    private static void p19DifferByAtMostFour() {
        Run run = Run.of("19 a plate is worn on a part if their sizes differ by at most 4").men(1);
        for (int size : new int[] {35, 36, 44, 45, 20, 99}) {
            run.plate(size, 0, 0, 20);
        }
        run.refuses(Due.UNSUPPORTED, x -> x.wear(0, 0, 0))
                .takes(x -> x.wear(0, 0, 1))
                .takes(x -> x.wear(0, 0, 2))
                .refuses(Due.UNSUPPORTED, x -> x.wear(0, 0, 3))
                .refuses(Due.UNSUPPORTED, x -> x.wear(0, 0, 4))
                .refuses(Due.UNSUPPORTED, x -> x.wear(0, 0, 5))
                .with(x -> x.setPart(0, 0, 39))
                .takes(x -> x.wear(0, 0, 0))
                .refuses(Due.UNSUPPORTED, x -> x.wear(0, 0, 2))
                .with(x -> x.setPart(0, 0, 41))
                .takes(x -> x.wear(0, 0, 3))
                .refuses(Due.UNSUPPORTED, x -> x.wear(0, 0, 1));
    }

    private static void p19FitAtTheBoundsOfSizes() {
        Run.of("19 they fit, the least sizes").men(1).plate(24, 0, 0, 20).plate(25, 0, 0, 20)
                .with(x -> x.setPart(0, 8, 20))
                .refuses(Due.UNSUPPORTED, x -> x.wear(0, 8, 1))
                .is(115, x -> x.wear(0, 8, 0))
                .is(true, PlateAndPoint::isSound);
        Run.of("19 they fit, the greatest sizes").men(1).plate(95, 0, 0, 20).plate(94, 0, 0, 20)
                .with(x -> x.setPart(0, 8, 99))
                .refuses(Due.UNSUPPORTED, x -> x.wear(0, 8, 1))
                .is(1805, x -> x.wear(0, 8, 0))
                .is(true, PlateAndPoint::isSound);
    }

    private static void p19APartHasOnePlate() {
        Run.of("19 a part has one plate").men(2).plates(2)
                .is(320, x -> x.wear(0, 0, 0))
                .refuses(Due.UNSUPPORTED, x -> x.wear(0, 0, 1))
                .takes(x -> x.wear(0, 1, 1))
                .takes(x -> x.wear(1, 0, 1))
                .is(0, x -> x.takeOff(0, 0))
                .is(320, x -> x.wear(0, 0, 1));
    }

    private static void p19APlateIsWornByOne() {
        Run.of("19 and a plate is worn by one").men(2).plates(1)
                .is(320, x -> x.wear(0, 0, 0))
                .refuses(Due.UNSUPPORTED, x -> x.wear(0, 0, 0))
                .refuses(Due.UNSUPPORTED, x -> x.wear(0, 8, 0))
                .refuses(Due.UNSUPPORTED, x -> x.wear(1, 0, 0))
                .is(0, x -> x.takeOff(0, 0))
                .is(320, x -> x.wear(1, 8, 0))
                .refuses(Due.UNSUPPORTED, x -> x.wear(0, 0, 0));
    }

    private static void p19Cracked() {
        Run.of("19 throws UnsupportedOperationException if it is cracked").men(1).cracked(0).plates(1)
                .refuses(Due.UNSUPPORTED, x -> x.wear(0, 0, 0))
                .with(x -> x.wear(0, 0, 1))
                .refuses(Due.UNSUPPORTED, x -> x.wear(0, 0, 0));
    }

    private static void p19AllParts() {
        Run run = Run.of("19 all parts but three with the last plate").men(3).plates(24);
        for (int k = 0; k < 24; k++) {
            int plate = k;
            run.is(320 * (k % 9 + 1), x -> x.wear(plate / 9, plate % 9, plate));
        }
        for (int k = 0; k < 24; k++) {
            int plate = k;
            run.is(plate, x -> x.plateAt(plate / 9, plate % 9));
        }
        run.refuses(Due.NONE, x -> x.plateAt(2, 6)).refuses(Due.UNSUPPORTED, x -> x.wear(2, 6, 23));
    }

    private static void p19WhatTheManBears() {
        Run.of("19 returns what the man bears then").men(2).plates(3)
                .with(x -> x.setMail(0, 5, 9, true))
                .with(x -> x.setCloth(0, 6, 30))
                .is(320 + 360 + 120, x -> x.wear(0, 0, 0))
                .is(320, x -> x.wear(1, 0, 1))
                .is(640 + 360 + 120, x -> x.wear(0, 5, 2));
    }

    private static void p20None() {
        Run.of("20 throws NoSuchElementException if none is worn on it").men(2).plates(1)
                .refuses(Due.NONE, x -> x.takeOff(0, 0))
                .with(x -> x.wear(0, 0, 0))
                .refuses(Due.NONE, x -> x.takeOff(0, 1))
                .refuses(Due.NONE, x -> x.takeOff(1, 0))
                .refuses(Due.INDEX, x -> x.takeOff(2, 0))
                .refuses(Due.INDEX, x -> x.takeOff(0, 9))
                .is(0, x -> x.takeOff(0, 0))
                .refuses(Due.NONE, x -> x.takeOff(0, 0));
    }

    private static void p20Answers() {
        Run.of("20 takes a plate off, so that it is worked again").men(1).plates(24)
                .with(x -> x.wear(0, 8, 23))
                .with(x -> x.wear(0, 0, 0))
                .refuses(Due.UNSUPPORTED, x -> x.thin(23, 1))
                .is(23, x -> x.takeOff(0, 8))
                .is(320, x -> x.weight(0))
                .is(19, x -> x.thin(23, 1))
                .refuses(Due.UNSUPPORTED, x -> x.thin(0, 1))
                .is(0, x -> x.takeOff(0, 0))
                .is(0, x -> x.weight(0))
                .is(19, x -> x.thin(0, 1));
    }

    private static void p21None() {
        Run.of("21 throws NoSuchElementException if there is none").men(2).plates(1)
                .refuses(Due.NONE, x -> x.plateAt(0, 0))
                .with(x -> x.wear(0, 0, 0))
                .refuses(Due.NONE, x -> x.plateAt(0, 1))
                .refuses(Due.NONE, x -> x.plateAt(1, 0))
                .refuses(Due.INDEX, x -> x.plateAt(2, 0))
                .refuses(Due.INDEX, x -> x.plateAt(0, 9))
                .is(0, x -> x.plateAt(0, 0))
                .is(0, x -> x.plateAt(0, 0))
                .with(x -> x.takeOff(0, 0))
                .refuses(Due.NONE, x -> x.plateAt(0, 0));
    }

    private static void p21Answers() {
        Run.of("21 returns the plate that is worn on a part").men(3).plates(24)
                .with(x -> x.wear(2, 8, 23))
                .with(x -> x.wear(2, 7, 0))
                .is(23, x -> x.plateAt(2, 8))
                .is(0, x -> x.plateAt(2, 7))
                .refuses(Due.NONE, x -> x.plateAt(1, 8));
    }

    private static Run bothWearing(String sentence) {
        return Run.of(sentence).men(2).plates(2)
                .with(x -> x.wear(0, 0, 0))
                .with(x -> x.wear(1, 0, 1));
    }

    private static void p40SuchMenAndPart() {
        bothWearing("40 throws IndexOutOfBoundsException if there is no such man, for either, or part")
                .numbered(2, (x, man) -> x.exchange(man, 1, 0))
                .numbered(2, (x, man) -> x.exchange(0, man, 0))
                .numbered(2, (x, man) -> x.exchange(man, man, 0))
                .numbered(9, (x, part) -> x.exchange(0, 1, part))
                .numbered(9, (x, part) -> x.exchange(1, 1, part))
                .refuses(Due.INDEX, x -> x.exchange(2, 2, 9));
    }

    private static void p40BothTheSame() {
        bothWearing("40 throws IllegalArgumentException if both are the same, also without a plate")
                .refuses(Due.ARGUMENT, x -> x.exchange(0, 0, 0))
                .refuses(Due.ARGUMENT, x -> x.exchange(1, 1, 0))
                .refuses(Due.ARGUMENT, x -> x.exchange(1, 1, 8));
    }

    private static void p40OneHasNoPlate() {
        bothWearing("40 throws NoSuchElementException if one has no plate there")
                .takes(x -> x.exchange(0, 1, 0))
                .refuses(Due.NONE, x -> x.exchange(0, 1, 8))
                .with(x -> x.takeOff(1, 0))
                .refuses(Due.NONE, x -> x.exchange(0, 1, 0))
                .refuses(Due.NONE, x -> x.exchange(1, 0, 0))
                .with(x -> x.wear(1, 1, 1))
                .refuses(Due.NONE, x -> x.exchange(0, 1, 0))
                .refuses(Due.NONE, x -> x.exchange(0, 1, 1));
    }

    /** Two men with parts of 40, and of the size, and plates of both sizes on them. */
    private static Run wearingOf(String sentence, int first, int second, int part) {
        return Run.of(sentence + ", " + first + " and " + second + " on " + part).men(2)
                .plate(first, 0, 0, 20).plate(second, 0, 0, 20)
                .with(x -> x.setPart(1, 4, part))
                .with(x -> x.wear(0, 4, 0))
                .with(x -> x.wear(1, 4, 1));
    }

    private static void p40OneWouldNotFit() {
        String sentence = "40 throws UnsupportedOperationException if one would not fit";
        int[][] fitting = {{44, 44, 48}, {44, 44, 47}, {36, 36, 32}, {42, 44, 46}, {38, 36, 34}};
        for (int[] size : fitting) {
            wearingOf("40 both fit", size[0], size[1], size[2])
                    .takes(x -> x.exchange(1, 0, 4))
                    .is(true, x -> x.exchange(0, 1, 4))
                    .is(1, x -> x.plateAt(0, 4))
                    .is(0, x -> x.plateAt(1, 4))
                    .is(true, PlateAndPoint::isSound);
        }
        // of the first two the one would not fit, of the next two the other one, of the last both
        int[][] others = {{43, 44, 48}, {37, 36, 32}, {44, 45, 48}, {36, 35, 32}, {40, 48, 48}, {36, 50, 48}};
        for (int[] size : others) {
            wearingOf(sentence, size[0], size[1], size[2])
                    .refuses(Due.UNSUPPORTED, x -> x.exchange(0, 1, 4))
                    .refuses(Due.UNSUPPORTED, x -> x.exchange(1, 0, 4));
        }
    }

    private static void p40NoneBeforeNoFit() {
        Run.of("40 no plate is listed before one that would not fit, and both the same before all that").men(2)
                .plate(40, 0, 0, 20)
                .with(x -> x.setPart(1, 4, 99))
                .with(x -> x.wear(0, 4, 0))
                .refuses(Due.NONE, x -> x.exchange(0, 1, 4))
                .refuses(Due.NONE, x -> x.exchange(1, 0, 4))
                .refuses(Due.ARGUMENT, x -> x.exchange(1, 1, 4))
                .refuses(Due.INDEX, x -> x.exchange(1, 2, 4));
    }

    private static void p40MarksAlike() {
        int[][] marks = {{0, 0, 1}, {99, 99, 1}, {0, 99, 0}, {98, 99, 0}, {0, 1, 0}};
        for (int[] mark : marks) {
            Run.of("40 returns whether both marks are alike, " + mark[0] + " and " + mark[1]).men(3)
                    .with(x -> x.makePlate(40, 0, 0, 20, mark[0]))
                    .with(x -> x.makePlate(40, 0, 0, 20, mark[1]))
                    .with(x -> x.wear(0, 8, 0))
                    .with(x -> x.wear(2, 8, 1))
                    .is(mark[2] == 1, x -> x.exchange(2, 0, 8))
                    .is(0, x -> x.plateAt(2, 8))
                    .is(1, x -> x.plateAt(0, 8))
                    .is(mark[2] == 1, x -> x.exchange(2, 0, 8))
                    .is(1, x -> x.plateAt(2, 8));
        }
    }

    private static void p40BothAreWornThen() {
        bothWearing("40 both are worn then, by the other one").plate(41, 0, 0, 30)
                .is(320 + 504, x -> x.wear(0, 1, 2))
                .is(true, x -> x.exchange(0, 1, 0))
                .refuses(Due.UNSUPPORTED, x -> x.thin(0, 1))
                .refuses(Due.UNSUPPORTED, x -> x.thin(1, 1))
                .refuses(Due.UNSUPPORTED, x -> x.wear(0, 2, 0))
                .is(0, x -> x.takeOff(1, 0))
                .is(19, x -> x.thin(0, 1))
                .refuses(Due.UNSUPPORTED, x -> x.thin(1, 1))
                .is(2, x -> x.plateAt(0, 1));
    }

    private static void p41WithoutPlates() {
        Run.of("41 returns whether they have one mark, also without plates").men(3).plates(1)
                .is(true, x -> x.isMatched(0))
                .is(true, x -> x.isMatched(2))
                .with(x -> x.wear(0, 8, 0))
                .is(true, x -> x.isMatched(0))
                .is(true, x -> x.isMatched(2))
                .with(x -> x.takeOff(0, 8))
                .is(true, x -> x.isMatched(0));
    }

    private static void p41PartsBetween() {
        Run.of("41 parts without a plate between them are passed over").men(1)
                .with(x -> x.makePlate(40, 0, 0, 20, 0)).with(x -> x.makePlate(40, 0, 0, 20, 1))
                .with(x -> x.wear(0, 0, 0))
                .with(x -> x.wear(0, 8, 1))
                .is(false, x -> x.isMatched(0))
                .with(x -> x.takeOff(0, 0))
                .with(x -> x.wear(0, 6, 0))
                .is(false, x -> x.isMatched(0))
                .with(x -> x.takeOff(0, 8))
                .is(true, x -> x.isMatched(0));
    }

    private static void p41OneMark() {
        for (int k = 0; k < 9; k++) {
            int part = k;
            Run run = Run.of("41 all plates of a man, another mark on part " + k).men(2);
            for (int n = 0; n < 9; n++) {
                int number = n;
                run.with(x -> x.makePlate(40, 0, 0, 20, number == part ? 0 : 99)).with(x -> x.wear(1, number, number));
            }
            run.is(false, x -> x.isMatched(1))
                    .is(true, x -> x.isMatched(0))
                    .with(x -> x.takeOff(1, part))
                    .is(true, x -> x.isMatched(1))
                    .with(x -> x.makePlate(40, 0, 0, 20, 99))
                    .with(x -> x.wear(1, part, 9))
                    .is(true, x -> x.isMatched(1));
        }
    }
}
