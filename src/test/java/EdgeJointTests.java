/** The edges of promises 22 to 26 and 29 to 33: lames and leathers, room and order, gaps, binding, reach and bends. */
public final class EdgeJointTests {
    public static void main(String[] args) {
        p22Many();
        p22Kinds();
        p22AtFirst();
        p22SlideBy();
        p22NewLeathers();
        p23Room();
        p24Order();
        p25WornByOne();
        p25OfOneLameOrMore();
        p25OtherKinds();
        p25WornOutAtFifty();
        p26Mends();
        p29Angles();
        p29OpensByCut();
        p29NoughtAtLeast();
        p29PartWithoutAPlate();
        p30Angles();
        p30BothHavePlates();
        p30ClosesByHalfOfThatCut();
        p30Room();
        p30TenthOfTheDentsOfEach();
        p31GreatestAngleOfItsRange();
        p31BindsAtNought();
        p32Angles();
        p32BeyondItsReach();
        p32ReachOfNone();
        p32RefusedBendWearsNothing();
        p33AsItWasBentLast();
        Due.end();
    }

    /**
     * A man, whose parts 0 and 1 are of a size of 57, so that the joint 0 opens by as much as its angle, and have a
     * plate each, which withstands 320. With a room of n it closes by no more than that up to 2 * n + 1 degrees.
     */
    private static Run withPlates(String sentence) {
        return Run.of(sentence).men(1).plate(57, 0, 0, 20).plate(57, 0, 0, 20)
                .with(x -> x.setPart(0, 0, 57))
                .with(x -> x.setPart(0, 1, 57))
                .with(x -> x.wear(0, 0, 0))
                .with(x -> x.wear(0, 1, 1))
                .with(x -> x.setRange(0, 0, 150));
    }

    /** As many bends of the joint 0 of man 0 that change its angle, from 0 to 1 at first. */
    private static Run bent(Run run, int many) {
        return run.often(many, (x, k) -> x.bend(0, 0, x.angle(0, 0) == 0 ? 1 : 0));
    }

    private static void p22Many() {
        for (char kind : "lsf".toCharArray()) {
            Run.of("22 many: 0 to 4").men(3)
                    .within(0, 4, (x, many) -> x.setLames(0, 0, many, kind))
                    .within(0, 4, (x, many) -> x.setLames(2, 7, many, kind))
                    .is(0, x -> x.setLames(2, 7, 4, kind))
                    .is(4, x -> x.setLames(2, 7, 0, kind))
                    .is(0, x -> x.setLames(2, 7, 1, kind))
                    .is(1, x -> x.setLames(2, 7, 1, kind))
                    .is(0, x -> x.setLames(2, 6, 1, kind))
                    .is(0, x -> x.setLames(1, 7, 1, kind));
        }
    }

    private static void p22Kinds() {
        Run.of("22 kind: 'l', 's' or 'f'").men(1)
                .signs("lsf", (x, kind) -> x.setLames(0, 0, 4, kind))
                .signs("lsf", (x, kind) -> x.setLames(0, 0, 0, kind))
                .refuses(Due.ARGUMENT, x -> x.setLames(0, 0, 5, 'q'))
                .refuses(Due.INDEX, x -> x.setLames(0, 8, 5, 'q'))
                .refuses(Due.INDEX, x -> x.setLames(1, 0, 1, 'q'));
    }

    private static void p22AtFirst() {
        Run run = Run.of("22 there are 0 to 4 lames, 0 on leathers at first, and a room, 0 at first").men(3);
        for (int k = 0; k < 24; k++) {
            int number = k;
            run.is(0, x -> x.leather(number / 8, number % 8));
            run.is(105, x -> x.gap(number / 8, number % 8, 150));
            run.is(0, x -> x.setRoom(number / 8, number % 8, 60));
            run.is(0, x -> x.setLames(number / 8, number % 8, 4, 'f'));
        }
    }

    private static void p22SlideBy() {
        Run run = Run.of("22 a lame slides by 6 on leathers, by 8 on sliding rivets, by 0 on fixed ones").men(1);
        for (int many = 0; many <= 4; many++) {
            int lames = many;
            run.with(x -> x.setLames(0, 7, lames, 'l')).is(105 - 6 * lames, x -> x.gap(0, 7, 150));
            run.with(x -> x.setLames(0, 7, lames, 's')).is(105 - 8 * lames, x -> x.gap(0, 7, 150));
            run.with(x -> x.setLames(0, 7, lames, 'f')).is(105, x -> x.gap(0, 7, 150));
        }
    }

    private static void p22NewLeathers() {
        Run run = bent(Run.of("22 sets the lames of a joint, with new leathers").men(1)
                .with(x -> x.setLames(0, 0, 4, 'l')), 50);
        run.is(50, x -> x.leather(0, 0))
                .refuses(Due.ARGUMENT, x -> x.setLames(0, 0, 4, 'q'))
                .refuses(Due.ARGUMENT, x -> x.setLames(0, 0, 5, 'l'))
                .is(105, x -> x.gap(0, 0, 150))
                .is(4, x -> x.setLames(0, 0, 4, 'l'))
                .is(0, x -> x.leather(0, 0))
                .is(81, x -> x.gap(0, 0, 150))
                .is(0, x -> x.angle(0, 0));
        bent(run, 3).is(3, x -> x.leather(0, 0)).is(1, x -> x.angle(0, 0))
                .with(x -> x.setLames(0, 0, 4, 's')).is(0, x -> x.leather(0, 0))
                .with(x -> x.setLames(0, 0, 4, 'l')).is(0, x -> x.leather(0, 0))
                .is(1, x -> x.angle(0, 0));
    }

    private static void p23Room() {
        Run.of("23 room: 0 to 60").men(3)
                .within(0, 60, (x, room) -> x.setRoom(0, 0, room))
                .within(0, 60, (x, room) -> x.setRoom(2, 7, room))
                .is(0, x -> x.setRoom(2, 7, 60))
                .is(60, x -> x.setRoom(2, 7, 59))
                .is(59, x -> x.setRoom(2, 7, 0))
                .is(0, x -> x.setRoom(2, 7, 1))
                .is(0, x -> x.setRoom(2, 6, 1))
                .is(0, x -> x.setRoom(1, 7, 1));
    }

    private static void p24Order() {
        Run run = Run.of("24 returns whether the upper plate was over the lower one, which it was at first").men(3);
        for (int k = 0; k < 24; k++) {
            int number = k;
            run.is(true, x -> x.setOrder(number / 8, number % 8, number % 2 == 0));
        }
        for (int k = 0; k < 24; k++) {
            int number = k;
            run.is(number % 2 == 0, x -> x.setOrder(number / 8, number % 8, false));
            run.is(false, x -> x.setOrder(number / 8, number % 8, true));
        }
    }

    private static void p25WornByOne() {
        bent(Run.of("25 leathers are worn by 1 by each bend that changes the angle").men(2)
                .with(x -> x.setLames(0, 0, 1, 'l'))
                .with(x -> x.setLames(0, 1, 1, 'l'))
                .is(0, x -> x.leather(0, 0))
                .is(0, x -> x.bend(0, 0, 0)).is(0, x -> x.leather(0, 0))
                .is(0, x -> x.bend(0, 0, 90)).is(1, x -> x.leather(0, 0))
                .is(90, x -> x.bend(0, 0, 90)).is(1, x -> x.leather(0, 0))
                .is(90, x -> x.bend(0, 0, 89)).is(2, x -> x.leather(0, 0))
                .is(89, x -> x.bend(0, 0, 0)), 1)
                .is(4, x -> x.leather(0, 0))
                .is(0, x -> x.leather(0, 1))
                .is(0, x -> x.leather(1, 0));
    }

    private static void p25OfOneLameOrMore() {
        bent(Run.of("25 leathers of 1 lame or more, none").men(1), 3).is(0, x -> x.leather(0, 0))
                .with(x -> x.setLames(0, 0, 1, 'l')).is(0, x -> x.leather(0, 0));
        for (int many = 1; many <= 4; many++) {
            int lames = many;
            bent(Run.of("25 leathers of 1 lame or more, " + many).men(1).with(x -> x.setLames(0, 0, lames, 'l')), 3)
                    .is(3, x -> x.leather(0, 0))
                    .with(x -> x.setLames(0, 0, 0, 'l')).is(0, x -> x.leather(0, 0));
        }
    }

    private static void p25OtherKinds() {
        for (char kind : "sf".toCharArray()) {
            bent(Run.of("25 returns 0 for other kinds").men(1).with(x -> x.setLames(0, 0, 4, kind)), 51)
                    .is(0, x -> x.leather(0, 0))
                    .is(kind == 's' ? 73 : 105, x -> x.gap(0, 0, 150))
                    .is(0, x -> x.mend(0, 0));
        }
    }

    private static void p25WornOutAtFifty() {
        Run run = bent(withPlates("25 worn out at 50, where that ends, until they are mended")
                .with(x -> x.setLames(0, 0, 4, 'l')), 49);
        run.is(49, x -> x.leather(0, 0))
                // 24 is what four lames slide
                .is(150 - 24, x -> x.gap(0, 0, 150))
                .is(49, x -> x.reach(0, 0))
                .is(1, x -> x.bend(0, 0, 1))
                .is(49, x -> x.leather(0, 0))
                .is(1, x -> x.bend(0, 0, 0))
                .is(50, x -> x.leather(0, 0))
                .is(150, x -> x.gap(0, 0, 150))
                .is(1, x -> x.reach(0, 0))
                .is(true, x -> x.binds(0, 0, 2));
        bent(run, 1).is(50, x -> x.leather(0, 0));
        bent(run, 3).is(50, x -> x.leather(0, 0))
                .is(50, x -> x.mend(0, 0))
                .is(0, x -> x.leather(0, 0))
                .is(49, x -> x.reach(0, 0));
    }

    private static void p26Mends() {
        for (int many : new int[] {0, 1, 49, 50, 51, 60}) {
            int due = Math.min(50, many);
            bent(Run.of("26 returns how much they were worn, by " + many).men(1)
                    .with(x -> x.setLames(0, 0, 2, 'l')), many)
                    .is(due, x -> x.mend(0, 0))
                    .is(0, x -> x.leather(0, 0))
                    .is(0, x -> x.mend(0, 0))
                    .is(93, x -> x.gap(0, 0, 150))
                    .is(many % 2, x -> x.angle(0, 0))
                    .is(2, x -> x.setLames(0, 0, 0, 'l'));
        }
    }

    private static void p29Angles() {
        Run.of("29 angle: 0 to 150, also beyond its range").men(3)
                .within(0, 150, (x, angle) -> x.gap(0, 0, angle))
                .with(x -> x.setRange(2, 7, 30))
                .within(0, 150, (x, angle) -> x.gap(2, 7, angle))
                .is(0, x -> x.gap(2, 7, 0))
                .is(21, x -> x.gap(2, 7, 30))
                .is(21, x -> x.gap(2, 7, 31))
                .is(105, x -> x.gap(2, 7, 150))
                .is(0, x -> x.angle(2, 7));
    }

    private static void p29OpensByCut() {
        // with a size of 40: 40 / 57, 80 / 57, 120 / 57, 2240 / 57, 2280 / 57 and 2320 / 57
        int[][] gaps = {{1, 0}, {2, 1}, {3, 2}, {56, 39}, {57, 40}, {58, 40}};
        for (int[] gap : gaps) {
            Run.of("29 at an angle a joint opens by the angle times its size, divided by 57, cut").men(1)
                    .is(gap[1], x -> x.gap(0, 0, gap[0]));
        }
        Run.of("29 at most").men(1).with(x -> x.setPart(0, 0, 99)).with(x -> x.setPart(0, 1, 99))
                .is(260, x -> x.gap(0, 0, 150));
        Run.of("29 at least").men(1).with(x -> x.setPart(0, 0, 20)).with(x -> x.setPart(0, 1, 20))
                .is(0, x -> x.gap(0, 0, 2)).is(1, x -> x.gap(0, 0, 3));
    }

    /** A plate of 60 with a flare of 7 on the part 0, and one with a rise of 11 on the part 1, both of 57. */
    private static Run drawnOut(String sentence) {
        return Run.of(sentence).men(1).plate(57, 0, 0, 60).plate(57, 0, 0, 60)
                .with(x -> x.draw(0, true, 7)).with(x -> x.draw(0, false, 30))
                .with(x -> x.draw(1, false, 11)).with(x -> x.draw(1, true, 30))
                .with(x -> x.setPart(0, 0, 57)).with(x -> x.setPart(0, 1, 57));
    }

    private static void p29NoughtAtLeast() {
        drawnOut("29 more than the flare above, the rise below, and what its lames slide, together, 0 at least")
                .with(x -> x.wear(0, 0, 0))
                .with(x -> x.wear(0, 1, 1))
                .with(x -> x.setLames(0, 0, 4, 's'))
                .with(x -> x.setRoom(0, 0, 60))
                // 7 and 11 and 32
                .is(0, x -> x.gap(0, 0, 0))
                .is(0, x -> x.gap(0, 0, 49))
                .is(0, x -> x.gap(0, 0, 50))
                .is(1, x -> x.gap(0, 0, 51))
                .is(100, x -> x.gap(0, 0, 150));
    }

    private static void p29PartWithoutAPlate() {
        drawnOut("29 a part without a plate has no flare or rise")
                .is(150, x -> x.gap(0, 0, 150))
                .with(x -> x.wear(0, 0, 0))
                .is(143, x -> x.gap(0, 0, 150))
                .is(0, x -> x.gap(0, 0, 7))
                .is(1, x -> x.gap(0, 0, 8))
                .with(x -> x.takeOff(0, 0))
                .with(x -> x.wear(0, 1, 1))
                .is(139, x -> x.gap(0, 0, 150))
                .is(0, x -> x.gap(0, 0, 11))
                .is(1, x -> x.gap(0, 0, 12));
    }

    private static void p30Angles() {
        withPlates("30 angle: 0 to 150, also beyond its range")
                .with(x -> x.setRange(0, 0, 30))
                .within(0, 150, (x, angle) -> x.binds(0, 0, angle))
                .within(0, 150, (x, angle) -> x.binds(0, 7, angle))
                .is(false, x -> x.binds(0, 0, 0))
                .is(true, x -> x.binds(0, 0, 31))
                .is(true, x -> x.binds(0, 0, 150))
                .is(false, x -> x.binds(0, 7, 150));
    }

    private static void p30BothHavePlates() {
        withPlates("30 it binds if both parts have plates")
                .is(true, x -> x.binds(0, 0, 150))
                .is(false, x -> x.binds(0, 1, 150))
                .with(x -> x.takeOff(0, 0))
                .is(false, x -> x.binds(0, 0, 150))
                .is(150, x -> x.reach(0, 0))
                .with(x -> x.wear(0, 0, 0))
                .with(x -> x.takeOff(0, 1))
                .is(false, x -> x.binds(0, 0, 150))
                .with(x -> x.takeOff(0, 0))
                .is(false, x -> x.binds(0, 0, 150));
    }

    private static void p30ClosesByHalfOfThatCut() {
        withPlates("30 and closes by half of that, cut")
                .is(false, x -> x.binds(0, 0, 0))
                .is(false, x -> x.binds(0, 0, 1))
                .is(true, x -> x.binds(0, 0, 2))
                .with(x -> x.setRoom(0, 0, 1))
                .is(false, x -> x.binds(0, 0, 3))
                .is(true, x -> x.binds(0, 0, 4));
        // with a size of 40 it opens by 0, 1, 2, 2, 3 and 4 from 1 degree on
        Run.of("30 half of what it opens by, cut as well").men(1).plates(2)
                .with(x -> x.wear(0, 0, 0))
                .with(x -> x.wear(0, 1, 1))
                .is(false, x -> x.binds(0, 0, 2))
                .is(true, x -> x.binds(0, 0, 3))
                .with(x -> x.setRoom(0, 0, 1))
                .is(false, x -> x.binds(0, 0, 5))
                .is(true, x -> x.binds(0, 0, 6));
    }

    private static void p30Room() {
        Run run = withPlates("30 it closes by more than its room and what its lames slide");
        for (int room : new int[] {0, 1, 30, 60}) {
            for (int lames = 0; lames <= 1; lames++) {
                int many = lames;
                int least = 2 * (room + 6 * lames) + 2;
                run.with(x -> x.setRoom(0, 0, room)).with(x -> x.setLames(0, 0, many, 'l'))
                        .is(false, x -> x.binds(0, 0, least - 1))
                        .is(true, x -> x.binds(0, 0, least))
                        .is(least - 1, x -> x.reach(0, 0));
            }
        }
        run.with(x -> x.setRoom(0, 0, 0)).with(x -> x.setLames(0, 0, 4, 's')).is(65, x -> x.reach(0, 0))
                .with(x -> x.setLames(0, 0, 1, 's')).is(17, x -> x.reach(0, 0))
                .with(x -> x.setLames(0, 0, 4, 'f')).is(1, x -> x.reach(0, 0));
    }

    /** The force of a hammer that makes so many dents, to 99, on a plate that withstands the number. */
    private static int forceFor(int dents, int withstood) {
        return (dents * (withstood + 1) + 19) / 20;
    }

    private static void p30TenthOfTheDentsOfEach() {
        int[][] dents = {{0, 0, 0}, {9, 9, 0}, {10, 9, 1}, {9, 10, 1}, {10, 10, 2}, {19, 19, 2}, {20, 19, 3},
            {98, 99, 18}, {99, 0, 9}, {0, 99, 9}, {99, 99, 18}};
        for (int[] dent : dents) {
            Run run = withPlates("30 less a tenth, cut, of the dents of each plate: " + dent[0] + ", " + dent[1]);
            for (int k = 0; k < 2; k++) {
                int plate = k;
                run.is(320, x -> x.of(plate, 'n'));
                if (dent[k] > 0) {
                    run.with(x -> x.strike(0, plate, 'h', 0, forceFor(dent[plate], 320)));
                }
                run.is(dent[k], x -> x.of(plate, 'd'));
            }
            run.with(x -> x.setRoom(0, 0, dent[2])).is(1, x -> x.reach(0, 0)).is(true, x -> x.binds(0, 0, 2));
            run.with(x -> x.setRoom(0, 0, dent[2] + 1)).is(3, x -> x.reach(0, 0));
            if (dent[2] > 0) {
                run.with(x -> x.setRoom(0, 0, dent[2] - 1)).is(-1, x -> x.reach(0, 0)).is(true, x -> x.binds(0, 0, 0));
            }
        }
    }

    private static void p31GreatestAngleOfItsRange() {
        withPlates("31 the greatest angle of its range up to which it does not bind")
                .with(x -> x.setRoom(0, 0, 44))
                .is(89, x -> x.reach(0, 0))
                .with(x -> x.setRange(0, 0, 90)).is(89, x -> x.reach(0, 0))
                .with(x -> x.setRange(0, 0, 89)).is(89, x -> x.reach(0, 0))
                .with(x -> x.setRange(0, 0, 88)).is(88, x -> x.reach(0, 0))
                .with(x -> x.setRange(0, 0, 90))
                .with(x -> x.setRoom(0, 0, 45)).is(90, x -> x.reach(0, 0))
                .with(x -> x.setRange(0, 0, 150)).is(91, x -> x.reach(0, 0))
                .with(x -> x.setRoom(0, 0, 60))
                .with(x -> x.setLames(0, 0, 4, 's')).is(150, x -> x.reach(0, 0))
                .with(x -> x.takeOff(0, 0)).is(150, x -> x.reach(0, 0))
                .with(x -> x.setRange(0, 0, 30)).is(30, x -> x.reach(0, 0));
    }

    private static void p31BindsAtNought() {
        Run run = withPlates("31 -1 if it binds at 0")
                .is(1, x -> x.reach(0, 0))
                .with(x -> x.strike(0, 0, 'h', 0, forceFor(9, 320))).is(9, x -> x.of(0, 'd'))
                .is(1, x -> x.reach(0, 0))
                // 330 / 321
                .with(x -> x.strike(0, 0, 'p', 0, 33)).is(10, x -> x.of(0, 'd'))
                .is(true, x -> x.binds(0, 0, 0))
                .is(-1, x -> x.reach(0, 0));
        run.with(x -> x.setRoom(0, 0, 1)).is(1, x -> x.reach(0, 0)).is(false, x -> x.binds(0, 0, 0));
    }

    private static void p32Angles() {
        Run.of("32 angle: 0 to 150").men(3)
                .with(x -> x.setRange(2, 7, 150))
                .within(0, 150, (x, angle) -> x.bend(2, 7, angle))
                .is(0, x -> x.bend(2, 7, 150))
                .is(150, x -> x.bend(2, 7, 0))
                .is(0, x -> x.bend(2, 7, 0))
                .refuses(Due.UNSUPPORTED, x -> x.bend(0, 0, 150))
                .refuses(Due.ARGUMENT, x -> x.bend(0, 0, 151));
    }

    private static void p32BeyondItsReach() {
        withPlates("32 throws UnsupportedOperationException if it is beyond its reach")
                .with(x -> x.setRoom(0, 0, 20))
                .takes(x -> x.bend(0, 0, 0))
                .refuses(Due.UNSUPPORTED, x -> x.bend(0, 0, 42))
                .refuses(Due.UNSUPPORTED, x -> x.bend(0, 0, 150))
                .refuses(Due.ARGUMENT, x -> x.bend(0, 0, 151))
                .refuses(Due.ARGUMENT, x -> x.bend(0, 0, -1))
                .is(0, x -> x.bend(0, 0, 41))
                .is(41, x -> x.angle(0, 0))
                .refuses(Due.UNSUPPORTED, x -> x.bend(0, 0, 42))
                .with(x -> x.setRoom(0, 0, 19))
                .is(41, x -> x.angle(0, 0))
                .refuses(Due.UNSUPPORTED, x -> x.bend(0, 0, 41))
                .refuses(Due.UNSUPPORTED, x -> x.bend(0, 0, 40))
                .is(41, x -> x.bend(0, 0, 39));
        Run.of("32 beyond its range").men(1)
                .takes(x -> x.bend(0, 0, 90))
                .refuses(Due.UNSUPPORTED, x -> x.bend(0, 0, 91))
                .refuses(Due.INDEX, x -> x.bend(0, 8, 91))
                .refuses(Due.INDEX, x -> x.bend(1, 0, 151));
    }

    private static void p32ReachOfNone() {
        withPlates("32 with a reach of -1 no angle is within it")
                .with(x -> x.bend(0, 0, 1))
                .with(x -> x.strike(0, 0, 'h', 0, 1600))
                .is(-1, x -> x.reach(0, 0))
                .refuses(Due.UNSUPPORTED, x -> x.bend(0, 0, 0))
                .refuses(Due.UNSUPPORTED, x -> x.bend(0, 0, 1))
                .refuses(Due.ARGUMENT, x -> x.bend(0, 0, -1))
                .is(1, x -> x.angle(0, 0))
                .with(x -> x.takeOff(0, 0))
                .is(1, x -> x.bend(0, 0, 0));
    }

    private static void p32RefusedBendWearsNothing() {
        bent(withPlates("32 a bend that throws wears no leathers").with(x -> x.setLames(0, 0, 1, 'l')), 48)
                .refuses(Due.UNSUPPORTED, x -> x.bend(0, 0, 14))
                .refuses(Due.ARGUMENT, x -> x.bend(0, 0, 151))
                .is(48, x -> x.leather(0, 0))
                .is(0, x -> x.bend(0, 0, 13)).is(49, x -> x.leather(0, 0))
                .refuses(Due.UNSUPPORTED, x -> x.bend(0, 0, 14))
                .is(49, x -> x.leather(0, 0))
                .is(13, x -> x.bend(0, 0, 12)).is(50, x -> x.leather(0, 0))
                .is(12, x -> x.angle(0, 0))
                .refuses(Due.UNSUPPORTED, x -> x.bend(0, 0, 12))
                .is(12, x -> x.bend(0, 0, 1)).is(50, x -> x.leather(0, 0));
    }

    private static void p33AsItWasBentLast() {
        withPlates("33 returns the angle, as it was bent last")
                .with(x -> x.setRoom(0, 0, 60))
                .is(0, x -> x.angle(0, 0))
                .with(x -> x.bend(0, 0, 121)).is(121, x -> x.angle(0, 0))
                .with(x -> x.setRoom(0, 0, 0)).is(121, x -> x.angle(0, 0))
                .with(x -> x.strike(0, 0, 'h', 0, 1600)).is(121, x -> x.angle(0, 0))
                .refuses(Due.UNSUPPORTED, x -> x.bend(0, 0, 0)).is(121, x -> x.angle(0, 0))
                .is(true, PlateAndPoint::isSound)
                .with(x -> x.takeOff(0, 0))
                .with(x -> x.bend(0, 0, 150)).is(150, x -> x.angle(0, 0))
                .is(true, PlateAndPoint::isSound)
                .with(x -> x.bend(0, 7, 90)).is(90, x -> x.angle(0, 7))
                .is(0, x -> x.angle(0, 1));
    }
}
