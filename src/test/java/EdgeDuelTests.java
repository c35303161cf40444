/** The edges of promises 42 to 48: draws and duels, who is down, and what is told of all. */
public final class EdgeDuelTests {
    /** What z is behind the six draws of a round, from 1 on. */
    private static final int BEHIND_SIX = 407355683;
    private static final int MODULUS = 2147483647;

    public static void main(String[] args) {
        p42Range();
        p43SuchMen();
        p43BothTheSame();
        p43Kinds();
        p43Rounds();
        p43OneIsDown();
        p43DrawsFromOne();
        p43DrawsFromTheEnd();
        p43DrawsAtTheirEdges();
        p43FirstTheOneThenTheOther();
        p43EndsAsOneIsDown();
        p43EndsBehindItsRounds();
        for (int z = 1; z <= 20; z++) {
            p43RoundsBegun(z);
        }
        p35DepthInDuels();
        p44HundredOrMore();
        p45AtFirst();
        p45ForEachPlateThenForEachMan();
        p45OfACrackedOne();
        p45Wraps();
        p46None();
        p46Share();
        p47None();
        p47Mean();
        p48BoundsThemselves();
        p48Always();
        Due.end();
    }

    private static void p42Range() {
        Run.of("42 z: 1 to 2147483646")
                .within(1, 2147483646, (x, z) -> x.seed(z))
                .is(1, x -> x.seed(2147483646))
                .is(2147483646, x -> x.seed(2147483645))
                .is(2147483645, x -> x.seed(1))
                .is(1, x -> x.seed(2))
                .refuses(Due.ARGUMENT, x -> x.seed(0))
                .is(2, x -> x.seed(2));
    }

    private static void p43SuchMen() {
        Run.of("43 throws IndexOutOfBoundsException if there is no such man, for either").men(2)
                .numbered(2, (x, man) -> x.duel(man, 1 - man, 'p', 'p', 1))
                .numbered(2, (x, man) -> x.duel(man, 0, 'p', 'p', 1))
                .numbered(2, (x, man) -> x.duel(0, man, 'p', 'p', 1))
                .numbered(2, (x, man) -> x.duel(man, man, 'b', 'b', 0))
                .numbered(2, (x, man) -> x.duel(1, man, 'p', 'p', 51))
                .with(x -> x.strike(0, 0, 'p', 0, 5000))
                .refuses(Due.INDEX, x -> x.duel(0, 2, 'p', 'p', 1))
                .refuses(Due.INDEX, x -> x.duel(2, 0, 'p', 'p', 1));
    }

    private static void p43BothTheSame() {
        Run.of("43 throws IllegalArgumentException if both are the same").men(3)
                .refuses(Due.ARGUMENT, x -> x.duel(0, 0, 'p', 'p', 1))
                .refuses(Due.ARGUMENT, x -> x.duel(2, 2, 'p', 'p', 1))
                .takes(x -> x.duel(2, 0, 'p', 'p', 1))
                .with(x -> x.strike(1, 0, 'p', 0, 5000))
                .refuses(Due.ARGUMENT, x -> x.duel(1, 1, 'p', 'p', 1));
    }

    private static void p43Kinds() {
        Run.of("43 'p', 'e' or 'h', and likewise").men(2)
                .signs("peh", (x, kind) -> x.duel(0, 1, kind, 'p', 1))
                .signs("peh", (x, kind) -> x.duel(0, 1, 'p', kind, 1))
                .refuses(Due.ARGUMENT, x -> x.duel(0, 1, 'b', 'p', 1))
                .refuses(Due.ARGUMENT, x -> x.duel(0, 1, 'p', 's', 1));
    }

    private static void p43Rounds() {
        Run.of("43 rounds: 1 to 50").men(2)
                .within(1, 50, (x, rounds) -> x.duel(0, 1, 'p', 'p', rounds))
                .within(1, 50, (x, rounds) -> x.duel(1, 0, 'e', 'h', rounds));
    }

    private static void p43OneIsDown() {
        Run.of("43 throws UnsupportedOperationException if one is down").men(3)
                .with(x -> x.strike(1, 0, 'p', 0, 980)).is(99, x -> x.wounds(1))
                .takes(x -> x.duel(0, 1, 'p', 'p', 1))
                .takes(x -> x.duel(1, 0, 'p', 'p', 1))
                .with(x -> x.strike(1, 0, 'p', 0, 1)).is(100, x -> x.wounds(1))
                .refuses(Due.UNSUPPORTED, x -> x.duel(0, 1, 'p', 'p', 1))
                .refuses(Due.UNSUPPORTED, x -> x.duel(1, 0, 'p', 'p', 50))
                .takes(x -> x.duel(0, 2, 'p', 'p', 50))
                .refuses(Due.ARGUMENT, x -> x.duel(0, 1, 'p', 'p', 0))
                .refuses(Due.ARGUMENT, x -> x.duel(0, 1, 'p', 'p', 51))
                .refuses(Due.ARGUMENT, x -> x.duel(0, 1, 'b', 'p', 1))
                .refuses(Due.ARGUMENT, x -> x.duel(1, 0, 'p', 'b', 1))
                .refuses(Due.ARGUMENT, x -> x.duel(1, 1, 'p', 'p', 1))
                .refuses(Due.INDEX, x -> x.duel(1, 3, 'p', 'p', 1))
                .with(x -> x.heal(1))
                .takes(x -> x.duel(0, 1, 'p', 'p', 1));
    }

    /** Mail and cloth on all parts of two men, which no blow of a duel goes through. */
    private static Run unhurt(String sentence) {
        return Run.of(sentence).men(2)
                .often(18, (x, k) -> x.setMail(k / 9, k % 9, 9, true))
                .often(18, (x, k) -> x.setCloth(k / 9, k % 9, 30));
    }

    private static void p43DrawsFromOne() {
        unhurt("43 z, 1 at first, becomes z times 48271 modulo 2147483647 for each draw")
                .is(1, x -> x.duel(0, 1, 'p', 'p', 1))
                .is(BEHIND_SIX, x -> x.seed(1))
                .is(1, x -> x.duel(1, 0, 'h', 'e', 1))
                .is(BEHIND_SIX, x -> x.seed(1));
    }

    /** From the last z on all draws are those from the first one on, less than the modulus by as much. */
    private static void p43DrawsFromTheEnd() {
        unhurt("43 z wraps around the modulus")
                .is(1, x -> x.seed(2147483646))
                .is(1, x -> x.duel(0, 1, 'p', 'p', 1))
                .is(MODULUS - BEHIND_SIX, x -> x.seed(2147483646))
                .is(50, x -> x.duel(0, 1, 'p', 'p', 50))
                .is(MODULUS - behind(1, 300), x -> x.seed(1))
                .is(50, x -> x.duel(0, 1, 'p', 'p', 50))
                .is(behind(1, 300), x -> x.seed(1));
    }

    private static int behind(int z, int draws) {
        long next = z;
        for (int k = 0; k < draws; k++) {
            next = next * 48271 % MODULUS;
        }
        return (int) next;
    }

    /** The z from which the draw of the number is due to be of the kind; there is one among the first. */
    private static int zFor(int draws, int many, int due) {
        for (int z = 1; z < 1000000; z++) {
            if (behind(z, draws) % many == due) {
                return z;
            }
        }
        Due.count(false, "there is no z whose draw " + draws + " of " + many + " is " + due);
        return 1;
    }

    /** The blow that the draws from z on tell, as a call. */
    private static Object struck(PlateAndPoint x, int man, char kind, int z) {
        return x.strike(man, behind(z, 1) % 9, kind, behind(z, 2) % 91, behind(z, 3) % 400 + 100);
    }

    private static void p43DrawsAtTheirEdges() {
        int[][] edges = {{1, 9, 0}, {1, 9, 8}, {2, 91, 0}, {2, 91, 90}, {2, 91, 89}, {3, 400, 0}, {3, 400, 399}};
        for (int[] edge : edges) {
            for (char kind : "peh".toCharArray()) {
                int z = zFor(edge[0], edge[1], edge[2]);
                sameBlows("43 draws tell the part, the angle, and the energy", kind, z);
                // the same edge of the other one's blow
                int later = zFor(edge[0] + 3, edge[1], edge[2]);
                sameBlows("43 and so for the other one", kind, later);
            }
        }
    }

    /** A duel of a round leaves what its two blows leave, on plates that tell the part that is struck. */
    private static void sameBlows(String sentence, char kind, int z) {
        PlateAndPoint duelled = armed();
        PlateAndPoint struck = armed();
        duelled.seed(z);
        Due.is(sentence + ", rounds", duelled.duel(0, 1, kind, 'p', 1), 1);
        struck(struck, 1, kind, z);
        int draws = 3;
        if (!struck.isDown(1)) {
            struck(struck, 0, 'p', behind(z, 3));
            draws = 6;
        }
        struck.seed(behind(z, draws));
        Due.is(sentence + ", " + kind + " from " + z, Seen.by(Witness.PLATES, duelled).text(),
                Seen.by(Witness.PLATES, struck).text());
        Due.is(sentence + ", z", duelled.seed(1), behind(z, draws));
        Due.is(sentence + ", wounds of the one", duelled.wounds(0), struck.wounds(0));
        Due.is(sentence + ", wounds of the other one", duelled.wounds(1), struck.wounds(1));
    }

    /** Two men, whose plates are all of another thickness, with the lower ones over the upper ones. */
    private static PlateAndPoint armed() {
        PlateAndPoint x = Due.withMen(2);
        for (int k = 0; k < 18; k++) {
            x.makePlate(40, 0, 0, 5 + k % 9, 1);
            x.wear(k / 9, k % 9, k);
            x.setCloth(k / 9, k % 9, k);
        }
        for (int k = 0; k < 16; k++) {
            x.setOrder(k / 8, k % 8, false);
        }
        return x;
    }

    private static void p43FirstTheOneThenTheOther() {
        // the draws from 2 tell part 8, angle 14, energy 225: a force of 160; then part 7, angle 43, energy 266: 72
        Run.of("43 first the one man, then the other one, strikes the other one").men(3)
                .with(x -> x.seed(2))
                .is(1, x -> x.duel(2, 0, 'p', 'p', 1))
                .is(17, x -> x.heal(0)).is(8, x -> x.heal(2)).is(0, x -> x.heal(1))
                .with(x -> x.seed(2))
                .is(1, x -> x.duel(0, 2, 'p', 'p', 1))
                .is(8, x -> x.heal(0)).is(17, x -> x.heal(2))
                .with(x -> x.seed(2))
                // bites of 64 and 14
                .is(1, x -> x.duel(0, 2, 'e', 'h', 1))
                .is(2, x -> x.heal(0)).is(7, x -> x.heal(2));
    }

    private static void p43EndsAsOneIsDown() {
        // as above: 17 of the first blow, and 8 of the second one
        Run.of("43 a duel ends as one is down, the other one, at 100").men(2)
                .with(x -> x.strike(1, 0, 'p', 0, 820)).is(83, x -> x.wounds(1))
                .with(x -> x.seed(2))
                .is(1, x -> x.duel(0, 1, 'p', 'p', 50))
                .is(100, x -> x.wounds(1)).is(true, x -> x.isDown(1))
                .is(0, x -> x.wounds(0))
                .is(behind(2, 3), x -> x.seed(2));
        Run.of("43 not with 99").men(2)
                .with(x -> x.strike(1, 0, 'p', 0, 819)).is(82, x -> x.wounds(1))
                .with(x -> x.seed(2))
                .is(1, x -> x.duel(0, 1, 'p', 'p', 1))
                .is(99, x -> x.wounds(1)).is(8, x -> x.wounds(0))
                .is(behind(2, 6), x -> x.seed(2));
        Run.of("43 a duel ends as one is down, the one, at 100").men(2)
                .with(x -> x.strike(0, 0, 'p', 0, 910)).is(92, x -> x.wounds(0))
                .with(x -> x.seed(2))
                .is(1, x -> x.duel(0, 1, 'p', 'p', 50))
                .is(100, x -> x.wounds(0)).is(17, x -> x.wounds(1))
                .is(behind(2, 6), x -> x.seed(2));
        Run.of("43 the one is not down with 99, so that another round is begun").men(2)
                .with(x -> x.strike(0, 0, 'p', 0, 900)).is(91, x -> x.wounds(0))
                .with(x -> x.seed(2))
                .is(true, x -> x.duel(0, 1, 'p', 'p', 50) > 1);
    }

    private static void p43EndsBehindItsRounds() {
        for (int rounds : new int[] {1, 2, 49, 50}) {
            unhurt("43 or behind its rounds, " + rounds)
                    .is(rounds, x -> x.duel(0, 1, 'p', 'p', rounds))
                    .is(behind(1, 6 * rounds), x -> x.seed(1))
                    .is(0, x -> x.wounds(0)).is(0, x -> x.wounds(1));
        }
    }

    /** The duel of two bare men, by strikes as the draws from z on tell them, until one is down. */
    private static void p43RoundsBegun(int z) {
        PlateAndPoint struck = Due.withMen(2);
        int rounds = 0;
        int draws = 0;
        while (!struck.isDown(0) && !struck.isDown(1) && rounds < 50) {
            rounds++;
            struck(struck, 1, 'p', behind(z, draws));
            draws += 3;
            if (!struck.isDown(1)) {
                struck(struck, 0, 'p', behind(z, draws));
                draws += 3;
            }
        }
        int due = rounds;
        int left = behind(z, draws);
        for (int most : new int[] {due, due + 1, 50}) {
            Run.of("43 returns how many rounds were begun, from " + z + " of " + most).men(2)
                    .with(x -> x.seed(z))
                    .is(due, x -> x.duel(0, 1, 'p', 'p', most))
                    .is(struck.wounds(0), x -> x.wounds(0))
                    .is(struck.wounds(1), x -> x.wounds(1))
                    .is(left, x -> x.seed(1));
        }
        Run.of("43 with one round less nobody is down, from " + z).men(2)
                .with(x -> x.seed(z))
                .is(due - 1, x -> x.duel(0, 1, 'p', 'p', due - 1))
                .is(false, x -> x.isDown(0))
                .is(false, x -> x.isDown(1));
    }

    private static void p35DepthInDuels() {
        // from 2 on the first blow strikes the part 8 of the other one, the second one the part 7 of the one
        Run.of("35 the depth of the last blow, in duels, too").men(2)
                .refuses(Due.ARGUMENT, x -> x.duel(0, 1, 'p', 'p', 0))
                .refuses(Due.NONE, PlateAndPoint::depth)
                .with(x -> x.setMail(0, 7, 1, true)).with(x -> x.setCloth(0, 7, 1))
                .with(x -> x.seed(2))
                .with(x -> x.duel(0, 1, 'p', 'p', 1))
                .is(2, PlateAndPoint::depth)
                .with(x -> x.setMail(0, 7, 0, true)).with(x -> x.setCloth(0, 7, 0))
                .with(x -> x.setCloth(1, 8, 1))
                .with(x -> x.seed(2))
                .with(x -> x.duel(0, 1, 'p', 'p', 1))
                .is(0, PlateAndPoint::depth);
    }

    private static void p44HundredOrMore() {
        Run.of("44 a man is down with wounds of 100 or more").men(3)
                .is(false, x -> x.isDown(0))
                .with(x -> x.strike(2, 0, 'p', 0, 980)).is(99, x -> x.wounds(2)).is(false, x -> x.isDown(2))
                .with(x -> x.strike(2, 0, 'p', 0, 1)).is(100, x -> x.wounds(2)).is(true, x -> x.isDown(2))
                .with(x -> x.strike(2, 0, 'p', 0, 1)).is(101, x -> x.wounds(2)).is(true, x -> x.isDown(2))
                .is(false, x -> x.isDown(1))
                .with(x -> x.heal(2)).is(false, x -> x.isDown(2));
    }

    private static long sum(int... numbers) {
        long sum = 7;
        for (int number : numbers) {
            sum = 31 * sum + number;
        }
        return sum;
    }

    private static void p45AtFirst() {
        Run.of("45 returns 7 at first, then z").is(218L, PlateAndPoint::checksum)
                .with(x -> x.seed(2147483646)).is(2147483863L, PlateAndPoint::checksum)
                .with(x -> x.seed(1)).is(sum(1), PlateAndPoint::checksum)
                .with(x -> x.makePlate(40, 20, 4, 30, 1)).is(sum(30, 86, 0, 0, 1), PlateAndPoint::checksum);
        Run.of("45 a man without plates").men(1).is(sum(0, 0, 0, 0, 0, 0, 0, 0, 0, 1), PlateAndPoint::checksum)
                .with(x -> x.strike(0, 0, 'p', 0, 10))
                .with(x -> x.bend(0, 0, 90))
                .with(x -> x.bend(0, 7, 80))
                .is(sum(2, 90, 0, 0, 0, 0, 0, 0, 80, 1), PlateAndPoint::checksum);
    }

    private static void p45ForEachPlateThenForEachMan() {
        Run.of("45 for each plate, then for each man his wounds, and for each joint its angle").men(2).plates(2)
                .with(x -> x.prove(0))
                .with(x -> x.wear(1, 0, 0))
                // 1000 in 289
                .with(x -> x.strike(1, 0, 'p', 0, 100))
                .with(x -> x.strike(0, 1, 'p', 0, 10))
                .with(x -> x.strike(1, 1, 'p', 0, 20))
                .often(8, (x, joint) -> x.bend(0, joint, 10 + joint))
                .often(8, (x, joint) -> x.bend(1, joint, 20 + joint))
                .with(x -> x.seed(9))
                .is(sum(20, 80, 3, 1, 20, 80, 0, 0,
                        2, 10, 11, 12, 13, 14, 15, 16, 17,
                        3, 20, 21, 22, 23, 24, 25, 26, 27, 9), PlateAndPoint::checksum)
                .refuses(Due.ARGUMENT, x -> x.seed(0));
    }

    private static void p45OfACrackedOne() {
        Run.of("45 the hardness of a cracked one is 0").cracked(0).is(sum(20, 0, 0, 0, 1), PlateAndPoint::checksum);
    }

    private static void p45Wraps() {
        Run run = Run.of("45 the sum wraps around as a long does").men(3).plates(24).with(x -> x.seed(2147483646));
        long due = 7;
        for (int k = 0; k < 24; k++) {
            due = (((due * 31 + 20) * 31 + 80) * 31) * 31;
        }
        for (int k = 0; k < 27; k++) {
            due = due * 31;
        }
        run.is(due * 31 + 2147483646, PlateAndPoint::checksum);
    }

    private static void p46None() {
        Run.of("46 throws ArithmeticException if there are none").men(3)
                .refuses(Due.ARITHMETIC, PlateAndPoint::provedShare)
                .plates(1).is(0f, PlateAndPoint::provedShare);
    }

    private static void p46Share() {
        Run run = Run.of("46 returns their number divided by that of all, both converted to float").men(1);
        for (int k = 0; k < 24; k++) {
            int number = k;
            run.plate(40, 0, 0, 60)
                    .is((float) k / (float) (k + 1), PlateAndPoint::provedShare)
                    .is(true, x -> x.prove(number));
        }
        run.is(1f, PlateAndPoint::provedShare);
        Run.of("46 a worn and a cracked one count, one whose proof ended does not").men(1)
                .plate(40, 0, 0, 60).plate(40, 71, 0, 60).plate(40, 0, 0, 26)
                .with(x -> x.prove(0)).with(x -> x.prove(1)).with(x -> x.prove(2))
                .is(1f, PlateAndPoint::provedShare)
                .with(x -> x.wear(0, 0, 0)).with(x -> x.quench(1, 800, 'w'))
                .is(1f, PlateAndPoint::provedShare)
                .with(x -> x.days(30)).is(false, x -> x.prove(2))
                .is(2f / 3f, PlateAndPoint::provedShare);
    }

    private static void p47None() {
        Run.of("47 throws ArithmeticException if there are none").men(3)
                .refuses(Due.ARITHMETIC, PlateAndPoint::meanThickness)
                .plates(1).is(20.0, PlateAndPoint::meanThickness);
    }

    private static void p47Mean() {
        Run run = Run.of("47 returns the sum divided by their number, both converted to double");
        int sum = 0;
        for (int k = 0; k < 24; k++) {
            sum += 5 + k * 55 / 23;
            int thickness = 5 + k * 55 / 23;
            double due = (double) sum / (double) (k + 1);
            run.plate(40, 0, 0, thickness).is(due, PlateAndPoint::meanThickness);
        }
        Run.of("47 down to 1").plate(40, 0, 0, 5).plate(40, 0, 0, 5).plate(40, 0, 0, 38)
                .with(x -> x.days(999))
                // 1, 1 and 5
                .is(7.0 / 3.0, PlateAndPoint::meanThickness);
    }

    private static void p48BoundsThemselves() {
        Run.of("48 worn plates fit, angles are within ranges, dents 0 to 99, no plate is thinner than 1").men(3)
                .is(true, PlateAndPoint::isSound)
                .plate(36, 0, 0, 5).plate(44, 0, 0, 5).cracked(2)
                .with(x -> x.wear(0, 0, 0)).is(true, PlateAndPoint::isSound)
                .with(x -> x.wear(0, 8, 1)).is(true, PlateAndPoint::isSound)
                // 2000 in 21, twice
                .with(x -> x.strike(0, 0, 'h', 0, 100)).is(95, x -> x.of(0, 'd')).is(true, PlateAndPoint::isSound)
                .with(x -> x.strike(0, 0, 'h', 0, 100)).is(99, x -> x.of(0, 'd')).is(true, PlateAndPoint::isSound)
                .with(x -> x.days(999)).is(1, x -> x.of(0, 't')).is(true, PlateAndPoint::isSound)
                .with(x -> x.setRange(2, 7, 150)).with(x -> x.bend(2, 7, 150)).is(true, PlateAndPoint::isSound)
                .with(x -> x.setRange(2, 7, 30)).is(true, PlateAndPoint::isSound)
                .with(x -> x.bend(2, 7, 30)).is(true, PlateAndPoint::isSound)
                .with(x -> x.takeOff(0, 0)).with(x -> x.setPart(0, 0, 99)).is(true, PlateAndPoint::isSound);
    }

    private static void p48Always() {
        Run.of("48 all three men, with all plates").men(3).plates(24)
                .often(24, (x, k) -> x.wear(k % 3, k / 3, k))
                .is(true, PlateAndPoint::isSound)
                .with(x -> x.exchange(0, 2, 7)).is(true, PlateAndPoint::isSound)
                .refuses(Due.UNSUPPORTED, x -> x.wear(0, 8, 23)).is(true, PlateAndPoint::isSound)
                .with(x -> x.duel(0, 1, 'h', 'h', 50)).is(true, PlateAndPoint::isSound);
    }
}
