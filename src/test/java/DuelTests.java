/** Promises 40 to 48: exchange, marks, duels and what is told of all, and the examples of the document. */
public final class DuelTests {
    public static void main(String[] args) {
        promise40Exchange();
        promise41IsMatched();
        promise42Seed();
        promise43Wrong();
        promise43Duel();
        promise43Draws();
        promise44IsDown();
        promise45Checksum();
        promise46ProvedShare();
        promise47MeanThickness();
        promise48IsSound();
        allAtMost();
        examples();
        Due.end();
    }

    private static void promise40Exchange() {
        PlateAndPoint x = Due.withMen(3);
        int[] sizes = {40, 42, 38, 46, 44};
        for (int k = 0; k < 5; k++) {
            x.makePlate(sizes[k], 0, 0, 20, k / 2);
        }
        Due.wantsMan("40", x, n -> x.exchange(n, 0, 0));
        Due.wantsMan("40 other", x, n -> x.exchange(0, n, 0));
        Due.wantsPart("40", x, n -> x.exchange(0, 1, n));
        Due.refuses("40 part before the same", x, Due.INDEX, () -> x.exchange(0, 0, 9));
        Due.refuses("40 the same", x, Due.ARGUMENT, () -> x.exchange(0, 0, 0));
        Due.refuses("40 none", x, Due.NONE, () -> x.exchange(0, 1, 0));
        x.wear(0, 0, 0);
        Due.refuses("40 the other one has none", x, Due.NONE, () -> x.exchange(0, 1, 0));
        Due.refuses("40 the one has none", x, Due.NONE, () -> x.exchange(1, 0, 0));
        x.wear(1, 0, 1);
        Due.is("40 marks alike", x.exchange(0, 1, 0), true);
        Due.is("40 the one's", x.plateAt(0, 0), 1);
        Due.is("40 the other one's", x.plateAt(1, 0), 0);
        Due.refuses("40 both are still worn", x, Due.UNSUPPORTED, () -> x.thin(0, 1));
        Due.is("40 bears that", x.weight(0), 352);
        x.setPart(2, 0, 42);
        x.wear(2, 0, 2);
        Due.is("40 other marks", x.exchange(2, 1, 0), false);
        Due.is("40 a fit of 2", x.plateAt(2, 0), 0);
        x.takeOff(2, 0);
        x.wear(2, 0, 3);
        Due.refuses("40 46 on 40", x, Due.UNSUPPORTED, () -> x.exchange(2, 1, 0));
        Due.refuses("40 46 on 40, the other way", x, Due.UNSUPPORTED, () -> x.exchange(1, 2, 0));
        x.takeOff(2, 0);
        x.wear(2, 0, 4);
        Due.is("40 a fit of 4", x.exchange(1, 2, 0), false);
        Due.is("40 44 on 40", x.plateAt(1, 0), 4);
        Due.is("40 38 on 42", x.plateAt(2, 0), 2);
        x.takeOff(1, 0);
        Due.is("40 taken off", x.thin(4, 1), 19);
    }

    private static void promise41IsMatched() {
        PlateAndPoint x = Due.withMen(3);
        Due.wantsMan("41", x, x::isMatched);
        Due.is("41 without plates", x.isMatched(0), true);
        x.makePlate(40, 0, 0, 20, 0);
        x.makePlate(40, 0, 0, 20, 99);
        x.makePlate(40, 0, 0, 20, 0);
        x.wear(0, 0, 0);
        Due.is("41 one", x.isMatched(0), true);
        x.wear(0, 8, 1);
        Due.is("41 99 behind 0", x.isMatched(0), false);
        x.takeOff(0, 8);
        x.wear(0, 8, 2);
        Due.is("41 two alike", x.isMatched(0), true);
        x.wear(0, 4, 1);
        Due.is("41 another mark", x.isMatched(0), false);
        x.takeOff(0, 0);
        Due.is("41 0 behind 99", x.isMatched(0), false);
        x.takeOff(0, 8);
        Due.is("41 99 alone", x.isMatched(0), true);
        x.wear(1, 0, 0);
        Due.is("41 another man's is not asked", x.isMatched(0), true);
    }

    private static void promise42Seed() {
        PlateAndPoint x = Due.withMen(2);
        Due.wantsRange("42", x, 1, 2147483646, x::seed);
        Due.is("42 1 at first", x.seed(2147483646), 1);
        Due.is("42 then that", x.seed(1), 2147483646);
        x.setCloth(0, 0, 30);
        x.duel(1, 0, 'p', 'p', 1);
        long z = 1;
        for (int k = 0; k < 6; k++) {
            z = z * 48271 % 2147483647;
        }
        Due.is("42 behind six draws", x.seed(7), z);
    }

    private static void promise43Wrong() {
        PlateAndPoint x = Due.withMen(3);
        Due.wantsMan("43", x, n -> x.duel(n, 0, 'p', 'p', 1));
        Due.wantsMan("43 other", x, n -> x.duel(0, n, 'p', 'p', 1));
        Due.wantsRange("43 rounds", x, 1, 50, n -> x.duel(0, 1, 'p', 'p', n));
        for (char kind : "bsxPH\0".toCharArray()) {
            Due.refuses("43 kind", x, Due.ARGUMENT, () -> x.duel(0, 1, kind, 'p', 1));
            Due.refuses("43 second", x, Due.ARGUMENT, () -> x.duel(0, 1, 'p', kind, 1));
        }
        Due.refuses("43 the same", x, Due.ARGUMENT, () -> x.duel(2, 2, 'p', 'p', 1));
        Due.refuses("43 man before the same", x, Due.INDEX, () -> x.duel(3, 3, 'q', 'p', 1));
        x.strike(1, 0, 'p', 0, 990);
        Due.refuses("43 the other one is down", x, Due.UNSUPPORTED, () -> x.duel(0, 1, 'p', 'p', 1));
        Due.refuses("43 the one is down", x, Due.UNSUPPORTED, () -> x.duel(1, 2, 'p', 'p', 1));
        Due.refuses("43 range before down", x, Due.ARGUMENT, () -> x.duel(0, 1, 'p', 'p', 51));
        Due.refuses("43 kind before down", x, Due.ARGUMENT, () -> x.duel(0, 1, 'p', 's', 1));
    }

    /** A round, told by the calls that it stands for; answers z behind it. */
    private static long round(PlateAndPoint x, long z, char kind, char second) {
        long next = blow(x, z, 1, kind);
        return x.isDown(1) ? next : blow(x, next, 0, second);
    }

    private static long blow(PlateAndPoint x, long z, int struck, char kind) {
        long part = z * 48271 % 2147483647;
        long angle = part * 48271 % 2147483647;
        long energy = angle * 48271 % 2147483647;
        x.strike(struck, (int) (part % 9), kind, (int) (angle % 91), (int) (energy % 400) + 100);
        return energy;
    }

    private static PlateAndPoint armed() {
        PlateAndPoint x = Due.withMen(2);
        for (int k = 0; k < 18; k++) {
            x.makePlate(40, 20 + k, 4, 8 + k / 3, 1);
            if (k % 4 > 0) {
                x.wear(k / 9, k % 9, k);
            }
            x.setCloth(k / 9, k % 9, k % 7);
            x.setMail(k / 9, k % 9, k % 4, k % 3 == 0);
        }
        x.setOrder(1, 3, false);
        return x;
    }

    private static void promise43Duel() {
        String kinds = "peh";
        for (int k = 0; k < 90; k++) {
            int rounds = 1 + k % 50;
            char kind = kinds.charAt(k % 3);
            char second = kinds.charAt(k / 3 % 3);
            PlateAndPoint x = armed();
            PlateAndPoint y = armed();
            long z = 1 + 23861073L * k;
            x.seed((int) z);
            int begun = 0;
            while (begun < rounds && !y.isDown(0) && !y.isDown(1)) {
                begun++;
                z = round(y, z, kind, second);
            }
            Due.is("43 rounds begun", x.duel(0, 1, kind, second, rounds), begun);
            y.seed((int) z);
            Due.is("43 all as by the blows", x.checksum(), y.checksum());
            Due.is("43 the depth of the last one", x.depth(), y.depth());
        }
    }

    private static void promise43Draws() {
        PlateAndPoint x = Due.withMen(3);
        x.seed(2);
        // the draws tell part 8, angle 14, energy 225, so a force of 160; then part 7, angle 43, energy 266, so 72
        Due.is("43 one round", x.duel(2, 0, 'p', 'p', 1), 1);
        Due.is("43 the one strikes first", x.wounds(0), 17);
        Due.is("43 then the other one", x.wounds(2), 8);
        Due.is("43 z", x.seed(2), 814711366);
        x.heal(0);
        x.heal(2);
        // the second one bites 40 of 100: 28
        x.duel(2, 0, 'p', 'e', 1);
        Due.is("43 with the kind of the one", x.wounds(0), 17);
        Due.is("43 with the kind of the other one", x.wounds(2), 3);
        Due.is("43 nobody else", x.wounds(1), 0);
        Due.is("43 all rounds, where none strikes hard", bluntly().duel(0, 1, 'e', 'e', 50), 50);
        PlateAndPoint weak = Due.withMen(2);
        weak.strike(1, 0, 'p', 0, 985);
        weak.duel(0, 1, 'p', 'p', 50);
        Due.is("43 the other one is down", weak.isDown(1), true);
        Due.is("43 so he strikes no more", weak.wounds(0), 0);
    }

    private static PlateAndPoint bluntly() {
        PlateAndPoint x = Due.withMen(2);
        for (int k = 0; k < 18; k++) {
            x.setMail(k / 9, k % 9, 9, true);
        }
        return x;
    }

    private static void promise44IsDown() {
        PlateAndPoint x = Due.withMen(3);
        Due.wantsMan("44", x, x::isDown);
        x.strike(1, 0, 'p', 0, 980);
        Due.is("44 99", x.wounds(1), 99);
        Due.is("44 not with 99", x.isDown(1), false);
        x.strike(1, 0, 'p', 0, 1);
        Due.is("44 with 100", x.isDown(1), true);
        x.strike(1, 0, 'p', 0, 1);
        Due.is("44 with 101", x.isDown(1), true);
        Due.is("44 not another man", x.isDown(0), false);
        x.heal(1);
        Due.is("44 not healed", x.isDown(1), false);
    }

    private static void promise45Checksum() {
        PlateAndPoint x = new PlateAndPoint();
        Due.is("45 z alone", x.checksum(), 7 * 31 + 1);
        x.seed(2147483646);
        Due.is("45 z", x.checksum(), 7 * 31 + 2147483646L);
        x.addMan();
        x.addMan();
        x.makePlate(40, 20, 4, 20, 1);
        Due.cracked(x);
        x.prove(0);
        x.wear(0, 0, 0);
        x.strike(0, 0, 'p', 0, 100);
        x.strike(1, 0, 'p', 0, 100);
        x.strike(0, 1, 'p', 0, 200);
        for (int k = 0; k < 8; k++) {
            x.bend(0, k, 10 + k);
            x.bend(1, k, 20 + k);
        }
        long due = 7;
        // dents: 1000 / 311, where 344 less 34 for the hole withstand
        for (int n : new int[] {20, 86, 3, 1, 20, 0, 0, 0}) {
            due = 31 * due + n;
        }
        due = 31 * due + 21;
        for (int k = 0; k < 8; k++) {
            due = 31 * due + 10 + k;
        }
        due = 31 * due + 11;
        for (int k = 0; k < 8; k++) {
            due = 31 * due + 20 + k;
        }
        Due.is("45 all", x.checksum(), 31 * due + 2147483646L);
    }

    private static void promise46ProvedShare() {
        PlateAndPoint x = new PlateAndPoint();
        Due.refuses("46 none", x, Due.ARITHMETIC, x::provedShare);
        x.makePlate(40, 0, 0, 60, 1);
        Due.is("46 none of 1", x.provedShare(), 0f);
        x.prove(0);
        Due.is("46 1 of 1", x.provedShare(), 1f);
        x.makePlate(40, 0, 0, 5, 1);
        x.prove(1);
        x.makePlate(40, 90, 0, 60, 1);
        Due.is("46 1 of 3", x.provedShare(), 1f / 3f);
        x.prove(2);
        x.quench(2, 800, 'w');
        Due.is("46 2 of 3, a cracked one, too", x.provedShare(), 2f / 3f);
        for (int k = 0; k < 4; k++) {
            x.makePlate(40, 0, 0, 5, 1);
        }
        Due.is("46 2 of 7", x.provedShare(), 2f / 7f);
    }

    private static void promise47MeanThickness() {
        PlateAndPoint x = new PlateAndPoint();
        Due.refuses("47 none", x, Due.ARITHMETIC, x::meanThickness);
        x.makePlate(40, 0, 0, 20, 1);
        Due.is("47 of 1", x.meanThickness(), 20.0);
        x.makePlate(40, 0, 0, 5, 1);
        Due.is("47 of 2", x.meanThickness(), 12.5);
        x.makePlate(40, 0, 0, 60, 1);
        x.thin(2, 2);
        Due.is("47 of 3", x.meanThickness(), 83.0 / 3.0);
    }

    // No call makes an object unsound, so that the answer is always the one; the storm asks it, too.
    private static void promise48IsSound() {
        PlateAndPoint x = new PlateAndPoint();
        Due.is("48 nothing", x.isSound(), true);
        PlateAndPoint y = armed();
        Due.is("48 armed", y.isSound(), true);
        y.setRange(0, 0, 30);
        y.bend(0, 0, 1);
        y.days(999);
        y.makePlate(36, 0, 0, 5, 1);
        y.takeOff(0, 1);
        y.wear(0, 1, 18);
        for (int k = 0; k < 20; k++) {
            y.strike(0, 1, 'h', 0, 5000);
            y.strike(1, 1, 'h', 0, 40);
        }
        Due.cracked(y);
        Due.is("48 worn, bent, rusted, struck and cracked", y.isSound(), true);
        PlateAndPoint last = Due.withMen(1);
        last.makePlate(40, 0, 0, 20, 1);
        last.wear(0, 8, 0);
        last.bend(0, 7, 90);
        last.strike(0, 8, 'h', 0, 1600);
        Due.is("48 the dents are 99", last.of(0, 'd'), 99);
        Due.is("48 the bounds themselves", last.isSound(), true);
    }

    /** As many men and plates as there can be, all parts but three with a plate. */
    private static void allAtMost() {
        PlateAndPoint x = Due.withMen(3);
        for (int k = 0; k < 24; k++) {
            x.makePlate(40, 0, 0, 30 + k, k);
            if (k % 3 == 0) {
                x.prove(k);
            }
            x.wear(k % 3, k / 3, k);
        }
        Due.is("40 the last one", x.exchange(0, 2, 7), false);
        Due.is("40 it is so then", x.plateAt(0, 7), 23);
        Due.is("46 8 of 24", x.provedShare(), 8f / 24f);
        Due.is("47 of 24", x.meanThickness(), (24 * 30 + 276) / 24.0);
        Due.is("48 all", x.isSound(), true);
        Due.is("18 all", x.days(30), 24);
        x.setRange(2, 7, 150);
        x.strike(2, 8, 'p', 0, 70);
        long due = 7;
        for (int k = 0; k < 24; k++) {
            due = (((31 * due + 29 + k) * 31 + 80) * 31) * 31;
        }
        for (int k = 0; k < 27; k++) {
            due = 31 * due + (k == 18 ? 8 : 0);
        }
        Due.is("45 all", x.checksum(), 31 * due + 1);
    }

    private static void examples() {
        PlateAndPoint x = new PlateAndPoint();
        Due.is("example 1", x.makePlate(40, 20, 4, 20, 1), 0);
        Due.is("example 1", x.of(0, 'h'), 86);
        Due.is("example 1", x.quench(0, 800, 'o'), 'h');
        Due.is("example 1", x.of(0, 'h'), 132);
        Due.is("example 1", x.temper(0, 300), 119);
        Due.is("example 1", x.of(0, 'n'), 476);
        Due.is("example 1", x.prove(0), false);
        PlateAndPoint y = new PlateAndPoint();
        Due.is("example 2", y.addMan(), 0);
        Due.is("example 2", y.makePlate(40, 0, 0, 20, 1), 0);
        Due.is("example 2", y.wear(0, 0, 0), 320);
        Due.is("example 2", y.strike(0, 0, 'p', 60, 500), 'g');
        Due.is("example 2", y.strike(0, 0, 'p', 0, 100), 'd');
        Due.is("example 2", y.of(0, 'd'), 3);
        Due.is("example 2", y.strike(0, 0, 's', 0, 900), 'w');
        Due.is("example 2", y.wounds(0), 104);
        Due.is("example 2", y.depth(), 1);
        PlateAndPoint w = new PlateAndPoint();
        Due.is("example 3", w.addMan(), 0);
        Due.is("example 3", w.gap(0, 0, 90), 63);
        Due.is("example 3", w.setLames(0, 0, 2, 's'), 0);
        Due.is("example 3", w.gap(0, 0, 90), 47);
        Due.is("example 3", w.reach(0, 0), 90);
        Due.refuses("example 3", w, Due.UNSUPPORTED, () -> w.bend(0, 0, 91));
    }
}
