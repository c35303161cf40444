/** Promises 34 to 39: blows, their depth, wounds, weight and breath. */
public final class BlowTests {
    private static final String KINDS = "pehbs";
    private static final int[] GLANCING = {60, 45, 75, 65, 70};
    private static final int[] BITES = {100, 40, 20, 130, 150};

    public static void main(String[] args) {
        promise34Wrong();
        promise34Glances();
        promise34Catches();
        promise34Force();
        promise34Holes();
        promise34Dents();
        promise34Hammer();
        promise34Mail();
        promise34Cloth();
        promise34Ends();
        promise35Depth();
        promise36Wounds();
        promise37Heal();
        promise38Weight();
        promise39Breath();
        Due.end();
    }

    /** A man with a plate 0 on part 0 and a plate 1 on part 1, both of which withstand 320. */
    private static PlateAndPoint withPlates() {
        PlateAndPoint x = Due.withMen(1);
        for (int k = 0; k < 2; k++) {
            x.makePlate(40, 0, 0, 20, 1);
            x.wear(0, k, k);
        }
        return x;
    }

    private static void promise34Wrong() {
        PlateAndPoint x = Due.withMen(3);
        Due.wantsMan("34", x, n -> x.strike(n, 0, 'p', 0, 1));
        Due.wantsPart("34", x, n -> x.strike(0, n, 'p', 0, 1));
        Due.wantsRange("34 angle", x, 0, 90, n -> x.strike(0, 0, 'p', n, 1));
        Due.wantsRange("34 energy", x, 1, 5000, n -> x.strike(0, 0, 'p', 0, n));
        for (char kind : "PqwxE\0".toCharArray()) {
            Due.refuses("34 kind", x, Due.ARGUMENT, () -> x.strike(0, 0, kind, 0, 1));
        }
        Due.refuses("34 part before kind", x, Due.INDEX, () -> x.strike(0, 9, 'q', 91, 0));
    }

    private static void promise34Glances() {
        PlateAndPoint x = withPlates();
        for (int k = 0; k < 5; k++) {
            char kind = KINDS.charAt(k);
            Due.is("34 glances, " + kind, x.strike(0, 0, kind, GLANCING[k], 5000), 'g');
            Due.is("34 does not yet, " + kind, x.strike(0, 0, kind, GLANCING[k] - 1, 1), '-');
            Due.is("34 flat, " + kind, x.strike(0, 0, kind, 90, 5000), 'g');
        }
        Due.is("34 glancing leaves nothing", x.of(0, 'd') + x.of(0, 'o') + x.wounds(0), 0);
        x.takeOff(0, 0);
        x.crease(0, 7);
        x.wear(0, 0, 0);
        for (int k = 0; k < 5; k++) {
            char kind = KINDS.charAt(k);
            Due.is("34 glances by its ridge, " + kind, x.strike(0, 0, kind, GLANCING[k] - 3, 5000), 'g');
            Due.is("34 not by half of 7, cut, " + kind, x.strike(0, 0, kind, GLANCING[k] - 4, 1), '-');
        }
        Due.is("34 no plate, no glancing", x.strike(0, 5, 'e', 80, 5000), 'w');
        Due.is("34 no force at 90", x.strike(0, 5, 'e', 90, 5000), '-');
    }

    private static void promise34Catches() {
        PlateAndPoint x = withPlates();
        x.setOrder(0, 0, false);
        Due.is("34 catches", x.strike(0, 1, 'p', 60, 5000), 'w');
        Due.is("34 catches, flat", x.strike(0, 1, 'p', 90, 5000), '-');
        Due.is("34 the upper one does not", x.strike(0, 0, 'p', 60, 5000), 'g');
        x.takeOff(0, 0);
        Due.is("34 not without the plate above", x.strike(0, 1, 'p', 60, 5000), 'g');
        x.wear(0, 0, 0);
        x.setOrder(0, 1, false);
        x.setOrder(0, 0, true);
        Due.is("34 not by the joint below", x.strike(0, 1, 'p', 60, 5000), 'g');
        x.makePlate(40, 0, 0, 20, 1);
        x.wear(0, 8, 2);
        x.setOrder(0, 7, false);
        Due.is("34 the last part", x.strike(0, 8, 'p', 60, 5000), 'g');
        x.takeOff(0, 1);
        x.wear(0, 7, 1);
        Due.is("34 the last part catches", x.strike(0, 8, 'p', 60, 5000), 'w');
    }

    /** The wound of a blow on a part without anything tells its bite. */
    private static int wound(PlateAndPoint x, char kind, int angle, int energy) {
        x.heal(0);
        x.strike(0, 5, kind, angle, energy);
        return x.wounds(0);
    }

    private static void promise34Force() {
        PlateAndPoint x = Due.withMen(1);
        for (int k = 0; k < 5; k++) {
            char kind = KINDS.charAt(k);
            Due.is("34 bite of 5000, " + kind, wound(x, kind, 0, 5000), 50 * BITES[k] / 10 + 1);
            Due.is("34 bite of 199, " + kind, wound(x, kind, 0, 199), 199 * BITES[k] / 1000 + 1);
        }
        Due.is("34 at 45 a fourth", wound(x, 'p', 45, 5000), 126);
        Due.is("34 at 60 a ninth", wound(x, 'p', 60, 5000), 56);
        // 110 * 47 * 47 / 8100 = 29.9988
        Due.is("34 at 43", wound(x, 'p', 43, 110), 3);
        Due.is("34 at 89", wound(x, 'p', 89, 5000), 0);
        Due.is("34 at 88", wound(x, 'p', 88, 5000), 1);
        Due.is("34 at 80", wound(x, 'p', 80, 2000), 3);
        // the force of 27 at 45 is 6, the bite of a shot 9; of an uncut force of 6.75 it would be 10
        Due.is("34 cut twice, a shot", wound(x, 's', 45, 27), 1);
        // the force of 31 at 45 is 7, the bite of a bolt 9; of an uncut force of 7.75 it would be 10
        Due.is("34 cut twice, a bolt", wound(x, 'b', 45, 31), 1);
        Due.is("34 an edge of 2 bites not", wound(x, 'e', 0, 2), 0);
        Due.is("34 an edge of 3 bites", wound(x, 'e', 0, 3), 1);
        Due.is("34 a hammer of 4 bites not", wound(x, 'h', 0, 4), 0);
        Due.is("34 a hammer of 5 bites", wound(x, 'h', 0, 5), 1);
        Due.is("34 a wound of 9", wound(x, 'p', 0, 9), 1);
        Due.is("34 a wound of 10", wound(x, 'p', 0, 10), 2);
    }

    private static void promise34Holes() {
        PlateAndPoint x = withPlates();
        Due.is("34 320 of 320", x.strike(0, 0, 'p', 0, 320), 'd');
        Due.is("34 no hole", x.of(0, 'o'), 0);
        Due.is("34 321 of 320", x.strike(0, 0, 'p', 0, 321), 'w');
        Due.is("34 a hole", x.of(0, 'o'), 1);
        Due.is("34 a wound of 1", x.wounds(0), 1);
        Due.is("34 no dents by a hole", x.of(0, 'd'), 9);
        Due.is("34 288 of 288", x.strike(0, 0, 'p', 0, 288), 'd');
        Due.is("34 298 of 288", x.strike(0, 0, 'p', 0, 298), 'w');
        Due.is("34 two holes", x.of(0, 'o'), 2);
        Due.is("34 a wound of 2", x.wounds(0), 3);
        Due.is("34 not the other plate", x.of(1, 'o') + x.of(1, 'd'), 0);
        // a hammer of 1605 bites 321
        Due.is("34 a hammer of 1605", x.strike(0, 1, 'h', 0, 1605), 'w');
        Due.is("34 goes through", x.of(1, 'o'), 1);
        Due.is("34 as its bite", x.wounds(0), 4);
        Due.is("34 no dents by it", x.of(1, 'd'), 0);
        // an edge of 720 bites 288
        Due.is("34 an edge of 720", x.strike(0, 1, 'e', 0, 720), 'd');
        Due.is("34 an edge of 723", x.strike(0, 1, 'e', 0, 723), 'w');
    }

    private static void promise34Dents() {
        PlateAndPoint x = withPlates();
        Due.is("34 10 times 32 in 321", x.strike(0, 0, 'p', 0, 32), '-');
        Due.is("34 no dent", x.of(0, 'd'), 0);
        Due.is("34 10 times 33 in 321", x.strike(0, 0, 'p', 0, 33), 'd');
        Due.is("34 a dent", x.of(0, 'd'), 1);
        // an edge of 800 bites 320, its dents are 8000 / 321
        x.strike(0, 0, 'e', 0, 800);
        Due.is("34 by its force", x.of(0, 'd'), 25);
        x.strike(0, 0, 'e', 0, 800);
        x.strike(0, 0, 'e', 0, 800);
        x.strike(0, 0, 'e', 0, 800);
        Due.is("34 97", x.of(0, 'd'), 97);
        Due.is("34 up to 99", x.strike(0, 0, 'e', 0, 800), 'd');
        Due.is("34 99", x.of(0, 'd'), 99);
        Due.is("34 no more dents", x.strike(0, 0, 'e', 0, 800), '-');
        Due.is("34 99 still", x.of(0, 'd'), 99);
    }

    private static void promise34Hammer() {
        PlateAndPoint x = withPlates();
        Due.is("34 a hammer of 3", x.strike(0, 0, 'h', 0, 3), '-');
        Due.is("34 nothing of 3 goes on", x.depth(), 0);
        Due.is("34 a hammer of 4", x.strike(0, 0, 'h', 0, 4), 'w');
        Due.is("34 a wound of 1", x.wounds(0), 1);
        x.heal(0);
        // 20 * 160 / 321 is 9, a fourth of 160 is 40
        Due.is("34 a hammer of 160", x.strike(0, 0, 'h', 0, 160), 'w');
        Due.is("34 twice the dents", x.of(0, 'd'), 9);
        Due.is("34 a wound of 5", x.wounds(0), 5);
        Due.is("34 no hole", x.of(0, 'o'), 0);
        Due.is("34 a fourth of 43, cut", x.strike(0, 0, 'h', 0, 43), 'w');
        Due.is("34 a wound of 2 more", x.wounds(0), 7);
        x.heal(0);
        x.strike(0, 0, 'p', 0, 160);
        Due.is("34 nothing of a point", x.wounds(0), 0);
        Due.is("34 a hammer of 1600", x.strike(0, 0, 'h', 0, 1600), 'w');
        Due.is("34 a wound of 41", x.wounds(0), 41);
        Due.is("34 99 dents", x.of(0, 'd'), 99);
        x.strike(0, 1, 'h', 0, 321);
        Due.is("34 20 times 321 in 321", x.of(1, 'd'), 20);
    }

    private static void promise34Mail() {
        PlateAndPoint x = Due.withMen(1);
        x.setMail(0, 5, 3, true);
        Due.is("34 riveted takes 54", x.strike(0, 5, 'p', 0, 54), '-');
        Due.is("34 55 is 1 more", x.strike(0, 5, 'p', 0, 55), 'w');
        // an edge of 205 bites 82, and of 203 81
        Due.is("34 riveted takes 81 of an edge", x.strike(0, 5, 'e', 0, 203), '-');
        Due.is("34 82 is 1 more", x.strike(0, 5, 'e', 0, 205), 'w');
        Due.is("34 a hammer is no edge", x.strike(0, 5, 'h', 0, 275), 'w');
        Due.is("34 a hammer of 54", x.strike(0, 5, 'h', 0, 274), '-');
        Due.is("34 three wounds", x.wounds(0), 3);
        x.setMail(0, 5, 3, false);
        Due.is("34 others take 18", x.strike(0, 5, 'p', 0, 18), '-');
        Due.is("34 19 is 1 more", x.strike(0, 5, 'p', 0, 19), 'w');
        Due.is("34 others take 27 of an edge", x.strike(0, 5, 'e', 0, 69), '-');
        Due.is("34 28 is 1 more", x.strike(0, 5, 'e', 0, 70), 'w');
        Due.is("34 not elsewhere", x.strike(0, 4, 'p', 0, 1), 'w');
    }

    private static void promise34Cloth() {
        PlateAndPoint x = Due.withMen(1);
        x.setCloth(0, 5, 3);
        Due.is("34 cloth takes 24", x.strike(0, 5, 'p', 0, 24), '-');
        Due.is("34 25 is 1 more", x.strike(0, 5, 'p', 0, 25), 'w');
        Due.is("34 cloth takes 24 of an edge", x.strike(0, 5, 'e', 0, 60), '-');
        Due.is("34 25 of an edge", x.strike(0, 5, 'e', 0, 63), 'w');
        Due.is("34 cloth takes 48 of a hammer", x.strike(0, 5, 'h', 0, 244), '-');
        Due.is("34 49 of a hammer", x.strike(0, 5, 'h', 0, 245), 'w');
        Due.is("34 three wounds", x.wounds(0), 3);
        x.setMail(0, 5, 3, true);
        x.heal(0);
        Due.is("34 mail and cloth take 78", x.strike(0, 5, 'p', 0, 78), '-');
        Due.is("34 88 is 10 more", x.strike(0, 5, 'p', 0, 88), 'w');
        Due.is("34 a wound of 2", x.wounds(0), 2);
    }

    private static void promise34Ends() {
        PlateAndPoint x = withPlates();
        x.setCloth(0, 0, 30);
        Due.is("34 a hole alone", x.strike(0, 0, 'p', 0, 400), 'x');
        Due.is("34 the hole", x.of(0, 'o'), 1);
        Due.is("34 dents alone, though it has a hole", x.strike(0, 0, 'p', 0, 100), 'd');
        Due.is("34 dents and what goes on", x.strike(0, 0, 'h', 0, 100), 'd');
        Due.is("34 nothing", x.strike(0, 0, 'p', 0, 1), '-');
        Due.is("34 nothing, though a part of it goes on", x.strike(0, 0, 'h', 0, 10), '-');
        Due.is("34 a wound before a hole", x.strike(0, 0, 'p', 0, 1000), 'w');
        Due.is("34 a wound before dents", x.strike(0, 1, 'h', 0, 100), 'w');
        Due.is("34 nothing without a plate", x.strike(0, 5, 'p', 90, 100), '-');
    }

    private static void promise35Depth() {
        PlateAndPoint x = Due.withMen(3);
        Due.refuses("35 none", x, Due.NONE, x::depth);
        x.makePlate(40, 0, 0, 20, 1);
        x.prove(0);
        Due.refuses("35 a proof is no blow on a part", x, Due.NONE, x::depth);
        Due.refuses("35 not by a blow that was refused", x, Due.ARGUMENT, () -> x.strike(0, 0, 'p', 0, 0));
        x.strike(0, 0, 'p', 0, 100);
        Due.is("35 nothing there", x.depth(), 0);
        x.setCloth(0, 0, 2);
        x.strike(0, 0, 'p', 0, 16);
        Due.is("35 not through cloth", x.depth(), 0);
        x.strike(0, 0, 'p', 0, 17);
        Due.is("35 through cloth", x.depth(), 1);
        x.setMail(0, 0, 2, true);
        x.strike(0, 0, 'p', 0, 24);
        Due.is("35 not through mail", x.depth(), 0);
        x.strike(0, 0, 'p', 0, 25);
        Due.is("35 through mail", x.depth(), 1);
        x.strike(0, 0, 'p', 0, 41);
        Due.is("35 through mail and cloth", x.depth(), 2);
        x.wear(0, 0, 0);
        int held = x.of(0, 'n');
        x.strike(0, 0, 'p', 0, held);
        Due.is("35 not through the plate", x.depth(), 0);
        x.strike(0, 0, 'h', 0, 4);
        Due.is("35 by 1 through the plate", x.depth(), 1);
        x.strike(0, 0, 'h', 0, 96);
        Due.is("35 hammered through the plate, not the mail", x.depth(), 1);
        x.strike(0, 0, 'h', 0, 100);
        Due.is("35 nor the cloth", x.depth(), 2);
        x.strike(0, 0, 'p', 0, 5000);
        Due.is("35 through all", x.depth(), 3);
        x.strike(0, 0, 'p', 60, 5000);
        Due.is("35 glanced", x.depth(), 0);
        x.strike(0, 1, 'p', 0, 9);
        Due.is("35 nothing there again", x.depth(), 0);
        x.setMail(0, 0, 0, true);
        x.setCloth(0, 0, 0);
        x.strike(0, 0, 'p', 0, 5000);
        Due.is("35 the plate alone", x.depth(), 1);
        x.setCloth(1, 0, 1);
        x.setMail(1, 0, 1, false);
        x.strike(1, 0, 'p', 0, 5000);
        Due.is("35 of another man", x.depth(), 2);
        x.heal(1);
        x.days(1);
        Due.is("35 it stays", x.depth(), 2);
    }

    private static void promise36Wounds() {
        PlateAndPoint x = Due.withMen(3);
        Due.wantsMan("36", x, x::wounds);
        x.strike(0, 0, 'p', 0, 100);
        x.strike(0, 8, 'p', 0, 9);
        x.strike(1, 0, 'p', 0, 5000);
        x.strike(1, 0, 's', 0, 5000);
        Due.is("36 summed", x.wounds(0), 12);
        Due.is("36 of another man", x.wounds(1), 501 + 751);
        Due.is("36 none", x.wounds(2), 0);
    }

    private static void promise37Heal() {
        PlateAndPoint x = Due.withMen(3);
        Due.wantsMan("37", x, x::heal);
        x.strike(0, 0, 'p', 0, 100);
        x.strike(1, 0, 'p', 0, 200);
        Due.is("37 before", x.heal(0), 11);
        Due.is("37 none then", x.wounds(0), 0);
        Due.is("37 none to heal", x.heal(0), 0);
        Due.is("37 not another man", x.wounds(1), 21);
    }

    private static void promise38Weight() {
        PlateAndPoint x = Due.withMen(3);
        Due.wantsMan("38", x, x::weight);
        Due.is("38 nothing", x.weight(0), 0);
        x.makePlate(41, 0, 0, 30, 1);
        x.draw(0, true, 3);
        x.draw(0, false, 6);
        x.wear(0, 3, 0);
        // 41 * 41 * 27 / 100 = 453.87 and 9 * 27 / 10 = 24.3
        Due.is("38 a plate", x.weight(0), 453 + 24);
        x.setPart(0, 5, 33);
        x.setMail(0, 5, 7, true);
        Due.is("38 mail", x.weight(0), 477 + 231);
        x.setCloth(0, 5, 7);
        Due.is("38 cloth, 231 / 10", x.weight(0), 477 + 231 + 23);
        x.setCloth(0, 3, 1);
        Due.is("38 beneath the plate, by the part", x.weight(0), 477 + 231 + 23 + 4);
        x.setMail(1, 0, 9, false);
        Due.is("38 not another man's", x.weight(0), 735);
        Due.is("38 another man", x.weight(1), 360);
        x.setPart(2, 0, 25);
        x.setPart(2, 1, 25);
        x.setCloth(2, 0, 1);
        x.setCloth(2, 1, 1);
        Due.is("38 cut for each part", x.weight(2), 4);
        x.days(30);
        Due.is("38 less by rust", x.weight(0), 735 - 477 + 437 + 23);
    }

    private static void promise39Breath() {
        PlateAndPoint x = Due.withMen(3);
        Due.wantsMan("39", x, n -> x.breath(n, 1));
        Due.wantsRange("39 effort", x, 1, 10, n -> x.breath(0, n));
        Due.refuses("39 man before range", x, Due.INDEX, () -> x.breath(3, 0));
        Due.is("39 bare", x.breath(0, 10), 1200);
        x.setMail(0, 0, 1, true);
        x.setPart(0, 0, 39);
        // 39 / 10 is 3
        Due.is("39 effort 1", x.breath(0, 1), 60000 / 53);
        Due.is("39 effort 10", x.breath(0, 10), 60000 / 80);
        x.setCloth(0, 8, 2);
        x.setCloth(0, 1, 1);
        // 39 and 8 and 4 is 51, which is 5; 15 for the cloth
        Due.is("39 cloth", x.breath(0, 7), 60000 / (50 + 35 + 15));
        x.strike(0, 2, 'p', 0, 95);
        Due.is("39 less by his wounds", x.breath(0, 7), 600 - 10);
        x.strike(0, 2, 'p', 0, 5000);
        Due.is("39 less still", x.breath(0, 7), 600 - 10 - 501);
        x.strike(0, 2, 'p', 0, 881);
        Due.is("39 none", x.breath(0, 7), 0);
        Due.is("39 another man", x.breath(1, 1), 1200);
        x.strike(0, 2, 'p', 0, 5000);
        Due.is("39 none less", x.breath(0, 7), 0);
        for (int k = 0; k < 8; k++) {
            x.setPart(2, k, 99);
            x.setMail(2, k, k == 7 ? 5 : 9, false);
        }
        // 6732 / 10 * 3 and 50 is 2069, and 29 times that is 60001
        Due.is("39 bears 6732", x.breath(2, 3), 28);
    }
}
