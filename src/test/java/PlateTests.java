/** Promises 1 and 5 to 18: a new object, and plates. */
public final class PlateTests {
    public static void main(String[] args) {
        promise1NewObject();
        promise5MakePlate();
        promise6Draw();
        promise7Thin();
        promise8Crease();
        promise9Quench();
        promise10Temper();
        promise11Gild();
        promise12Prove();
        promise12ProofStays();
        promise13State();
        promise14IsProved();
        promise15Of();
        promise15Withstands();
        promise16Planish();
        promise17Oil();
        promise18Days();
        Due.end();
    }

    private static PlateAndPoint withPlate(int size, int carbon, int slag, int thickness) {
        PlateAndPoint x = new PlateAndPoint();
        x.makePlate(size, carbon, slag, thickness, 1);
        return x;
    }

    /** A plate 0 that is worn, and a plate 1 that is cracked. */
    private static PlateAndPoint withWornAndCracked() {
        PlateAndPoint x = Due.withMen(1);
        x.makePlate(40, 20, 4, 20, 1);
        x.quench(0, 800, 'o');
        x.wear(0, 0, 0);
        Due.cracked(x);
        return x;
    }

    private static void promise1NewObject() {
        PlateAndPoint x = new PlateAndPoint();
        Due.refuses("1 no man", x, Due.INDEX, () -> x.wounds(0));
        Due.refuses("1 no plate", x, Due.INDEX, () -> x.state(0));
        Due.is("1 z is 1", x.seed(5), 1);
        PlateAndPoint other = new PlateAndPoint();
        other.addMan();
        Due.refuses("1 objects are apart", x, Due.INDEX, () -> x.wounds(0));
    }

    private static void promise5MakePlate() {
        PlateAndPoint x = new PlateAndPoint();
        Due.wantsRange("5 size", x, 20, 99, n -> x.makePlate(n, 0, 0, 5, 0));
        Due.wantsRange("5 carbon", x, 0, 90, n -> x.makePlate(20, n, 0, 5, 0));
        Due.wantsRange("5 slag", x, 0, 20, n -> x.makePlate(20, 0, n, 5, 0));
        Due.wantsRange("5 thickness", x, 5, 60, n -> x.makePlate(20, 0, 0, n, 0));
        Due.wantsRange("5 mark", x, 0, 99, n -> x.makePlate(20, 0, 0, 5, n));
        Due.is("5 least", x.makePlate(20, 0, 0, 5, 0), 0);
        Due.is("5 most", x.makePlate(99, 90, 20, 60, 99), 1);
        Due.is("5 thickness", x.of(1, 't'), 60);
        Due.is("5 hardness", x.of(1, 'h'), 105);
        for (char what : "frgdou".toCharArray()) {
            Due.is("5 at first " + what, x.of(1, what), 0);
        }
        Due.is("5 soft", x.state(1), 's');
        Due.is("5 not proved", x.isProved(1), false);
        for (int k = 2; k < 24; k++) {
            Due.is("5 number", x.makePlate(40, 0, 0, 20, 1), k);
        }
        Due.refuses("5 full", x, Due.STATE, () -> x.makePlate(40, 0, 0, 20, 1));
        Due.refuses("5 range before full", x, Due.ARGUMENT, () -> x.makePlate(40, 0, 0, 4, 1));
    }

    private static void promise6Draw() {
        PlateAndPoint x = withPlate(40, 0, 0, 20);
        Due.wantsPlate("6", x, n -> x.draw(n, true, 1));
        Due.wantsRange("6 by", x, 1, 30, n -> x.draw(0, true, n));
        Due.refuses("6 plate before range", x, Due.INDEX, () -> x.draw(1, true, 0));
        Due.is("6 by 1", x.draw(0, true, 1), 19);
        Due.is("6 by 5", x.draw(0, true, 5), 18);
        Due.is("6 by 6", x.draw(0, false, 6), 16);
        Due.is("6 flare", x.of(0, 'f'), 6);
        Due.is("6 rise", x.of(0, 'r'), 6);
        Due.is("6 by 24 up to 30", x.draw(0, true, 24), 11);
        Due.is("6 flare 30", x.of(0, 'f'), 30);
        Due.refuses("6 flare 31", x, Due.UNSUPPORTED, () -> x.draw(0, true, 1));
        Due.refuses("6 rise 31", x, Due.UNSUPPORTED, () -> x.draw(0, false, 25));
        Due.is("6 rise 30", x.draw(0, false, 24), 6);
        PlateAndPoint thin = withPlate(40, 0, 0, 7);
        Due.refuses("6 thinner than 5", thin, Due.UNSUPPORTED, () -> thin.draw(0, true, 11));
        Due.is("6 down to 5", thin.draw(0, true, 10), 5);
        PlateAndPoint y = withWornAndCracked();
        Due.refuses("6 worn", y, Due.UNSUPPORTED, () -> y.draw(0, true, 1));
        Due.refuses("6 cracked", y, Due.UNSUPPORTED, () -> y.draw(1, true, 1));
        Due.refuses("6 range before worn", y, Due.ARGUMENT, () -> y.draw(0, true, 31));
        PlateAndPoint proved = withPlate(40, 0, 0, 60);
        proved.prove(0);
        Due.refuses("6 proved", proved, Due.UNSUPPORTED, () -> proved.draw(0, false, 1));
    }

    private static void promise7Thin() {
        PlateAndPoint x = withPlate(40, 0, 0, 30);
        Due.wantsPlate("7", x, n -> x.thin(n, 1));
        Due.wantsRange("7 by", x, 1, 20, n -> x.thin(0, n));
        Due.refuses("7 plate before range", x, Due.INDEX, () -> x.thin(1, 0));
        Due.is("7 by 20", x.thin(0, 20), 10);
        Due.refuses("7 thinner than 5", x, Due.UNSUPPORTED, () -> x.thin(0, 6));
        Due.is("7 down to 5", x.thin(0, 5), 5);
        Due.is("7 it is so then", x.of(0, 't'), 5);
        Due.refuses("7 by 1 to 4", x, Due.UNSUPPORTED, () -> x.thin(0, 1));
        x.days(60);
        Due.refuses("7 rusted below 5", x, Due.UNSUPPORTED, () -> x.thin(0, 1));
        PlateAndPoint y = withWornAndCracked();
        Due.refuses("7 worn", y, Due.UNSUPPORTED, () -> y.thin(0, 1));
        Due.refuses("7 cracked", y, Due.UNSUPPORTED, () -> y.thin(1, 1));
        Due.refuses("7 range before worn", y, Due.ARGUMENT, () -> y.thin(0, 21));
        y.takeOff(0, 0);
        Due.is("7 taken off", y.thin(0, 1), 19);
        PlateAndPoint proved = withPlate(40, 0, 0, 60);
        proved.prove(0);
        Due.refuses("7 proved", proved, Due.UNSUPPORTED, () -> proved.thin(0, 1));
    }

    private static void promise8Crease() {
        PlateAndPoint x = withPlate(40, 0, 0, 60);
        Due.wantsPlate("8", x, n -> x.crease(n, 1));
        Due.wantsRange("8 by", x, 1, 20, n -> x.crease(0, n));
        Due.refuses("8 plate before range", x, Due.INDEX, () -> x.crease(1, 0));
        Due.is("8 by 7", x.crease(0, 7), 7);
        Due.refuses("8 above 20", x, Due.UNSUPPORTED, () -> x.crease(0, 14));
        x.prove(0);
        Due.is("8 a proved one, to 20", x.crease(0, 13), 20);
        Due.is("8 still proved", x.isProved(0), true);
        Due.is("8 not thinner", x.of(0, 't'), 60);
        Due.is("8 ridge", x.of(0, 'g'), 20);
        Due.refuses("8 above 20 by 1", x, Due.UNSUPPORTED, () -> x.crease(0, 1));
        PlateAndPoint y = withWornAndCracked();
        Due.refuses("8 worn", y, Due.UNSUPPORTED, () -> y.crease(0, 1));
        Due.refuses("8 cracked", y, Due.UNSUPPORTED, () -> y.crease(1, 1));
        Due.refuses("8 range before worn", y, Due.ARGUMENT, () -> y.crease(0, 0));
    }

    private static int quenched(int carbon, int slag, char bath) {
        PlateAndPoint x = withPlate(40, carbon, slag, 20);
        x.quench(0, 800, bath);
        return x.of(0, 'h');
    }

    private static void promise9Quench() {
        PlateAndPoint x = withPlate(40, 20, 4, 20);
        Due.wantsPlate("9", x, n -> x.quench(n, 800, 'o'));
        Due.wantsRange("9 degrees", x, 600, 1100, n -> x.quench(0, n, 'o'));
        for (char bath : "xWO\0s".toCharArray()) {
            Due.refuses("9 bath", x, Due.ARGUMENT, () -> x.quench(0, 800, bath));
        }
        Due.refuses("9 plate before bath", x, Due.INDEX, () -> x.quench(1, 800, 'q'));
        Due.is("9 at 600", x.quench(0, 600, 'o'), 's');
        Due.is("9 at 749", x.quench(0, 749, 'w'), 's');
        Due.is("9 nothing came of it", x.of(0, 'h'), 86);
        Due.is("9 at 750", x.quench(0, 750, 'w'), 'h');
        Due.is("9 water", x.of(0, 'h'), 152);
        Due.refuses("9 hard", x, Due.UNSUPPORTED, () -> x.quench(0, 800, 'w'));
        Due.refuses("9 hard, below 750", x, Due.UNSUPPORTED, () -> x.quench(0, 700, 'w'));
        x.temper(0, 100);
        Due.refuses("9 tempered", x, Due.UNSUPPORTED, () -> x.quench(0, 800, 'w'));
        x.gild(0);
        Due.is("9 soft again, at 1100", x.quench(0, 1100, 'o'), 'h');
        Due.is("9 oil", x.of(0, 'h'), 132);
        Due.is("9 water, 70", quenched(70, 0, 'w'), 360);
        Due.is("9 water, 71", quenched(71, 0, 'w'), 0);
        Due.is("9 water, 70 with slag", quenched(30, 20, 'w'), 160);
        Due.is("9 water, 71 with slag", quenched(31, 20, 'w'), 0);
        Due.is("9 oil never cracks", quenched(90, 20, 'o'), 310);
        Due.is("9 no less than soft, water", quenched(1, 20, 'w'), 60);
        Due.is("9 no less than soft, oil", quenched(0, 20, 'o'), 60);
        PlateAndPoint y = withPlate(40, 90, 20, 20);
        Due.is("9 below 750 it does not crack", y.quench(0, 749, 'w'), 's');
        Due.is("9 cracks", y.quench(0, 750, 'w'), 'x');
        Due.refuses("9 cracked", y, Due.UNSUPPORTED, () -> y.quench(0, 800, 'o'));
        Due.refuses("9 bath before cracked", y, Due.ARGUMENT, () -> y.quench(0, 800, 'q'));
        PlateAndPoint worn = Due.withMen(1);
        worn.makePlate(40, 20, 4, 20, 1);
        worn.wear(0, 0, 0);
        Due.refuses("9 worn", worn, Due.UNSUPPORTED, () -> worn.quench(0, 800, 'o'));
    }

    private static void promise10Temper() {
        PlateAndPoint x = withPlate(40, 20, 4, 20);
        Due.refuses("10 soft", x, Due.UNSUPPORTED, () -> x.temper(0, 300));
        Due.refuses("10 range before soft", x, Due.ARGUMENT, () -> x.temper(0, 99));
        x.quench(0, 800, 'o');
        Due.wantsPlate("10", x, n -> x.temper(n, 300));
        Due.wantsRange("10 degrees", x, 100, 600, n -> x.temper(0, n));
        Due.is("10 at 300", x.temper(0, 300), 119);
        Due.is("10 tempered", x.state(0), 't');
        Due.is("10 at 100", x.temper(0, 100), 116);
        Due.is("10 at 600", x.temper(0, 600), 98);
        Due.is("10 it is so then", x.of(0, 'h'), 98);
        PlateAndPoint just = withPlate(40, 70, 0, 20);
        just.quench(0, 800, 'w');
        // 360 is 245 more than when soft: 245 * 457 / 1000 = 111.965
        Due.is("10 cut", just.temper(0, 457), 249);
        PlateAndPoint y = withWornAndCracked();
        Due.refuses("10 worn", y, Due.UNSUPPORTED, () -> y.temper(0, 300));
        Due.refuses("10 cracked", y, Due.UNSUPPORTED, () -> y.temper(1, 300));
    }

    private static void promise11Gild() {
        PlateAndPoint x = withPlate(40, 20, 4, 20);
        Due.wantsPlate("11", x, x::gild);
        Due.is("11 soft", x.gild(0), false);
        x.quench(0, 800, 'o');
        Due.is("11 hard", x.gild(0), true);
        Due.is("11 soft then", x.state(0), 's');
        Due.is("11 as soft as before", x.of(0, 'h'), 86);
        x.quench(0, 800, 'w');
        x.temper(0, 100);
        Due.is("11 tempered", x.gild(0), true);
        Due.is("11 soft then, too", x.of(0, 'h'), 86);
        PlateAndPoint y = withWornAndCracked();
        Due.refuses("11 worn", y, Due.UNSUPPORTED, () -> y.gild(0));
        Due.refuses("11 cracked", y, Due.UNSUPPORTED, () -> y.gild(1));
    }

    private static void promise12Prove() {
        PlateAndPoint x = withPlate(40, 90, 0, 20);
        Due.wantsPlate("12", x, x::prove);
        x.crease(0, 2);
        // 20 * 20 * 125 * 104 / 10000; the bite of the proof is 400 * 130 / 100.
        Due.is("12 withstands 520", x.of(0, 'n'), 520);
        Due.is("12 520", x.prove(0), true);
        Due.is("12 no hole", x.of(0, 'o'), 0);
        Due.is("12 no dents", x.of(0, 'd'), 0);
        Due.is("12 again", x.prove(0), true);
        Due.is("12 still no hole", x.of(0, 'o'), 0);
        PlateAndPoint weaker = withPlate(40, 68, 0, 20);
        weaker.crease(0, 7);
        // 20 * 20 * 114 * 114 / 10000
        Due.is("12 withstands 519", weaker.of(0, 'n'), 519);
        Due.is("12 519", weaker.prove(0), false);
        Due.is("12 not proved", weaker.isProved(0), false);
        Due.is("12 a hole more", weaker.of(0, 'o'), 1);
        Due.is("12 no dents then, either", weaker.of(0, 'd'), 0);
        weaker.prove(0);
        Due.is("12 another hole", weaker.of(0, 'o'), 2);
        PlateAndPoint y = withWornAndCracked();
        Due.refuses("12 worn", y, Due.UNSUPPORTED, () -> y.prove(0));
        Due.refuses("12 cracked", y, Due.UNSUPPORTED, () -> y.prove(1));
    }

    private static void promise12ProofStays() {
        PlateAndPoint x = withPlate(40, 71, 0, 26);
        x.prove(0);
        x.gild(0);
        Due.is("12 gilding ends no proof", x.isProved(0), true);
        x.days(300);
        Due.is("12 rust ends no proof", x.isProved(0), true);
        x.quench(0, 800, 'w');
        Due.is("12 it cracked", x.state(0), 'x');
        Due.is("12 cracking ends no proof", x.isProved(0), true);
        PlateAndPoint y = Due.withMen(1);
        y.makePlate(40, 0, 0, 26, 1);
        y.prove(0);
        y.wear(0, 0, 0);
        y.strike(0, 0, 's', 0, 5000);
        y.takeOff(0, 0);
        Due.is("12 a hole ends no proof", y.isProved(0), true);
        Due.is("12 a proof that fails", y.prove(0), false);
        Due.is("12 ends it", y.isProved(0), false);
        Due.is("12 thinned then", y.thin(0, 1), 25);
    }

    private static void promise13State() {
        PlateAndPoint x = withPlate(40, 20, 4, 20);
        Due.wantsPlate("13", x, x::state);
        Due.is("13 soft", x.state(0), 's');
        x.quench(0, 800, 'o');
        Due.is("13 hard", x.state(0), 'h');
        x.temper(0, 300);
        Due.is("13 tempered", x.state(0), 't');
        Due.is("13 cracked", x.state(Due.cracked(x)), 'x');
    }

    private static void promise14IsProved() {
        PlateAndPoint x = withPlate(40, 0, 0, 60);
        x.makePlate(40, 0, 0, 5, 1);
        Due.wantsPlate("14", x, x::isProved);
        Due.is("14 not yet", x.isProved(0), false);
        x.prove(0);
        x.prove(1);
        Due.is("14 proved", x.isProved(0), true);
        Due.is("14 not the thin one", x.isProved(1), false);
    }

    private static void promise15Of() {
        PlateAndPoint x = Due.withMen(1);
        x.makePlate(41, 20, 4, 31, 1);
        Due.wantsPlate("15", x, n -> x.of(n, 't'));
        for (char what : "TxaHz\0".toCharArray()) {
            Due.refuses("15 no such thing", x, Due.ARGUMENT, () -> x.of(0, what));
        }
        Due.refuses("15 plate before thing", x, Due.INDEX, () -> x.of(1, '?'));
        x.draw(0, true, 7);
        x.draw(0, false, 12);
        x.crease(0, 3);
        x.days(13);
        x.wear(0, 0, 0);
        x.strike(0, 0, 'p', 0, 1000);
        Due.is("15 t", x.of(0, 't'), 26);
        Due.is("15 h", x.of(0, 'h'), 86);
        Due.is("15 f", x.of(0, 'f'), 7);
        Due.is("15 r", x.of(0, 'r'), 12);
        Due.is("15 g", x.of(0, 'g'), 3);
        Due.is("15 u", x.of(0, 'u'), 13);
        Due.is("15 o", x.of(0, 'o'), 1);
        // 41 * 41 * 26 / 100 = 437 and 19 * 26 / 10 = 49.
        Due.is("15 w", x.of(0, 'w'), 486);
        // 26 * 26 * 86 * 106 / 10000 = 616, less 61 for the hole.
        Due.is("15 n", x.of(0, 'n'), 555);
        x.strike(0, 0, 'p', 0, 555);
        // 5550 / 556
        Due.is("15 d", x.of(0, 'd'), 9);
        int cracked = Due.cracked(x);
        Due.is("15 h cracked", x.of(cracked, 'h'), 0);
        Due.is("15 n cracked", x.of(cracked, 'n'), 0);
        Due.is("15 t cracked", x.of(cracked, 't'), 20);
        Due.is("15 w cracked", x.of(cracked, 'w'), 320);
        Due.refuses("15 no such thing, cracked", x, Due.ARGUMENT, () -> x.of(cracked, '?'));
    }

    private static void promise15Withstands() {
        PlateAndPoint x = withPlate(40, 0, 0, 5);
        x.makePlate(40, 0, 0, 9, 1);
        // 5 * 5 * 80 / 100 = 20, a tenth of which is 2; 9 * 9 * 80 / 100 = 64, a tenth of which is 6.
        for (int holes = 0; holes <= 12; holes++) {
            Due.is("15 n of 20, holes " + holes, x.of(0, 'n'), Math.max(0, 20 - 2 * holes));
            Due.is("15 n of 64, holes " + holes, x.of(1, 'n'), Math.max(0, 64 - 6 * holes));
            x.prove(0);
            x.prove(1);
        }
        Due.is("15 o", x.of(0, 'o'), 13);
        x.crease(1, 20);
        // 64.8 * 1.4 = 90, less 13 times 9
        Due.is("15 n of 90, holes 13", x.of(1, 'n'), 0);
        x.makePlate(99, 70, 0, 60, 1);
        x.quench(2, 800, 'w');
        x.crease(2, 20);
        Due.is("15 n at most", x.of(2, 'n'), 18144);
        Due.is("15 w at most", x.of(2, 'w'), 5880);
    }

    private static void promise16Planish() {
        PlateAndPoint x = Due.withMen(1);
        x.makePlate(40, 0, 0, 20, 1);
        Due.wantsPlate("16", x, x::planish);
        Due.is("16 none", x.planish(0), 0);
        x.wear(0, 0, 0);
        x.strike(0, 0, 'p', 0, 100);
        Due.refuses("16 worn", x, Due.UNSUPPORTED, () -> x.planish(0));
        x.takeOff(0, 0);
        Due.is("16 three", x.planish(0), 3);
        Due.is("16 none left", x.of(0, 'd'), 0);
        Due.is("16 not thinner", x.of(0, 't'), 20);
        PlateAndPoint y = withWornAndCracked();
        Due.refuses("16 cracked", y, Due.UNSUPPORTED, () -> y.planish(1));
    }

    private static void promise17Oil() {
        PlateAndPoint x = withWornAndCracked();
        Due.wantsPlate("17", x, x::oil);
        Due.is("17 none", x.oil(0), 0);
        x.days(29);
        Due.is("17 a worn one", x.oil(0), 29);
        Due.is("17 none left", x.of(0, 'u'), 0);
        Due.is("17 the other one has its own", x.of(1, 'u'), 29);
        Due.is("17 a cracked one", x.oil(1), 29);
    }

    private static void promise18Days() {
        PlateAndPoint none = new PlateAndPoint();
        Due.wantsRange("18", none, 1, 999, none::days);
        Due.is("18 no plates", none.days(999), 0);
        PlateAndPoint x = withWornAndCracked();
        x.prove(x.makePlate(40, 0, 0, 60, 1));
        Due.is("18 29 days", x.days(29), 0);
        Due.is("18 rust 29", x.of(0, 'u'), 29);
        x.oil(1);
        Due.is("18 the 30th day", x.days(1), 2);
        Due.is("18 rust 0", x.of(0, 'u'), 0);
        Due.is("18 a worn one", x.of(0, 't'), 19);
        Due.is("18 an oiled one", x.of(1, 't'), 20);
        Due.is("18 rust 1", x.of(1, 'u'), 1);
        Due.is("18 a proved one", x.of(2, 't'), 59);
        Due.is("18 each but once", x.days(65), 3);
        Due.is("18 two thinner", x.of(0, 't'), 17);
        Due.is("18 rust 5", x.of(0, 'u'), 5);
        Due.is("18 a cracked one", x.of(1, 't'), 18);
        Due.is("18 rust 6", x.of(1, 'u'), 6);
        PlateAndPoint y = withPlate(40, 0, 0, 5);
        Due.is("18 down to 2", y.days(90), 1);
        Due.is("18 is 2", y.of(0, 't'), 2);
        Due.is("18 down to 1, not below", y.days(75), 1);
        Due.is("18 is 1", y.of(0, 't'), 1);
        Due.is("18 rust goes on", y.of(0, 'u'), 15);
        Due.is("18 not thinner than 1", y.days(30), 0);
        Due.is("18 stays 1", y.of(0, 't'), 1);
        Due.is("18 rust is 0 again", y.days(15), 0);
        Due.is("18 rust 0 again", y.of(0, 'u'), 0);
        Due.is("18 at most", y.days(999), 0);
        Due.is("18 rust of 999", y.of(0, 'u'), 9);
    }
}
