/** Promises 2 to 4 and 19 to 33: men, wearing, what lies beneath, joints and poses. */
public final class WearTests {
    public static void main(String[] args) {
        promise2AddMan();
        promise3SetPart();
        promise4SetRange();
        promise19Wear();
        promise20TakeOff();
        promise21PlateAt();
        promise22SetLames();
        promise23SetRoom();
        promise24SetOrder();
        promise25Leather();
        promise26Mend();
        promise27SetCloth();
        promise28SetMail();
        promise29Gap();
        promise30Binds();
        promise31Reach();
        promise32Bend();
        promise33Angle();
        Due.end();
    }

    /** Three men, the first of whom wears plates of 320 on all parts. */
    private static PlateAndPoint withArmour() {
        PlateAndPoint x = Due.withMen(3);
        for (int k = 0; k < 9; k++) {
            x.makePlate(40, 0, 0, 20, 1);
            x.wear(0, k, k);
        }
        return x;
    }

    private static void promise2AddMan() {
        PlateAndPoint x = new PlateAndPoint();
        for (int k = 0; k < 3; k++) {
            int man = k;
            Due.refuses("2 no such man yet", x, Due.INDEX, () -> x.wounds(man));
            Due.is("2 number", x.addMan(), k);
            Due.is("2 no wounds", x.wounds(k), 0);
            Due.is("2 bears nothing", x.weight(k), 0);
        }
        Due.refuses("2 three", x, Due.STATE, x::addMan);
        for (int k = 0; k < 9; k++) {
            Due.is("2 size", x.setPart(0, k, 40), 40);
            Due.is("2 cloth", x.setCloth(0, k, 0), 0);
            Due.is("2 mail", x.setMail(0, k, 0, false), 0);
        }
        for (int k = 0; k < 8; k++) {
            Due.is("2 range", x.setRange(1, k, 90), 90);
            Due.is("2 angle", x.angle(1, k), 0);
            Due.is("2 lames", x.setLames(1, k, 0, 'l'), 0);
            Due.is("2 room", x.setRoom(1, k, 0), 0);
            Due.is("2 order", x.setOrder(1, k, true), true);
        }
    }

    private static void promise3SetPart() {
        PlateAndPoint x = Due.withMen(3);
        x.makePlate(22, 0, 0, 20, 1);
        Due.wantsMan("3", x, n -> x.setPart(n, 0, 40));
        Due.wantsPart("3", x, n -> x.setPart(0, n, 40));
        Due.wantsRange("3 size", x, 20, 99, n -> x.setPart(0, 0, n));
        Due.refuses("3 part before range", x, Due.INDEX, () -> x.setPart(0, 9, 19));
        Due.is("3 from 40", x.setPart(2, 8, 99), 40);
        Due.is("3 from 99", x.setPart(2, 8, 20), 99);
        Due.is("3 another one", x.setPart(2, 7, 40), 40);
        x.wear(2, 8, 0);
        Due.refuses("3 worn", x, Due.UNSUPPORTED, () -> x.setPart(2, 8, 21));
        Due.refuses("3 range before worn", x, Due.ARGUMENT, () -> x.setPart(2, 8, 100));
        x.takeOff(2, 8);
        Due.is("3 taken off", x.setPart(2, 8, 21), 20);
    }

    private static void promise4SetRange() {
        PlateAndPoint x = Due.withMen(3);
        Due.wantsMan("4", x, n -> x.setRange(n, 0, 90));
        Due.wantsJoint("4", x, n -> x.setRange(0, n, 90));
        Due.wantsRange("4 range", x, 30, 150, n -> x.setRange(0, 0, n));
        Due.refuses("4 joint before range", x, Due.INDEX, () -> x.setRange(0, 8, 29));
        x.setLames(1, 7, 1, 'l');
        x.bend(1, 7, 80);
        Due.is("4 from 90", x.setRange(1, 7, 150), 90);
        Due.is("4 at 0 degrees then", x.angle(1, 7), 0);
        Due.is("4 no bend", x.leather(1, 7), 1);
        Due.is("4 reach", x.reach(1, 7), 150);
        Due.is("4 from 150", x.setRange(1, 7, 30), 150);
        Due.is("4 reach then", x.reach(1, 7), 30);
    }

    private static void promise19Wear() {
        PlateAndPoint x = Due.withMen(3);
        for (int size : new int[] {40, 36, 44, 35, 45}) {
            x.makePlate(size, 0, 0, 20, 1);
        }
        int cracked = Due.cracked(x);
        Due.wantsMan("19", x, n -> x.wear(n, 0, 0));
        Due.wantsPart("19", x, n -> x.wear(0, n, 0));
        Due.wantsPlate("19", x, n -> x.wear(0, 0, n));
        Due.refuses("19 cracked", x, Due.UNSUPPORTED, () -> x.wear(0, 0, cracked));
        Due.refuses("19 too small", x, Due.UNSUPPORTED, () -> x.wear(0, 0, 3));
        Due.refuses("19 too large", x, Due.UNSUPPORTED, () -> x.wear(0, 0, 4));
        Due.is("19 bears 320", x.wear(0, 0, 0), 320);
        x.setCloth(0, 5, 3);
        Due.is("19 bears 259 and 12 more", x.wear(0, 1, 1), 591);
        Due.is("19 bears 387 more", x.wear(0, 8, 2), 978);
        Due.is("19 plate", x.plateAt(0, 8), 2);
        x.makePlate(40, 0, 0, 20, 1);
        Due.refuses("19 the part has one", x, Due.UNSUPPORTED, () -> x.wear(0, 0, 6));
        Due.refuses("19 worn on another part", x, Due.UNSUPPORTED, () -> x.wear(0, 2, 0));
        Due.refuses("19 worn by another man", x, Due.UNSUPPORTED, () -> x.wear(1, 0, 0));
        Due.refuses("19 worn here", x, Due.UNSUPPORTED, () -> x.wear(0, 0, 0));
        x.takeOff(0, 0);
        Due.is("19 taken off, by another one", x.wear(1, 0, 0), 320);
    }

    private static void promise20TakeOff() {
        PlateAndPoint x = withArmour();
        Due.wantsMan("20", x, n -> x.takeOff(n, 0));
        Due.wantsPart("20", x, n -> x.takeOff(0, n));
        Due.refuses("20 none", x, Due.NONE, () -> x.takeOff(1, 0));
        Due.is("20 the plate", x.takeOff(0, 4), 4);
        Due.is("20 bears less", x.weight(0), 8 * 320);
        Due.refuses("20 none then", x, Due.NONE, () -> x.takeOff(0, 4));
        Due.is("20 the last one", x.takeOff(0, 8), 8);
        Due.is("20 not worn then", x.thin(8, 1), 19);
    }

    private static void promise21PlateAt() {
        PlateAndPoint x = withArmour();
        Due.wantsMan("21", x, n -> x.plateAt(n, 0));
        Due.wantsPart("21", x, n -> x.plateAt(0, n));
        Due.refuses("21 none", x, Due.NONE, () -> x.plateAt(2, 8));
        Due.is("21 first", x.plateAt(0, 0), 0);
        Due.is("21 last", x.plateAt(0, 8), 8);
        x.takeOff(0, 3);
        Due.refuses("21 none then", x, Due.NONE, () -> x.plateAt(0, 3));
        x.wear(1, 5, 3);
        Due.is("21 put elsewhere", x.plateAt(1, 5), 3);
    }

    private static void promise22SetLames() {
        PlateAndPoint x = Due.withMen(3);
        Due.wantsMan("22", x, n -> x.setLames(n, 0, 1, 'l'));
        Due.wantsJoint("22", x, n -> x.setLames(0, n, 1, 'l'));
        Due.wantsRange("22 many", x, 0, 4, n -> x.setLames(0, 0, n, 'l'));
        for (char kind : "xLSF\0".toCharArray()) {
            Due.refuses("22 kind", x, Due.ARGUMENT, () -> x.setLames(0, 0, 1, kind));
        }
        Due.refuses("22 joint before kind", x, Due.INDEX, () -> x.setLames(0, 8, 1, 'x'));
        Due.is("22 from 0", x.setLames(0, 7, 4, 'l'), 0);
        Due.is("22 leathers slide by 6", x.gap(0, 7, 90), 63 - 24);
        Due.is("22 from 4", x.setLames(0, 7, 3, 's'), 4);
        Due.is("22 rivets slide by 8", x.gap(0, 7, 90), 63 - 24);
        Due.is("22 from 3", x.setLames(0, 7, 2, 'f'), 3);
        Due.is("22 fixed ones do not slide", x.gap(0, 7, 90), 63);
        Due.is("22 from 2", x.setLames(0, 7, 1, 'l'), 2);
        x.bend(0, 7, 10);
        Due.is("22 worn by 1", x.leather(0, 7), 1);
        x.setLames(0, 7, 1, 'l');
        Due.is("22 new leathers", x.leather(0, 7), 0);
        Due.is("22 the angle stays", x.angle(0, 7), 10);
    }

    private static void promise23SetRoom() {
        PlateAndPoint x = withArmour();
        Due.wantsMan("23", x, n -> x.setRoom(n, 0, 1));
        Due.wantsJoint("23", x, n -> x.setRoom(0, n, 1));
        Due.wantsRange("23 room", x, 0, 60, n -> x.setRoom(0, 0, n));
        Due.refuses("23 joint before range", x, Due.INDEX, () -> x.setRoom(0, -1, 61));
        Due.is("23 from 0", x.setRoom(0, 7, 60), 0);
        Due.is("23 room for all", x.reach(0, 7), 90);
        Due.is("23 from 60", x.setRoom(0, 7, 20), 60);
        Due.is("23 less room", x.reach(0, 7), 59);
        Due.is("23 not elsewhere", x.reach(0, 6), 2);
    }

    private static void promise24SetOrder() {
        PlateAndPoint x = withArmour();
        Due.wantsMan("24", x, n -> x.setOrder(n, 0, true));
        Due.wantsJoint("24", x, n -> x.setOrder(0, n, false));
        Due.is("24 at first the upper one", x.setOrder(0, 7, false), true);
        Due.is("24 then the lower one", x.setOrder(0, 7, false), false);
        Due.is("24 a blow catches", x.strike(0, 8, 'p', 60, 100), '-');
        Due.is("24 not above", x.strike(0, 7, 'p', 60, 100), 'g');
        Due.is("24 back", x.setOrder(0, 7, true), false);
        Due.is("24 the upper one again", x.setOrder(0, 7, true), true);
        Due.is("24 a blow glances", x.strike(0, 8, 'p', 60, 100), 'g');
    }

    /** Bends to and fro, so that the leathers are worn by as many. */
    private static void bendOften(PlateAndPoint x, int man, int joint, int many) {
        for (int k = 0; k < many; k++) {
            x.bend(man, joint, x.angle(man, joint) == 0 ? 1 : 0);
        }
    }

    private static void promise25Leather() {
        PlateAndPoint x = Due.withMen(3);
        Due.wantsMan("25", x, n -> x.leather(n, 0));
        Due.wantsJoint("25", x, n -> x.leather(0, n));
        bendOften(x, 0, 0, 3);
        Due.is("25 no lames", x.leather(0, 0), 0);
        x.setLames(0, 0, 2, 's');
        bendOften(x, 0, 0, 3);
        Due.is("25 sliding rivets", x.leather(0, 0), 0);
        x.setLames(0, 0, 2, 'f');
        bendOften(x, 0, 0, 3);
        Due.is("25 fixed rivets", x.leather(0, 0), 0);
        x.setLames(0, 0, 2, 'l');
        bendOften(x, 0, 0, 49);
        Due.is("25 49 bends, 2 lames", x.leather(0, 0), 49);
        x.bend(0, 0, x.angle(0, 0));
        Due.is("25 a bend that changes nothing", x.leather(0, 0), 49);
        Due.is("25 they slide", x.gap(0, 0, 90), 51);
        bendOften(x, 0, 0, 1);
        Due.is("25 worn out", x.leather(0, 0), 50);
        Due.is("25 they slide no more", x.gap(0, 0, 90), 63);
        bendOften(x, 0, 0, 5);
        Due.is("25 where that ends", x.leather(0, 0), 50);
        Due.is("25 not elsewhere", x.leather(0, 1), 0);
    }

    private static void promise26Mend() {
        PlateAndPoint x = Due.withMen(3);
        Due.wantsMan("26", x, n -> x.mend(n, 0));
        Due.wantsJoint("26", x, n -> x.mend(0, n));
        x.setLames(2, 7, 4, 'l');
        Due.is("26 new", x.mend(2, 7), 0);
        bendOften(x, 2, 7, 55);
        Due.is("26 worn out", x.mend(2, 7), 50);
        Due.is("26 mended", x.leather(2, 7), 0);
        Due.is("26 they slide again", x.gap(2, 7, 90), 39);
        x.setLames(2, 7, 4, 's');
        bendOften(x, 2, 7, 2);
        Due.is("26 no leathers", x.mend(2, 7), 0);
    }

    private static void promise27SetCloth() {
        PlateAndPoint x = Due.withMen(3);
        Due.wantsMan("27", x, n -> x.setCloth(n, 0, 1));
        Due.wantsPart("27", x, n -> x.setCloth(0, n, 1));
        Due.wantsRange("27 layers", x, 0, 30, n -> x.setCloth(0, 0, n));
        Due.refuses("27 part before range", x, Due.INDEX, () -> x.setCloth(0, 9, 31));
        Due.is("27 from 0", x.setCloth(0, 8, 30), 0);
        Due.is("27 bears it", x.weight(0), 120);
        Due.is("27 it takes 240", x.strike(0, 8, 'p', 0, 240), '-');
        Due.is("27 from 30", x.setCloth(0, 8, 0), 30);
        Due.is("27 none", x.strike(0, 8, 'p', 0, 240), 'w');
    }

    private static void promise28SetMail() {
        PlateAndPoint x = Due.withMen(3);
        Due.wantsMan("28", x, n -> x.setMail(n, 0, 1, true));
        Due.wantsPart("28", x, n -> x.setMail(0, n, 1, true));
        Due.wantsRange("28 gauge", x, 0, 9, n -> x.setMail(0, 0, n, false));
        Due.refuses("28 part before range", x, Due.INDEX, () -> x.setMail(0, -1, 10, true));
        Due.is("28 from 0", x.setMail(1, 8, 9, true), 0);
        Due.is("28 bears it", x.weight(1), 360);
        Due.is("28 it takes 486", x.strike(1, 8, 'p', 0, 486), '-');
        Due.is("28 from 9", x.setMail(1, 8, 9, false), 9);
        Due.is("28 it takes 162", x.strike(1, 8, 'p', 0, 162), '-');
        Due.is("28 no more than 162", x.strike(1, 8, 'p', 0, 163), 'w');
        Due.is("28 from 9 again", x.setMail(1, 8, 0, true), 9);
        Due.is("28 none", x.strike(1, 8, 'p', 0, 1), 'w');
    }

    private static void promise29Gap() {
        PlateAndPoint x = Due.withMen(3);
        Due.wantsMan("29", x, n -> x.gap(n, 0, 0));
        Due.wantsJoint("29", x, n -> x.gap(0, n, 0));
        Due.wantsRange("29 angle", x, 0, 150, n -> x.gap(0, 0, n));
        Due.refuses("29 joint before range", x, Due.INDEX, () -> x.gap(0, 8, 151));
        Due.is("29 at 0", x.gap(0, 0, 0), 0);
        Due.is("29 at 1", x.gap(0, 0, 1), 0);
        Due.is("29 at 2", x.gap(0, 0, 2), 1);
        Due.is("29 beyond the range", x.gap(0, 0, 150), 105);
        x.setPart(0, 4, 43);
        // half of 83, cut, is 41: 57 * 41 / 57
        Due.is("29 size of the joint above", x.gap(0, 3, 57), 41);
        Due.is("29 size of the joint below", x.gap(0, 4, 57), 41);
        Due.is("29 size of another one", x.gap(0, 5, 57), 40);
        x.makePlate(40, 0, 0, 60, 1);
        x.makePlate(40, 0, 0, 60, 1);
        x.draw(0, true, 7);
        x.draw(0, false, 11);
        x.draw(1, true, 13);
        x.draw(1, false, 17);
        x.wear(0, 0, 0);
        Due.is("29 flare above alone", x.gap(0, 0, 90), 63 - 7);
        x.wear(0, 1, 1);
        Due.is("29 flare above and rise below", x.gap(0, 0, 90), 63 - 7 - 17);
        Due.is("29 flare of that", x.gap(0, 1, 90), 63 - 13);
        x.setLames(0, 0, 2, 's');
        Due.is("29 what lames slide", x.gap(0, 0, 90), 63 - 7 - 17 - 16);
        x.setRoom(0, 0, 60);
        Due.is("29 the room is not asked", x.gap(0, 0, 90), 23);
        Due.is("29 no gap", x.gap(0, 0, 57), 0);
        Due.is("29 no gap below 0", x.gap(0, 0, 0), 0);
        Due.is("29 just 1", x.gap(0, 0, 59), 1);
        x.takeOff(0, 0);
        Due.is("29 rise below alone", x.gap(0, 0, 90), 63 - 17 - 16);
    }

    private static void promise30Binds() {
        PlateAndPoint x = Due.withMen(3);
        Due.wantsMan("30", x, n -> x.binds(n, 0, 0));
        Due.wantsJoint("30", x, n -> x.binds(0, n, 0));
        Due.wantsRange("30 angle", x, 0, 150, n -> x.binds(0, 0, n));
        Due.refuses("30 joint before range", x, Due.INDEX, () -> x.binds(0, 8, 151));
        x.makePlate(40, 0, 0, 20, 1);
        x.makePlate(40, 0, 0, 20, 1);
        Due.is("30 without plates", x.binds(0, 0, 150), false);
        x.wear(0, 0, 0);
        Due.is("30 the upper plate alone", x.binds(0, 0, 150), false);
        x.takeOff(0, 0);
        x.wear(0, 1, 1);
        Due.is("30 the lower plate alone", x.binds(0, 0, 150), false);
        x.wear(0, 0, 0);
        Due.is("30 closes by 0", x.binds(0, 0, 2), false);
        Due.is("30 closes by 1", x.binds(0, 0, 3), true);
        x.setLames(0, 0, 1, 'l');
        // it opens by 13 at 19 degrees and by 14 at 20
        Due.is("30 closes by 6 of 6", x.binds(0, 0, 19), false);
        Due.is("30 closes by 7 of 6", x.binds(0, 0, 20), true);
        x.setRoom(0, 0, 1);
        Due.is("30 closes by 7 of 7", x.binds(0, 0, 20), false);
        x.setLames(0, 0, 0, 'f');
        x.setRoom(0, 0, 52);
        Due.is("30 beyond its range", x.binds(0, 0, 150), false);
        x.setRoom(0, 0, 51);
        Due.is("30 beyond its range, less room", x.binds(0, 0, 150), true);
        promise30Dents(x);
    }

    private static void promise30Dents(PlateAndPoint x) {
        x.setRoom(0, 0, 2);
        // 10 * 310 / 321 is 9, and 10 * 40 / 321 is 1
        x.strike(0, 0, 'p', 0, 310);
        x.strike(0, 1, 'p', 0, 310);
        Due.is("30 9 dents", x.of(0, 'd'), 9);
        Due.is("30 9 dents below", x.of(1, 'd'), 9);
        // at 6 degrees it closes by 2
        Due.is("30 a tenth of 9, twice, is none", x.binds(0, 0, 6), false);
        x.strike(0, 0, 'p', 0, 40);
        Due.is("30 10 dents", x.of(0, 'd'), 10);
        Due.is("30 a tenth of 10", x.binds(0, 0, 6), true);
        Due.is("30 and 9", x.binds(0, 0, 5), false);
        x.strike(0, 1, 'p', 0, 40);
        Due.is("30 a tenth of 10, twice", x.binds(0, 0, 3), true);
        Due.is("30 just 0", x.binds(0, 0, 2), false);
        x.setRoom(0, 0, 1);
        Due.is("30 less than 0", x.binds(0, 0, 0), true);
    }

    private static void promise31Reach() {
        PlateAndPoint x = withArmour();
        Due.wantsMan("31", x, n -> x.reach(n, 0));
        Due.wantsJoint("31", x, n -> x.reach(0, n));
        Due.is("31 without plates", x.reach(1, 7), 90);
        Due.is("31 it binds at 3", x.reach(0, 7), 2);
        x.setRoom(0, 7, 20);
        Due.is("31 it binds at 60", x.reach(0, 7), 59);
        x.setRange(0, 7, 59);
        Due.is("31 to the end of its range", x.reach(0, 7), 59);
        x.setRange(0, 7, 58);
        Due.is("31 a range below that", x.reach(0, 7), 58);
        x.setRange(1, 0, 150);
        Due.is("31 the widest", x.reach(1, 0), 150);
        x.strike(0, 7, 'p', 0, 320);
        x.strike(0, 7, 'p', 0, 320);
        x.setRoom(0, 7, 1);
        Due.is("31 18 dents", x.of(7, 'd'), 18);
        Due.is("31 just 0", x.reach(0, 7), 2);
        x.setRoom(0, 7, 0);
        Due.is("31 it binds at 0", x.reach(0, 7), -1);
    }

    private static void promise32Bend() {
        PlateAndPoint x = withArmour();
        Due.wantsMan("32", x, n -> x.bend(n, 0, 0));
        Due.wantsJoint("32", x, n -> x.bend(0, n, 0));
        Due.wantsRange("32 angle", x, 0, 150, n -> x.bend(1, 0, n));
        Due.refuses("32 joint before range", x, Due.INDEX, () -> x.bend(0, 8, 151));
        Due.refuses("32 beyond its range", x, Due.UNSUPPORTED, () -> x.bend(1, 0, 91));
        Due.is("32 from 0", x.bend(1, 0, 90), 0);
        Due.is("32 from 90", x.bend(1, 0, 90), 90);
        Due.is("32 from 90 back", x.bend(1, 0, 4), 90);
        Due.is("32 it is so then", x.angle(1, 0), 4);
        Due.refuses("32 beyond its reach", x, Due.UNSUPPORTED, () -> x.bend(0, 7, 3));
        Due.refuses("32 range before reach", x, Due.ARGUMENT, () -> x.bend(0, 7, 151));
        Due.is("32 up to its reach", x.bend(0, 7, 2), 0);
        x.strike(0, 7, 'p', 0, 320);
        x.strike(0, 7, 'p', 0, 320);
        Due.is("32 it binds at 0", x.reach(0, 7), -1);
        Due.refuses("32 not even to 0", x, Due.UNSUPPORTED, () -> x.bend(0, 7, 0));
        Due.refuses("32 nor to where it is", x, Due.UNSUPPORTED, () -> x.bend(0, 7, 2));
        x.setLames(1, 0, 1, 'l');
        x.bend(1, 0, 5);
        x.bend(1, 0, 5);
        Due.is("32 a change wears", x.leather(1, 0), 1);
        x.setLames(0, 1, 4, 'l');
        bendOften(x, 0, 1, 49);
        Due.is("32 with the last of the leathers", x.bend(0, 1, 60), 1);
        Due.is("32 the last wore them out", x.leather(0, 1), 50);
        Due.refuses("32 with none left", x, Due.UNSUPPORTED, () -> x.bend(0, 1, 59));
        Due.is("32 back to its reach", x.bend(0, 1, 2), 60);
    }

    private static void promise33Angle() {
        PlateAndPoint x = withArmour();
        Due.wantsMan("33", x, n -> x.angle(n, 0));
        Due.wantsJoint("33", x, n -> x.angle(0, n));
        x.takeOff(0, 0);
        x.bend(0, 0, 77);
        x.bend(2, 7, 33);
        x.wear(0, 0, 0);
        Due.is("33 as it was bent last", x.angle(0, 0), 77);
        Due.is("33 another man", x.angle(2, 7), 33);
        Due.is("33 another joint", x.angle(0, 1), 0);
    }
}
