/**
 * What can be seen of an object by its calls, a part of it each, so that an object is not called too often. They set
 * what can only be seen by setting it, so that nothing else is asked of an object then.
 */
enum Witness {
    /** What is answered of all, and of each plate. */
    PLATES {
        @Override
        void see(Seen seen) {
            seen.tell(PlateAndPoint::depth);
            seen.tell(PlateAndPoint::checksum);
            seen.tell(PlateAndPoint::provedShare);
            seen.tell(PlateAndPoint::meanThickness);
            seen.tell(PlateAndPoint::isSound);
            for (int k = 0; k < 24 && seen.number(k, PlateAndPoint::state); k++) {
                int plate = k;
                seen.tell(x -> x.isProved(plate));
                for (char what : "thfrgdouwn".toCharArray()) {
                    seen.tell(x -> x.of(plate, what));
                }
            }
        }
    },

    /** What comes of each plate by work and heat, by which its size, carbon and slag show, and whether it is worn. */
    STEEL {
        @Override
        void see(Seen seen) {
            for (int k = 0; k < 24 && seen.number(k, PlateAndPoint::oil); k++) {
                int plate = k;
                seen.tell(x -> x.gild(plate));
                seen.tell(x -> x.planish(plate));
                seen.tell(x -> x.crease(plate, 1));
                seen.tell(x -> x.draw(plate, true, 1));
                seen.tell(x -> x.quench(plate, 1100, 'o'));
                seen.tell(x -> x.temper(plate, 600));
                seen.tell(x -> x.prove(plate));
                seen.tell(x -> x.thin(plate, 1));
            }
        }
    },

    /** Each joint of each man, and what it was set to. */
    JOINTS {
        @Override
        void see(Seen seen) {
            for (int k = 0; k < 3 && seen.number(k, PlateAndPoint::wounds); k++) {
                int man = k;
                for (int n = 0; n < 8; n++) {
                    int joint = n;
                    seen.tell(x -> x.angle(man, joint));
                    seen.tell(x -> x.reach(man, joint));
                    seen.tell(x -> x.gap(man, joint, 150));
                    seen.tell(x -> x.leather(man, joint));
                    seen.tell(x -> x.setRoom(man, joint, 0));
                    seen.tell(x -> x.setOrder(man, joint, true));
                    seen.tell(x -> x.setRange(man, joint, 30));
                    seen.tell(x -> x.setLames(man, joint, 0, 'l'));
                }
            }
        }
    },

    /** Each man, and each of his parts, with what is on it and beneath. */
    PARTS {
        @Override
        void see(Seen seen) {
            seen.tell(x -> x.seed(1));
            for (int k = 0; k < 3 && seen.number(k, PlateAndPoint::weight); k++) {
                int man = k;
                seen.tell(x -> x.breath(man, 1));
                seen.tell(x -> x.isMatched(man));
                seen.tell(x -> x.isDown(man));
                seen.tell(x -> x.heal(man));
                for (int n = 0; n < 9; n++) {
                    int part = n;
                    seen.tell(x -> x.takeOff(man, part));
                    seen.tell(x -> x.setPart(man, part, 20));
                    seen.tell(x -> x.setCloth(man, part, 0));
                    seen.tell(x -> x.strike(man, part, 'p', 0, 5000));
                    seen.tell(x -> x.wounds(man));
                    seen.tell(x -> x.setMail(man, part, 0, false));
                }
            }
        }
    };

    abstract void see(Seen seen);
}
