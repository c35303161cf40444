import java.util.List;
import java.util.Set;
import java.util.TreeMap;
import java.util.TreeSet;

/**
 * All that can be seen of an object behind some calls, by names. Each answer is that of an object of its own behind the
 * same calls, so that what is only seen by setting it, or by taking a plate off, is seen all the same.
 */
final class View {
    private final List<Run.Call> calls;
    private final TreeMap<String, Object> answers = new TreeMap<>();

    View(List<Run.Call> calls) {
        this.calls = calls;
        tell("depth", PlateAndPoint::depth);
        tell("z", x -> x.seed(1));
        tell("men", PlateAndPoint::addMan);
        tell("plates", x -> x.makePlate(40, 0, 0, 20, 1));
        for (int k = 0; k < 24; k++) {
            int plate = k;
            if (isThere(x -> x.state(plate))) {
                tellPlate(plate);
            }
        }
        for (int k = 0; k < 3; k++) {
            int man = k;
            if (isThere(x -> x.wounds(man))) {
                tellMan(man);
            }
        }
    }

    Object answer(String name) {
        return answers.get(name);
    }

    /** The names of what the other one sees otherwise, or does not see, or sees alone. */
    Set<String> apartFrom(View other) {
        Set<String> names = new TreeSet<>(answers.keySet());
        names.addAll(other.answers.keySet());
        names.removeIf(name -> answers.containsKey(name) && answers.get(name).equals(other.answers.get(name)));
        return names;
    }

    private PlateAndPoint behindCalls() {
        PlateAndPoint x = new PlateAndPoint();
        for (Run.Call call : calls) {
            call.on(x);
        }
        return x;
    }

    private boolean isThere(Run.Call call) {
        return !(Run.answerOf(behindCalls(), call) instanceof Class);
    }

    private void tell(String name, Run.Call call) {
        Object got = Run.answerOf(behindCalls(), call);
        answers.put(name, got instanceof Class ? ((Class<?>) got).getSimpleName() : got);
    }

    private void tellPlate(int plate) {
        String name = "plate " + plate + " ";
        tell(name + "state", x -> x.state(plate));
        tell(name + "proof", x -> x.isProved(plate));
        for (char what : "thfrgdouwn".toCharArray()) {
            tell(name + what, x -> x.of(plate, what));
        }
        tell(name + "work", x -> x.planish(plate) >= 0);
        tell(name + "soft", x -> {
            takeOffAll(x);
            x.gild(plate);
            return x.of(plate, 'h');
        });
        tell(name + "hard", x -> {
            takeOffAll(x);
            x.gild(plate);
            x.quench(plate, 1100, 'o');
            return x.of(plate, 'h');
        });
    }

    private void tellMan(int man) {
        String name = "man " + man + " ";
        tell(name + "wounds", x -> x.wounds(man));
        tell(name + "weight", x -> x.weight(man));
        tell(name + "breath", x -> x.breath(man, 1));
        tell(name + "match", x -> x.isMatched(man));
        tell(name + "down", x -> x.isDown(man));
        for (int k = 0; k < 9; k++) {
            tellPart(name + "part " + k + " ", man, k);
        }
        for (int k = 0; k < 8; k++) {
            tellJoint(name + "joint " + k + " ", man, k);
        }
    }

    private void tellPart(String name, int man, int part) {
        tell(name + "plate", x -> x.plateAt(man, part));
        tell(name + "cloth", x -> x.setCloth(man, part, 0));
        tell(name + "mail", x -> x.setMail(man, part, 0, false));
        tell(name + "size", x -> {
            takeOffAll(x);
            return x.setPart(man, part, 20);
        });
        // a wound tells what the mail takes, and so whether it is riveted
        tell(name + "rings", x -> {
            takeOffAll(x);
            x.setCloth(man, part, 0);
            x.heal(man);
            x.strike(man, part, 'p', 0, 5000);
            return x.wounds(man);
        });
    }

    private void tellJoint(String name, int man, int joint) {
        tell(name + "angle", x -> x.angle(man, joint));
        tell(name + "gap", x -> x.gap(man, joint, 150));
        tell(name + "bind", x -> x.binds(man, joint, 150));
        tell(name + "reach", x -> x.reach(man, joint));
        tell(name + "leather", x -> x.leather(man, joint));
        tell(name + "room", x -> x.setRoom(man, joint, 0));
        tell(name + "order", x -> x.setOrder(man, joint, true));
        tell(name + "range", x -> x.setRange(man, joint, 30));
        tell(name + "lames", x -> x.setLames(man, joint, 0, 'l'));
    }

    private static void takeOffAll(PlateAndPoint x) {
        for (int k = 0; k < 27; k++) {
            int place = k;
            Run.answerOf(x, worn -> worn.takeOff(place / 9, place % 9));
        }
    }
}
