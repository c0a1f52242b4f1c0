import java.util.EnumMap;
import java.util.List;
import java.util.Map;

/**
 * 'What is not listed is not thrown; of several the first one named. A call that throws changes nothing': every call
 * of the face, with ordinary arguments, their ends and what is beyond, in each Situation.
 */
public final class RefusedCallsTest {
    public static void main(String[] args) {
        situationsAreAsSaid();
        List<Call> calls = Call.all();
        for (Situation situation : Situation.values()) {
            String whole = View.of(situation.make());
            String butForHand = View.butForHand(situation.make());
            for (Call call : calls) {
                look(situation, call, whole, butForHand);
            }
        }
        Check.finish();
    }

    private static void look(Situation situation, Call call, String whole, String butForHand) {
        BestReplies x = situation.make();
        String story = situation + ": " + call;
        String outcome = Check.outcome(() -> call.on(x));
        String due = call.thrown(situation);
        Check.due(story + " throws", outcome.startsWith("throws.") ? outcome : Call.NOTHING, due);
        if (!due.equals(Call.NOTHING)) {
            Check.due(story + ", then all", View.of(x), whole);
        } else if (call.leavesANumber()) {
            Check.due(story + ", then all but the number at hand", View.butForHand(x), butForHand);
        } else if (call.isQuestion()) {
            Check.due(story + ", then all", View.of(x), whole);
        }
    }

    /** Else the test would look at less than it says. */
    private static void situationsAreAsSaid() {
        Map<Situation, String> views = new EnumMap<>(Situation.class);
        for (Situation each : Situation.values()) {
            BestReplies x = each.make();
            Check.due(each + ": at hand", Games.hand(x), each.hasGame() ? "-7/2" : "0/1");
            Check.due(each + ": rows", x.told(0), each.hasGame() ? Situation.COUNTS[0] : 0);
            Check.due(each + ": steps", x.told(2), each.hasRun() ? Situation.STEPS : 0);
            Check.due(each + ": entries", x.told(3), each.entries());
            views.put(each, View.of(x));
        }
        Check.due("a round took column 2", Situation.ROUND.make().isThere(1, 2), false);
        Check.due("a list of none", Situation.EMPTY_LIST.make().list(), 0);
        Check.due("a list of none, told anew", Situation.GAME.make().list(), 3);
        Check.due("no two look alike", views.values().stream().distinct().count(), Situation.values().length);
    }
}
