/** The boundaries that the document names for stores and days: promises 18 to 22. */
public final class StoresEdgesTest {
    public static void main(String[] args) {
        stray();
        strayBeyondWhatIsBorne();
        placesOfFurs();
        placesOfOthers();
        count();
        countOfNothing();
        transfer();
        transferToShelves();
        wind();
        windDays();
        pass();
        furDays();
        furComes();
        clockDays();
        mostWear();
        Checks.end("StoresEdgesTest");
    }

    private static final int[] NO_THINGS = {-1, 11, Integer.MIN_VALUE, Integer.MAX_VALUE};

    /** A house that gives loans to all, with money. */
    private static Story house() {
        return new Story().tell(x -> x.deposit(50000)).tell(Story.charter(0, 50, 100000));
    }

    /** One more thing, pledged for 1. */
    private static Story stored(Story house, int kind, int weight, int branch) {
        int thing = house.things();
        return house.thing(kind, weight, 1000).pledge(0, thing, 0, branch, 1, false);
    }

    private static void stray() {
        Story busy = Houses.busy();
        for (int thing : NO_THINGS) {
            busy.refused("18: no thing " + thing, Story.INDEX, Story.stray(thing, 0, 0));
        }
        busy.range(Document.says(18, "- `branch`: 0 to 2: where it truly comes to"), Story.INDEX, 0, 2,
                (x, n) -> Story.stray(0, n, 1).of(x), 0, 0);
        busy.range(Document.says(18, "- `shelf`: 0 to 3"), Story.INDEX, 0, 3,
                (x, n) -> Story.stray(0, 1, n).of(x), 0, 0);
        String out = Document.says(18, "Throws `IllegalStateException` if it is not STORED");
        for (int thing : new int[] {5, 6, 7, 8, 9}) {
            busy.refused(out + thing, Story.STATE, Story.stray(thing, 0, 0));
            busy.refused(out + " the branch goes first", Story.INDEX, Story.stray(thing, 3, 0));
            busy.refused(out + " the shelf goes first", Story.INDEX, Story.stray(thing, 0, -1));
        }
        String book = Document.says(18, "if it strays, the book does not know");
        busy.due(book, 0, Story.stray(0, 2, 3), 1, x -> x.thingOf(0, 4));
        busy.due(book + " again", 0, Story.stray(4, 1, 3), 1, x -> x.thingOf(4, 4));
        busy.due(book + " a listed one", 0, Story.stray(3, 0, 0), 6, x -> x.thingOf(3, 4));
    }

    private static void strayBeyondWhatIsBorne() {
        Story some = stored(stored(stored(house(), 0, 50, 0), 0, 10, 0), 0, 1, 0);
        some.due("18: a full shelf", 0, x -> x.bears(0, 1), 59, x -> x.bears(0, 2));
        String whether = Document.says(18, "a thing that strays comes to a shelf whether that bears it or not");
        some.due(whether, 0, Story.stray(2, 0, 1), -1, x -> x.bears(0, 1));
        some.due(whether + " from there", 0, Story.stray(2, 0, 1), 60, x -> x.bears(0, 2));
        some.due(whether + " to where it is", 0, Story.stray(0, 0, 1), 0, x -> x.bears(0, 1));
        some.due(whether + " just borne", 0, Story.stray(1, 0, 2), 49, x -> x.bears(0, 2));
        Story more = some.more();
        for (int i = 3; i < 12; i++) {
            stored(more, Pledgehouse.TOOL, 50, i % 3).tell(Story.stray(i, 0, 1));
        }
        more.due(Document.says(32, "below 0 if that is too much"), -450, x -> x.bears(0, 1), 59, x -> x.bears(0, 2));
    }

    private static void placesOfFurs() {
        String furs = Document.says(10,
                "A FUR is put on the shelf 0, if that bears it, otherwise on the lowest other one that does");
        Story some = stored(house(), Pledgehouse.FUR, 40, 0);
        some.due(furs, 0, x -> x.thingOf(0, 4));
        stored(some.more(), Pledgehouse.FUR, 20, 0).due(furs + " 60", 0, x -> x.thingOf(1, 4));
        stored(some.more(), Pledgehouse.FUR, 21, 0).due(furs + " 61", 1, x -> x.thingOf(1, 4));
        Story more = stored(some.more(), Pledgehouse.RING, 40, 0);
        stored(more.more(), Pledgehouse.FUR, 21, 0).due(furs + " 61 and 61", 2, x -> x.thingOf(2, 4));
        stored(more.more(), Pledgehouse.FUR, 20, 0).due(furs + " 60 on 0 and 1", 0, x -> x.thingOf(2, 4));
        Story third = stored(stored(more.more(), Pledgehouse.RING, 40, 0), Pledgehouse.FUR, 21, 0);
        third.due(furs + " 61 three times", 3, x -> x.thingOf(3, 4));
        third.thing(Pledgehouse.FUR, 39, 1000).thing(Pledgehouse.FUR, 40, 1000);
        third.due(furs + " 60 on 3", 4, x -> x.pledge(0, 4, 0, 0, 1, false), 3, x -> x.thingOf(4, 4));
        third.refused(furs + " 61 everywhere", Story.STATE, x -> x.pledge(0, 5, 0, 0, 1, false));
        Story gap = third.more().tell(Story.stray(1, 2, 1));
        gap.due(furs + " the lowest", 4, x -> x.pledge(0, 5, 0, 0, 1, false), 1, x -> x.thingOf(5, 4));
    }

    private static void placesOfOthers() {
        String others = Document.says(10, "other things on the lowest of 1 to 3 that does, otherwise on 0");
        for (int kind : new int[] {Pledgehouse.RING, Pledgehouse.CLOCK, Pledgehouse.TOOL}) {
            Story some = stored(house(), kind, 40, 2);
            some.due(others, 9, x -> x.thingOf(0, 4));
            stored(some.more(), kind, 20, 2).due(others + " 60", 9, x -> x.thingOf(1, 4));
            stored(some, kind, 21, 2).due(others + " 61", 10, x -> x.thingOf(1, 4));
            stored(some, kind, 40, 2).due(others + " 61 and 61", 11, x -> x.thingOf(2, 4));
            stored(some.more(), kind, 39, 2).due(others + " 60 on 2", 10, x -> x.thingOf(3, 4));
            stored(some, kind, 50, 2).due(others + " the cold one", 8, x -> x.thingOf(3, 4));
            stored(some.more(), kind, 10, 2).due(others + " 60 on 1 of all", 9, x -> x.thingOf(4, 4));
            some.thing(kind, 41, 1000);
            some.refused(others + " 61 everywhere", Story.STATE, x -> x.pledge(0, 4, 0, 2, 1, false));
            some.due(others + " another branch", 4, x -> x.pledge(0, 4, 0, 1, 1, false), 5, x -> x.thingOf(4, 4));
        }
    }

    private static void count() {
        Story busy = Houses.busy();
        busy.range(Document.says(19, "- `branch`: 0 to 2"), Story.INDEX, 0, 2, (x, n) -> x.count(n), 100, 1);
        String found = Document.says(19, "and how many are found, together");
        busy.due(found + " the branch of neither", 0, x -> x.count(1), 100, x -> x.count(0));
        busy.due(found + " found", 1, x -> x.count(2), 0, x -> x.count(2));
        busy.due(found + " the book is right then", 1, x -> x.count(2), 11, x -> x.thingOf(4, 4));
        busy.due(found + " missing no more", 1, x -> x.count(2), 0, x -> x.count(0));
        busy.due(found + " and can be redeemed", 1, x -> x.count(2), 945, x -> x.redeem(4, 4));
        String stay = Document.says(19, "which are missing, and stay so (each count tells them anew)");
        busy.due(stay, 100, x -> x.count(0), 100, x -> x.count(0));
        busy.due(stay, 100, x -> x.count(0), 1, x -> x.thingOf(4, 4));
        busy.due(stay, 100, x -> x.count(0), Story.STATE, x -> x.redeem(4, 4));
        String there = Document.says(19, "things are truly there while the book says another place");
        Story shelf = Houses.busy().tell(Story.stray(4, 0, 3));
        shelf.due(there + " another shelf", 1, x -> x.count(0), 3, x -> x.thingOf(4, 4));
        shelf.due(there + " not that of another branch", 0, x -> x.count(2), 1, x -> x.thingOf(4, 4));
        Story back = Houses.busy().tell(Story.stray(4, 0, 1));
        back.due(there + " back", 0, x -> x.count(0), 0, x -> x.count(2));
        Story both = Houses.busy().tell(Story.stray(0, 1, 3)).tell(Story.stray(1, 0, 0)).tell(Story.stray(2, 0, 1));
        both.due(there + " and others are not", 202, x -> x.count(0), 200, x -> x.count(0));
        both.due(there + " one by one", 201, x -> x.count(1), 102, x -> x.count(0));
        both.due(there + " found elsewhere", 202, x -> x.count(0), 1, x -> x.count(1));
    }

    private static void countOfNothing() {
        Story none = house();
        none.due("19: an empty branch", 0, x -> x.count(0), 0, x -> x.count(2));
        none.due("21: an empty branch", 0, x -> x.wind(0), 0, x -> x.wind(2));
        Story all = house();
        for (int i = 0; i < 39; i++) {
            // four heavy things fill a branch, and stray to make place
            stored(all, i % 4, 40, 0).tell(Story.stray(i, 1, i % 4));
        }
        all.due("19: many are missing", 3900, x -> x.count(0), 39, x -> x.count(1));
        all.due("19: many are found", 39, x -> x.count(1), 0, x -> x.count(0));
        Story gone = all.more().tell(x -> x.police(0)).tell(x -> x.court(0, true));
        gone.due("19: one that is OUT is not missing", 3800, x -> x.count(0), 38, x -> x.count(1));
    }

    private static void transfer() {
        Story busy = Houses.busy();
        for (int thing : NO_THINGS) {
            busy.refused("20: no thing " + thing, Story.INDEX, x -> x.transfer(thing, 0));
        }
        busy.range(Document.says(20, "- `branch`: 0 to 2"), Story.INDEX, 0, 2, (x, n) -> x.transfer(0, n), 1, 1);
        String state = Document.says(20, "if it is not STORED, cannot be found, or no shelf there bears it");
        for (int thing : new int[] {5, 6, 7, 8, 9}) {
            busy.refused(state + " OUT " + thing, Story.STATE, x -> x.transfer(thing, 0));
            busy.refused(state + " the branch goes first", Story.INDEX, x -> x.transfer(thing, 3));
        }
        busy.refused(state + " strayed", Story.STATE, x -> x.transfer(4, 2));
        busy.refused(state + " strayed", Story.STATE, x -> x.transfer(4, 0));
        busy.due(state + " counted", 1, x -> x.count(2), 1, x -> x.transfer(4, 2));
        Story shelf = Houses.busy().tell(Story.stray(0, 0, 2));
        shelf.refused(state + " on another shelf", Story.STATE, x -> x.transfer(0, 0));
        busy.due(state + " with a notice", 0, x -> x.transfer(2, 0), 0, x -> x.thingOf(2, 4));
        busy.due(state + " listed", 1, x -> x.transfer(3, 2), 9, x -> x.thingOf(3, 4));
        Story full = house();
        for (int i = 0; i < 4; i++) {
            stored(full, Pledgehouse.RING, 50, 0);
        }
        stored(stored(full, Pledgehouse.TOOL, 10, 1), Pledgehouse.TOOL, 11, 1);
        full.due(state + " 60", 1, x -> x.transfer(4, 0), 1, x -> x.thingOf(4, 4));
        full.refused(state + " 61", Story.STATE, x -> x.transfer(5, 0));
        full.due(state + " 61 elsewhere", 1, x -> x.transfer(5, 2), 9, x -> x.thingOf(5, 4));
    }

    private static void transferToShelves() {
        String own = Document.says(20, "(its own weight is off its shelf then)");
        Story alone = stored(house(), Pledgehouse.RING, 50, 0);
        alone.due(own + " alone", 1, x -> x.transfer(0, 0), 10, x -> x.bears(0, 1));
        Story full = stored(alone.more(), Pledgehouse.RING, 10, 0);
        full.due(own + " with 60", 1, x -> x.transfer(0, 0), 0, x -> x.bears(0, 1));
        full.due(own + " with 60", 1, x -> x.transfer(1, 0), 1, x -> x.thingOf(1, 4));
        Story over = stored(stored(full, Pledgehouse.TOOL, 1, 0), Pledgehouse.TOOL, 50, 1)
                .tell(Story.stray(2, 0, 1)).tell(x -> x.count(0));
        over.due("20: beside 60 a shelf does not bear what strayed to it", -1, x -> x.bears(0, 1), 2, x -> x.transfer(2, 0));
        over.due("20: the heavy one goes", 2, x -> x.transfer(0, 0), 49, x -> x.bears(0, 1));
        over.due("20: one that is not on it", 2, x -> x.transfer(3, 0), 10, x -> x.bears(0, 2));
        String again = Document.says(20, "or to another shelf of its own, as it would be put there");
        Story cold = stored(stored(house(), Pledgehouse.FUR, 40, 0), Pledgehouse.FUR, 40, 0);
        cold.due(again + " a fur stays", 1, x -> x.transfer(1, 0), 1, x -> x.thingOf(1, 4));
        Story free = cold.more().tell(x -> x.redeem(0, 0));
        free.due(again + " a fur comes to the cold", 0, x -> x.transfer(1, 0), 60, x -> x.bears(0, 1));
        Story last = house();
        for (int i = 0; i < 4; i++) {
            stored(last, Pledgehouse.TOOL, 50, 0);
        }
        Story room = last.more().tell(x -> x.redeem(1, 0));
        room.due(again + " off the cold", 2, x -> x.transfer(3, 0), 60, x -> x.bears(0, 0));
        last.due(again + " on the cold still", 0, x -> x.transfer(3, 0), 10, x -> x.bears(0, 0));
    }

    private static void wind() {
        Story busy = Houses.busy();
        // one clock in the branch 1, one in the branch 2
        busy.range(Document.says(21, "- `branch`: 0 to 2"), Story.INDEX, 0, 2, (x, n) -> x.wind(n), 0, 1);
        String truly = Document.says(21, "Winds all clocks that truly are in a branch.");
        Story strayed = Houses.busy().tell(Story.stray(3, 0, 0));
        strayed.due(truly, 1, x -> x.wind(0), 0, x -> x.wind(1));
        Story both = Houses.busy().tell(Story.stray(3, 2, 0));
        both.due(truly, 2, x -> x.wind(2), 0, x -> x.wind(1));
        Story out = Houses.busy().tell(x -> x.court(3, true));
        out.due(truly + " OUT", 0, x -> x.wind(1), 1, x -> x.wind(2));
        Story first = stored(stored(house(), Pledgehouse.CLOCK, 5, 0), Pledgehouse.CLOCK, 5, 0);
        first.due(truly + " the first and the last", 2, x -> x.wind(0), 0, x -> x.wind(2));
        first.more().tell(x -> x.redeem(0, 0)).due(truly + " one is OUT", 1, x -> x.wind(0));
        busy.due(truly + " twice", 1, x -> x.wind(1), 1, x -> x.wind(1));
    }

    private static void windDays() {
        // told on the day 66: its 90 days end on the day 156, those without it on the day 90
        String wound = Document.says(22, "a CLOCK, if a multiple of 90 days have passed since it was stored, or wound last");
        Story one = Houses.busy().tell(x -> x.wind(1));
        one.more().pass(89).due(wound + " 89", 0, x -> x.thingOf(3, 2), 1, x -> x.thingOf(10, 2));
        one.more().pass(90).due(wound + " 90", 1, x -> x.thingOf(3, 2), 1, x -> x.thingOf(10, 2));
        Story strayed = Houses.busy().tell(Story.stray(3, 0, 0)).tell(x -> x.wind(1));
        strayed.more().pass(24).due(wound + " not there", 1, x -> x.thingOf(3, 2));
        Story there = Houses.busy().tell(Story.stray(3, 0, 0)).tell(x -> x.wind(0));
        there.more().pass(24).due(wound + " there", 0, x -> x.thingOf(3, 2));
        Story twice = Houses.busy().tell(x -> x.wind(1)).pass(89).tell(x -> x.wind(1));
        twice.more().pass(89).due(wound + " last", 0, x -> x.thingOf(3, 2));
        twice.more().pass(90).due(wound + " last", 1, x -> x.thingOf(3, 2));
        Story late = Houses.busy().pass(24).tell(x -> x.wind(1));
        late.due(wound + " wear stays", 1, x -> x.thingOf(3, 2));
        late.more().pass(90).due(wound + " on the day on which it wore", 2, x -> x.thingOf(3, 2));
    }

    private static void pass() {
        Story busy = Houses.busy();
        busy.range(Document.says(22, "- `days`: 1 to 400"), Story.ARGUMENT, 1, 400, (x, n) -> x.pass(n), 67, 466);
        busy.refused("22: no day", Story.ARGUMENT, x -> x.pass(0));
        String above = Document.says(22, "Throws `IllegalStateException` if it would be above 5000");
        Story late = Houses.busy().pass(4600 - 66);
        late.due(above, 5000, x -> x.pass(400), 5000, x -> x.day());
        late.refused(above + " the argument goes first", Story.ARGUMENT, x -> x.pass(401));
        Story later = late.more().pass(1);
        later.refused(above, Story.STATE, x -> x.pass(400));
        later.due(above, 5000, x -> x.pass(399), Story.STATE, x -> x.pass(1));
        Story last = late.more().pass(400);
        last.refused(above, Story.STATE, x -> x.pass(1));
        last.refused(above, Story.STATE, x -> x.pass(400));
        last.refused(above + " the argument goes first", Story.ARGUMENT, x -> x.pass(0));
        last.refused(above + " the argument goes first", Story.ARGUMENT, x -> x.pass(Integer.MAX_VALUE));
        last.due(above + " other calls go on", 9, x -> x.pledge(9, 8, 0, 0, 1, false), 5060, x -> x.ticketOf(9, 6));
        last.due(above + " an amnesty of the last day", 1, x -> x.amnesty(5000, 5000), 10, x -> x.rate(0, 1));
        Story ends = late.more().pass(372).tell(Story.notice(0, 5)).pass(28);
        ends.due(above + " a notice ends on the last day", 5, x -> x.ticketOf(0, 4));
        Story never = late.more().pass(373).tell(Story.notice(0, 5)).pass(27);
        never.due(above + " a notice that does not end", 0, x -> x.ticketOf(0, 4), 1, x -> x.ticketOf(0, 8));
    }

    private static void furDays() {
        String fur = Document.says(22, "a FUR that is not truly on a shelf 0 wears by 1, if a multiple of 60 days have passed");
        Story warm = stored(stored(house(), Pledgehouse.FUR, 40, 0), Pledgehouse.FUR, 40, 0);
        int[] days = {59, 60, 61, 119, 120, 179, 180, 239, 240};
        int[] wear = {0, 1, 1, 1, 2, 2, 3, 3, 4};
        for (int i = 0; i < days.length; i++) {
            Story then = warm.more().pass(days[i]);
            then.due(fur + " warm, on " + days[i], wear[i], x -> x.thingOf(1, 2));
            then.due(fur + " cold, on " + days[i], 0, x -> x.thingOf(0, 2));
            then.due(fur + " its value", 1000 - 100 * wear[i], x -> x.thingOf(1, 1));
        }
        // the cold shelf is full still, so it comes back to where it was
        Story first = warm.more().pass(7).tell(x -> x.redeem(1, 0)).pass(7).pledge(0, 1, 0, 0, 1, false);
        first.due(fur + " stored anew", 1, x -> x.thingOf(1, 4));
        first.more().pass(53).due(fur + " not since it was first stored", 0, x -> x.thingOf(1, 2));
        first.more().pass(59).due(fur + " stored anew", 0, x -> x.thingOf(1, 2));
        first.more().pass(60).due(fur + " stored anew", 1, x -> x.thingOf(1, 2));
        Story one = warm.more().pass(60);
        one.due(fur + " a day later", 61, x -> x.pass(1), 1, x -> x.thingOf(1, 2));
        one.due(fur + " and redeemed it wears no more", 1 + 5, x -> x.redeem(1, 0), 1, x -> x.thingOf(1, 2));
        one.more().tell(x -> x.redeem(1, 0)).pass(120).due(fur + " OUT", 1, x -> x.thingOf(1, 2));
    }

    private static void furComes() {
        String come = Document.says(22, "since it came to where it truly is (to a place where it is already it does not come)");
        Story warm = stored(stored(house(), Pledgehouse.FUR, 40, 0), Pledgehouse.FUR, 40, 0).pass(59);
        warm.more().tell(Story.stray(1, 0, 1)).pass(1).due(come + " strays to there", 1, x -> x.thingOf(1, 2));
        warm.more().tell(x -> x.transfer(1, 0)).pass(1).due(come + " is brought to there", 1, x -> x.thingOf(1, 2));
        warm.more().tell(Story.stray(1, 0, 2)).pass(1).due(come + " another shelf", 0, x -> x.thingOf(1, 2));
        warm.more().tell(Story.stray(1, 0, 2)).pass(59).due(come + " 59 days", 0, x -> x.thingOf(1, 2));
        warm.more().tell(Story.stray(1, 0, 2)).pass(60).due(come + " 60 days", 1, x -> x.thingOf(1, 2));
        warm.more().tell(Story.stray(1, 1, 1)).pass(1).due(come + " another branch", 0, x -> x.thingOf(1, 2));
        warm.more().tell(Story.stray(1, 0, 0)).pass(60).due(come + " the cold", 0, x -> x.thingOf(1, 2));
        warm.more().tell(Story.stray(1, 2, 0)).pass(120).due(come + " the cold of another", 0, x -> x.thingOf(1, 2));
        warm.more().tell(Story.stray(1, 0, 2)).tell(Story.stray(1, 0, 1)).pass(1)
                .due(come + " there and back", 0, x -> x.thingOf(1, 2));
        warm.more().tell(Story.stray(1, 0, 2)).tell(x -> x.count(0)).pass(60)
                .due(come + " counted on the day", 1, x -> x.thingOf(1, 2));
        warm.more().tell(Story.stray(1, 0, 2)).pass(30).tell(x -> x.count(0)).pass(30)
                .due(come + " counted later", 1, x -> x.thingOf(1, 2));
        warm.more().tell(Story.stray(0, 1, 1)).pass(60).due(come + " the cold one strays", 1, x -> x.thingOf(0, 2));
        warm.more().tell(x -> x.transfer(1, 1)).tell(Story.stray(1, 1, 1)).pass(59)
                .due(come + " brought and strayed", 0, x -> x.thingOf(1, 2));
        warm.more().tell(x -> x.transfer(1, 1)).pass(120)
                .due(come + " brought to the cold", 0, x -> x.thingOf(1, 2));
    }

    private static void clockDays() {
        String clock = Document.says(22, "a CLOCK, if a multiple of 90 days have passed since it was stored");
        Story some = stored(stored(house().pass(11), Pledgehouse.CLOCK, 5, 0), Pledgehouse.RING, 5, 0);
        stored(some, Pledgehouse.TOOL, 5, 0);
        int[] days = {89, 90, 91, 179, 180, 269, 270};
        int[] wear = {0, 1, 1, 1, 2, 2, 3};
        for (int i = 0; i < days.length; i++) {
            Story then = some.more().pass(days[i]);
            then.due(clock + " on " + days[i], wear[i], x -> x.thingOf(0, 2), 0, x -> x.thingOf(1, 2));
            then.due(clock + " a tool", 0, x -> x.thingOf(2, 2));
        }
        Story moved = some.more().pass(50).tell(Story.stray(0, 1, 0)).tell(x -> x.count(1)).tell(x -> x.transfer(0, 2));
        moved.more().pass(39).due(clock + " moved", 0, x -> x.thingOf(0, 2));
        moved.more().pass(40).due(clock + " moved", 1, x -> x.thingOf(0, 2));
        Story anew = some.more().pass(89).tell(x -> x.redeem(0, 0)).pass(1).pledge(0, 0, 0, 0, 1, false);
        anew.due(clock + " OUT on the day", 0, x -> x.thingOf(0, 2));
        anew.more().pass(89).due(clock + " anew", 0, x -> x.thingOf(0, 2));
        anew.more().pass(90).due(clock + " anew", 1, x -> x.thingOf(0, 2));
        Story renewed = some.more().pass(50).tell(x -> x.renew(0, 0, 0));
        renewed.more().pass(40).due(clock + " renewed", 1, x -> x.thingOf(0, 2));
    }

    private static void mostWear() {
        String most = Document.says(22, "its wear is 0 at first, at most 10");
        Story some = stored(stored(stored(house(), Pledgehouse.FUR, 40, 0), Pledgehouse.FUR, 40, 0),
                Pledgehouse.CLOCK, 5, 0);
        some.due(most, 0, x -> x.thingOf(1, 2), 0, x -> x.thingOf(2, 2));
        Story furs = some.more().pass(599);
        furs.due(most + " a fur", 9, x -> x.thingOf(1, 2), 100, x -> x.thingOf(1, 1));
        furs.due(most + " a fur", 600, x -> x.pass(1), 10, x -> x.thingOf(1, 2));
        furs.due(most + " a fur", 600, x -> x.pass(1), 0, x -> x.thingOf(1, 1));
        furs.due(most + " a fur", 660, x -> x.pass(61), 10, x -> x.thingOf(1, 2));
        Story clocks = some.more().pass(899);
        clocks.due(most + " a clock", 9, x -> x.thingOf(2, 2), 10, x -> x.thingOf(1, 2));
        clocks.due(most + " a clock", 900, x -> x.pass(1), 10, x -> x.thingOf(2, 2));
        clocks.due(most + " a clock", 990, x -> x.pass(91), 10, x -> x.thingOf(2, 2));
        Story worn = some.more().pass(990).tell(x -> x.redeem(2, 0));
        worn.refused(most + " worth nothing", Story.STATE, x -> x.pledge(0, 2, 0, 0, 1, false));
        Story ten = some.more().thing(Pledgehouse.CLOCK, 1, 19).pledge(0, 3, 0, 0, 1, false).pass(90);
        // 19 * 9 is 171
        ten.due(Document.says(22, "The value of a thing is its worth times 10 less its wear, divided by 10"), 17,
                x -> x.thingOf(3, 1));
        ten.due("22: 17 by 199 hundredths is 33.83", 100, x -> x.fashion(2, 199), 33, x -> x.thingOf(3, 1));
    }
}
