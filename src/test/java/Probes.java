import java.util.ArrayList;
import java.util.List;

/** Rows of calls that show what a house has come to: each row is for a house of its own. */
final class Probes {
    private Probes() {
    }

    /** All rows for a house, each cut to at most so many calls. */
    static List<List<Story.Call>> of(Story story, int mostCalls) {
        List<List<Story.Call>> probes = new ArrayList<>();
        List<Story.Call> asked = questions(story);
        for (int from = 0; from < asked.size(); from += mostCalls) {
            probes.add(asked.subList(from, Math.min(asked.size(), from + mostCalls)));
        }
        for (List<Story.Call> row : List.of(rules(), loans(story), doings(story), days(story), years(story))) {
            probes.add(row.subList(0, Math.min(row.size(), mostCalls)));
        }
        return probes;
    }

    /** All that can be asked, also of the thing and the ticket that are not there yet. */
    private static List<Story.Call> questions(Story story) {
        List<Story.Call> asked = new ArrayList<>();
        asked.add(x -> x.day());
        asked.add(x -> x.moneyAnew());
        for (int i = 0; i < 12; i++) {
            int n = i;
            asked.add(x -> x.money(n % 4));
            asked.add(x -> x.expertOf(n / 3, n % 3));
            asked.add(x -> x.bears(n / 4, n % 4));
        }
        for (int i = 0; i <= story.things(); i++) {
            int thing = i;
            for (int what = 0; what < 7; what++) {
                int w = what;
                asked.add(x -> x.thingOf(thing, w));
            }
        }
        for (int i = 0; i <= story.tickets(); i++) {
            int ticket = i;
            for (int what = 0; what < 10; what++) {
                int w = what;
                asked.add(x -> x.ticketOf(ticket, w));
            }
            asked.add(x -> x.interestAnew(ticket));
        }
        return asked;
    }

    /** The rules that answer what they were, and how many there are. */
    private static List<Story.Call> rules() {
        List<Story.Call> told = new ArrayList<>();
        for (int i = 0; i < 10; i++) {
            int person = i;
            told.add(x -> x.classOf(person, 0));
        }
        for (int i = 0; i < 4; i++) {
            int n = i;
            told.add(x -> x.fashion(n, 100));
            told.add(x -> x.bias(n, 0));
        }
        told.add(x -> x.term(14));
        told.add(x -> x.thing(0, 1, 10));
        told.add(x -> x.deposit(1));
        for (int i = 0; i < 31; i++) {
            int n = i;
            told.add(x -> x.amnesty(n, n));
            told.add(x -> x.rate(n % 3, 10));
        }
        return told;
    }

    /** Share and cap of each class are shown by the loans that it gets and those that it does not get. */
    private static List<Story.Call> loans(Story story) {
        List<Story.Call> told = new ArrayList<>();
        int[] byShare = {95, 91, 90, 81, 80, 51, 50, 11, 10, 9};
        int[] byCap = {9001, 3001, 3000, 1001, 1000, 951, 950, 601, 600, 11, 10, 1};
        told.add(x -> x.deposit(100000));
        for (int i = 0; i < 3; i++) {
            int ofClass = i;
            int thing = story.things() + 2 * i;
            told.add(x -> x.thing(0, 1, 100));
            told.add(x -> x.thing(0, 1, 10000));
            told.add(x -> x.classOf(9 - ofClass, ofClass));
            told.add(x -> x.classOf(ofClass, ofClass));
            for (int loan : byShare) {
                told.add(x -> x.pledge(9 - ofClass, thing, 0, ofClass, loan, true));
            }
            for (int loan : byCap) {
                told.add(x -> x.pledge(ofClass, thing + 1, 0, ofClass, loan, true));
            }
        }
        return told;
    }

    /** What clerks do with all that is there. */
    private static List<Story.Call> doings(Story story) {
        List<Story.Call> told = new ArrayList<>();
        Pledgehouse now = story.house();
        for (int i = 0; i < Math.min(12, story.tickets()); i++) {
            int ticket = i;
            int holder = now.ticketOf(ticket, 4);
            int loan = now.ticketOf(ticket, 2);
            told.add(x -> x.claim(ticket, holder));
            told.add(x -> x.offer(ticket, loan));
            told.add(x -> x.renew(ticket, holder, 0));
            told.add(x -> x.show(ticket));
            told.add(x -> x.renew(ticket, holder, 0));
            told.add(x -> x.give(ticket, 9));
            told.add(Story.notice(ticket, 8));
        }
        for (int i = 0; i < 3; i++) {
            int branch = i;
            told.add(x -> x.wind(branch));
            told.add(x -> x.count(branch));
        }
        for (int i = 0; i < Math.min(12, story.things()); i++) {
            int thing = i;
            told.add(x -> x.transfer(thing, (thing + 1) % 3));
            told.add(x -> x.thingOf(thing, 4));
            told.add(x -> x.police(thing));
            told.add(x -> x.court(thing, true));
        }
        for (int i = 0; i < 12; i++) {
            int n = i;
            told.add(x -> x.expertOf(n / 3, n % 3));
        }
        return told;
    }

    /** Day by day: when the first things wear, and who holds the first tickets. */
    private static List<Story.Call> days(Story story) {
        List<Story.Call> told = new ArrayList<>();
        for (int i = 0; i < 61; i++) {
            told.add(x -> x.pass(1));
            for (int n = 1; n < 4; n++) {
                int thing = n;
                told.add(x -> x.thingOf(thing, 2));
            }
            told.add(x -> x.ticketOf(2, 4));
        }
        return told;
    }

    /** Years later: notices have ended, surpluses are given, and what was told for late days counts. */
    private static List<Story.Call> years(Story story) {
        List<Story.Call> told = new ArrayList<>();
        for (int days : new int[] {28, 2, 400, 400, 110, 60, 1, 400, 400}) {
            told.add(x -> x.pass(days));
            for (int what = 0; what < 4; what++) {
                int w = what;
                told.add(x -> x.money(w));
            }
            for (int i = 0; i < Math.min(6, story.tickets()); i++) {
                int ticket = i;
                told.add(x -> x.ticketOf(ticket, 3));
                told.add(x -> x.ticketOf(ticket, 4));
                told.add(x -> x.thingOf(ticket, 1));
            }
        }
        return told;
    }
}
