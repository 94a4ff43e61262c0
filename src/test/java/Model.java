import java.util.ArrayList;
import java.util.List;

/**
 * The document once more, in another way: rates and amnesties are told out day by day, days of wear, notices and
 * surpluses are counted up or down, shelves carry their weights, and the money is the sum of all that moved it.
 * A refusal is answered by one of the three marks, far from every other answer.
 */
final class Model {
    static final long INDEX = Long.MIN_VALUE + 1;
    static final long ARGUMENT = Long.MIN_VALUE + 2;
    static final long STATE = Long.MIN_VALUE + 3;
    private static final int LAST_DAY = 5000;

    private static final class Item {
        int kind, weight, worth, wear, book, truly, daysThere, daysWound, open = -1;
        boolean inside, listed;
    }

    private static final class Slip {
        int state, item, pledger, holder, expert, valued, loan, begun, last, vain, teller, noticeLeft, kept, keptLeft;
        boolean named;
    }

    private final List<Item> items = new ArrayList<>();
    private final List<Slip> slips = new ArrayList<>();
    private final int[] fashion = {100, 100, 100, 100};
    private final long[][] experts = new long[4][3];
    private final int[] person = new int[10];
    private final int[] share = {50, 50, 50};
    private final int[] cap = {1000, 1000, 1000};
    private final int[][] rates = new int[3][LAST_DAY + 1];
    private final boolean[] free = new boolean[LAST_DAY + 1];
    private final int[] carries = new int[12];
    private final List<Long> moves = new ArrayList<>();
    private int ratesTold, amnestiesTold, term = 120, now;
    private long gift;

    Model() {
        int[] first = {10, 15, 20};
        for (int step = 0; step < 3; step++) {
            java.util.Arrays.fill(rates[step], first[step]);
        }
    }

    private static boolean in(long value, long least, long most) {
        return least <= value && value <= most;
    }

    private boolean isItem(int number) {
        return in(number, 0, items.size() - 1);
    }

    private boolean isSlip(int number) {
        return in(number, 0, slips.size() - 1);
    }

    private long house() {
        return moves.stream().mapToLong(Long::longValue).sum();
    }

    private long kept() {
        return slips.stream().mapToLong(s -> s.kept).sum();
    }

    private int value(Item item) {
        return item.worth * (10 - item.wear) / 10 * fashion[item.kind] / 100;
    }

    private boolean findable(Item item) {
        return item.inside && item.book == item.truly;
    }

    private int bars(Slip slip) {
        int bars = slip.teller >= 0 ? 1 : 0;
        return slip.state == 0 && items.get(slip.item).listed ? bars + 2 : bars;
    }

    private long interest(Slip slip) {
        if (slip.state != 0 || now <= slip.begun + 3) {
            return 0;
        }
        long sum = 0;
        for (int i = 0; slip.begun + 14 * i <= now; i++) {
            int on = slip.begun + 14 * i;
            long part = (long) slip.loan * rates[i < 6 ? 0 : i < 18 ? 1 : 2][on];
            sum += free[on] ? 0 : part / 1000 + (part % 1000 == 0 ? 0 : 1);
        }
        return sum;
    }

    private int shelf(Item item, int branch) {
        int[] order = item.kind == 1 ? new int[] {0, 1, 2, 3} : new int[] {1, 2, 3, 0};
        for (int shelf : order) {
            int place = branch * 4 + shelf;
            int others = carries[place] - (item.inside && item.truly == place ? item.weight : 0);
            if (others + item.weight <= 60) {
                return shelf;
            }
        }
        return -1;
    }

    private void put(Item item, int place) {
        if (item.inside && item.truly == place) {
            return;
        }
        if (item.inside) {
            carries[item.truly] -= item.weight;
        }
        carries[place] += item.weight;
        item.truly = place;
        item.daysThere = 0;
    }

    private void leave(Slip slip, int state) {
        Item item = items.get(slip.item);
        slip.state = state;
        carries[item.truly] -= item.weight;
        item.inside = false;
        item.open = -1;
    }

    long thing(int kind, int weight, int worth) {
        if (!in(kind, 0, 3)) return INDEX;
        if (!in(weight, 1, 50) || !in(worth, 10, 10000)) return ARGUMENT;
        if (items.size() == 40) return STATE;
        Item item = new Item();
        item.kind = kind;
        item.weight = weight;
        item.worth = worth;
        items.add(item);
        return items.size() - 1;
    }

    long fashion(int kind, int hundredths) {
        if (!in(kind, 0, 3)) return INDEX;
        if (!in(hundredths, 0, 200)) return ARGUMENT;
        int was = fashion[kind];
        fashion[kind] = hundredths;
        return was;
    }

    long bias(int expert, int hundredths) {
        if (!in(expert, 0, 3)) return INDEX;
        if (!in(hundredths, -20, 20)) return ARGUMENT;
        long was = experts[expert][0];
        experts[expert][0] = hundredths;
        return was;
    }

    long classOf(int who, int newClass) {
        if (!in(who, 0, 9) || !in(newClass, 0, 2)) return INDEX;
        int was = person[who];
        person[who] = newClass;
        return was;
    }

    long charter(int ofClass, int newShare, int newCap) {
        if (!in(ofClass, 0, 2)) return INDEX;
        if (!in(newShare, 10, 90) || !in(newCap, 0, 100000)) return ARGUMENT;
        share[ofClass] = newShare;
        cap[ofClass] = newCap;
        return 0;
    }

    long rate(int step, int thousandths) {
        if (!in(step, 0, 2)) return INDEX;
        if (!in(thousandths, 0, 100)) return ARGUMENT;
        if (ratesTold == 30) return STATE;
        ratesTold++;
        int was = rates[step][now];
        java.util.Arrays.fill(rates[step], now, LAST_DAY + 1, thousandths);
        return was;
    }

    long term(int days) {
        if (!in(days, 14, 1000)) return ARGUMENT;
        int was = term;
        term = days;
        return was;
    }

    long amnesty(int from, int to) {
        if (!in(from, 0, LAST_DAY) || !in(to, from, LAST_DAY)) return ARGUMENT;
        if (amnestiesTold == 10) return STATE;
        java.util.Arrays.fill(free, from, to + 1, true);
        return ++amnestiesTold;
    }

    long pledge(int who, int thing, int expert, int branch, int loan, boolean named) {
        if (!in(who, 0, 9) || !isItem(thing) || !in(expert, 0, 3) || !in(branch, 0, 2)) return INDEX;
        if (!in(loan, 1, 100000)) return ARGUMENT;
        Item item = items.get(thing);
        if (item.inside || item.listed || slips.size() == 40) return STATE;
        long valued = value(item) * (100 + experts[expert][0]) / 100;
        long owed = slips.stream().filter(s -> s.state == 0 && s.pledger == who).mapToLong(s -> s.loan).sum();
        if (loan * 100L > valued * share[person[who]] || loan > house() - kept()) return STATE;
        if (owed + loan > cap[person[who]] || shelf(item, branch) < 0) return STATE;
        put(item, branch * 4 + shelf(item, branch));
        item.book = item.truly;
        item.inside = true;
        item.daysThere = 0;
        item.daysWound = 0;
        item.open = slips.size();
        Slip slip = new Slip();
        slip.item = thing;
        slip.pledger = who;
        slip.holder = who;
        slip.expert = expert;
        slip.valued = (int) valued;
        slip.loan = loan;
        slip.begun = now;
        slip.last = now + term;
        slip.named = named;
        slip.teller = -1;
        slips.add(slip);
        moves.add((long) -loan);
        return slips.size() - 1;
    }

    long redeem(int ticket, int who) {
        if (!isSlip(ticket) || !in(who, 0, 9)) return INDEX;
        Slip slip = slips.get(ticket);
        if (slip.state != 0 || bars(slip) != 0 || slip.holder != who) return STATE;
        if (!findable(items.get(slip.item))) return STATE;
        long paid = slip.loan + interest(slip);
        leave(slip, 1);
        moves.add(paid);
        return paid;
    }

    long renew(int ticket, int who, int less) {
        if (!isSlip(ticket) || !in(who, 0, 9)) return INDEX;
        Slip slip = slips.get(ticket);
        if (!in(less, 0, slip.loan - 1)) return ARGUMENT;
        if (slip.state != 0 || bars(slip) != 0 || slip.holder != who) return STATE;
        long paid = less + interest(slip);
        slip.loan -= less;
        slip.begun = now;
        slip.last = now + term;
        moves.add(paid);
        return paid;
    }

    long give(int ticket, int who) {
        if (!isSlip(ticket) || !in(who, 0, 9)) return INDEX;
        Slip slip = slips.get(ticket);
        if (slip.named || slip.state == 1 || slip.state == 3) return STATE;
        int was = slip.holder;
        slip.holder = who;
        return was;
    }

    long notice(int ticket, int who) {
        if (!isSlip(ticket) || !in(who, 0, 9)) return INDEX;
        Slip slip = slips.get(ticket);
        if (slip.state == 1 || slip.state == 3 || slip.teller >= 0) return STATE;
        slip.teller = who;
        slip.noticeLeft = 28;
        return 0;
    }

    long show(int ticket) {
        if (!isSlip(ticket)) return INDEX;
        Slip slip = slips.get(ticket);
        if (slip.teller < 0) return STATE;
        int was = slip.teller;
        slip.teller = -1;
        return was;
    }

    long police(int thing) {
        if (!isItem(thing)) return INDEX;
        Item item = items.get(thing);
        if (item.listed) return STATE;
        item.listed = true;
        return item.open;
    }

    long court(int thing, boolean forOwner) {
        if (!isItem(thing)) return INDEX;
        Item item = items.get(thing);
        if (!item.listed) return STATE;
        item.listed = false;
        int open = item.open;
        if (!forOwner || open < 0) return -1;
        Slip slip = slips.get(open);
        experts[slip.expert][1] += slip.loan;
        leave(slip, 3);
        return open;
    }

    long stray(int thing, int branch, int shelf) {
        if (!isItem(thing) || !in(branch, 0, 2) || !in(shelf, 0, 3)) return INDEX;
        if (!items.get(thing).inside) return STATE;
        put(items.get(thing), branch * 4 + shelf);
        return 0;
    }

    long count(int branch) {
        if (!in(branch, 0, 2)) return INDEX;
        long told = 0;
        for (Item item : items) {
            boolean here = item.inside && item.truly / 4 == branch;
            if (item.inside && !here && item.book / 4 == branch) {
                told += 100;
            }
            if (here && item.book != item.truly) {
                told += 1;
                item.book = item.truly;
            }
        }
        return told;
    }

    long transfer(int thing, int branch) {
        if (!isItem(thing) || !in(branch, 0, 2)) return INDEX;
        Item item = items.get(thing);
        if (!findable(item) || shelf(item, branch) < 0) return STATE;
        int shelf = shelf(item, branch);
        put(item, branch * 4 + shelf);
        item.book = item.truly;
        return shelf;
    }

    long wind(int branch) {
        if (!in(branch, 0, 2)) return INDEX;
        int wound = 0;
        for (Item item : items) {
            if (item.kind == 2 && item.inside && item.truly / 4 == branch) {
                item.daysWound = 0;
                wound++;
            }
        }
        return wound;
    }

    long pass(int days) {
        if (!in(days, 1, 400)) return ARGUMENT;
        if (now + days > LAST_DAY) return STATE;
        for (int i = 0; i < days; i++) {
            passOne();
        }
        return now;
    }

    private void passOne() {
        now++;
        for (Item item : items) {
            item.daysThere++;
            item.daysWound++;
            boolean fur = item.kind == 1 && item.truly % 4 != 0 && item.daysThere % 60 == 0;
            boolean clock = item.kind == 2 && item.daysWound % 90 == 0;
            if (item.inside && (fur || clock)) {
                item.wear = Math.min(10, item.wear + 1);
            }
        }
        for (Slip slip : slips) {
            if (slip.teller >= 0 && --slip.noticeLeft == 0) {
                slip.holder = slip.teller;
                slip.teller = -1;
            }
            if (slip.kept > 0 && --slip.keptLeft < 0) {
                gift += slip.kept;
                moves.add((long) -slip.kept);
                slip.kept = 0;
            }
        }
    }

    long offer(int ticket, int price) {
        if (!isSlip(ticket)) return INDEX;
        if (!in(price, 0, 100000)) return ARGUMENT;
        Slip slip = slips.get(ticket);
        if (slip.state != 0 || now <= slip.last || bars(slip) != 0 || !findable(items.get(slip.item))) return STATE;
        long owed = slip.loan + interest(slip);
        long[] reserve = {owed, slip.loan, 0};
        if (price < reserve[Math.min(slip.vain, 2)]) {
            slip.vain++;
            return Integer.MIN_VALUE;
        }
        long rest = price - owed - price / 20;
        leave(slip, 2);
        moves.add((long) price);
        experts[slip.expert][2] += price - slip.valued;
        experts[slip.expert][1] += Math.max(0, -rest);
        slip.kept = (int) Math.max(0, rest);
        slip.keptLeft = 1000;
        return rest;
    }

    long claim(int ticket, int who) {
        if (!isSlip(ticket) || !in(who, 0, 9)) return INDEX;
        Slip slip = slips.get(ticket);
        if (slip.kept == 0 || slip.teller >= 0 || slip.holder != who) return STATE;
        int paid = slip.kept;
        slip.kept = 0;
        moves.add((long) -paid);
        return paid;
    }

    long deposit(int amount) {
        if (!in(amount, 1, 100000)) return ARGUMENT;
        if (house() + amount > 100000000) return STATE;
        moves.add((long) amount);
        return house();
    }

    long withdraw(int amount) {
        if (!in(amount, 1, 100000)) return ARGUMENT;
        if (amount > house() - kept()) return STATE;
        moves.add((long) -amount);
        return house();
    }

    long day() {
        return now;
    }

    long thingOf(int thing, int what) {
        if (!isItem(thing)) return INDEX;
        if (!in(what, 0, 6)) return ARGUMENT;
        Item item = items.get(thing);
        long[] told = {item.kind, value(item), item.wear, item.inside ? 1 : 0, item.inside ? item.book : -1,
            item.open, item.listed ? 1 : 0};
        return told[what];
    }

    long ticketOf(int ticket, int what) {
        if (!isSlip(ticket)) return INDEX;
        if (!in(what, 0, 9)) return ARGUMENT;
        Slip slip = slips.get(ticket);
        long[] told = {slip.state, slip.item, slip.loan, interest(slip), slip.holder, slip.begun, slip.last, slip.kept,
            bars(slip), slip.vain};
        return told[what];
    }

    long interestAnew(int ticket) {
        return isSlip(ticket) ? interest(slips.get(ticket)) : INDEX;
    }

    long expertOf(int expert, int what) {
        if (!in(expert, 0, 3)) return INDEX;
        return in(what, 0, 2) ? experts[expert][what] : ARGUMENT;
    }

    long bears(int branch, int shelf) {
        return in(branch, 0, 2) && in(shelf, 0, 3) ? 60 - carries[branch * 4 + shelf] : INDEX;
    }

    long money(int what) {
        long[] told = {house(), kept(), house() - kept(), gift};
        return in(what, 0, 3) ? told[what] : ARGUMENT;
    }

    long moneyAnew() {
        return house();
    }
}
