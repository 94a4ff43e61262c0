import java.util.ArrayList;

/** A city's house of pledges, as ../shared/DOC.md tells it. */
public final class Pledgehouse {
    public static final int NONE = -1;
    public static final int RING = 0, FUR = 1, CLOCK = 2, TOOL = 3;
    public static final int OUT = 0, STORED = 1;
    public static final int OPEN = 0, REDEEMED = 1, SOLD = 2, SEIZED = 3;

    private static final int MOST_THINGS = 40;
    private static final int MOST_TICKETS = 40;
    private static final int MOST_DAYS = 5000;
    private static final int MOST_LOAN = 100000;
    private static final int MOST_MONEY = 100000000;
    private static final int PEOPLE = 10;
    private static final int BRANCHES = 3;
    private static final int SHELVES = 4;
    private static final int COLD_SHELF = 0;
    private static final int SHELF_BEARS = 60;
    private static final int FEE_HUNDREDTHS = 5;

    private final ArrayList<Thing> things = new ArrayList<Thing>();
    private final ArrayList<Ticket> tickets = new ArrayList<Ticket>();
    private final int[] fashions = {100, 100, 100, 100};
    private final Expert[] experts = {new Expert(), new Expert(), new Expert(), new Expert()};
    private final Charter[] charters = {new Charter(0), new Charter(1), new Charter(2)};
    private final Charter[] charterOfPerson = new Charter[PEOPLE];
    private final Tariff tariff = new Tariff();
    private final Till till = new Till();
    private int termDays = 120;
    private int today = 0;

    public Pledgehouse() {
        for (int i = 0; i < charterOfPerson.length; i++) {
            charterOfPerson[i] = charters[0];
        }
    }

    // ---- things, rules

    public int thing(int kind, int weight, int worth)
            throws IndexOutOfBoundsException, IllegalArgumentException, IllegalStateException {
        needIndex(kind, fashions.length);
        needRange(weight, 1, 50);
        needRange(worth, 10, 10000);
        needState(things.size() < MOST_THINGS);
        Thing told = new Thing(things.size(), kind, weight, worth);
        things.add(told);
        return told.number;
    }

    public int fashion(int kind, int hundredths)
            throws IndexOutOfBoundsException, IllegalArgumentException {
        needIndex(kind, fashions.length);
        needRange(hundredths, 0, 200);
        int before = fashions[kind];
        fashions[kind] = hundredths;
        return before;
    }

    public int bias(int expert, int hundredths) throws IndexOutOfBoundsException, IllegalArgumentException {
        needIndex(expert, experts.length);
        needRange(hundredths, -20, 20);
        int before = experts[expert].bias;
        experts[expert].bias = hundredths;
        return before;
    }

    public int classOf(int person, int newClass) throws IndexOutOfBoundsException {
        needIndex(person, charterOfPerson.length);
        needIndex(newClass, charters.length);
        int before = charterOfPerson[person].ofClass;
        charterOfPerson[person] = charters[newClass];
        return before;
    }

    public void charter(int ofClass, int share, int cap) throws IndexOutOfBoundsException, IllegalArgumentException {
        needIndex(ofClass, charters.length);
        needRange(share, 10, 90);
        needRange(cap, 0, 100000);
        charters[ofClass].share = share;
        charters[ofClass].cap = cap;
    }

    public int rate(int step, int thousandths)
            throws IndexOutOfBoundsException, IllegalArgumentException, IllegalStateException {
        needIndex(step, Tariff.STEPS);
        needRange(thousandths, 0, 100);
        needState(tariff.takesRate());
        int before = tariff.rateOn(step, today);
        tariff.addRate(today, step, thousandths);
        return before;
    }

    public int term(int days) throws IllegalArgumentException {
        needRange(days, 14, 1000);
        int before = termDays;
        termDays = days;
        return before;
    }

    public int amnesty(int from, int to) throws IllegalArgumentException, IllegalStateException {
        needRange(from, 0, MOST_DAYS);
        needRange(to, from, MOST_DAYS);
        needState(tariff.takesAmnesty());
        tariff.addAmnesty(from, to);
        return tariff.amnesties;
    }

    // ---- tickets

    public int pledge(int person, int thing, int expert, int branch, int loan, boolean isNamed)
            throws IndexOutOfBoundsException, IllegalArgumentException, IllegalStateException {
        needIndex(person, PEOPLE);
        Thing pledged = thingAt(thing);
        needIndex(expert, experts.length);
        needIndex(branch, BRANCHES);
        needRange(loan, 1, MOST_LOAN);
        needState(!pledged.isStored && !pledged.isListed);
        int valued = experts[expert].valueBy(valueNow(pledged));
        needState(mayLend(person, loan, valued));
        int shelf = shelfFor(pledged, branch);
        needState(shelf != NONE && tickets.size() < MOST_TICKETS);
        Ticket made = new Ticket(tickets.size(), pledged, person, isNamed, experts[expert], valued, loan);
        made.begin(today, termDays);
        tickets.add(made);
        pledged.store(made, placeOf(branch, shelf), today);
        till.move(-loan);
        return made.number;
    }

    public int redeem(int ticket, int person) throws IndexOutOfBoundsException, IllegalStateException {
        Ticket redeemed = ticketAt(ticket);
        needIndex(person, PEOPLE);
        needState(redeemed.state == OPEN && !redeemed.isBarred());
        needState(redeemed.holder == person && redeemed.thing.canBeFound());
        int paid = redeemed.loan + interestNow(redeemed);
        redeemed.close(REDEEMED);
        till.move(paid);
        return paid;
    }

    public int renew(int ticket, int person, int less)
            throws IndexOutOfBoundsException, IllegalArgumentException, IllegalStateException {
        Ticket renewed = ticketAt(ticket);
        needIndex(person, PEOPLE);
        needRange(less, 0, renewed.loan - 1);
        needState(renewed.state == OPEN && !renewed.isBarred() && renewed.holder == person);
        int paid = interestNow(renewed) + less;
        renewed.loan -= less;
        renewed.begin(today, termDays);
        till.move(paid);
        return paid;
    }

    public int give(int ticket, int person) throws IndexOutOfBoundsException, IllegalStateException {
        Ticket given = ticketAt(ticket);
        needIndex(person, PEOPLE);
        needState(!given.isNamed && given.isOpenOrSold());
        int before = given.holder;
        given.holder = person;
        return before;
    }

    public void notice(int ticket, int person) throws IndexOutOfBoundsException, IllegalStateException {
        Ticket lost = ticketAt(ticket);
        needIndex(person, PEOPLE);
        needState(lost.isOpenOrSold() && !lost.hasNotice());
        lost.noticeBy = person;
        lost.noticeDay = today;
    }

    public int show(int ticket) throws IndexOutOfBoundsException, IllegalStateException {
        Ticket shown = ticketAt(ticket);
        needState(shown.hasNotice());
        int teller = shown.noticeBy;
        shown.noticeBy = NONE;
        return teller;
    }

    public int police(int thing) throws IndexOutOfBoundsException, IllegalStateException {
        Thing stolen = thingAt(thing);
        needState(!stolen.isListed);
        stolen.isListed = true;
        return stolen.openTicketNumber();
    }

    public int court(int thing, boolean forOwner) throws IndexOutOfBoundsException, IllegalStateException {
        Thing judged = thingAt(thing);
        needState(judged.isListed);
        judged.isListed = false;
        Ticket seized = judged.openTicket;
        if (!forOwner || seized == null) {
            return NONE;
        }
        seized.close(SEIZED);
        seized.expert.charged += seized.loan;
        return seized.number;
    }

    // ---- stores, days

    public void stray(int thing, int branch, int shelf) throws IndexOutOfBoundsException, IllegalStateException {
        Thing strayed = thingAt(thing);
        needIndex(branch, BRANCHES);
        needIndex(shelf, SHELVES);
        needState(strayed.isStored);
        strayed.comeTo(placeOf(branch, shelf), today);
    }

    public int count(int branch) throws IndexOutOfBoundsException {
        needIndex(branch, BRANCHES);
        int missing = 0;
        int found = 0;
        for (int i = 0; i < things.size(); i++) {
            Thing counted = things.get(i);
            if (!counted.isStored || counted.canBeFound()) {
                continue;
            }
            if (branchOf(counted.truePlace) == branch) {
                counted.bookPlace = counted.truePlace;
                found++;
            } else if (branchOf(counted.bookPlace) == branch) {
                missing++;
            }
        }
        return 100 * missing + found;
    }

    public int transfer(int thing, int branch) throws IndexOutOfBoundsException, IllegalStateException {
        Thing moved = thingAt(thing);
        needIndex(branch, BRANCHES);
        needState(moved.canBeFound());
        int shelf = shelfFor(moved, branch);
        needState(shelf != NONE);
        moved.comeTo(placeOf(branch, shelf), today);
        moved.bookPlace = moved.truePlace;
        return shelf;
    }

    public int wind(int branch) throws IndexOutOfBoundsException {
        needIndex(branch, BRANCHES);
        int wound = 0;
        for (int i = 0; i < things.size(); i++) {
            Thing clock = things.get(i);
            if (clock.kind == CLOCK && clock.isStored && branchOf(clock.truePlace) == branch) {
                clock.windDay = today;
                wound++;
            }
        }
        return wound;
    }

    public int pass(int days) throws IllegalArgumentException, IllegalStateException {
        needRange(days, 1, 400);
        needState(today + days <= MOST_DAYS);
        for (int i = 0; i < days; i++) {
            passOneDay();
        }
        return today;
    }

    // ---- sales, money

    public int offer(int ticket, int price)
            throws IndexOutOfBoundsException, IllegalArgumentException, IllegalStateException {
        Ticket offered = ticketAt(ticket);
        needRange(price, 0, 100000);
        needState(mayBeOffered(offered));
        int interest = interestNow(offered);
        if (price < reserveOf(offered, interest)) {
            offered.timesInVain++;
            return Integer.MIN_VALUE;
        }
        int fee = price * FEE_HUNDREDTHS / 100;
        int rest = price - offered.loan - interest - fee;
        offered.close(SOLD);
        till.move(price);
        offered.expert.judgement += price - offered.valuedAt;
        if (rest < 0) {
            offered.expert.charged -= rest;
        } else {
            offered.surplus = rest;
            offered.soldDay = today;
            till.kept += rest;
        }
        return rest;
    }

    public int claim(int ticket, int person) throws IndexOutOfBoundsException, IllegalStateException {
        Ticket claimed = ticketAt(ticket);
        needIndex(person, PEOPLE);
        needState(claimed.surplus > 0 && !claimed.hasNotice() && claimed.holder == person);
        return releaseSurplus(claimed);
    }

    public int deposit(int amount) throws IllegalArgumentException, IllegalStateException {
        needRange(amount, 1, 100000);
        needState(till.inHouse <= MOST_MONEY - amount);
        till.move(amount);
        return till.inHouse;
    }

    public int withdraw(int amount) throws IllegalArgumentException, IllegalStateException {
        needRange(amount, 1, 100000);
        needState(amount <= till.free());
        till.move(-amount);
        return till.inHouse;
    }

    // ---- what is asked

    public int day() {
        return today;
    }

    public int thingOf(int thing, int what) throws IndexOutOfBoundsException, IllegalArgumentException {
        Thing asked = thingAt(thing);
        needRange(what, 0, 6);
        switch (what) {
            case 0:
                return asked.kind;
            case 1:
                return valueNow(asked);
            case 2:
                return asked.wear;
            case 3:
                return asked.isStored ? STORED : OUT;
            case 4:
                return asked.bookPlace;
            case 5:
                return asked.openTicketNumber();
            default:
                return asked.isListed ? 1 : 0;
        }
    }

    public int ticketOf(int ticket, int what) throws IndexOutOfBoundsException, IllegalArgumentException {
        Ticket asked = ticketAt(ticket);
        needRange(what, 0, 9);
        switch (what) {
            case 0:
                return asked.state;
            case 1:
                return asked.thing.number;
            case 2:
                return asked.loan;
            case 3:
                return interestNow(asked);
            case 4:
                return asked.holder;
            case 5:
                return asked.beginDay;
            case 6:
                return asked.lastDay();
            case 7:
                return asked.surplus;
            case 8:
                return (asked.hasNotice() ? 1 : 0) + (asked.isBarredByList() ? 2 : 0);
            default:
                return asked.timesInVain;
        }
    }

    public int interestAnew(int ticket) throws IndexOutOfBoundsException {
        Ticket asked = ticketAt(ticket);
        return asked.state == OPEN ? tariff.interestByDays(asked.loan, asked.beginDay, today) : 0;
    }

    public int expertOf(int expert, int what) throws IndexOutOfBoundsException, IllegalArgumentException {
        needIndex(expert, experts.length);
        needRange(what, 0, 2);
        switch (what) {
            case 0:
                return experts[expert].bias;
            case 1:
                return experts[expert].charged;
            default:
                return experts[expert].judgement;
        }
    }

    public int bears(int branch, int shelf) throws IndexOutOfBoundsException {
        needIndex(branch, BRANCHES);
        needIndex(shelf, SHELVES);
        return roomAt(placeOf(branch, shelf), null);
    }

    public int money(int what) throws IllegalArgumentException {
        needRange(what, 0, 3);
        switch (what) {
            case 0:
                return till.inHouse;
            case 1:
                return till.kept;
            case 2:
                return till.free();
            default:
                return till.gift;
        }
    }

    public int moneyAnew() {
        return till.sumOfMoves();
    }

    // ---- refusals

    private static void needIndex(int index, int bound) {
        if (index < 0 || index >= bound) {
            throw new IndexOutOfBoundsException();
        }
    }

    private static void needRange(int value, int least, int most) {
        if (value < least || value > most) {
            throw new IllegalArgumentException();
        }
    }

    private static void needState(boolean allows) {
        if (!allows) {
            throw new IllegalStateException();
        }
    }

    private Thing thingAt(int number) {
        needIndex(number, things.size());
        return things.get(number);
    }

    private Ticket ticketAt(int number) {
        needIndex(number, tickets.size());
        return tickets.get(number);
    }

    // ---- values, loans, sales

    private int valueNow(Thing valued) {
        int worn = valued.worth * (10 - valued.wear) / 10;
        return worn * fashions[valued.kind] / 100;
    }

    private boolean mayLend(int person, int loan, int valued) {
        Charter charter = charterOfPerson[person];
        return loan <= valued * charter.share / 100
                && loan <= till.free()
                && loan + openLoansOf(person) <= charter.cap;
    }

    /** The loans count for who pledged, whoever holds the tickets now. */
    private int openLoansOf(int person) {
        int sum = 0;
        for (int i = 0; i < tickets.size(); i++) {
            Ticket ticket = tickets.get(i);
            if (ticket.state == OPEN && ticket.pledger == person) {
                sum += ticket.loan;
            }
        }
        return sum;
    }

    private int interestNow(Ticket ticket) {
        return ticket.state == OPEN ? tariff.interest(ticket.loan, ticket.beginDay, today) : 0;
    }

    private boolean mayBeOffered(Ticket ticket) {
        return ticket.state == OPEN
                && today > ticket.lastDay()
                && !ticket.isBarred()
                && ticket.thing.canBeFound();
    }

    private static int reserveOf(Ticket ticket, int interest) {
        if (ticket.timesInVain == 0) {
            return ticket.loan + interest;
        }
        return ticket.timesInVain == 1 ? ticket.loan : 0;
    }

    /** Claimed or given, a surplus leaves the house's money and is kept no more. */
    private int releaseSurplus(Ticket ticket) {
        int released = ticket.surplus;
        ticket.surplus = 0;
        till.kept -= released;
        till.move(-released);
        return released;
    }

    // ---- stores, days

    private static int placeOf(int branch, int shelf) {
        return SHELVES * branch + shelf;
    }

    private static int branchOf(int place) {
        return place / SHELVES;
    }

    /** What weight a place bears besides what truly is there, where one thing (or null) does not count. */
    private int roomAt(int place, Thing leftOut) {
        int room = SHELF_BEARS;
        for (int i = 0; i < things.size(); i++) {
            Thing there = things.get(i);
            if (there != leftOut && there.isStored && there.truePlace == place) {
                room -= there.weight;
            }
        }
        return room;
    }

    /** Furs try the cold shelf first, other things try it last. */
    private int shelfFor(Thing put, int branch) {
        int first = put.kind == FUR ? COLD_SHELF : COLD_SHELF + 1;
        for (int i = 0; i < SHELVES; i++) {
            int shelf = (first + i) % SHELVES;
            if (roomAt(placeOf(branch, shelf), put) >= put.weight) {
                return shelf;
            }
        }
        return NONE;
    }

    private void passOneDay() {
        today++;
        for (int i = 0; i < things.size(); i++) {
            things.get(i).wearOn(today);
        }
        for (int i = 0; i < tickets.size(); i++) {
            tickets.get(i).endNoticeOn(today);
        }
        for (int i = 0; i < tickets.size(); i++) {
            Ticket ticket = tickets.get(i);
            if (ticket.surplusEndsOn(today)) {
                till.gift += releaseSurplus(ticket);
            }
        }
    }

    private static final class Thing {
        static final int MOST_WEAR = 10;
        static final int FUR_DAYS = 60;
        static final int CLOCK_DAYS = 90;

        final int number;
        final int kind;
        final int weight;
        final int worth;
        int wear = 0;
        boolean isStored = false;
        boolean isListed = false;
        int bookPlace = NONE;
        int truePlace = NONE;
        int comeDay = 0;
        int windDay = 0;
        Ticket openTicket = null;

        Thing(int number, int kind, int weight, int worth) {
            this.number = number;
            this.kind = kind;
            this.weight = weight;
            this.worth = worth;
        }

        boolean canBeFound() {
            return isStored && truePlace == bookPlace;
        }

        int openTicketNumber() {
            return openTicket == null ? NONE : openTicket.number;
        }

        void store(Ticket ticket, int place, int onDay) {
            isStored = true;
            openTicket = ticket;
            bookPlace = place;
            truePlace = place;
            comeDay = onDay;
            windDay = onDay;
        }

        void leave() {
            isStored = false;
            openTicket = null;
            bookPlace = NONE;
            truePlace = NONE;
        }

        /** To a place where it is already it does not come: its days of wear go on. */
        void comeTo(int place, int onDay) {
            if (truePlace != place) {
                truePlace = place;
                comeDay = onDay;
            }
        }

        void wearOn(int onDay) {
            if (isStored && wear < MOST_WEAR && (furWearsOn(onDay) || clockWearsOn(onDay))) {
                wear++;
            }
        }

        private boolean furWearsOn(int onDay) {
            return kind == FUR && truePlace % SHELVES != COLD_SHELF && (onDay - comeDay) % FUR_DAYS == 0;
        }

        private boolean clockWearsOn(int onDay) {
            return kind == CLOCK && (onDay - windDay) % CLOCK_DAYS == 0;
        }
    }

    private static final class Ticket {
        static final int NOTICE_DAYS = 28;
        static final int CLAIM_DAYS = 1000;

        final int number;
        final Thing thing;
        final int pledger;
        final boolean isNamed;
        final Expert expert;
        final int valuedAt;
        int holder;
        int state = OPEN;
        int loan;
        int beginDay = 0;
        int ownTerm = 0;
        int noticeBy = NONE;
        int noticeDay = 0;
        int timesInVain = 0;
        int surplus = 0;
        int soldDay = 0;

        Ticket(int number, Thing thing, int pledger, boolean isNamed, Expert expert, int valuedAt, int loan) {
            this.number = number;
            this.thing = thing;
            this.pledger = pledger;
            this.holder = pledger;
            this.isNamed = isNamed;
            this.expert = expert;
            this.valuedAt = valuedAt;
            this.loan = loan;
        }

        void begin(int onDay, int withTerm) {
            beginDay = onDay;
            ownTerm = withTerm;
        }

        int lastDay() {
            return beginDay + ownTerm;
        }

        void close(int newState) {
            state = newState;
            thing.leave();
        }

        boolean isOpenOrSold() {
            return state == OPEN || state == SOLD;
        }

        boolean hasNotice() {
            return noticeBy != NONE;
        }

        /** A list bars only the ticket that is OPEN, not older ones of the same thing. */
        boolean isBarredByList() {
            return state == OPEN && thing.isListed;
        }

        boolean isBarred() {
            return hasNotice() || isBarredByList();
        }

        void endNoticeOn(int onDay) {
            if (hasNotice() && onDay - noticeDay >= NOTICE_DAYS) {
                holder = noticeBy;
                noticeBy = NONE;
            }
        }

        boolean surplusEndsOn(int onDay) {
            return surplus > 0 && onDay - soldDay > CLAIM_DAYS;
        }
    }

    private static final class Expert {
        int bias = 0;
        int charged = 0;
        int judgement = 0;

        int valueBy(int value) {
            return value * (100 + bias) / 100;
        }
    }

    private static final class Charter {
        final int ofClass;
        int share = 50;
        int cap = 1000;

        Charter(int ofClass) {
            this.ofClass = ofClass;
        }
    }

    /** The rates and the amnesties that were told, and what interest follows from them. */
    private static final class Tariff {
        static final int STEPS = 3;
        static final int MOST_RATES = 30;
        static final int MOST_AMNESTIES = 10;
        static final int FREE_DAYS = 3;
        static final int FORTNIGHT = 14;
        static final int FIRST_FORTNIGHTS = 6;
        static final int NEXT_FORTNIGHTS = 12;

        final int[] rateDays = new int[MOST_RATES];
        final int[] rateSteps = new int[MOST_RATES];
        final int[] rateValues = new int[MOST_RATES];
        int rates = 0;
        final int[] amnestyFrom = new int[MOST_AMNESTIES];
        final int[] amnestyTo = new int[MOST_AMNESTIES];
        int amnesties = 0;

        boolean takesRate() {
            return rates < MOST_RATES;
        }

        void addRate(int onDay, int step, int thousandths) {
            if (takesRate()) {
                rateDays[rates] = onDay;
                rateSteps[rates] = step;
                rateValues[rates] = thousandths;
                rates++;
            }
        }

        boolean takesAmnesty() {
            return amnesties < MOST_AMNESTIES;
        }

        void addAmnesty(int from, int to) {
            if (takesAmnesty()) {
                amnestyFrom[amnesties] = from;
                amnestyTo[amnesties] = to;
                amnesties++;
            }
        }

        /** The rate at the end of a day, or by now: of several told on it the last one counts. */
        int rateOn(int step, int onDay) {
            for (int i = rates - 1; i >= 0; i--) {
                if (rateSteps[i] == step && rateDays[i] <= onDay) {
                    return rateValues[i];
                }
            }
            return firstRate(step);
        }

        static int firstRate(int step) {
            if (step == 0) {
                return 10;
            }
            return step == 1 ? 15 : 20;
        }

        boolean isFree(int onDay) {
            for (int i = 0; i < amnesties; i++) {
                if (amnestyFrom[i] <= onDay && onDay <= amnestyTo[i]) {
                    return true;
                }
            }
            return false;
        }

        static int stepOf(int fortnight) {
            if (fortnight < FIRST_FORTNIGHTS) {
                return 0;
            }
            return fortnight < FIRST_FORTNIGHTS + NEXT_FORTNIGHTS ? 1 : 2;
        }

        int costOf(int loan, int fortnight, int begunOn) {
            if (isFree(begunOn)) {
                return 0;
            }
            return (loan * rateOn(stepOf(fortnight), begunOn) + 999) / 1000;
        }

        int interest(int loan, int beginDay, int today) {
            if (today - beginDay <= FREE_DAYS) {
                return 0;
            }
            int begun = (today - beginDay) / FORTNIGHT + 1;
            int sum = 0;
            for (int i = 0; i < begun; i++) {
                sum += costOf(loan, i, beginDay + i * FORTNIGHT);
            }
            return sum;
        }

        /** The same interest, found by going through all the days. */
        int interestByDays(int loan, int beginDay, int today) {
            int sum = 0;
            int fortnight = 0;
            int daysToNext = 0;
            for (int onDay = beginDay; onDay <= today; onDay++) {
                if (daysToNext == 0) {
                    sum += costOf(loan, fortnight, onDay);
                    fortnight++;
                    daysToNext = FORTNIGHT;
                }
                daysToNext--;
            }
            return today - beginDay > FREE_DAYS ? sum : 0;
        }
    }

    /** The house's money, what of it is kept as surplus, and each move of it. */
    private static final class Till {
        static final int MOST_MOVES = 600;

        int inHouse = 0;
        int kept = 0;
        int gift = 0;
        final int[] moves = new int[MOST_MOVES];
        int moveCount = 0;

        int free() {
            return inHouse - kept;
        }

        /** 512 calls move at most 552 times; calls beyond them are added to the last row. */
        void move(int amount) {
            inHouse += amount;
            if (moveCount < moves.length) {
                moves[moveCount] = amount;
                moveCount++;
            } else {
                moves[moves.length - 1] += amount;
            }
        }

        int sumOfMoves() {
            int sum = 0;
            for (int i = 0; i < moveCount; i++) {
                sum += moves[i];
            }
            return sum;
        }
    }
}
