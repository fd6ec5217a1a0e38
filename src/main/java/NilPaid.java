/** A rights issue from the telling of its terms to the underwriters; ../shared/DOC.md says what each call promises. */
public final class NilPaid {
    public static final int NONE = -1;

    private static final int TOO_FEW = -2;
    private static final int NO_CASH = -3;
    private static final int TOO_RICH = -4;
    private static final int TOO_MANY = -5;
    private static final int WRONG_STAGE = -9;

    private static final int BEFORE = 0;
    private static final int NIL_PAID = 1;
    private static final int CLOSED = 2;
    private static final int DONE = 3;

    private static final int BY_ASKED = 0;
    private static final int BY_HELD = 1;
    private static final int LEVEL = 2;

    private static final int HOLDERS = 10;
    private static final int LAYERS = 4;
    private static final int MOST_BIDS = 20;
    private static final int MOST_STANDS = 12;
    private static final int MOST_KEPT = 8;
    private static final int MOST_TERM = 20;
    private static final int MOST_SHARES = 100000;
    private static final int MOST_CASH = 1000000000;
    private static final int MOST_PRICE = 10000;
    private static final int MOST_RIGHTS = 1000000;
    private static final int MOST_FEE = 1000;
    private static final int MOST_MONEY = 2000000000;
    private static final int MILLION = 1000000;
    private static final int MOST_DRAW = 16000;
    private static final int FED_BYTES = 20;
    private static final int PLAN_BYTES = 80;
    private static final int BOOK_BYTES = 160;

    /** What of() tells of a holder, by number. */
    private static final int SHARES = 0;
    private static final int CASH = 1;
    private static final int RIGHTS = 2;
    private static final int TAKE = 3;
    private static final int EXCESS = 4;
    private static final int HELD = 5;
    private static final int TAKEN_UP = 6;
    private static final int LAPSED = 7;
    private static final int ASKED = 8;
    private static final int GIVEN = 9;
    private static final int PREMIUM = 10;

    private final Tape tape;
    private final Reader reader;
    private final Orders orders;
    private final Book draft;
    private final Closing closing;
    private final State[] kept;
    private int keptMany;
    private State state;
    private State spare;

    public NilPaid() {
        tape = new Tape();
        reader = new Reader(tape.bytes);
        orders = new Orders();
        draft = new Book();
        closing = new Closing();
        kept = new State[MOST_KEPT];
        keptMany = 0;
        state = new State();
        spare = new State();
    }

    // ---- told

    public int feed(int a, int b, int c, int d, int e) {
        if (!tape.hasRoom(FED_BYTES)) {
            return NONE;
        }
        tape.put(a);
        tape.put(b);
        tape.put(c);
        tape.put(d);
        tape.put(e);
        return tape.length;
    }

    public boolean holder(int h, int shares, int cash) {
        if (!isHolder(h) || !within(shares, 0, MOST_SHARES) || !within(cash, 0, MOST_CASH) || state.stage != BEFORE) {
            return false;
        }
        state.holders[h].shares = shares;
        state.holders[h].cash = cash;
        return true;
    }

    public boolean terms(int n, int m, int k, int p) {
        if (!areTerms(n, m, k) || !within(p, 1, MOST_PRICE) || state.stage != BEFORE) {
            return false;
        }
        state.terms.put(n, m, k, p);
        return true;
    }

    public int rule(int r) {
        if (!within(r, BY_ASKED, LEVEL)) {
            return NONE;
        }
        int was = state.rule;
        state.rule = r;
        return was;
    }

    public int layer(int j, int size, int fee) {
        if (!isLayer(j) || !within(size, 0, MOST_SHARES) || !within(fee, 0, MOST_FEE)) {
            return NONE;
        }
        if (state.stage == DONE) {
            return WRONG_STAGE;
        }
        int was = state.layers.size[j];
        state.layers.size[j] = size;
        state.layers.fee[j] = fee;
        return was;
    }

    public int drawn(int seed, int most) {
        if (!within(most, 1, MOST_DRAW)) {
            return NONE;
        }
        if (state.stage != BEFORE) {
            return WRONG_STAGE;
        }
        int x = seed & 65535;
        for (int h = 0; h < HOLDERS; h++) {
            x = nextDraw(x);
            state.holders[h].shares = x / 4 % most;
            x = nextDraw(x);
            state.holders[h].cash = x / 4 % MOST_DRAW * 1000;
        }
        return (int) state.total(SHARES);
    }

    private static int nextDraw(int x) {
        return (25173 * x + 13849) & 65535;
    }

    public int give(int a, int b, int k, int q) {
        if (!isHolder(a) || !isHolder(b) || a == b || !within(k, 1, MOST_SHARES) || !within(q, 0, MOST_PRICE)) {
            return NONE;
        }
        if (state.stage != BEFORE && state.stage != DONE) {
            return WRONG_STAGE;
        }
        Holder seller = state.holders[a];
        Holder buyer = state.holders[b];
        long money = (long) k * q;
        if (seller.shares < k) {
            return TOO_FEW;
        }
        if (buyer.cash < money) {
            return NO_CASH;
        }
        if (seller.cash + money > MOST_CASH) {
            return TOO_RICH;
        }
        if (state.stage == BEFORE && buyer.shares + k > MOST_SHARES) {
            return TOO_MANY;
        }
        seller.shares -= k;
        seller.cash += money;
        buyer.shares += k;
        buyer.cash -= money;
        return seller.shares;
    }

    public int split(int x) {
        if (!within(x, 2, 10)) {
            return NONE;
        }
        if (state.stage != BEFORE) {
            return WRONG_STAGE;
        }
        for (int h = 0; h < HOLDERS; h++) {
            if (state.holders[h].shares * x > MOST_SHARES) {
                return TOO_FEW;
            }
        }
        for (int h = 0; h < HOLDERS; h++) {
            state.holders[h].shares *= x;
        }
        state.terms.p = (int) Math.max(1, cut(state.terms.p, x));
        state.terms.k = (int) Math.max(1, cut(state.terms.k, x));
        return (int) state.total(SHARES);
    }

    // ---- nil paid

    public int open() {
        if (state.stage != BEFORE) {
            return WRONG_STAGE;
        }
        if (state.terms.freshFor(state.total(SHARES)) == 0) {
            return TOO_FEW;
        }
        state.beginNilPaid();
        return state.fresh;
    }

    public int sell(int a, int b, int k, int q) {
        boolean toMarket = b == NONE;
        if (!isHolder(a) || a == b || !within(k, 1, MOST_RIGHTS) || !within(q, 0, MOST_PRICE)) {
            return NONE;
        }
        if (!toMarket && !isHolder(b)) {
            return NONE;
        }
        if (state.stage != NIL_PAID) {
            return WRONG_STAGE;
        }
        Holder seller = state.holders[a];
        long money = (long) k * q;
        if (seller.rights < k) {
            return TOO_FEW;
        }
        if (!toMarket && state.holders[b].cash < money) {
            return NO_CASH;
        }
        if (seller.cash + money > MOST_CASH) {
            return TOO_RICH;
        }
        seller.partWith(k, money);
        if (toMarket) {
            state.marketRights += k;
        } else {
            state.holders[b].payFor(k, money);
        }
        return seller.rights;
    }

    public int take(int h, int k) {
        if (!isHolder(h) || k < 0) {
            return NONE;
        }
        if (state.stage != NIL_PAID) {
            return WRONG_STAGE;
        }
        Holder who = state.holders[h];
        if (who.rights < k) {
            return TOO_FEW;
        }
        int was = who.take;
        who.take = k;
        return was;
    }

    public int excess(int h, int k) {
        if (!isHolder(h) || !within(k, 0, MOST_SHARES)) {
            return NONE;
        }
        if (state.stage != NIL_PAID) {
            return WRONG_STAGE;
        }
        int was = state.holders[h].excess;
        state.holders[h].excess = k;
        return was;
    }

    public int tail(int h, int q) {
        if (!isHolder(h) || !within(q, 1, MOST_PRICE)) {
            return NONE;
        }
        if (state.stage != NIL_PAID) {
            return WRONG_STAGE;
        }
        Holder who = state.holders[h];
        if (who.rights == 0) {
            return TOO_FEW;
        }
        int sold = tailSold(who.rights, q);
        long money = (long) sold * q;
        if (who.cash + money > MOST_CASH) {
            return TOO_RICH;
        }
        who.partWith(sold, money);
        state.marketRights += sold;
        who.take = who.rights;
        return sold;
    }

    /** The fewest s with s times q at least (rights less s) times K. */
    private int tailSold(int rights, int q) {
        long each = (long) q + state.terms.k;
        return (int) cut((long) rights * state.terms.k + each - 1, each);
    }

    public int plan(int h, int n) {
        if (!isPlanned(h, n)) {
            return NONE;
        }
        if (state.stage != NIL_PAID) {
            return WRONG_STAGE;
        }
        return followPlan(h, n);
    }

    private boolean isPlanned(int h, int n) {
        return isHolder(h) && within(n, 1, PLAN_BYTES) && n <= tape.length;
    }

    private int followPlan(int h, int n) {
        boolean good = reader.readPlan(n, orders);
        tape.length = 0;
        if (!good) {
            return reader.told();
        }
        for (int i = 0; i < orders.many && i < Orders.MOST; i++) {
            if (followOrder(h, i) < 0) {
                return i;
            }
        }
        return orders.many;
    }

    /** Below 0 if the order is refused. */
    private int followOrder(int h, int i) {
        int first = orders.first[i];
        switch (orders.kind[i]) {
            case Orders.TAKE:
                return take(h, first);
            case Orders.TAKE_ALL:
                return take(h, state.holders[h].rights);
            case Orders.EXCESS:
                return excess(h, first);
            case Orders.LAPSE:
                take(h, 0);
                return excess(h, 0);
            case Orders.TAIL:
                return tail(h, first);
            case Orders.SELL:
                return sell(h, NONE, first, orders.second[i]);
            case Orders.BUY:
                return sell(orders.second[i], h, first, orders.third[i]);
            default:
                return NONE;
        }
    }

    // ---- rights that stand

    public int stand(int h, boolean sells, int many, int q) {
        if (!isHolder(h) || !within(many, 1, MOST_RIGHTS) || !within(q, 1, MOST_PRICE)) {
            return NONE;
        }
        if (state.stage != NIL_PAID) {
            return WRONG_STAGE;
        }
        if (sells && state.holders[h].rights < many) {
            return TOO_FEW;
        }
        if (!sells && state.holders[h].cash < (long) many * q) {
            return NO_CASH;
        }
        int gone = meetOthers(h, sells, many, q);
        state.stands.sweep();
        state.stands.addLast(h, sells, many - gone, q);
        return gone;
    }

    private int meetOthers(int h, boolean sells, int many, int q) {
        int met = 0;
        int gone = 0;
        for (int turn = 0; turn < MOST_STANDS; turn++) {
            int i = state.stands.best(h, !sells, q, met);
            if (!within(i, 0, MOST_STANDS - 1)) {
                return gone;
            }
            met |= 1 << i;
            gone += goOver(h, i, many - gone);
        }
        return gone;
    }

    /** Rights go over between holder h and stand i, most of them at most: how many. */
    private int goOver(int h, int i, int most) {
        Stands stands = state.stands;
        if (!isHolder(stands.holder[i])) {
            return 0;
        }
        Holder other = state.holders[stands.holder[i]];
        Holder seller = stands.sells[i] ? other : state.holders[h];
        Holder buyer = stands.sells[i] ? state.holders[h] : other;
        int price = stands.price[i];
        long many = Math.min(Math.min(most, stands.many[i]), seller.rights);
        many = Math.min(many, cut(buyer.cash, price));
        many = Math.min(many, cut(MOST_CASH - seller.cash, price));
        if (many <= 0) {
            return 0;
        }
        seller.partWith((int) many, many * price);
        buyer.payFor((int) many, many * price);
        stands.wentOver(i, (int) many);
        return (int) many;
    }

    public int standing(int i, int what) {
        Stands stands = state.stands;
        if (!stands.has(i)) {
            return NONE;
        }
        switch (what) {
            case 0:
                return stands.holder[i];
            case 1:
                return stands.sells[i] ? 1 : 0;
            case 2:
                return stands.many[i];
            case 3:
                return stands.price[i];
            default:
                return NONE;
        }
    }

    public boolean withdraw(int i) {
        if (!state.stands.has(i)) {
            return false;
        }
        state.stands.many[i] = 0;
        state.stands.sweep();
        return true;
    }

    public long traded(int what) {
        Stands stands = state.stands;
        switch (what) {
            case 0:
                return stands.tradedMany;
            case 1:
                return stands.tradedMoney;
            case 2:
                return stands.latest;
            case 3:
                return cut(stands.tradedMoney, stands.tradedMany);
            case 4:
                return stands.bestPrice(true);
            case 5:
                return stands.bestPrice(false);
            case 6:
                return stands.size;
            default:
                return NONE;
        }
    }

    public int depth(boolean sales, int q) {
        if (!within(q, 1, MOST_PRICE)) {
            return NONE;
        }
        int sum = 0;
        for (int i = 0; i < MOST_STANDS; i++) {
            if (state.stands.serves(i, NONE, sales, q)) {
                sum += state.stands.many[i];
            }
        }
        return sum;
    }

    public long costOf(int h, int many) {
        if (!isHolder(h) || !within(many, 1, MOST_RIGHTS)) {
            return NONE;
        }
        if (state.stage != NIL_PAID) {
            return WRONG_STAGE;
        }
        Stands stands = state.stands;
        long cost = 0;
        int still = many;
        int met = 0;
        for (int turn = 0; turn < MOST_STANDS && still > 0; turn++) {
            int i = stands.best(h, true, MOST_PRICE, met);
            if (!within(i, 0, MOST_STANDS - 1)) {
                break;
            }
            met |= 1 << i;
            int some = Math.min(still, stands.many[i]);
            still -= some;
            cost += (long) some * stands.price[i];
        }
        return still > 0 ? TOO_FEW : cost;
    }

    public int needs(int h, int millionths) {
        if (!isHolder(h) || !within(millionths, 1, MILLION)) {
            return NONE;
        }
        if (state.stage != NIL_PAID) {
            return WRONG_STAGE;
        }
        long wanted = cut(millionths * state.sharesThereAre() + MILLION - 1, MILLION);
        long lacking = Math.max(0, wanted - state.holders[h].shares);
        return lacking > state.holders[h].rights ? TOO_FEW : (int) lacking;
    }

    public int buyable(int h) {
        if (!isHolder(h)) {
            return NONE;
        }
        if (state.stage != NIL_PAID) {
            return WRONG_STAGE;
        }
        Stands stands = state.stands;
        long cash = state.holders[h].cash;
        int sum = 0;
        int met = 0;
        for (int turn = 0; turn < MOST_STANDS; turn++) {
            int i = stands.best(h, true, MOST_PRICE, met);
            if (!within(i, 0, MOST_STANDS - 1)) {
                break;
            }
            met |= 1 << i;
            long each = (long) stands.price[i] + state.terms.k;
            long some = Math.min(stands.many[i], cut(cash, each));
            cash -= some * each;
            sum += (int) some;
        }
        return sum;
    }

    public int thinned(int h, boolean takes) {
        if (!isHolder(h)) {
            return NONE;
        }
        if (state.stage != NIL_PAID) {
            return WRONG_STAGE;
        }
        Holder who = state.holders[h];
        return state.millionths(takes ? (long) who.shares + who.rights : who.shares);
    }

    // ---- closed, done

    public int close() {
        if (state.stage != NIL_PAID) {
            return WRONG_STAGE;
        }
        closing.reckon(state, state.rule);
        state.settle(closing);
        return state.rump;
    }

    public int book(int n) {
        if (!within(n, 1, BOOK_BYTES) || n > tape.length) {
            return NONE;
        }
        if (state.stage == DONE) {
            return WRONG_STAGE;
        }
        boolean good = reader.readBook(n, draft);
        tape.length = 0;
        if (!good) {
            return reader.told();
        }
        state.book.copyFrom(draft);
        return state.book.size;
    }

    public int done() {
        if (state.stage != CLOSED) {
            return WRONG_STAGE;
        }
        state.finish();
        return state.sold;
    }

    // ---- looked at

    public long of(int h, int what) {
        if (!isHolder(h)) {
            return NONE;
        }
        return state.holders[h].figure(what);
    }

    public long count(int what) {
        switch (what) {
            case 0:
                return state.stage;
            case 1:
                return state.total(SHARES);
            case 2:
                return state.fresh;
            case 3:
                return state.fractions;
            case 4:
                return state.marketRights;
            case 5:
                return state.left;
            case 6:
                return state.total(ASKED);
            case 7:
                return state.total(GIVEN);
            case 8:
                return state.rump;
            case 9:
                return state.strike;
            default:
                return countLater(what);
        }
    }

    private long countLater(int what) {
        switch (what) {
            case 10:
                return state.sold;
            case 11:
                return state.premium;
            case 12:
                return state.layers.takenByAll();
            case 13:
                return state.stage == DONE ? state.rump - state.sold - state.layers.takenByAll() : 0;
            case 14:
                return state.layers.feesOfAll(state.terms.k);
            case 15:
                return state.stage == DONE ? state.raised() : 0;
            case 16:
                return state.book.size;
            case 17:
                return state.rule;
            case 18:
                return tape.length;
            case 19:
                return keptMany;
            default:
                return NONE;
        }
    }

    public long taken(int j, int what) {
        if (!isLayer(j)) {
            return NONE;
        }
        switch (what) {
            case 0:
                return state.layers.size[j];
            case 1:
                return state.layers.fee[j];
            case 2:
                return state.layers.takes[j];
            case 3:
                return state.layers.feeInPence(j, state.terms.k);
            default:
                return NONE;
        }
    }

    public int bid(int i, int what) {
        Book bids = state.book;
        if (!within(i, 0, MOST_BIDS - 1) || i >= bids.size) {
            return NONE;
        }
        switch (what) {
            case 0:
                return bids.price[i];
            case 1:
                return bids.number[i];
            case 2:
                return bids.has[i];
            default:
                return NONE;
        }
    }

    public long price(int sort, int what) {
        if (!within(sort, 0, 3) || !within(what, 0, 1)) {
            return Long.MIN_VALUE;
        }
        Terms now = state.terms;
        switch (sort) {
            case 0:
                return lowest(now.top(), now.bottom(), what);
            case 1:
                return lowest(now.worthTop(), now.bottom(), what);
            case 2:
                return lowest(now.p * now.bottom() - now.top(), now.bottom(), what);
            default:
                return lowest(now.top(), now.p * now.bottom(), what);
        }
    }

    /** The top (what 0) or the bottom (1) of a fraction in lowest terms; the bottom is above 0. */
    private static long lowest(long top, long bottom, int what) {
        long a = Math.abs(top);
        long b = bottom;
        for (int i = 0; i < 200 && a != 0; i++) {
            long rest = b % a;
            b = a;
            a = rest;
        }
        long part = what == 0 ? top : bottom;
        return b == 0 ? part : part / b;
    }

    public long adjusted(int x) {
        if (!within(x, 0, MILLION)) {
            return NONE;
        }
        return cut(x * state.terms.top(), state.terms.bottom() * state.terms.p);
    }

    public int part(int h) {
        if (!isHolder(h)) {
            return NONE;
        }
        return state.millionths(state.holders[h].shares);
    }

    public long wealth(int h) {
        if (!isHolder(h)) {
            return NONE;
        }
        return state.wealthOf(h);
    }

    public long gain(int h) {
        if (!isHolder(h)) {
            return Long.MIN_VALUE;
        }
        if (state.stage == BEFORE) {
            return 0;
        }
        Holder who = state.holders[h];
        return state.wealthOf(h) - who.openedCash - (long) who.held * state.terms.p;
    }

    public long loss(int j, int what) {
        if (!isLayer(j) || !within(what, 0, 1)) {
            return Long.MIN_VALUE;
        }
        if (state.stage != DONE) {
            return WRONG_STAGE;
        }
        long many = state.layers.takes[j];
        long lost = many * state.terms.k - state.terms.timesT(many);
        return what == 0 ? lost : lost - state.layers.feeInPence(j, state.terms.k);
    }

    public int anew() {
        if (state.stage != DONE) {
            return WRONG_STAGE;
        }
        state.beginAgain();
        // "all is as at first" names no tape and no kept states among what stays
        tape.length = 0;
        keptMany = 0;
        return state.terms.p;
    }

    public long planFor(int h, int n, int what) {
        if (!isPlanned(h, n) || !within(what, 0, 2)) {
            return NONE;
        }
        if (state.stage != NIL_PAID) {
            return WRONG_STAGE;
        }
        spare.copyFrom(state);
        long answer = followPlan(h, n);
        if (answer >= 0 && what == 1) {
            answer = state.holders[h].rights;
        } else if (answer >= 0 && what == 2) {
            answer = state.holders[h].cash;
        }
        State changed = state;
        state = spare;
        spare = changed;
        return answer;
    }

    // ---- what would be

    public long tailFor(int h, int q, int what) {
        if (!isHolder(h) || !within(q, 1, MOST_PRICE) || !within(what, 0, 2)) {
            return NONE;
        }
        if (state.stage != NIL_PAID) {
            return WRONG_STAGE;
        }
        int rights = state.holders[h].rights;
        if (rights == 0) {
            return TOO_FEW;
        }
        int sold = tailSold(rights, q);
        switch (what) {
            case 0:
                return sold;
            case 1:
                return rights - sold;
            default:
                return (long) sold * q - (long) (rights - sold) * state.terms.k;
        }
    }

    public int tailPrice(int h, int k) {
        if (!isHolder(h) || !within(k, 1, MOST_RIGHTS)) {
            return NONE;
        }
        if (state.stage != NIL_PAID) {
            return WRONG_STAGE;
        }
        // k are left as soon as the money of all the others pays for them
        long others = (long) state.holders[h].rights - k;
        if (others <= 0) {
            return TOO_FEW;
        }
        long q = cut((long) k * state.terms.k + others - 1, others);
        return q > MOST_PRICE ? TOO_FEW : (int) q;
    }

    public int ifClosed(int r, int what) {
        boolean ofHolder = within(what, 10, 10 + HOLDERS - 1);
        if (!within(r, BY_ASKED, LEVEL) || !(ofHolder || within(what, 0, 2))) {
            return NONE;
        }
        if (state.stage != NIL_PAID) {
            return WRONG_STAGE;
        }
        closing.reckon(state, r);
        switch (what) {
            case 0:
                return closing.left;
            case 1:
                return closing.left - closing.rump;
            case 2:
                return closing.rump;
            default:
                return closing.given[what - 10];
        }
    }

    public int strikeFor(int rump) {
        if (!within(rump, 1, MOST_RIGHTS)) {
            return NONE;
        }
        return state.book.strikeAt(rump, state.terms.k);
    }

    public long soldFor(int rump, int sort) {
        if (!within(rump, 1, MOST_RIGHTS) || !within(sort, 0, 1)) {
            return NONE;
        }
        int strike = state.book.strikeAt(rump, state.terms.k);
        int sold = state.book.soldAt(strike, rump);
        return sort == 0 ? sold : (long) (strike - state.terms.k) * sold;
    }

    public long ifTerms(int n, int m, int k, int what) {
        if (!areTerms(n, m, k) || !within(what, 0, 3)) {
            return NONE;
        }
        if (what < 2) {
            return lowest((long) m * state.terms.p + (long) n * k, (long) m + n, what);
        }
        long fresh = cut(n * state.total(SHARES), m);
        return what == 2 ? fresh : fresh * k;
    }

    public int termsFor(int k, int money, int what) {
        if (!within(k, 1, MOST_PRICE) || !within(money, 1, MOST_MONEY) || !within(what, 0, 2)) {
            return NONE;
        }
        long all = state.total(SHARES);
        int bestN = 0;
        int bestM = 0;
        long bestFresh = 0;
        for (int n = 1; n <= MOST_TERM; n++) {
            for (int m = 1; m <= MOST_TERM; m++) {
                long fresh = cut(n * all, m);
                boolean less = fresh < bestFresh || fresh == bestFresh && isLess(n, m, bestN, bestM);
                if (fresh * k >= money && (bestN == 0 || less)) {
                    bestN = n;
                    bestM = m;
                    bestFresh = fresh;
                }
            }
        }
        if (bestN == 0) {
            return TOO_FEW;
        }
        return what == 0 ? bestN : what == 1 ? bestM : (int) bestFresh;
    }

    /** Whether a through b is less than c through d, or as much with the less bottom. */
    private static boolean isLess(int a, int b, int c, int d) {
        return a * d < c * b || a * d == c * b && b < d;
    }

    public int priceFor(int hundredths) {
        if (!within(hundredths, 1, MILLION)) {
            return NONE;
        }
        Terms now = state.terms;
        long lacking = hundredths * now.bottom() - 100L * now.m * now.p;
        if (lacking <= 0) {
            return 1;
        }
        long each = 100L * now.n;
        long k = cut(lacking + each - 1, each);
        return k > MOST_PRICE ? TOO_FEW : (int) k;
    }

    public long lacks(int h) {
        if (!isHolder(h)) {
            return NONE;
        }
        if (state.stage != NIL_PAID) {
            return WRONG_STAGE;
        }
        Holder who = state.holders[h];
        return Math.max(0, (long) who.rights * state.terms.k - who.cash);
    }

    public int rank(int k) {
        for (int h = 0; h < HOLDERS; h++) {
            if (state.aheadOf(h) == k) {
                return h;
            }
        }
        return NONE;
    }

    // ---- kept

    public int keep() {
        if (!within(keptMany, 0, MOST_KEPT - 1)) {
            return NONE;
        }
        // made once and used again: no call of a long run makes more than these
        if (kept[keptMany] == null) {
            kept[keptMany] = new State();
        }
        kept[keptMany].copyFrom(state);
        keptMany++;
        return keptMany;
    }

    public int undo() {
        if (!within(keptMany, 1, MOST_KEPT) || kept[keptMany - 1] == null) {
            return NONE;
        }
        keptMany--;
        State last = kept[keptMany];
        kept[keptMany] = state;
        state = last;
        return keptMany;
    }

    // ---- what all use

    private static boolean within(int x, int least, int most) {
        return x >= least && x <= most;
    }

    private static boolean isHolder(int h) {
        return within(h, 0, HOLDERS - 1);
    }

    private static boolean isLayer(int j) {
        return within(j, 0, LAYERS - 1);
    }

    private static boolean areTerms(int n, int m, int k) {
        return within(n, 1, MOST_TERM) && within(m, 1, MOST_TERM) && within(k, 1, MOST_PRICE);
    }

    /** Top through bottom, cut; 0 where the document tells 0 for a bottom of 0. */
    private static long cut(long top, long bottom) {
        return bottom == 0 ? 0 : top / bottom;
    }

    /** n new for m held at K, and the price P of a share. */
    private static final class Terms {
        int n;
        int m;
        int k;
        int p;

        Terms() {
            n = 1;
            m = 4;
            k = 100;
            p = 200;
        }

        void put(int newN, int newM, int newK, int newP) {
            n = newN;
            m = newM;
            k = newK;
            p = newP;
        }

        long freshFor(long shares) {
            return cut(n * shares, m);
        }

        /** The theoretical price T is top through bottom. */
        long top() {
            return (long) m * p + (long) n * k;
        }

        long bottom() {
            return (long) m + n;
        }

        /** What a right is worth is this through bottom. */
        long worthTop() {
            return top() - k * bottom();
        }

        long timesT(long many) {
            return cut(many * top(), bottom());
        }
    }

    private static final class Holder {
        int shares;
        /** A part of a premium may bring it above an int. */
        long cash;
        int rights;
        int take;
        int excess;
        int held;
        int takenUp;
        int lapsed;
        int asked;
        int given;
        long premium;
        long openedCash;

        Holder() {
            shares = 0;
            cash = 0;
            forget();
        }

        void forget() {
            rights = 0;
            take = 0;
            excess = 0;
            held = 0;
            takenUp = 0;
            lapsed = 0;
            asked = 0;
            given = 0;
            premium = 0;
            openedCash = 0;
        }

        void copyFrom(Holder other) {
            shares = other.shares;
            cash = other.cash;
            rights = other.rights;
            take = other.take;
            excess = other.excess;
            held = other.held;
            takenUp = other.takenUp;
            lapsed = other.lapsed;
            asked = other.asked;
            given = other.given;
            premium = other.premium;
            openedCash = other.openedCash;
        }

        void partWith(int many, long money) {
            rights -= many;
            cash += money;
            take = Math.min(take, rights);
        }

        void payFor(int many, long money) {
            rights += many;
            cash -= money;
        }

        long figure(int what) {
            switch (what) {
                case SHARES:
                    return shares;
                case CASH:
                    return cash;
                case RIGHTS:
                    return rights;
                case TAKE:
                    return take;
                case EXCESS:
                    return excess;
                case HELD:
                    return held;
                case TAKEN_UP:
                    return takenUp;
                case LAPSED:
                    return lapsed;
                case ASKED:
                    return asked;
                case GIVEN:
                    return given;
                case PREMIUM:
                    return premium;
                default:
                    return NONE;
            }
        }
    }

    /** Rights that stand to be sold or bought, the eldest first, and what went over by them. */
    private static final class Stands {
        final int[] holder;
        final boolean[] sells;
        final int[] many;
        final int[] price;
        int size;
        long tradedMany;
        long tradedMoney;
        int latest;

        Stands() {
            holder = new int[MOST_STANDS];
            sells = new boolean[MOST_STANDS];
            many = new int[MOST_STANDS];
            price = new int[MOST_STANDS];
            forget();
        }

        void forget() {
            size = 0;
            tradedMany = 0;
            tradedMoney = 0;
            latest = 0;
        }

        void copyFrom(Stands other) {
            for (int i = 0; i < MOST_STANDS; i++) {
                copyRow(i, other, i);
            }
            size = other.size;
            tradedMany = other.tradedMany;
            tradedMoney = other.tradedMoney;
            latest = other.latest;
        }

        /** Both indexes are rows. */
        private void copyRow(int to, Stands other, int from) {
            holder[to] = other.holder[from];
            sells[to] = other.sells[from];
            many[to] = other.many[from];
            price[to] = other.price[from];
        }

        boolean has(int i) {
            return within(i, 0, MOST_STANDS - 1) && i < size;
        }

        /** Whether stand i is of that kind, of another holder, at q or better for who meets it. */
        boolean serves(int i, int notOf, boolean kind, int q) {
            return has(i) && sells[i] == kind && holder[i] != notOf && (kind ? price[i] <= q : price[i] >= q);
        }

        /** The best stand that serves and is not among those met (a bit each), of like ones the eldest; NONE. */
        int best(int notOf, boolean kind, int q, int met) {
            int found = NONE;
            for (int i = 0; i < MOST_STANDS; i++) {
                if (!serves(i, notOf, kind, q) || (met >> i & 1) != 0) {
                    continue;
                }
                if (found < 0 || (kind ? price[i] < price[found] : price[i] > price[found])) {
                    found = i;
                }
            }
            return found;
        }

        int bestPrice(boolean kind) {
            int i = best(NONE, kind, kind ? MOST_PRICE : 1, 0);
            return has(i) ? price[i] : 0;
        }

        /** So many have gone over by stand i, which is one. */
        void wentOver(int i, int some) {
            many[i] -= some;
            tradedMany += some;
            tradedMoney += (long) some * price[i];
            latest = price[i];
        }

        void sweep() {
            int to = 0;
            for (int i = 0; i < MOST_STANDS; i++) {
                if (has(i) && many[i] > 0) {
                    copyRow(to, this, i);
                    to++;
                }
            }
            size = to;
        }

        void addLast(int h, boolean kind, int some, int q) {
            if (some <= 0 || !within(size, 0, MOST_STANDS - 1)) {
                return;
            }
            holder[size] = h;
            sells[size] = kind;
            many[size] = some;
            price[size] = q;
            size++;
        }
    }

    /** Bids for the rump, as they stand. */
    private static final class Book {
        final int[] price;
        final int[] number;
        final int[] has;
        int size;

        Book() {
            price = new int[MOST_BIDS];
            number = new int[MOST_BIDS];
            has = new int[MOST_BIDS];
            forget();
        }

        void forget() {
            size = 0;
        }

        void copyFrom(Book other) {
            for (int i = 0; i < MOST_BIDS; i++) {
                price[i] = other.price[i];
                number[i] = other.number[i];
                has[i] = other.has[i];
            }
            size = other.size;
        }

        boolean addLast(int q, int many) {
            if (!within(size, 0, MOST_BIDS - 1)) {
                return false;
            }
            price[size] = q;
            number[size] = many;
            has[size] = 0;
            size++;
            return true;
        }

        private int manyFrom(int q) {
            int sum = 0;
            for (int i = 0; i < size && i < MOST_BIDS; i++) {
                if (price[i] >= q) {
                    sum += number[i];
                }
            }
            return sum;
        }

        /** The strike for a rump of so many; 0 if there is none. */
        int strikeAt(int rump, int k) {
            int greatest = 0;
            int least = 0;
            if (rump <= 0) {
                return 0;
            }
            for (int i = 0; i < size && i < MOST_BIDS; i++) {
                int q = price[i];
                if (q < k) {
                    continue;
                }
                if (q > greatest && manyFrom(q) >= rump) {
                    greatest = q;
                }
                if (least == 0 || q < least) {
                    least = q;
                }
            }
            return greatest > 0 ? greatest : least;
        }

        int soldAt(int strike, int rump) {
            return strike <= 0 ? 0 : Math.min(rump, manyFrom(strike));
        }

        /** Bids above the strike have all, those at it the rest, as they stand. */
        void allot(int strike, int sold) {
            int rest = strike <= 0 ? 0 : sold - manyFrom(strike + 1);
            for (int i = 0; i < size && i < MOST_BIDS; i++) {
                has[i] = 0;
                if (strike > 0 && price[i] > strike) {
                    has[i] = number[i];
                } else if (price[i] == strike) {
                    has[i] = Math.min(number[i], rest);
                    rest -= has[i];
                }
            }
        }
    }

    /** The underwriters, layer by layer. */
    private static final class Layers {
        final int[] size;
        final int[] fee;
        final int[] takes;

        Layers() {
            size = new int[LAYERS];
            fee = new int[LAYERS];
            takes = new int[LAYERS];
        }

        void forget() {
            for (int j = 0; j < LAYERS; j++) {
                size[j] = 0;
                fee[j] = 0;
                takes[j] = 0;
            }
        }

        void copyFrom(Layers other) {
            for (int j = 0; j < LAYERS; j++) {
                size[j] = other.size[j];
                fee[j] = other.fee[j];
                takes[j] = other.takes[j];
            }
        }

        void standFor(int many) {
            int rest = many;
            for (int j = 0; j < LAYERS; j++) {
                takes[j] = Math.min(size[j], rest);
                rest -= takes[j];
            }
        }

        int takenByAll() {
            int sum = 0;
            for (int j = 0; j < LAYERS; j++) {
                sum += takes[j];
            }
            return sum;
        }

        /** The fee is told in hundredths of one of a hundred. */
        long feeInPence(int j, int k) {
            return isLayer(j) ? (long) size[j] * k * fee[j] / 10000 : 0;
        }

        long feesOfAll(int k) {
            long sum = 0;
            for (int j = 0; j < LAYERS; j++) {
                sum += feeInPence(j, k);
            }
            return sum;
        }
    }

    /** All but the tape: what is kept and undone. */
    private static final class State {
        final Terms terms;
        final Holder[] holders;
        final Stands stands;
        final Book book;
        final Layers layers;
        int stage;
        int rule;
        /** NEW. */
        int fresh;
        int fractions;
        int marketRights;
        int left;
        int rump;
        int strike;
        int sold;
        long premium;

        State() {
            terms = new Terms();
            holders = new Holder[HOLDERS];
            for (int h = 0; h < HOLDERS; h++) {
                holders[h] = new Holder();
            }
            stands = new Stands();
            book = new Book();
            layers = new Layers();
            rule = BY_ASKED;
            forget();
        }

        private void forget() {
            stage = BEFORE;
            fresh = 0;
            fractions = 0;
            marketRights = 0;
            left = 0;
            rump = 0;
            strike = 0;
            sold = 0;
            premium = 0;
        }

        void copyFrom(State other) {
            terms.put(other.terms.n, other.terms.m, other.terms.k, other.terms.p);
            for (int h = 0; h < HOLDERS; h++) {
                holders[h].copyFrom(other.holders[h]);
            }
            stands.copyFrom(other.stands);
            book.copyFrom(other.book);
            layers.copyFrom(other.layers);
            stage = other.stage;
            rule = other.rule;
            fresh = other.fresh;
            fractions = other.fractions;
            marketRights = other.marketRights;
            left = other.left;
            rump = other.rump;
            strike = other.strike;
            sold = other.sold;
            premium = other.premium;
        }

        /** The sum over all holders of what of() tells. */
        long total(int what) {
            long sum = 0;
            for (int h = 0; h < HOLDERS; h++) {
                sum += holders[h].figure(what);
            }
            return sum;
        }

        long sharesThereAre() {
            return stage == BEFORE ? total(SHARES) : total(HELD) + fresh;
        }

        int millionths(long shares) {
            return (int) cut(shares * MILLION, sharesThereAre());
        }

        long wealthOf(int h) {
            if (!isHolder(h)) {
                return 0;
            }
            Holder who = holders[h];
            if (stage == BEFORE) {
                return who.cash + (long) who.shares * terms.p;
            }
            long sum = who.cash + terms.timesT(who.shares);
            if (stage == NIL_PAID) {
                sum += cut(who.rights * Math.max(0, terms.worthTop()), terms.bottom());
            }
            return sum;
        }

        /** How many holders come before h by shares. */
        int aheadOf(int h) {
            int sum = 0;
            for (int i = 0; i < HOLDERS && isHolder(h); i++) {
                int more = Integer.compare(holders[i].shares, holders[h].shares);
                if (more > 0 || more == 0 && i < h) {
                    sum++;
                }
            }
            return sum;
        }

        void beginNilPaid() {
            long all = total(SHARES);
            long rightsOfAll = 0;
            for (int h = 0; h < HOLDERS; h++) {
                Holder who = holders[h];
                who.held = who.shares;
                who.openedCash = who.cash;
                who.rights = (int) terms.freshFor(who.shares);
                rightsOfAll += who.rights;
            }
            fresh = (int) terms.freshFor(all);
            fractions = (int) (fresh - rightsOfAll);
            stage = NIL_PAID;
        }

        void settle(Closing how) {
            for (int h = 0; h < HOLDERS; h++) {
                Holder who = holders[h];
                who.takenUp = how.takenUp[h];
                who.lapsed = who.rights - who.takenUp;
                who.asked = how.asked[h];
                who.given = how.given[h];
                int more = who.takenUp + who.given;
                who.shares += more;
                who.cash -= (long) more * terms.k;
            }
            left = how.left;
            rump = how.rump;
            stands.size = 0;
            stage = CLOSED;
        }

        void finish() {
            strike = book.strikeAt(rump, terms.k);
            sold = book.soldAt(strike, rump);
            book.allot(strike, sold);
            premium = (long) (strike - terms.k) * sold;
            for (int h = 0; h < HOLDERS; h++) {
                Holder who = holders[h];
                who.premium = cut(premium * who.lapsed, left);
                who.cash += who.premium;
            }
            layers.standFor(rump - sold);
            stage = DONE;
        }

        long raised() {
            long paidFor = total(TAKEN_UP) + marketRights + total(GIVEN) + sold + layers.takenByAll();
            return paidFor * terms.k - layers.feesOfAll(terms.k) + premium - total(PREMIUM);
        }

        void beginAgain() {
            int p = (int) Math.max(1, terms.timesT(1));
            terms.put(terms.n, terms.m, Math.min(terms.k, p), p);
            for (int h = 0; h < HOLDERS; h++) {
                holders[h].forget();
                holders[h].shares = Math.min(holders[h].shares, MOST_SHARES);
                holders[h].cash = Math.min(holders[h].cash, MOST_CASH);
            }
            stands.forget();
            book.forget();
            layers.forget();
            forget();
        }
    }

    /** What closing brings, reckoned without changing anything. */
    private static final class Closing {
        final int[] takenUp;
        final int[] asked;
        final int[] given;
        int left;
        int rump;

        Closing() {
            takenUp = new int[HOLDERS];
            asked = new int[HOLDERS];
            given = new int[HOLDERS];
            left = 0;
            rump = 0;
        }

        void reckon(State state, int rule) {
            long all = 0;
            left = state.fractions;
            for (int h = 0; h < HOLDERS; h++) {
                Holder who = state.holders[h];
                int k = state.terms.k;
                takenUp[h] = (int) Math.min(Math.min(who.take, who.rights), cut(who.cash, k));
                left += who.rights - takenUp[h];
                long cash = who.cash - (long) takenUp[h] * k;
                asked[h] = (int) Math.min(who.excess, cut(cash, k));
                all += asked[h];
            }
            for (int h = 0; h < HOLDERS; h++) {
                given[h] = all <= left ? asked[h] : 0;
            }
            if (all > left) {
                scaleDown(state, rule, all);
            }
            rump = left;
            for (int h = 0; h < HOLDERS; h++) {
                rump -= given[h];
            }
        }

        private void scaleDown(State state, int rule, long all) {
            int rest = left;
            long heldOfAll = 0;
            for (int h = 0; h < HOLDERS; h++) {
                heldOfAll += asked[h] > 0 ? state.holders[h].held : 0;
            }
            for (int h = 0; h < HOLDERS && rule != LEVEL; h++) {
                long part = rule == BY_HELD
                    ? cut((long) left * state.holders[h].held, heldOfAll)
                    : cut((long) left * asked[h], all);
                given[h] = (int) Math.min(part, asked[h]);
                rest -= given[h];
            }
            giveRounds(rest);
        }

        /** Many rounds at once while all of a round get one each, the same as one by one. */
        private void giveRounds(int many) {
            int rest = many;
            for (int turn = 0; turn <= HOLDERS + 1 && rest > 0; turn++) {
                int open = 0;
                int gap = rest;
                for (int h = 0; h < HOLDERS; h++) {
                    if (given[h] < asked[h]) {
                        open++;
                        gap = Math.min(gap, asked[h] - given[h]);
                    }
                }
                int rounds = (int) Math.max(1, Math.min(gap, cut(rest, open)));
                for (int h = 0; h < HOLDERS && rest > 0; h++) {
                    if (given[h] < asked[h]) {
                        given[h] += rounds;
                        rest -= rounds;
                    }
                }
            }
        }
    }

    /** The bytes that were fed. */
    private static final class Tape {
        private static final int MOST = 320;

        final int[] bytes;
        int length;

        Tape() {
            bytes = new int[MOST];
            length = 0;
        }

        boolean hasRoom(int more) {
            return length <= MOST - more;
        }

        void put(int four) {
            for (int shift = 24; shift >= 0 && within(length, 0, MOST - 1); shift -= 8) {
                bytes[length] = four >>> shift & 255;
                length++;
            }
        }
    }

    /** The orders of a plan, in rows. */
    private static final class Orders {
        static final int TAKE = 0;
        static final int TAKE_ALL = 1;
        static final int EXCESS = 2;
        static final int LAPSE = 3;
        static final int TAIL = 4;
        static final int SELL = 5;
        static final int BUY = 6;

        /** The shortest order has five bytes and a ; so 80 bytes have no more than 13. */
        static final int MOST = 13;

        final int[] kind;
        final int[] first;
        final int[] second;
        final int[] third;
        int many;

        Orders() {
            kind = new int[MOST];
            first = new int[MOST];
            second = new int[MOST];
            third = new int[MOST];
            many = 0;
        }

        boolean addLast(int sort, int a, int b, int c) {
            if (!within(many, 0, MOST - 1)) {
                return false;
            }
            kind[many] = sort;
            first[many] = a;
            second[many] = b;
            third[many] = c;
            many++;
            return true;
        }
    }

    /** Reads plans and books from the tape, from the left to the first fault. */
    private static final class Reader {
        private static final int BLANK = 32;
        private static final int BETWEEN = 59;
        private static final int MOST_DIGITS = 6;

        /** The tape's own bytes: a call less for each byte. */
        private final int[] bytes;
        private int length;
        private int at;
        private int fault;
        private int place;
        private int value;

        Reader(int[] source) {
            bytes = source;
            begin(0);
        }

        private void begin(int n) {
            length = Math.min(n, bytes.length);
            at = 0;
            fault = 0;
            place = 0;
            value = 0;
        }

        /** The fault as the calls tell it. */
        int told() {
            return -1000 * fault - place;
        }

        boolean readPlan(int n, Orders into) {
            begin(n);
            into.many = 0;
            // a turn more than orders can be: it finds what is wrong behind the last ;
            for (int i = 0; i <= Orders.MOST; i++) {
                if (!readOrder(into)) {
                    return false;
                }
                if (isEnd()) {
                    return true;
                }
                if (!skip(BETWEEN)) {
                    return wrongHere();
                }
            }
            return wrongHere();
        }

        private boolean readOrder(Orders into) {
            if (skipWord("take")) {
                if (skipWord("all")) {
                    return into.addLast(Orders.TAKE_ALL, 0, 0, 0);
                }
                return readNumber() && into.addLast(Orders.TAKE, value, 0, 0);
            }
            if (skipWord("excess")) {
                return readNumber() && into.addLast(Orders.EXCESS, value, 0, 0);
            }
            if (skipWord("lapse")) {
                return into.addLast(Orders.LAPSE, 0, 0, 0);
            }
            if (skipWord("tail")) {
                return readNumber() && into.addLast(Orders.TAIL, value, 0, 0);
            }
            if (skipWord("sell")) {
                return readSale(into);
            }
            if (skipWord("buy")) {
                return readPurchase(into);
            }
            return wrongHere();
        }

        private boolean readSale(Orders into) {
            if (!readNumber()) {
                return false;
            }
            int many = value;
            if (!skipWord("at")) {
                return wrongHere();
            }
            return readNumber() && into.addLast(Orders.SELL, many, value, 0);
        }

        private boolean readPurchase(Orders into) {
            if (!readNumber()) {
                return false;
            }
            int many = value;
            if (!skipWord("from")) {
                return wrongHere();
            }
            if (!readNumber()) {
                return false;
            }
            int from = value;
            if (!skipWord("at")) {
                return wrongHere();
            }
            return readNumber() && into.addLast(Orders.BUY, many, from, value);
        }

        boolean readBook(int n, Book into) {
            begin(n);
            into.forget();
            for (int i = 0; i <= MOST_BIDS; i++) {
                skipBlanks();
                if (i == MOST_BIDS && isDigit(byteHere())) {
                    return wrong(3, at);
                }
                if (!readBid(into)) {
                    return false;
                }
                if (isEnd()) {
                    return true;
                }
                if (!skip(BETWEEN)) {
                    return wrongHere();
                }
            }
            return wrongHere();
        }

        private boolean readBid(Book into) {
            if (!readFrom1To(MOST_PRICE)) {
                return false;
            }
            int q = value;
            if (!skip('x')) {
                return wrongHere();
            }
            return readFrom1To(MOST_SHARES) && into.addLast(q, value);
        }

        private boolean readFrom1To(int most) {
            skipBlanks();
            int first = at;
            if (!readNumber()) {
                return false;
            }
            return within(value, 1, most) || wrong(2, first);
        }

        private boolean readNumber() {
            skipBlanks();
            if (!isDigit(byteHere())) {
                return wrongHere();
            }
            value = 0;
            for (int i = 0; i < MOST_DIGITS && isDigit(byteHere()); i++) {
                value = value * 10 + byteHere() - '0';
                at++;
            }
            return !isDigit(byteHere()) || wrongHere();
        }

        /** Goes beyond the word if just that one stands here; else stays at its first byte. */
        private boolean skipWord(String word) {
            skipBlanks();
            int end = at;
            boolean same = true;
            while (end < length && isLetter(bytes[end])) {
                int i = end - at;
                same = same && i < word.length() && word.charAt(i) == bytes[end];
                end++;
            }
            if (!same || end - at != word.length()) {
                return false;
            }
            at = end;
            return true;
        }

        private boolean skip(int sign) {
            skipBlanks();
            if (byteHere() != sign) {
                return false;
            }
            at++;
            return true;
        }

        private void skipBlanks() {
            while (at < length && bytes[at] == BLANK) {
                at++;
            }
        }

        private boolean isEnd() {
            skipBlanks();
            return at >= length;
        }

        private int byteHere() {
            return at < length ? bytes[at] : NONE;
        }

        private boolean wrongHere() {
            fault = 1;
            place = at;
            return false;
        }

        private boolean wrong(int number, int where) {
            fault = number;
            place = where;
            return false;
        }

        private static boolean isDigit(int sign) {
            return sign >= '0' && sign <= '9';
        }

        private static boolean isLetter(int sign) {
            return sign >= 'a' && sign <= 'z';
        }
    }
}
