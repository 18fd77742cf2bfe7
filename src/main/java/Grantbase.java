import java.util.Arrays;

/**
 * A database with many askers: tables, views and functions with owners, rights that are granted on
 * and taken back, policies, and three sessions with transactions.
 */
public final class Grantbase {
    private static final int NONE = -1;
    private static final int REFUSED = -9;
    private static final int CONFLICT = -7;
    private static final int NULL = -9999;
    private static final int GREATEST = 999;

    private static final int ACTORS = 8;
    private static final int OBJECTS = 12;
    private static final int TABLES = 4;
    private static final int VIEWS = 4;
    private static final int FUNCTIONS = 4;
    private static final int COLUMNS = 4;
    private static final int TABLE_ROWS = 8;
    private static final int POLICIES = 4;
    private static final int GRANTS = 40;
    private static final int SHEETS = 4;
    private static final int FORMS = 4;
    private static final int TYPED = 60;
    private static final int SESSIONS = 3;
    private static final int SAVEPOINTS = 3;
    private static final int VIEW_ROWS = 12;
    private static final int ROWS = VIEW_ROWS * VIEW_ROWS;
    private static final int WIDE = 8;

    private static final int FIRST_VIEW = 4;
    private static final int FIRST_FUNCTION = 8;

    private static final int SELECT_RIGHT = 0;
    private static final int INSERT_RIGHT = 1;
    private static final int UPDATE_RIGHT = 2;
    private static final int DELETE_RIGHT = 3;
    private static final int EXECUTE_RIGHT = 4;
    private static final int RIGHTS = 5;
    // A right had for all columns, and for each.
    private static final int ALL_HELD = 31;

    private static final int STATEMENT = 0;
    private static final int VIEW_QUERY = 1;
    private static final int FUNCTION_EXPR = 2;
    private static final int POLICY_COND = 3;

    private static final int SYNTAX = 1;
    private static final int NAME = 2;
    private static final int RIGHT = 3;
    private static final int MISUSED = 4;
    private static final int BARRED = 5;
    private static final int FULL = 6;

    private static final int SELECT = 0;
    private static final int DISTINCT = 1;
    private static final int FROM = 2;
    private static final int WHERE = 3;
    private static final int GROUP = 4;
    private static final int AND = 5;
    private static final int OR = 6;
    private static final int NOT = 7;
    private static final int IS = 8;
    private static final int NULL_WORD = 9;
    private static final int IN = 10;
    private static final int EXISTS = 11;
    private static final int COUNT = 12;
    private static final int SUM = 13;
    private static final int MIN = 14;
    private static final int MAX = 15;
    private static final int INSERT = 16;
    private static final int UPDATE = 17;
    private static final int DELETE = 18;
    private static final int SET = 19;
    private static final int ME = 20;
    private static final int ASKER = 21;
    private static final int MEMBER = 22;
    private static final int P = 23;
    private static final int OUTER = 24;
    private static final int STAR = 25;
    private static final int PLUS = 26;
    private static final int MINUS = 27;
    private static final int OPEN = 28;
    private static final int CLOSE = 29;
    private static final int COMMA = 30;
    private static final int EQUAL = 31;
    private static final int UNEQUAL = 32;
    private static final int LESS = 33;
    private static final int AT_MOST = 34;
    private static final int A = 35;
    private static final int B = 36;
    private static final int C0 = 37;
    private static final int T0 = 41;
    private static final int T1 = 42;
    private static final int V0 = 45;
    private static final int F0 = 49;
    private static final int A0 = 53;
    private static final int A5 = 58;
    private static final int BRACKET = 61;
    private static final int BRACKET_END = 62;
    private static final int N0 = 100;
    private static final int N99 = 199;

    // Kinds of what stands at a place of a text that was read.
    private static final int FIXED_KIND = 1;
    private static final int ME_KIND = 2;
    private static final int ASKER_KIND = 3;
    private static final int PARAMETER_KIND = 4;
    private static final int REF_KIND = 5;
    private static final int NEGATE_KIND = 6;
    private static final int CHAIN_KIND = 7;
    private static final int CALL_KIND = 8;
    private static final int ROW_COUNT_KIND = 9;
    private static final int AGGREGATE_KIND = 10;
    private static final int QUERY_KIND = 11;
    private static final int STAR_KIND = 12;
    private static final int SOURCE_KIND = 13;
    private static final int TARGET_KIND = 14;
    private static final int SET_KIND = 15;
    private static final int INSERT_KIND = 16;
    private static final int UPDATE_KIND = 17;
    private static final int DELETE_KIND = 18;
    private static final int OR_KIND = 19;
    private static final int AND_KIND = 20;
    private static final int NOT_KIND = 21;
    private static final int EXISTS_KIND = 22;
    private static final int MEMBER_KIND = 23;
    private static final int COMPARE_KIND = 24;
    private static final int IS_NULL_KIND = 25;
    private static final int IS_VALUE_KIND = 26;
    private static final int IN_KIND = 27;
    private static final int NOT_IN_KIND = 28;

    // Zones of a query.
    private static final int ELSEWHERE = 0;
    private static final int IN_WHAT = 1;
    private static final int IN_AGGREGATE = 2;
    private static final int IN_GROUP = 3;

    private static final int FALSE = 0;
    private static final int UNKNOWN = 1;
    private static final int TRUE = 2;

    // "(", "[", not and - inside one another.
    private static final int NESTED = 4;
    // A statement, four views, a query in the last one, a policy and four functions.
    private static final int SCOPES = 12;
    // Above what the longest chain of texts that look into one another can need.
    private static final int DEEPEST = 120;

    // What the numbers x and y of a sample stand for, and where each sample ends.
    private static final int X = -2;
    private static final int Y = -3;
    private static final int END = -1;
    private static final int LAST_SAMPLE = 11;
    private static final int[] SAMPLES = {
        SELECT, STAR, FROM, T0, END,
        SELECT, C0, COMMA, C0 + 1, PLUS, X, FROM, T0, WHERE, C0 + 1, AT_MOST, Y, END,
        SELECT, A, C0, COMMA, B, C0 + 1, FROM, T0, COMMA, T1, WHERE, A, C0, EQUAL, B, C0, END,
        SELECT, C0, COMMA, COUNT, OPEN, STAR, CLOSE, COMMA, SUM, OPEN, C0 + 1, CLOSE, FROM, T0,
        GROUP, C0, END,
        SELECT, C0, FROM, T0, WHERE, EXISTS, OPEN, SELECT, C0, FROM, T1, WHERE, C0, EQUAL, OUTER,
        C0, CLOSE, END,
        INSERT, T0, C0, EQUAL, ME, COMMA, C0 + 1, EQUAL, X, COMMA, C0 + 2, EQUAL, Y, END,
        UPDATE, T0, SET, C0 + 1, EQUAL, C0 + 1, PLUS, X, WHERE, C0, EQUAL, ME, OR, C0 + 1, EQUAL, Y,
        END,
        DELETE, T0, WHERE, C0 + 1, LESS, X, END,
        C0, EQUAL, ME, OR, MEMBER, A5, END,
        F0, OPEN, C0 + 1, CLOSE, AT_MOST, X, AND, C0, IS, NOT, NULL_WORD, END,
        P, STAR, X, PLUS, ME, END,
        SELECT, DISTINCT, C0, COMMA, F0, OPEN, C0, CLOSE, FROM, V0, WHERE, NOT, C0, IN, OPEN, X,
        COMMA, NULL_WORD, CLOSE, END,
    };

    private final Base shared = new Base();
    // The DATABASE ahead of the call that is at work.
    private final Base before = new Base();
    // A copy to try something in.
    private final Base shadow = new Base();
    private final Session[] sessions = new Session[SESSIONS];
    private final Sheet[] sheets = new Sheet[SHEETS];
    private final Reader reader = new Reader();
    private final Teller teller = new Teller();
    private final Rows found = new Rows();
    private final Rows second = new Rows();
    private final StringBuilder page = new StringBuilder();
    private int version;
    private int refusals;
    private int conflicts;
    private int knocks;

    public Grantbase() {
        for (int i = 0; i < sessions.length; i++) {
            sessions[i] = new Session(i);
        }
        for (int i = 0; i < sheets.length; i++) {
            sheets[i] = new Sheet();
            sheets[i].readAll(reader);
        }
    }

    // ---- sessions

    public int act(int session, int actor)
            throws IndexOutOfBoundsException, IllegalArgumentException {
        needPlace(session, SESSIONS);
        needNumber(actor, 0, ACTORS - 1);
        Session s = sessions[session];
        if (s.isOpen) {
            return refuse();
        }
        int old = s.actor;
        s.actor = actor;
        return old;
    }

    public int begin(int session) throws IndexOutOfBoundsException {
        needPlace(session, SESSIONS);
        Session s = sessions[session];
        if (s.isOpen) {
            return refuse();
        }
        s.isOpen = true;
        s.began = version;
        s.savepoints = 0;
        s.own.copyFrom(shared);
        s.start.copyFrom(shared);
        return version;
    }

    public int commit(int session) throws IndexOutOfBoundsException {
        needPlace(session, SESSIONS);
        Session s = sessions[session];
        if (!s.isOpen) {
            return refuse();
        }
        s.isOpen = false;
        if (s.began != version) {
            conflicts++;
            return CONFLICT;
        }
        if (!s.own.isLike(shared)) {
            shared.copyFrom(s.own);
            version++;
        }
        return version;
    }

    public int rollBack(int session) throws IndexOutOfBoundsException {
        needPlace(session, SESSIONS);
        Session s = sessions[session];
        if (!s.isOpen) {
            return refuse();
        }
        s.isOpen = false;
        return s.savepoints;
    }

    public int savepoint(int session) throws IndexOutOfBoundsException {
        needPlace(session, SESSIONS);
        Session s = sessions[session];
        if (!s.isOpen || s.savepoints >= s.saved.length) {
            return refuse();
        }
        s.saved[s.savepoints].copyFrom(s.own);
        s.savepoints++;
        return s.savepoints;
    }

    public int backTo(int session, int savepoint) throws IndexOutOfBoundsException {
        needPlace(session, SESSIONS);
        Session s = sessions[session];
        boolean isThere = savepoint >= 0 && savepoint < s.savepoints && savepoint < s.saved.length;
        if (!s.isOpen || !isThere) {
            return refuse();
        }
        s.own.copyFrom(s.saved[savepoint]);
        s.savepoints = savepoint + 1;
        return s.savepoints;
    }

    // ---- sheets

    public int say(int sheet, int a, int b, int c, int d, int e)
            throws IndexOutOfBoundsException, IllegalArgumentException, IllegalStateException {
        needPlace(sheet, SHEETS);
        needTokenOrNone(a);
        needTokenOrNone(b);
        needTokenOrNone(c);
        needTokenOrNone(d);
        needTokenOrNone(e);
        Sheet s = sheets[sheet];
        int more = one(a) + one(b) + one(c) + one(d) + one(e);
        if (s.count + more > TYPED) {
            throw new IllegalStateException();
        }
        s.type(a);
        s.type(b);
        s.type(c);
        s.type(d);
        s.type(e);
        s.readAll(reader);
        return s.count;
    }

    public int wipe(int sheet, int many)
            throws IndexOutOfBoundsException, IllegalArgumentException {
        needPlace(sheet, SHEETS);
        if (many < 1) {
            throw new IllegalArgumentException();
        }
        Sheet s = sheets[sheet];
        s.shorten(many);
        s.readAll(reader);
        return s.count;
    }

    public int put(int sheet, int place, int token)
            throws IndexOutOfBoundsException, IllegalArgumentException {
        needPlace(sheet, SHEETS);
        Sheet s = sheets[sheet];
        needPlace(place, s.count);
        needToken(token);
        int old = at(s.token, place);
        set(s.token, place, token);
        s.readAll(reader);
        return old;
    }

    public int sample(int sheet, int sample, int x, int y)
            throws IndexOutOfBoundsException, IllegalArgumentException {
        needPlace(sheet, SHEETS);
        needNumber(sample, 0, LAST_SAMPLE);
        needNumber(x, 0, N99 - N0);
        needNumber(y, 0, N99 - N0);
        Sheet s = sheets[sheet];
        s.shorten(TYPED);
        int at = 0;
        for (int i = 0; i < SAMPLES.length && at <= sample; i++) {
            int token = SAMPLES[i];
            if (token == END) {
                at++;
            } else if (at == sample) {
                s.type(token == X ? N0 + x : token == Y ? N0 + y : token);
            }
        }
        s.readAll(reader);
        return s.count;
    }

    public String typed(int sheet) throws IndexOutOfBoundsException {
        needPlace(sheet, SHEETS);
        writeTyped(sheets[sheet]);
        return page.toString();
    }

    public int token(int sheet, int place) throws IndexOutOfBoundsException {
        needPlace(sheet, SHEETS);
        Sheet s = sheets[sheet];
        needPlace(place, s.count);
        return at(s.token, place);
    }

    public int fault(int session, int sheet, int form, boolean isPlace)
            throws IndexOutOfBoundsException, IllegalArgumentException {
        needPlace(session, SESSIONS);
        needPlace(sheet, SHEETS);
        needNumber(form, 0, FORMS - 1);
        int fault = faultOf(session, sheet, form, sessions[session].actor);
        return isPlace ? placeOfFault(fault) : numberOfFault(fault);
    }

    // ---- members, objects

    public int join(int session, int member, int group, boolean isAdmin)
            throws IndexOutOfBoundsException, IllegalArgumentException {
        needPlace(session, SESSIONS);
        needNumber(member, 0, ACTORS - 1);
        needNumber(group, 0, ACTORS - 1);
        Base base = ahead(session);
        if (!base.leads(sessions[session].actor, group) || base.isIn(member, group)) {
            return refuse();
        }
        set(base.member, member * ACTORS + group, isAdmin ? 2 : 1);
        settle(session);
        return base.memberships();
    }

    public int leave(int session, int member, int group)
            throws IndexOutOfBoundsException, IllegalArgumentException {
        needPlace(session, SESSIONS);
        needNumber(member, 0, ACTORS - 1);
        needNumber(group, 0, ACTORS - 1);
        Base base = ahead(session);
        int actor = sessions[session].actor;
        if (at(base.member, member * ACTORS + group) < 1
                || actor != member && !base.leads(actor, group)) {
            return refuse();
        }
        set(base.member, member * ACTORS + group, 0);
        return settle(session);
    }

    public int make(int session, int table, int columns)
            throws IndexOutOfBoundsException, IllegalArgumentException {
        needPlace(session, SESSIONS);
        needPlace(table, TABLES);
        needNumber(columns, 1, COLUMNS);
        Base base = ahead(session);
        if (base.isThere(table)) {
            return refuse();
        }
        set(base.owner, table, sessions[session].actor);
        set(base.columns, table, columns);
        settle(session);
        return base.objects();
    }

    public int view(int session, int view, int sheet, boolean isOwners)
            throws IndexOutOfBoundsException {
        needPlace(session, SESSIONS);
        needPlace(view, VIEWS);
        needPlace(sheet, SHEETS);
        int object = FIRST_VIEW + view;
        int tokens = establishTyped(session, object, VIEW_QUERY, sheet, isOwners);
        if (tokens < 0) {
            return tokens;
        }
        settle(session);
        // The owner sees all of its columns.
        return Integer.bitCount(baseOf(session).columnsSeen(sessions[session].actor, object));
    }

    public int function(int session, int function, int sheet, boolean isOwners)
            throws IndexOutOfBoundsException {
        needPlace(session, SESSIONS);
        needPlace(function, FUNCTIONS);
        needPlace(sheet, SHEETS);
        int object = FIRST_FUNCTION + function;
        int tokens = establishTyped(session, object, FUNCTION_EXPR, sheet, isOwners);
        if (tokens >= 0) {
            settle(session);
        }
        return tokens;
    }

    public int drop(int session, int object) throws IndexOutOfBoundsException {
        needPlace(session, SESSIONS);
        needPlace(object, OBJECTS);
        Base base = ahead(session);
        if (!base.owns(sessions[session].actor, object)) {
            return refuse();
        }
        int gone = base.raze(object);
        settle(session);
        return gone;
    }

    public int own(int session, int object, int actor)
            throws IndexOutOfBoundsException, IllegalArgumentException {
        needPlace(session, SESSIONS);
        needPlace(object, OBJECTS);
        needNumber(actor, 0, ACTORS - 1);
        Base base = ahead(session);
        if (!base.owns(sessions[session].actor, object)) {
            return refuse();
        }
        set(base.owner, object, actor);
        return settle(session);
    }

    public int secure(int session, int table, int security)
            throws IndexOutOfBoundsException, IllegalArgumentException {
        needPlace(session, SESSIONS);
        needPlace(table, TABLES);
        needNumber(security, 0, 2);
        Base base = ahead(session);
        if (!base.owns(sessions[session].actor, table)) {
            return refuse();
        }
        int old = at(base.security, table);
        set(base.security, table, security);
        settle(session);
        return old;
    }

    public int policy(int session, int table, int policy, int sheet, int kind, int actor)
            throws IndexOutOfBoundsException, IllegalArgumentException {
        needPlace(session, SESSIONS);
        needPlace(table, TABLES);
        needPlace(policy, POLICIES);
        needPlace(sheet, SHEETS);
        needNumber(kind, 0, 3);
        needNumber(actor, 0, ACTORS - 1);
        Base base = ahead(session);
        int by = sessions[session].actor;
        if (!base.owns(by, table)) {
            return refuse();
        }
        Text read = sheets[sheet].readingAs(POLICY_COND);
        int fault = Law.check(base, read, VIEWS, table, by);
        if (fault != 0) {
            return -10 - numberOfFault(fault);
        }
        Text kept = new Text(sheets[sheet].count, POLICY_COND);
        reader.read(kept, sheets[sheet].token, sheets[sheet].count);
        base.enact(table * POLICIES + policy, kind * ACTORS + actor, kept);
        settle(session);
        return base.policiesOf(table);
    }

    public int unpolicy(int session, int table, int policy) throws IndexOutOfBoundsException {
        needPlace(session, SESSIONS);
        needPlace(table, TABLES);
        needPlace(policy, POLICIES);
        Base base = ahead(session);
        int slot = table * POLICIES + policy;
        if (!base.owns(sessions[session].actor, table) || at(base.policy, slot) == NONE) {
            return refuse();
        }
        base.enact(slot, NONE, null);
        settle(session);
        return base.policiesOf(table);
    }

    // ---- rights

    public int grant(int session, int object, int right, int column, int actor, boolean isOption)
            throws IndexOutOfBoundsException, IllegalArgumentException, IllegalStateException {
        needPlace(session, SESSIONS);
        needPlace(object, OBJECTS);
        needNumber(right, 0, EXECUTE_RIGHT);
        needNumber(column, NONE, COLUMNS - 1);
        needNumber(actor, 0, ACTORS - 1);
        Base base = ahead(session);
        int by = sessions[session].actor;
        boolean isHad = base.isThere(object) && Base.isFit(object, right, column)
                && base.mayGive(by, object, right, column);
        if (!isHad || actor == by) {
            return refuse();
        }
        int key = Base.grantKey(object, right, column, by, actor);
        if (base.placeOfGrant(key) == NONE && base.grants >= GRANTS) {
            throw new IllegalStateException();
        }
        base.give(key, isOption);
        settle(session);
        return base.grantsOf(object);
    }

    public int revoke(int session, int object, int right, int column, int actor, int way)
            throws IndexOutOfBoundsException, IllegalArgumentException {
        needPlace(session, SESSIONS);
        needPlace(object, OBJECTS);
        needNumber(right, 0, EXECUTE_RIGHT);
        needNumber(column, NONE, COLUMNS - 1);
        needNumber(actor, 0, ACTORS - 1);
        needNumber(way, 0, 2);
        Base base = ahead(session);
        int by = sessions[session].actor;
        int place = base.placeOfGrant(Base.grantKey(object, right, column, by, actor));
        boolean isOptionAlone = way == 2;
        if (place == NONE || isOptionAlone && !Base.isOption(at(base.grant, place))) {
            return refuse();
        }
        int gone = 0;
        if (isOptionAlone) {
            set(base.grant, place, at(base.grant, place) - 1);
        } else {
            base.take(place);
            gone = 1;
        }
        gone += base.prune();
        if (way == 0 && gone > 1) {
            base.copyFrom(before);
            return refuse();
        }
        settle(session);
        return gone;
    }

    // ---- statements

    public int run(int session, int sheet) throws IndexOutOfBoundsException {
        needPlace(session, SESSIONS);
        needPlace(sheet, SHEETS);
        Session s = sessions[session];
        Base base = baseOf(session);
        Text text = sheets[sheet].readingAs(STATEMENT);
        int error = numberOfFault(Law.check(base, text, VIEWS, NONE, s.actor));
        s.forget();
        int many = 0;
        if (error == 0 && text.isQuery()) {
            teller.tell(base, text, s.actor, s.told);
            s.kind = 1;
            return s.told.count;
        }
        if (error == 0) {
            before.copyFrom(base);
            many = teller.change(base, text, s.actor);
            error = many < 0 ? -many : 0;
        }
        if (error != 0) {
            s.kind = 3;
            s.error = error;
            return -10 - error;
        }
        conclude(base);
        s.kind = 2;
        s.changed = many;
        return many;
    }

    public int result(int session, int what)
            throws IndexOutOfBoundsException, IllegalArgumentException {
        needPlace(session, SESSIONS);
        needNumber(what, 0, 4);
        return resultOf(sessions[session], what);
    }

    public String answer(int session) throws IndexOutOfBoundsException {
        needPlace(session, SESSIONS);
        writeRows(sessions[session].told);
        return page.toString();
    }

    public int value(int session, int row, int column) throws IndexOutOfBoundsException {
        needPlace(session, SESSIONS);
        Rows told = sessions[session].told;
        needPlace(row, told.count);
        needPlace(column, told.width);
        return told.cellAt(row, column);
    }

    public String would(int session, int sheet) throws IndexOutOfBoundsException {
        needPlace(session, SESSIONS);
        needPlace(sheet, SHEETS);
        ask(baseOf(session), sheet, sessions[session].actor, found);
        writeRows(found);
        return page.toString();
    }

    public String told(int session, int sheet, int actor)
            throws IndexOutOfBoundsException, IllegalArgumentException {
        needPlace(session, SESSIONS);
        needPlace(sheet, SHEETS);
        needNumber(actor, 0, ACTORS - 1);
        ask(baseOf(session), sheet, actor, found);
        writeRows(found);
        return page.toString();
    }

    public boolean areAlike(int session, int sheet, int actor, int other)
            throws IndexOutOfBoundsException, IllegalArgumentException {
        needPlace(session, SESSIONS);
        needPlace(sheet, SHEETS);
        needNumber(actor, 0, ACTORS - 1);
        needNumber(other, 0, ACTORS - 1);
        Base base = baseOf(session);
        int fault = ask(base, sheet, actor, found);
        int otherFault = ask(base, sheet, other, second);
        return fault == otherFault && found.isLike(second);
    }

    // ---- what is asked, of the DATABASE of a SESSION

    public int circle(int session, int actor)
            throws IndexOutOfBoundsException, IllegalArgumentException {
        needPlace(session, SESSIONS);
        needNumber(actor, 0, ACTORS - 1);
        return at(baseOf(session).circle, actor);
    }

    public String members(int session) throws IndexOutOfBoundsException {
        needPlace(session, SESSIONS);
        writeMembers(baseOf(session));
        return page.toString();
    }

    public int ofObject(int session, int object, int what)
            throws IndexOutOfBoundsException, IllegalArgumentException {
        needPlace(session, SESSIONS);
        needPlace(object, OBJECTS);
        needNumber(what, 0, 7);
        return factOf(baseOf(session), object, what);
    }

    public String text(int session, int object) throws IndexOutOfBoundsException {
        needPlace(session, SESSIONS);
        needPlace(object, OBJECTS);
        writeObject(baseOf(session), object);
        return page.toString();
    }

    public String policyText(int session, int table, int policy) throws IndexOutOfBoundsException {
        needPlace(session, SESSIONS);
        needPlace(table, TABLES);
        needPlace(policy, POLICIES);
        writePolicy(baseOf(session), table * POLICIES + policy);
        return page.toString();
    }

    public String grants(int session, int object) throws IndexOutOfBoundsException {
        needPlace(session, SESSIONS);
        needPlace(object, OBJECTS);
        writeGrants(baseOf(session), object);
        return page.toString();
    }

    public boolean has(int session, int actor, int object, int right, int column, boolean isOption)
            throws IndexOutOfBoundsException, IllegalArgumentException {
        needPlace(session, SESSIONS);
        needPlace(object, OBJECTS);
        needNumber(actor, 0, ACTORS - 1);
        needNumber(right, 0, EXECUTE_RIGHT);
        needNumber(column, NONE, COLUMNS - 1);
        Base base = baseOf(session);
        if (!base.isThere(object) || !Base.isFit(object, right, column)) {
            return false;
        }
        return isOption ? base.mayGive(actor, object, right, column)
                : base.mayUse(actor, object, right, column);
    }

    public boolean isKnown(int session, int actor, int object)
            throws IndexOutOfBoundsException, IllegalArgumentException {
        needPlace(session, SESSIONS);
        needPlace(object, OBJECTS);
        needNumber(actor, 0, ACTORS - 1);
        return baseOf(session).knows(actor, object);
    }

    public int sees(int session, int actor, int object)
            throws IndexOutOfBoundsException, IllegalArgumentException {
        needPlace(session, SESSIONS);
        needPlace(object, FIRST_FUNCTION);
        needNumber(actor, 0, ACTORS - 1);
        return baseOf(session).columnsSeen(actor, object);
    }

    public String rows(int session, int actor, int table, boolean isWrite)
            throws IndexOutOfBoundsException, IllegalArgumentException {
        needPlace(session, SESSIONS);
        needPlace(table, TABLES);
        needNumber(actor, 0, ACTORS - 1);
        writeNumbers(baseOf(session), table, actor, isWrite);
        return page.toString();
    }

    public int call(int session, int function, int actor, int p)
            throws IndexOutOfBoundsException, IllegalArgumentException {
        needPlace(session, SESSIONS);
        needPlace(function, FUNCTIONS);
        needNumber(actor, 0, ACTORS - 1);
        if (p != NULL) {
            needNumber(p, -GREATEST, GREATEST);
        }
        return teller.callAs(baseOf(session), function, actor, p);
    }

    public int ofSession(int session, int what)
            throws IndexOutOfBoundsException, IllegalArgumentException {
        needPlace(session, SESSIONS);
        needNumber(what, 0, 4);
        return stateOf(sessions[session], what);
    }

    // ---- the whole

    public int knock() {
        knocks++;
        return knocks;
    }

    public int house(int what) throws IllegalArgumentException {
        needNumber(what, 0, 8);
        switch (what) {
            case 0:
                return version;
            case 1:
                return refusals;
            case 2:
                return conflicts;
            case 3:
                return knocks;
            case 4:
                return shared.objects();
            case 5:
                return shared.grants;
            case 6:
                return shared.memberships();
            case 7:
                return shared.rowsOfAll();
            default:
                return shared.policiesOfAll();
        }
    }

    public boolean isSound() {
        boolean isSharedLookedAt = false;
        for (int i = 0; i < sessions.length; i++) {
            Base base = baseOf(i);
            boolean isShared = !sessions[i].isOpen;
            if (isShared && isSharedLookedAt) {
                continue;
            }
            isSharedLookedAt |= isShared;
            shadow.copyFrom(base);
            boolean isWell = base.isOrdered() && base.isChained() && shadow.isLike(base);
            if (!isWell || !isBlind(base)) {
                return false;
            }
        }
        return true;
    }

    public long digest() {
        long d = 7677;
        for (int what = 0; what <= 8; what++) {
            d = d * 31 + house(what);
        }
        for (int i = 0; i < sessions.length; i++) {
            d = mixSession(d, i);
            d = mixObjects(d, baseOf(i));
            d = mixActors(d, baseOf(i));
            d = mixSheets(d, i);
        }
        return d * 31 + (isSound() ? 1 : 0);
    }

    // ---- exceptions

    private static void needPlace(int place, int many) {
        if (place < 0 || place >= many) {
            throw new IndexOutOfBoundsException();
        }
    }

    private static void needNumber(int number, int least, int most) {
        if (number < least || number > most) {
            throw new IllegalArgumentException();
        }
    }

    private static void needToken(int token) {
        if (token < 0 || token > BRACKET_END && token < N0 || token > N99) {
            throw new IllegalArgumentException();
        }
    }

    private static void needTokenOrNone(int token) {
        if (token != NONE) {
            needToken(token);
        }
    }

    private int refuse() {
        refusals++;
        return REFUSED;
    }

    // ---- reading and setting what may not be there

    private static int at(int[] row, int place) {
        return place >= 0 && place < row.length ? row[place] : NONE;
    }

    private static void set(int[] row, int place, int number) {
        if (place >= 0 && place < row.length) {
            row[place] = number;
        }
    }

    private static int one(int token) {
        return token == NONE ? 0 : 1;
    }

    // ---- the DATABASE of a session

    private Base baseOf(int session) {
        if (session < 0 || session >= sessions.length || !sessions[session].isOpen) {
            return shared;
        }
        return sessions[session].own;
    }

    /** Makes a view or function, to be settled: how many tokens it has, or what is told instead. */
    private int establishTyped(int session, int object, int form, int sheet, boolean isOwners) {
        Base base = ahead(session);
        int actor = sessions[session].actor;
        if (base.isThere(object)) {
            return refuse();
        }
        int number = object - (form == VIEW_QUERY ? FIRST_VIEW : FIRST_FUNCTION);
        int fault = Law.check(base, sheets[sheet].readingAs(form), number, NONE, actor);
        if (fault != 0) {
            return -10 - numberOfFault(fault);
        }
        // A text of its own: the sheet goes on to change.
        Text kept = new Text(sheets[sheet].count, form);
        reader.read(kept, sheets[sheet].token, sheets[sheet].count);
        base.establish(object, actor, kept, isOwners);
        return kept.count;
    }

    /** The DATABASE of a session, kept as it is ahead of a call that may change it. */
    private Base ahead(int session) {
        Base base = baseOf(session);
        before.copyFrom(base);
        return base;
    }

    /** Ends a call that may have changed the DATABASE: how many GRANTS went by that. */
    private int settle(int session) {
        Base base = baseOf(session);
        base.closeCircles();
        int gone = base.prune();
        base.noteRights();
        Law.noteUses(base);
        conclude(base);
        return gone;
    }

    /** Ends a call that may have changed rows, or also more that is noted already. */
    private void conclude(Base base) {
        base.forget();
        if (base == shared && !shared.isLike(before)) {
            version++;
        }
    }

    // ---- faults: the place, and the number below it; 0 without one

    private static int numberOfFault(int fault) {
        return fault & 7;
    }

    private static int placeOfFault(int fault) {
        return fault == 0 ? NONE : fault >> 3;
    }

    private int faultOf(int session, int sheet, int form, int actor) {
        Text text = sheets[sheet].readingAs(form);
        int number = form == VIEW_QUERY || form == FUNCTION_EXPR ? 3 : VIEWS;
        return Law.check(baseOf(session), text, number, 0, actor);
    }

    /** Puts what a query tells an actor into rows (none with a fault), and answers the fault. */
    private int ask(Base base, int sheet, int actor, Rows rows) {
        rows.start(0);
        Text text = sheets[sheet].readingAs(STATEMENT);
        int fault = Law.check(base, text, VIEWS, NONE, actor);
        if (fault == 0 && text.isQuery()) {
            teller.tell(base, text, actor, rows);
        }
        return fault;
    }

    // ---- facts by numbers

    private static int resultOf(Session s, int what) {
        switch (what) {
            case 0:
                return s.kind;
            case 1:
                return s.told.count;
            case 2:
                return s.told.width;
            case 3:
                return s.changed;
            default:
                return s.error;
        }
    }

    private static int stateOf(Session s, int what) {
        switch (what) {
            case 0:
                return s.actor;
            case 1:
                return s.isOpen ? 1 : 0;
            case 2:
                return s.isOpen ? s.savepoints : 0;
            case 3:
                return s.isOpen ? s.began : NONE;
            default:
                return s.isOpen && !s.own.isLike(s.start) ? 1 : 0;
        }
    }

    private static int factOf(Base base, int object, int what) {
        if (!base.isThere(object)) {
            return NONE;
        }
        if (what == 0) {
            return at(base.owner, object);
        }
        if (what == 1) {
            return base.grantsOf(object);
        }
        if (what == 7) {
            return object >= FIRST_VIEW ? at(base.way, object) : NONE;
        }
        if (object >= FIRST_VIEW) {
            return NONE;
        }
        switch (what) {
            case 2:
                return at(base.columns, object);
            case 3:
                return at(base.count, object);
            case 4:
                return at(base.next, object);
            case 5:
                return at(base.security, object);
            default:
                return base.setOfPolicies(object);
        }
    }

    // ---- texts, written on the page

    private void writeTyped(Sheet sheet) {
        page.setLength(0);
        writeTokens(sheet.token, sheet.count);
    }

    private void writeTokens(int[] token, int count) {
        for (int i = 0; i < count && i < token.length; i++) {
            if (i > 0) {
                page.append(' ');
            }
            writeToken(token[i]);
        }
    }

    private void writeToken(int token) {
        if (token >= N0) {
            page.append(token - N0);
        } else if (token >= BRACKET) {
            page.append(token == BRACKET ? '[' : ']');
        } else if (token >= A0) {
            page.append('A').append(token - A0);
        } else if (token >= F0) {
            page.append('F').append(token - F0);
        } else if (token >= V0) {
            page.append('V').append(token - V0);
        } else if (token >= T0) {
            page.append('T').append(token - T0);
        } else if (token >= C0) {
            page.append('c').append(token - C0);
        } else if (token >= STAR) {
            page.append(sign(token));
        } else {
            page.append(word(token));
        }
    }

    private static String sign(int token) {
        switch (token) {
            case STAR: return "*";
            case PLUS: return "+";
            case MINUS: return "-";
            case OPEN: return "(";
            case CLOSE: return ")";
            case COMMA: return ",";
            case EQUAL: return "=";
            case UNEQUAL: return "<>";
            case LESS: return "<";
            case AT_MOST: return "<=";
            case A: return "a";
            default: return "b";
        }
    }

    private static String word(int token) {
        switch (token) {
            case SELECT: return "select";
            case DISTINCT: return "distinct";
            case FROM: return "from";
            case WHERE: return "where";
            case GROUP: return "group";
            case AND: return "and";
            case OR: return "or";
            case NOT: return "not";
            case IS: return "is";
            case NULL_WORD: return "null";
            case IN: return "in";
            case EXISTS: return "exists";
            case COUNT: return "count";
            case SUM: return "sum";
            case MIN: return "min";
            case MAX: return "max";
            case INSERT: return "insert";
            case UPDATE: return "update";
            case DELETE: return "delete";
            case SET: return "set";
            case ME: return "me";
            case ASKER: return "asker";
            case MEMBER: return "member";
            case P: return "p";
            default: return "outer";
        }
    }

    private void writeValue(int value) {
        if (value == NULL) {
            page.append('-');
        } else {
            page.append(value);
        }
    }

    private void writeRows(Rows rows) {
        page.setLength(0);
        for (int row = 0; row < rows.count; row++) {
            if (row > 0) {
                page.append(';');
            }
            for (int column = 0; column < rows.width; column++) {
                if (column > 0) {
                    page.append(',');
                }
                writeValue(rows.cellAt(row, column));
            }
        }
    }

    private void writeMembers(Base base) {
        page.setLength(0);
        for (int i = 0; i < base.member.length; i++) {
            if (base.member[i] > 0) {
                if (page.length() > 0) {
                    page.append(' ');
                }
                page.append(i / ACTORS).append('>').append(i % ACTORS);
                if (base.member[i] == 2) {
                    page.append('!');
                }
            }
        }
    }

    private void writeObject(Base base, int object) {
        page.setLength(0);
        if (object < FIRST_VIEW) {
            writeTable(base, object);
            return;
        }
        Text text = base.textOf(object);
        if (text != null) {
            writeTokens(text.token, text.count);
        }
    }

    private void writeTable(Base base, int table) {
        int rows = at(base.count, table);
        for (int row = 0; row < rows; row++) {
            int slot = table * TABLE_ROWS + row;
            if (row > 0) {
                page.append(';');
            }
            page.append(at(base.number, slot)).append(':');
            for (int column = 0; column < at(base.columns, table); column++) {
                if (column > 0) {
                    page.append(',');
                }
                writeValue(at(base.cell, slot * COLUMNS + column));
            }
        }
    }

    private void writePolicy(Base base, int slot) {
        page.setLength(0);
        Text condition = base.conditionOf(slot);
        if (condition != null) {
            int policy = at(base.policy, slot);
            page.append(policy / ACTORS).append(',').append(policy % ACTORS).append(':');
            writeTokens(condition.token, condition.count);
        }
    }

    private void writeGrants(Base base, int object) {
        page.setLength(0);
        for (int i = 0; i < base.grants && i < base.grant.length; i++) {
            int grant = base.grant[i];
            if (Base.objectOf(grant) == object) {
                if (page.length() > 0) {
                    page.append(' ');
                }
                page.append(Base.rightOf(grant)).append('.');
                if (Base.columnOf(grant) == NONE) {
                    page.append('*');
                } else {
                    page.append(Base.columnOf(grant));
                }
                page.append(':').append(Base.giverOf(grant)).append('>').append(Base.getterOf(grant));
                if (Base.isOption(grant)) {
                    page.append('!');
                }
            }
        }
    }

    private void writeNumbers(Base base, int table, int actor, boolean isWrite) {
        page.setLength(0);
        int rows = teller.rowsFor(base, table, actor, isWrite);
        for (int row = 0; row < at(base.count, table); row++) {
            if ((rows >> row & 1) != 0) {
                if (page.length() > 0) {
                    page.append(' ');
                }
                page.append(at(base.number, table * TABLE_ROWS + row));
            }
        }
    }

    // ---- the checksum

    private long mixSession(long start, int session) {
        long d = start;
        Session s = sessions[session];
        for (int what = 0; what <= 4; what++) {
            d = d * 31 + stateOf(s, what);
        }
        for (int what = 0; what <= 4; what++) {
            d = d * 31 + resultOf(s, what);
        }
        writeRows(s.told);
        d = d * 31 + page.length();
        writeMembers(baseOf(session));
        return d * 31 + page.length();
    }

    private long mixObjects(long start, Base base) {
        long d = start;
        for (int object = 0; object < OBJECTS; object++) {
            for (int what = 0; what <= 7; what++) {
                d = d * 31 + factOf(base, object, what);
            }
            writeObject(base, object);
            d = d * 31 + page.length();
            writeGrants(base, object);
            d = d * 31 + page.length();
        }
        for (int slot = 0; slot < TABLES * POLICIES; slot++) {
            writePolicy(base, slot);
            d = d * 31 + page.length();
        }
        return d;
    }

    private long mixActors(long start, Base base) {
        long d = start;
        for (int actor = 0; actor < ACTORS; actor++) {
            d = d * 31 + at(base.circle, actor);
            for (int object = 0; object < OBJECTS; object++) {
                d = d * 31 + (base.knows(actor, object) ? 1 : 0);
            }
            for (int object = 0; object < FIRST_FUNCTION; object++) {
                d = d * 31 + base.columnsSeen(actor, object);
            }
            for (int table = 0; table < TABLES; table++) {
                writeNumbers(base, table, actor, false);
                d = d * 31 + page.length();
                writeNumbers(base, table, actor, true);
                d = d * 31 + page.length();
            }
        }
        return d;
    }

    private long mixSheets(long start, int session) {
        long d = start;
        int actor = sessions[session].actor;
        for (int sheet = 0; sheet < sheets.length; sheet++) {
            writeTyped(sheets[sheet]);
            d = d * 31 + page.length();
            for (int form = 0; form < FORMS; form++) {
                int fault = faultOf(session, sheet, form, actor);
                d = d * 31 + numberOfFault(fault);
                d = d * 31 + placeOfFault(fault);
            }
            ask(baseOf(session), sheet, actor, found);
            writeRows(found);
            d = d * 31 + page.length();
        }
        return d;
    }

    // ---- whether the whole is sound

    /** Whether no actor is told by a query of tables what it does not see. */
    private boolean isBlind(Base base) {
        for (int actor = 0; actor < ACTORS; actor++) {
            shadow.copyFrom(base);
            for (int table = 0; table < TABLES; table++) {
                int rows = teller.rowsFor(base, table, actor, false);
                shadow.hide(table, rows, base.columnsSeen(actor, table));
            }
            for (int sheet = 0; sheet < sheets.length; sheet++) {
                Text text = sheets[sheet].readingAs(STATEMENT);
                boolean isAsked = text.isQuery() && text.isOfTables()
                        && Law.check(base, text, VIEWS, NONE, actor) == 0;
                if (!isAsked) {
                    continue;
                }
                teller.tell(base, text, actor, found);
                teller.tell(shadow, text, actor, second);
                if (!found.isLike(second)) {
                    return false;
                }
            }
        }
        return true;
    }

    /** What a session holds. */
    private static final class Session {
        private int actor;
        private boolean isOpen;
        private int began;
        private int savepoints;
        private final Base own = new Base();
        private final Base start = new Base();
        private final Base[] saved = new Base[SAVEPOINTS];
        private int kind;
        private int changed;
        private int error;
        private final Rows told = new Rows();

        private Session(int actor) {
            this.actor = actor;
            for (int i = 0; i < saved.length; i++) {
                saved[i] = new Base();
            }
        }

        private void forget() {
            kind = 0;
            changed = 0;
            error = 0;
            told.start(0);
        }
    }

    /** What is typed, and how it reads as each form. */
    private static final class Sheet {
        private final int[] token = new int[TYPED];
        private int count;
        private final Text[] reading = new Text[FORMS];

        private Sheet() {
            for (int i = 0; i < reading.length; i++) {
                reading[i] = new Text(TYPED, i);
            }
        }

        private void type(int word) {
            if (word != NONE && count < token.length) {
                token[count] = word;
                count++;
            }
        }

        private void shorten(int many) {
            count = many >= count ? 0 : count - many;
        }

        private void readAll(Reader reader) {
            for (int form = 0; form < reading.length; form++) {
                reader.read(reading[form], token, count);
            }
        }

        private Text readingAs(int form) {
            return reading[form >= 0 && form < reading.length ? form : 0];
        }
    }

    /** The rows that a query tells. */
    private static final class Rows {
        private final int[] cell = new int[ROWS * WIDE];
        private final int[] held = new int[WIDE];
        private int count;
        private int width;

        private void start(int columns) {
            count = 0;
            width = columns < 0 ? 0 : columns > WIDE ? WIDE : columns;
        }

        /** Writes into the row that is not closed yet. */
        private void write(int column, int number) {
            if (count < ROWS && column >= 0 && column < WIDE) {
                cell[count * WIDE + column] = number;
            }
        }

        private void closeRow() {
            if (count < ROWS) {
                count++;
            }
        }

        private int cellAt(int row, int column) {
            boolean isThere = row >= 0 && row < ROWS && column >= 0 && column < WIDE;
            return isThere ? cell[row * WIDE + column] : NONE;
        }

        private int compareRows(int row, int otherRow) {
            int difference = 0;
            boolean areThere = row >= 0 && row < ROWS && otherRow >= 0 && otherRow < ROWS;
            for (int i = 0; areThere && i < width && i < WIDE && difference == 0; i++) {
                difference = cell[row * WIDE + i] - cell[otherRow * WIDE + i];
            }
            return difference;
        }

        /** Puts the rows in order; NULL is below all numbers as it is. */
        private void arrange(boolean isDistinct) {
            for (int row = 1; row < count; row++) {
                int place = row;
                for (int i = row - 1; i >= 0 && compareRows(i, row) > 0; i--) {
                    place = i;
                }
                moveRow(row, place);
            }
            if (isDistinct) {
                leaveEachOnce();
            }
        }

        private void moveRow(int row, int place) {
            if (place >= row || place < 0 || row >= ROWS) {
                return;
            }
            System.arraycopy(cell, row * WIDE, held, 0, WIDE);
            System.arraycopy(cell, place * WIDE, cell, place * WIDE + WIDE, (row - place) * WIDE);
            System.arraycopy(held, 0, cell, place * WIDE, WIDE);
        }

        private void leaveEachOnce() {
            int left = 0;
            for (int row = 0; row < count && row < ROWS; row++) {
                if (row == 0 || compareRows(row, left - 1) != 0) {
                    System.arraycopy(cell, row * WIDE, cell, left * WIDE, WIDE);
                    left++;
                }
            }
            count = left;
        }

        private boolean isLike(Rows rows) {
            if (count != rows.count || count > 0 && width != rows.width) {
                return false;
            }
            for (int row = 0; row < count; row++) {
                for (int column = 0; column < width; column++) {
                    if (cellAt(row, column) != rows.cellAt(row, column)) {
                        return false;
                    }
                }
            }
            return true;
        }
    }

    /** A DATABASE: memberships, objects, grants and policies, and what is remembered of them. */
    private static final class Base {
        // Of member and group: 0 none, 1 a membership, 2 one with ADMIN.
        private final int[] member = new int[ACTORS * ACTORS];
        private final int[] circle = new int[ACTORS];
        private final int[] owner = new int[OBJECTS];
        // 1 for a view or function with OWNER's rights.
        private final int[] way = new int[OBJECTS];
        private final int[] columns = new int[TABLES];
        private final int[] next = new int[TABLES];
        private final int[] security = new int[TABLES];
        private final int[] count = new int[TABLES];
        private final int[] number = new int[TABLES * TABLE_ROWS];
        private final int[] cell = new int[TABLES * TABLE_ROWS * COLUMNS];
        private final Text[] text = new Text[OBJECTS];
        // 8 times the KIND of a policy and its actor, or NONE.
        private final int[] policy = new int[TABLES * POLICIES];
        private final Text[] condition = new Text[TABLES * POLICIES];
        // Rising numbers that tell all of a grant, so that equal databases hold equal rows of them.
        private final int[] grant = new int[GRANTS];
        private int grants;
        // Noted behind each change. Of actor, object and right: bit 0 if had for all columns, bit
        // c + 1 if for column c.
        private final int[] held = new int[ACTORS * OBJECTS * RIGHTS];
        // Of an actor the set of objects that it knows.
        private final int[] known = new int[ACTORS];
        // Of an actor and a table or view the set of columns that it sees.
        private final int[] seen = new int[ACTORS * FIRST_FUNCTION];
        // Of an actor the set of views and functions with an error if it uses them.
        private final int[] broken = new int[ACTORS];
        // Of table, runner and asker the set of places of rows; NONE until it is asked for.
        private final int[] readable = new int[TABLES * ACTORS * ACTORS];

        private Base() {
            for (int i = 0; i < ACTORS; i++) {
                circle[i] = 1 << i;
            }
            for (int i = 0; i < owner.length; i++) {
                owner[i] = NONE;
            }
            for (int i = 0; i < policy.length; i++) {
                policy[i] = NONE;
            }
            for (int i = 0; i < readable.length; i++) {
                readable[i] = NONE;
            }
        }

        private void forget() {
            Arrays.fill(readable, NONE);
        }

        private void copyFrom(Base base) {
            copy(base.member, member);
            copy(base.circle, circle);
            copy(base.owner, owner);
            copy(base.way, way);
            copy(base.columns, columns);
            copy(base.next, next);
            copy(base.security, security);
            copy(base.count, count);
            copy(base.number, number);
            copy(base.cell, cell);
            copy(base.policy, policy);
            copy(base.grant, grant);
            grants = base.grants;
            copy(base.held, held);
            copy(base.known, known);
            copy(base.seen, seen);
            copy(base.broken, broken);
            for (int i = 0; i < text.length; i++) {
                text[i] = base.textOf(i);
            }
            for (int i = 0; i < condition.length; i++) {
                condition[i] = base.conditionOf(i);
            }
            forget();
        }

        private static void copy(int[] from, int[] to) {
            System.arraycopy(from, 0, to, 0, Math.min(from.length, to.length));
        }

        private boolean isLike(Base base) {
            boolean isEqual = areEqual(member, base.member) && areEqual(owner, base.owner)
                    && areEqual(way, base.way) && areEqual(columns, base.columns)
                    && areEqual(next, base.next) && areEqual(security, base.security)
                    && areEqual(count, base.count) && areEqual(number, base.number)
                    && areEqual(cell, base.cell) && areEqual(policy, base.policy)
                    && areEqual(grant, base.grant) && grants == base.grants;
            for (int i = 0; i < text.length && isEqual; i++) {
                isEqual = areSameTyped(text[i], base.textOf(i));
            }
            for (int i = 0; i < condition.length && isEqual; i++) {
                isEqual = areSameTyped(condition[i], base.conditionOf(i));
            }
            return isEqual;
        }

        private static boolean areEqual(int[] row, int[] other) {
            for (int i = 0; i < row.length; i++) {
                if (row[i] != at(other, i)) {
                    return false;
                }
            }
            return true;
        }

        private static boolean areSameTyped(Text text, Text other) {
            if (text == null || other == null || text == other) {
                return text == other;
            }
            return text.count == other.count && areEqual(text.token, other.token);
        }

        private Text textOf(int object) {
            return object >= 0 && object < text.length ? text[object] : null;
        }

        private Text conditionOf(int slot) {
            return slot >= 0 && slot < condition.length ? condition[slot] : null;
        }

        // ---- members

        private void closeCircles() {
            for (int actor = 0; actor < ACTORS; actor++) {
                int before = 0;
                int all = 1 << actor;
                // Each round but the last one finds another actor.
                for (int round = 0; round < ACTORS && all != before; round++) {
                    before = all;
                    all = withGroups(before);
                }
                circle[actor] = all;
            }
        }

        private int withGroups(int actors) {
            int all = actors;
            for (int i = 0; i < member.length; i++) {
                if (member[i] > 0 && (actors >> (i / ACTORS) & 1) != 0) {
                    all |= 1 << i % ACTORS;
                }
            }
            return all;
        }

        /** Whether a group is in the circle of an actor. */
        private boolean isIn(int group, int actor) {
            return (at(circle, actor) >> group & 1) != 0;
        }

        private boolean leads(int actor, int group) {
            if (actor == group) {
                return true;
            }
            for (int other = 0; other < ACTORS; other++) {
                if (isIn(other, actor) && at(member, other * ACTORS + group) == 2) {
                    return true;
                }
            }
            return false;
        }

        private int memberships() {
            int many = 0;
            for (int i = 0; i < member.length; i++) {
                many += member[i] > 0 ? 1 : 0;
            }
            return many;
        }

        private boolean isOrdered() {
            for (int actor = 0; actor < ACTORS; actor++) {
                for (int other = 0; other < actor; other++) {
                    if (isIn(actor, other) && isIn(other, actor)) {
                        return false;
                    }
                }
            }
            return true;
        }

        // ---- objects

        private boolean isThere(int object) {
            return at(owner, object) >= 0;
        }

        private boolean owns(int actor, int object) {
            return isThere(object) && isIn(at(owner, object), actor);
        }

        private boolean isExempt(int actor, int table) {
            int degree = at(security, table);
            return degree == 0 || degree == 1 && (at(circle, actor) >> at(owner, table) & 1) != 0;
        }

        private int objects() {
            int many = 0;
            for (int i = 0; i < owner.length; i++) {
                many += owner[i] >= 0 ? 1 : 0;
            }
            return many;
        }

        private void establish(int object, int actor, Text typed, boolean isOwners) {
            set(owner, object, actor);
            set(way, object, isOwners ? 1 : 0);
            if (object >= 0 && object < text.length) {
                text[object] = typed;
            }
        }

        /** An object goes with all of it: how many of its grants went. */
        private int raze(int object) {
            int gone = 0;
            for (int i = grants - 1; i >= 0; i--) {
                if (objectOf(at(grant, i)) == object) {
                    take(i);
                    gone++;
                }
            }
            establish(object, NONE, null, false);
            if (object < TABLES) {
                for (int i = 0; i < POLICIES; i++) {
                    enact(object * POLICIES + i, NONE, null);
                }
                for (int row = TABLE_ROWS - 1; row >= 0; row--) {
                    removeRow(object, row);
                }
                set(columns, object, 0);
                set(next, object, 0);
                set(security, object, 0);
            }
            return gone;
        }

        private void enact(int slot, int kindAndActor, Text typed) {
            set(policy, slot, kindAndActor);
            if (slot >= 0 && slot < condition.length) {
                condition[slot] = typed;
            }
        }

        private int setOfPolicies(int table) {
            int all = 0;
            for (int i = 0; i < POLICIES; i++) {
                all |= at(policy, table * POLICIES + i) >= 0 ? 1 << i : 0;
            }
            return all;
        }

        private int policiesOf(int table) {
            return Integer.bitCount(setOfPolicies(table));
        }

        private int policiesOfAll() {
            int many = 0;
            for (int table = 0; table < TABLES; table++) {
                many += policiesOf(table);
            }
            return many;
        }

        // ---- rows

        private int rowsOfAll() {
            int many = 0;
            for (int table = 0; table < count.length; table++) {
                many += count[table];
            }
            return many;
        }

        /** Adds the row of four values that stands at a place. */
        private void addRow(int table, int[] values, int from) {
            int row = at(count, table);
            if (row < 0 || row >= TABLE_ROWS || from < 0 || from + COLUMNS > values.length) {
                return;
            }
            set(number, table * TABLE_ROWS + row, at(next, table));
            setRow(table, row, values, from);
            set(count, table, row + 1);
            set(next, table, at(next, table) + 1);
        }

        private void setRow(int table, int row, int[] values, int from) {
            for (int column = 0; column < COLUMNS; column++) {
                set(cell, (table * TABLE_ROWS + row) * COLUMNS + column, at(values, from + column));
            }
        }

        /** A row goes; what is behind the last one is 0, so that equal databases have equal cells. */
        private void removeRow(int table, int row) {
            int last = at(count, table) - 1;
            if (row < 0 || row > last) {
                return;
            }
            for (int i = row; i <= last; i++) {
                int to = table * TABLE_ROWS + i;
                set(number, to, i < last ? at(number, to + 1) : 0);
                for (int column = 0; column < COLUMNS; column++) {
                    int place = to * COLUMNS + column;
                    set(cell, place, i < last ? at(cell, place + COLUMNS) : 0);
                }
            }
            set(count, table, last);
        }

        /** Leaves of a table the rows and columns of two sets alone. */
        private void hide(int table, int rowsLeft, int columnsLeft) {
            for (int row = TABLE_ROWS - 1; row >= 0; row--) {
                if ((rowsLeft >> row & 1) == 0) {
                    removeRow(table, row);
                }
            }
            for (int row = 0; row < at(count, table); row++) {
                for (int column = 0; column < COLUMNS; column++) {
                    if ((columnsLeft >> column & 1) == 0) {
                        set(cell, (table * TABLE_ROWS + row) * COLUMNS + column, NULL);
                    }
                }
            }
            set(security, table, 0);
        }

        // ---- rights

        private static boolean isFit(int object, int right, int column) {
            boolean isTable = object < FIRST_VIEW;
            boolean isFunction = object >= FIRST_FUNCTION;
            if (right == EXECUTE_RIGHT) {
                return isFunction && column == NONE;
            }
            if (right == DELETE_RIGHT) {
                return isTable && column == NONE;
            }
            return right == SELECT_RIGHT ? !isFunction : isTable;
        }

        /** Notes who has which rights, knows which objects and sees what of tables. */
        private void noteRights() {
            Arrays.fill(held, 0);
            Arrays.fill(known, 0);
            Arrays.fill(seen, 0);
            Arrays.fill(broken, 0);
            for (int actor = 0; actor < ACTORS; actor++) {
                for (int object = 0; object < OBJECTS; object++) {
                    if (owns(actor, object)) {
                        noteOwner(actor, object);
                    }
                }
                for (int i = 0; i < grants && i < grant.length; i++) {
                    if (isIn(getterOf(grant[i]), actor)) {
                        noteGrant(actor, grant[i]);
                    }
                }
                for (int table = 0; table < TABLES; table++) {
                    int all = isThere(table) ? (1 << at(columns, table)) - 1 : 0;
                    noteSeen(actor, table, all);
                }
            }
        }

        private void noteOwner(int actor, int object) {
            set(known, actor, at(known, actor) | 1 << object);
            for (int right = 0; right < RIGHTS; right++) {
                set(held, (actor * OBJECTS + object) * RIGHTS + right, ALL_HELD);
            }
        }

        private void noteGrant(int actor, int g) {
            int object = objectOf(g);
            int slot = (actor * OBJECTS + object) * RIGHTS + rightOf(g);
            set(known, actor, at(known, actor) | 1 << object);
            set(held, slot, at(held, slot) | 1 << columnOf(g) + 1);
        }

        private void noteSeen(int actor, int object, int all) {
            set(seen, actor * FIRST_FUNCTION + object,
                    all & columnsFor(actor, object, SELECT_RIGHT));
        }

        private boolean mayUse(int actor, int object, int right, int column) {
            int had = at(held, (actor * OBJECTS + object) * RIGHTS + right);
            return (had & 1) != 0 || (had >> column + 1 & 1) != 0;
        }

        /** The columns that a right is had for, as a set. */
        private int columnsFor(int actor, int object, int right) {
            int had = at(held, (actor * OBJECTS + object) * RIGHTS + right);
            return ((had & 1) != 0 ? ALL_HELD : had) >> 1;
        }

        /** Whether a right is had with OPTION. */
        private boolean mayGive(int actor, int object, int right, int column) {
            boolean isHad = owns(actor, object);
            for (int i = 0; i < grants && i < grant.length && !isHad; i++) {
                int g = grant[i];
                isHad = objectOf(g) == object && rightOf(g) == right && isOption(g)
                        && (columnOf(g) == NONE || columnOf(g) == column)
                        && isIn(getterOf(g), actor);
            }
            return isHad;
        }

        private int columnsSeen(int actor, int object) {
            return object < FIRST_FUNCTION ? at(seen, actor * FIRST_FUNCTION + object) : 0;
        }

        private boolean knows(int actor, int object) {
            return (at(known, actor) >> object & 1) != 0;
        }

        private boolean isBroken(int actor, int object) {
            return (at(broken, actor) >> object & 1) != 0;
        }

        // ---- grants

        private static int grantKey(int object, int right, int column, int giver, int getter) {
            return (((object * 5 + right) * 5 + column + 1) * ACTORS + giver) * 16 + getter * 2;
        }

        private static int objectOf(int grant) {
            return grant / 3200;
        }

        private static int rightOf(int grant) {
            return grant / 640 % 5;
        }

        private static int columnOf(int grant) {
            return grant / 128 % 5 - 1;
        }

        private static int giverOf(int grant) {
            return grant / 16 % ACTORS;
        }

        private static int getterOf(int grant) {
            return grant / 2 % ACTORS;
        }

        private static boolean isOption(int grant) {
            return (grant & 1) != 0;
        }

        /** The place of a grant, with or without OPTION. */
        private int placeOfGrant(int key) {
            for (int i = 0; i < grants && i < grant.length; i++) {
                if (grant[i] >> 1 == key >> 1) {
                    return i;
                }
            }
            return NONE;
        }

        private int grantsOf(int object) {
            int many = 0;
            for (int i = 0; i < grants && i < grant.length; i++) {
                many += objectOf(grant[i]) == object ? 1 : 0;
            }
            return many;
        }

        private void give(int key, boolean isOption) {
            int more = isOption ? 1 : 0;
            int old = placeOfGrant(key);
            if (old != NONE) {
                set(grant, old, at(grant, old) | more);
                return;
            }
            if (grants >= grant.length) {
                return;
            }
            int place = grants;
            for (int i = grants - 1; i >= 0 && at(grant, i) > key; i--) {
                set(grant, i + 1, at(grant, i));
                place = i;
            }
            set(grant, place, key + more);
            grants++;
        }

        private void take(int place) {
            if (place < 0 || place >= grants) {
                return;
            }
            for (int i = place; i < grants; i++) {
                set(grant, i, i + 1 < grants ? at(grant, i + 1) : 0);
            }
            grants--;
        }

        /** Whether one grant lets its getter give another one. */
        private boolean isGround(int ground, int of) {
            return ground / 640 == of / 640 && isOption(ground)
                    && (columnOf(ground) == NONE || columnOf(ground) == columnOf(of))
                    && isIn(getterOf(ground), giverOf(of));
        }

        /** Whether a grant is given by the owner, or by one of a set of grants. */
        private boolean isGrounded(int of, long grounds) {
            if (owns(giverOf(of), objectOf(of))) {
                return true;
            }
            for (int i = 0; i < grants && i < grant.length; i++) {
                if ((grounds >> i & 1) != 0 && isGround(grant[i], of)) {
                    return true;
                }
            }
            return false;
        }

        /** Takes the grants that do not stand: how many they were. */
        private int prune() {
            long standing = 0;
            long before = -1;
            for (int round = 0; round <= GRANTS && before != standing; round++) {
                before = standing;
                for (int i = 0; i < grants && i < grant.length; i++) {
                    if ((standing >> i & 1) == 0 && isGrounded(grant[i], standing)) {
                        standing |= 1L << i;
                    }
                }
            }
            int gone = 0;
            for (int i = grants - 1; i >= 0; i--) {
                if ((standing >> i & 1) == 0) {
                    take(i);
                    gone++;
                }
            }
            return gone;
        }

        /** Whether each grant fits, and the way back from it comes to the owner. */
        private boolean isChained() {
            for (int i = 0; i < grants && i < grant.length; i++) {
                int g = grant[i];
                if (!isThere(objectOf(g)) || !isFit(objectOf(g), rightOf(g), columnOf(g))
                        || !leadsBack(i)) {
                    return false;
                }
            }
            return true;
        }

        private boolean leadsBack(int place) {
            long met = 1L << place;
            long before = 0;
            for (int round = 0; round <= GRANTS && before != met; round++) {
                before = met;
                for (int i = 0; i < grants && i < grant.length; i++) {
                    if ((before >> i & 1) == 0) {
                        continue;
                    }
                    if (owns(giverOf(grant[i]), objectOf(grant[i]))) {
                        return true;
                    }
                    met |= groundsOf(grant[i]);
                }
            }
            return false;
        }

        private long groundsOf(int of) {
            long grounds = 0;
            for (int i = 0; i < grants && i < grant.length; i++) {
                if (isGround(grant[i], of)) {
                    grounds |= 1L << i;
                }
            }
            return grounds;
        }
    }

    /** A query that stands in a text. */
    private static final class Query {
        private int select;
        private boolean isFactor;
        private boolean isDistinct;
        private boolean isStar;
        private int what;
        private int width;
        private int a;
        private int b;
        private int where;
        private int group;
        // With group or with an aggregate in its what.
        private boolean isGrouped;

        private void start(int place, boolean isAFactor) {
            select = place;
            isFactor = isAFactor;
            isDistinct = false;
            isStar = false;
            what = NONE;
            width = 0;
            a = NONE;
            b = NONE;
            where = NONE;
            group = NONE;
            isGrouped = false;
        }
    }

    /**
     * Tokens, and what they were read as: a node stands at the place of its own token, and names
     * others by their places.
     */
    private static final class Text {
        private final int[] token;
        private final int form;
        private int count;
        private final int[] kind;
        private final int[] left;
        private final int[] right;
        // The next operator of a chain.
        private final int[] next;
        // The next one of a list.
        private final int[] link;
        // The query directly around a place, by its number.
        private final int[] around;
        private final int[] zone;
        private final Query[] query;
        private int queries;
        private int root;
        private int target;
        private int where;
        private int firstCall;
        // The place of the first token that can not stand there.
        private int bad;

        private Text(int room, int form) {
            int size = room < 0 ? 0 : room;
            this.form = form;
            token = new int[size];
            kind = new int[size];
            left = new int[size];
            right = new int[size];
            next = new int[size];
            link = new int[size];
            around = new int[size];
            zone = new int[size];
            // The shortest query has four tokens.
            query = new Query[size / 4 + 1];
            for (int i = 0; i < query.length; i++) {
                query[i] = new Query();
            }
        }

        private void start(int[] typed, int many) {
            count = many < 0 ? 0 : Math.min(many, Math.min(token.length, typed.length));
            System.arraycopy(typed, 0, token, 0, count);
            Arrays.fill(kind, 0);
            Arrays.fill(left, NONE);
            Arrays.fill(right, NONE);
            Arrays.fill(next, NONE);
            Arrays.fill(link, NONE);
            Arrays.fill(around, NONE);
            Arrays.fill(zone, ELSEWHERE);
            queries = 0;
            root = NONE;
            target = NONE;
            where = NONE;
            firstCall = NONE;
            bad = NONE;
        }

        private Query queryOf(int number) {
            return number >= 0 && number < queries && number < query.length ? query[number] : null;
        }

        /** The query whose select stands at a place. */
        private Query queryAt(int place) {
            return at(kind, place) == QUERY_KIND ? queryOf(at(left, place)) : null;
        }

        private Query queryAround(int place) {
            int number = at(around, place);
            return number >= 0 && number < queries && number < query.length ? query[number] : null;
        }

        private boolean isQuery() {
            return at(kind, root) == QUERY_KIND;
        }

        private boolean isOfTables() {
            for (int i = 0; i < count && i < kind.length; i++) {
                if (kind[i] == SOURCE_KIND && token[i] >= V0) {
                    return false;
                }
            }
            return true;
        }

        /** Whether a query stands within another one, or within another statement. */
        private boolean isInner(Query one) {
            return one.select != root;
        }
    }

    /** Reads tokens as one of the forms. */
    private static final class Reader {
        private Text text = new Text(0, STATEMENT);
        private int at;
        // The token there; none at the end, or behind a fault, so that nothing goes on.
        private int token;
        private int bad;
        private int around;
        private int zone;

        private void read(Text into, int[] typed, int count) {
            text = into;
            text.start(typed, count);
            at = NONE;
            bad = NONE;
            around = NONE;
            zone = ELSEWHERE;
            advance();
            switch (text.form) {
                case STATEMENT:
                    text.root = token == SELECT ? query(false, 0) : change();
                    break;
                case VIEW_QUERY:
                    text.root = query(false, 0);
                    break;
                case FUNCTION_EXPR:
                    text.root = expr(0);
                    break;
                default:
                    text.root = cond(0);
                    break;
            }
            if (at < text.count) {
                fail();
            }
            text.bad = bad;
        }

        /** Goes on to the next token. */
        private void advance() {
            at++;
            boolean isThere = bad == NONE && at >= 0 && at < text.count && at < text.token.length;
            token = isThere ? text.token[at] : NONE;
        }

        private int fail() {
            if (bad == NONE) {
                bad = at;
                token = NONE;
            }
            return NONE;
        }

        private boolean isAmong(int first, int many) {
            return token >= first && token < first + many;
        }

        private boolean skip(int wanted) {
            boolean isThere = token == wanted;
            if (isThere) {
                advance();
            }
            return isThere;
        }

        private boolean need(int wanted) {
            boolean isThere = token == wanted;
            if (isThere) {
                advance();
            } else {
                fail();
            }
            return isThere;
        }

        /** A token of some that are wanted: its place. */
        private int needAmong(int first, int many) {
            if (token < first || token >= first + many) {
                return fail();
            }
            int place = at;
            advance();
            return place;
        }

        /** A token that may not stand four deep already. */
        private boolean needNest(int wanted, int depth) {
            boolean isThere = token == wanted && depth < NESTED;
            if (isThere) {
                advance();
            } else {
                fail();
            }
            return isThere;
        }

        /** Puts a node at a place. */
        private int lay(int place, int kind, int left, int right) {
            if (place >= 0 && place < text.kind.length) {
                text.kind[place] = kind;
                text.left[place] = left;
                text.right[place] = right;
                text.around[place] = around;
                text.zone[place] = zone;
            }
            return place;
        }

        // ---- statements

        private int change() {
            int place = at;
            int word = token;
            if (!isAmong(INSERT, 3)) {
                return fail();
            }
            advance();
            text.target = lay(needAmong(T0, TABLES), TARGET_KIND, NONE, NONE);
            lay(place, word == INSERT ? INSERT_KIND : word == UPDATE ? UPDATE_KIND : DELETE_KIND,
                    NONE, NONE);
            if (word == UPDATE) {
                need(SET);
            }
            int last = NONE;
            for (int i = 0; word != DELETE && i < COLUMNS && (i == 0 || skip(COMMA)); i++) {
                int column = needAmong(C0, COLUMNS);
                need(EQUAL);
                lay(column, SET_KIND, at(text.token, column) - C0, expr(0));
                // The statement leads to the first one, each to the next one.
                set(i == 0 ? text.left : text.link, i == 0 ? place : last, column);
                last = column;
            }
            if (word != INSERT && skip(WHERE)) {
                text.where = cond(0);
            }
            return place;
        }

        // ---- queries

        private int query(boolean isFactor, int depth) {
            int place = at;
            int number = text.queries;
            if (token != SELECT || number >= text.query.length) {
                return fail();
            }
            advance();
            text.queries++;
            lay(place, QUERY_KIND, number, NONE);
            Query query = text.query[number];
            query.start(place, isFactor);
            int outerAround = around;
            int outerZone = zone;
            around = number;
            zone = IN_WHAT;
            query.isDistinct = skip(DISTINCT);
            what(query, depth);
            zone = ELSEWHERE;
            need(FROM);
            query.a = lay(needAmong(T0, TABLES + VIEWS), SOURCE_KIND, NONE, NONE);
            if (skip(COMMA)) {
                query.b = lay(needAmong(T0, TABLES + VIEWS), SOURCE_KIND, NONE, NONE);
            }
            if (skip(WHERE)) {
                query.where = cond(depth);
            }
            if (skip(GROUP)) {
                zone = IN_GROUP;
                query.isGrouped = true;
                query.group = ref();
            }
            around = outerAround;
            zone = outerZone;
            return place;
        }

        private void what(Query query, int depth) {
            if (token == STAR) {
                query.isStar = true;
                query.what = lay(at, STAR_KIND, NONE, NONE);
                advance();
                return;
            }
            query.what = expr(depth);
            query.width = 1;
            int last = query.what;
            for (int i = 1; i < COLUMNS && skip(COMMA); i++) {
                int another = expr(depth);
                set(text.link, last, another);
                last = another;
                query.width++;
            }
        }

        // ---- values

        private int expr(int depth) {
            return chain(PLUS, depth);
        }

        /**
         * Operands with the signs of a level (or, and, + and -, or *) between them. The first sign
         * heads the chain, so that long ones do not get deep; one operand alone is itself.
         */
        private int chain(int level, int depth) {
            int first = operand(level, depth);
            int head = NONE;
            int last = NONE;
            int kind = level == OR ? OR_KIND : level == AND ? AND_KIND : CHAIN_KIND;
            for (int i = 0; i < TYPED; i++) {
                if (token != level && (level != PLUS || token != MINUS)) {
                    break;
                }
                int place = at;
                advance();
                lay(place, kind, first, operand(level, depth));
                set(text.next, last, place);
                head = head == NONE ? place : head;
                last = place;
            }
            return head == NONE ? first : head;
        }

        private int operand(int level, int depth) {
            switch (level) {
                case OR:
                    return chain(AND, depth);
                case AND:
                    return neg(depth);
                case PLUS:
                    return chain(STAR, depth);
                default:
                    return factor(depth);
            }
        }

        private int factor(int depth) {
            int place = at;
            if (token >= N0) {
                return leaf(FIXED_KIND, token - N0);
            }
            if (isAmong(A0, ACTORS)) {
                return leaf(FIXED_KIND, token - A0);
            }
            if (isAmong(F0, FUNCTIONS)) {
                return invocation(depth);
            }
            if (token == OUTER || token == A || token == B || isAmong(C0, COLUMNS)) {
                return ref();
            }
            switch (token) {
                case NULL_WORD:
                    return leaf(FIXED_KIND, NULL);
                case ME:
                    return leaf(ME_KIND, NONE);
                case ASKER:
                    return leaf(ASKER_KIND, NONE);
                case P:
                    return leaf(PARAMETER_KIND, NONE);
                case MINUS:
                    return needNest(MINUS, depth)
                            ? lay(place, NEGATE_KIND, factor(depth + 1), NONE) : NONE;
                case OPEN:
                    return inParentheses(depth);
                case COUNT:
                case SUM:
                case MIN:
                case MAX:
                    return aggregate(depth);
                default:
                    return fail();
            }
        }

        private int leaf(int kind, int left) {
            int place = at;
            advance();
            return lay(place, kind, left, NONE);
        }

        private int inParentheses(int depth) {
            if (!needNest(OPEN, depth)) {
                return NONE;
            }
            int inside = token == SELECT ? query(true, depth + 1) : expr(depth + 1);
            need(CLOSE);
            return inside;
        }

        private int argument(int depth) {
            int inside = needNest(OPEN, depth) ? expr(depth + 1) : NONE;
            need(CLOSE);
            return inside;
        }

        private int invocation(int depth) {
            int place = at;
            advance();
            if (text.firstCall == NONE) {
                text.firstCall = place;
            }
            return lay(place, CALL_KIND, at(text.token, place) - F0, argument(depth));
        }

        private int aggregate(int depth) {
            int place = at;
            boolean isCount = token == COUNT;
            advance();
            lay(place, AGGREGATE_KIND, NONE, NONE);
            Query query = text.queryOf(around);
            if (zone == IN_WHAT && query != null) {
                query.isGrouped = true;
            }
            int outerZone = zone;
            zone = zone == IN_WHAT ? IN_AGGREGATE : zone;
            if (needNest(OPEN, depth)) {
                if (isCount && skip(STAR)) {
                    set(text.kind, place, ROW_COUNT_KIND);
                } else {
                    set(text.left, place, expr(depth + 1));
                }
                need(CLOSE);
            }
            zone = outerZone;
            return place;
        }

        /** A ref: to its left 0 for a, 1 for b, 2 more with outer; to its right the column. */
        private int ref() {
            int place = at;
            int source = skip(OUTER) ? 2 : 0;
            if (skip(B)) {
                source++;
            } else {
                skip(A);
            }
            int column = needAmong(C0, COLUMNS);
            return lay(place, REF_KIND, source, at(text.token, column) - C0);
        }

        // ---- conditions

        private int cond(int depth) {
            return chain(OR, depth);
        }

        private int neg(int depth) {
            if (token != NOT) {
                return prim(depth);
            }
            int place = at;
            return needNest(NOT, depth) ? lay(place, NOT_KIND, neg(depth + 1), NONE) : NONE;
        }

        private int prim(int depth) {
            int place = at;
            if (token == BRACKET) {
                int inside = needNest(BRACKET, depth) ? cond(depth + 1) : NONE;
                need(BRACKET_END);
                return inside;
            }
            if (skip(EXISTS)) {
                int inside = needNest(OPEN, depth) ? query(false, depth + 1) : NONE;
                need(CLOSE);
                return lay(place, EXISTS_KIND, inside, NONE);
            }
            if (skip(MEMBER)) {
                int actor = needAmong(A0, ACTORS);
                return lay(place, MEMBER_KIND, at(text.token, actor) - A0, NONE);
            }
            return comparison(expr(depth), depth);
        }

        private int comparison(int first, int depth) {
            int place = at;
            if (isAmong(EQUAL, 4)) {
                advance();
                return lay(place, COMPARE_KIND, first, expr(depth));
            }
            if (skip(IS)) {
                int kind = skip(NOT) ? IS_VALUE_KIND : IS_NULL_KIND;
                need(NULL_WORD);
                return lay(place, kind, first, NONE);
            }
            int kind = skip(NOT) ? NOT_IN_KIND : IN_KIND;
            return need(IN) ? lay(place, kind, first, list(depth)) : NONE;
        }

        private int list(int depth) {
            if (!needNest(OPEN, depth)) {
                return NONE;
            }
            int first = expr(depth + 1);
            int last = first;
            for (int i = 0; i < TYPED && skip(COMMA); i++) {
                int another = expr(depth + 1);
                set(text.link, last, another);
                last = another;
            }
            need(CLOSE);
            return first;
        }
    }

    /** What a text may not name, may not do, or misuses. */
    private static final class Law {

        /**
         * The first fault of a text for a runner: 8 times its place and its number, or 0. A view
         * names views below a number alone, a function functions; a policy is of a table.
         */
        private static int check(Base base, Text text, int number, int table, int runner) {
            if (text.bad != NONE) {
                return text.bad * 8 + SYNTAX;
            }
            for (int place = 0; place < text.count; place++) {
                int fault = 0;
                switch (at(text.kind, place)) {
                    case SOURCE_KIND:
                        fault = sourceFault(base, text, place, number, runner);
                        break;
                    case TARGET_KIND:
                        fault = targetFault(base, text, place, runner);
                        break;
                    case SET_KIND:
                        fault = setFault(base, text, place, runner);
                        break;
                    case REF_KIND:
                        int there = columnsOfRef(base, text, place, number, table, runner);
                        fault = refFault(text, place, there);
                        break;
                    case CALL_KIND:
                        fault = callFault(base, text, place, number, runner);
                        break;
                    case QUERY_KIND:
                        fault = queryFault(base, text, place, number, runner);
                        break;
                    default:
                        fault = isMisplaced(text, place) ? MISUSED : 0;
                        break;
                }
                if (fault != 0) {
                    return place * 8 + fault;
                }
            }
            return 0;
        }

        /** Whether an aggregate, p or * is misused, whoever asks. */
        private static boolean isMisplaced(Text text, int place) {
            switch (at(text.kind, place)) {
                case ROW_COUNT_KIND:
                case AGGREGATE_KIND:
                    return at(text.zone, place) != IN_WHAT;
                case PARAMETER_KIND:
                    return text.form != FUNCTION_EXPR;
                case STAR_KIND:
                    Query around = text.queryAround(place);
                    return around != null && around.isGrouped;
                default:
                    return false;
            }
        }

        private static int sourceFault(Base base, Text text, int place, int number, int runner) {
            int object = at(text.token, place) - T0;
            Query around = text.queryAround(place);
            if (!base.knows(runner, object)) {
                return NAME;
            }
            boolean isView = object >= FIRST_VIEW;
            if (isView && (object - FIRST_VIEW >= number || base.isBroken(runner, object))) {
                return NAME;
            }
            if (base.columnsSeen(runner, object) == 0) {
                return RIGHT;
            }
            if (around != null && text.isInner(around) && (isView || place == around.b)) {
                return MISUSED;
            }
            return 0;
        }

        private static int targetFault(Base base, Text text, int place, int runner) {
            int table = at(text.token, place) - T0;
            if (!base.knows(runner, table)) {
                return NAME;
            }
            boolean isDelete = at(text.kind, text.root) == DELETE_KIND;
            if (isDelete && !base.mayUse(runner, table, DELETE_RIGHT, NONE)) {
                return RIGHT;
            }
            return 0;
        }

        private static int setFault(Base base, Text text, int place, int runner) {
            int table = at(text.token, text.target) - T0;
            int column = at(text.left, place);
            boolean isInsert = at(text.kind, text.root) == INSERT_KIND;
            int right = isInsert ? INSERT_RIGHT : UPDATE_RIGHT;
            boolean isSeen = (base.columnsSeen(runner, table) >> column & 1) != 0;
            boolean isHad = (base.columnsFor(runner, table, right) >> column & 1) != 0;
            if (column >= at(base.columns, table) || !isSeen && !isHad) {
                return NAME;
            }
            if (!isHad) {
                return RIGHT;
            }
            int earlier = at(text.left, text.root);
            for (int i = 0; i < COLUMNS && earlier != NONE && earlier != place; i++) {
                if (at(text.left, earlier) == column) {
                    return MISUSED;
                }
                earlier = at(text.link, earlier);
            }
            return 0;
        }

        private static int refFault(Text text, int place, int there) {
            if ((there >> at(text.right, place) & 1) == 0) {
                return NAME;
            }
            Query around = text.queryAround(place);
            if (around == null) {
                return 0;
            }
            boolean isOuter = at(text.left, place) >= 2;
            int zone = at(text.zone, place);
            if (zone == IN_GROUP && isOuter) {
                return MISUSED;
            }
            boolean isBound = zone == IN_WHAT && !isOuter && around.isGrouped;
            return isBound && !isSameRef(text, around.group, place) ? MISUSED : 0;
        }

        private static boolean isSameRef(Text text, int ref, int other) {
            return ref != NONE && at(text.left, ref) == at(text.left, other)
                    && at(text.right, ref) == at(text.right, other);
        }

        /** The columns that the source of a ref has; none if there is no such source. */
        private static int columnsOfRef(Base base, Text text, int place, int number, int table,
                int runner) {
            int source = at(text.left, place);
            boolean isB = (source & 1) != 0;
            Query query = text.queryAround(place);
            if (source >= 2) {
                if (query == null) {
                    return 0;
                }
                query = text.queryAround(query.select);
            }
            if (query != null) {
                return columnsOfSource(base, text, isB ? query.b : query.a, number, runner);
            }
            if (isB) {
                return 0;
            }
            if (text.form == POLICY_COND) {
                return (1 << at(base.columns, table)) - 1;
            }
            int kind = at(text.kind, text.root);
            boolean isOfTarget = kind == UPDATE_KIND || kind == DELETE_KIND;
            int target = at(text.token, text.target) - T0;
            return isOfTarget ? base.columnsSeen(runner, target) : 0;
        }

        /** The columns that a runner sees of a source; a view has to be below a number. */
        private static int columnsOfSource(Base base, Text text, int place, int number,
                int runner) {
            int object = at(text.token, place) - T0;
            boolean isThere = place != NONE && object < FIRST_VIEW + number;
            return isThere ? at(base.seen, runner * FIRST_FUNCTION + object) : 0;
        }

        private static int callFault(Base base, Text text, int place, int number, int runner) {
            int function = at(text.left, place);
            boolean isInFunction = text.form == FUNCTION_EXPR;
            if (!base.knows(runner, FIRST_FUNCTION + function)
                    || isInFunction && function >= number) {
                return NAME;
            }
            return isInFunction && place != text.firstCall ? MISUSED : 0;
        }

        private static int queryFault(Base base, Text text, int place, int number, int runner) {
            if (text.form == FUNCTION_EXPR || text.form == POLICY_COND) {
                return MISUSED;
            }
            Query around = text.queryAround(place);
            if (around != null && text.isInner(around)) {
                return MISUSED;
            }
            Query query = text.queryAt(place);
            boolean isWide = query != null && query.isFactor
                    && widthOfQuery(base, text, query, number, runner) != 1;
            return isWide ? MISUSED : 0;
        }

        /** How many columns a query has. */
        private static int widthOfQuery(Base base, Text text, Query query, int number,
                int runner) {
            if (!query.isStar) {
                return query.width;
            }
            return Integer.bitCount(columnsOfSource(base, text, query.a, number, runner))
                    + Integer.bitCount(columnsOfSource(base, text, query.b, number, runner));
        }

        /** Whose rights count in a view or function that somebody uses. */
        private static int runnerOf(Base base, int object, int user) {
            return at(base.way, object) == 1 ? at(base.owner, object) : user;
        }

        /** Notes of each actor which views and functions are broken, and what it sees of views. */
        private static void noteUses(Base base) {
            for (int slot = FIRST_VIEW * ACTORS; slot < OBJECTS * ACTORS; slot++) {
                int object = slot / ACTORS;
                int actor = slot % ACTORS;
                Text text = base.textOf(object);
                if (text == null) {
                    continue;
                }
                // A view names views below it alone: what those have is noted already.
                int number = object - (object < FIRST_FUNCTION ? FIRST_VIEW : FIRST_FUNCTION);
                int runner = runnerOf(base, object, actor);
                Query query = text.queryAt(text.root);
                if (check(base, text, number, NONE, runner) != 0) {
                    set(base.broken, actor, at(base.broken, actor) | 1 << object);
                } else if (query != null) {
                    int width = Math.min(COLUMNS, widthOfQuery(base, text, query, number, runner));
                    base.noteSeen(actor, object, (1 << width) - 1);
                }
            }
        }
    }

    /** Where a text is reckoned: who it is for, and the rows that it looks at. */
    private static final class Scope {
        private final int level;
        private Text text = new Text(0, STATEMENT);
        private int me;
        // As whom functions are called.
        private int caller;
        private int p;
        // Where the query directly around is reckoned.
        private Scope outer;
        // The rows of a, behind them those of b.
        private final int[] cell = new int[2 * VIEW_ROWS * COLUMNS];
        private int rowsOfA;
        private int rowsOfB;
        private int seenOfA;
        private int seenOfB;
        // Of each row of the query 16 times its row of a, and its row of b; the first of its group.
        private final int[] pair = new int[ROWS];
        private final int[] first = new int[ROWS];
        private int pairs;
        private int now;
        private int group;

        private Scope(int level) {
            this.level = level;
        }

        private void start(Text of, int asMe, int asCaller, int argument, Scope around) {
            text = of;
            me = asMe;
            caller = asCaller;
            p = argument;
            outer = around;
            pairs = 0;
            now = NONE;
            group = NONE;
        }

        /** Looks at one row of a table alone, which holds four values from a place on. */
        private void lookAt(int[] values, int from) {
            for (int column = 0; column < COLUMNS; column++) {
                set(cell, column, at(values, from + column));
            }
            set(pair, 0, 0);
            now = 0;
        }

        private void setCell(int side, int row, int column, int value) {
            set(cell, (side * VIEW_ROWS + row) * COLUMNS + column, value);
        }

        /** The value of a column of a (0) or b (1) in the row at hand. */
        private int cellAt(int side, int column) {
            if (now < 0 || now >= pair.length) {
                return NULL;
            }
            int row = side == 0 ? pair[now] >> 4 : pair[now] & 15;
            return at(cell, (side * VIEW_ROWS + row) * COLUMNS + column);
        }
    }

    /** Tells what queries, functions and policies come to, and changes rows. */
    private static final class Teller {
        private final Scope[] scopes = new Scope[SCOPES];
        private final Rows inner = new Rows();
        private final int[] fresh = new int[TABLE_ROWS * COLUMNS];
        private Base base = new Base();
        private int asker;

        private Teller() {
            for (int i = 0; i < scopes.length; i++) {
                scopes[i] = new Scope(i);
            }
        }

        // ---- what others call, each with who asks

        /** Puts what a query without a fault tells an actor into rows. */
        private void tell(Base of, Text text, int actor, Rows rows) {
            base = of;
            asker = actor;
            rows.start(0);
            Query query = text.queryAt(text.root);
            if (query != null) {
                scopes[0].start(text, actor, actor, NULL, null);
                reckon(scopes[0], query, rows, 0);
            }
        }

        private int callAs(Base of, int function, int actor, int p) {
            base = of;
            asker = actor;
            return invoke(function, actor, p, scopes[0], 0);
        }

        /** The set of the rows (by their places) that an actor may read, or write. */
        private int rowsFor(Base of, int table, int actor, boolean isWrite) {
            base = of;
            asker = actor;
            return isWrite ? allowed(table, actor, true, scopes[0], 0)
                    : readable(table, actor, scopes[0], 0);
        }

        /** Runs an insert, update or delete without a fault: how many rows, or less the error. */
        private int change(Base of, Text text, int actor) {
            base = of;
            asker = actor;
            int table = at(text.token, text.target) - T0;
            scopes[0].start(text, actor, actor, NULL, null);
            switch (at(text.kind, text.root)) {
                case INSERT_KIND:
                    return insertRow(scopes[0], table);
                case UPDATE_KIND:
                    return updateRows(scopes[0], table, rowsMeant(scopes[0], table));
                default:
                    return deleteRows(table, rowsMeant(scopes[0], table));
            }
        }

        // ---- changes

        private int insertRow(Scope s, int table) {
            Arrays.fill(fresh, NULL);
            reckonSets(s, 0);
            if (!mayWriteFresh(table, 0, s)) {
                return -BARRED;
            }
            if (at(base.count, table) >= TABLE_ROWS) {
                return -FULL;
            }
            base.addRow(table, fresh, 0);
            return 1;
        }

        /** Puts the told values over those of a fresh row. */
        private void reckonSets(Scope s, int row) {
            int place = at(s.text.left, s.text.root);
            for (int i = 0; i < COLUMNS && place != NONE; i++) {
                int value = valueOf(s, at(s.text.right, place), 0);
                set(fresh, row * COLUMNS + at(s.text.left, place), value);
                place = at(s.text.link, place);
            }
        }

        private boolean mayWriteFresh(int table, int row, Scope s) {
            Scope c = inside(s);
            if (c == null) {
                return false;
            }
            c.lookAt(fresh, row * COLUMNS);
            return may(c, table, s.me, true, 0);
        }

        /** The rows that an update or delete is about. */
        private int rowsMeant(Scope s, int table) {
            int rows = readable(table, s.me, s, 0) & allowed(table, s.me, true, s, 0);
            int meant = 0;
            for (int row = 0; row < TABLE_ROWS; row++) {
                if ((rows >> row & 1) != 0) {
                    s.lookAt(base.cell, (table * TABLE_ROWS + row) * COLUMNS);
                    int where = s.text.where;
                    meant |= where == NONE || truth(s, where, 0) == TRUE ? 1 << row : 0;
                }
            }
            return meant;
        }

        private int updateRows(Scope s, int table, int rows) {
            for (int row = 0; row < TABLE_ROWS; row++) {
                if ((rows >> row & 1) != 0) {
                    int from = (table * TABLE_ROWS + row) * COLUMNS;
                    for (int column = 0; column < COLUMNS; column++) {
                        set(fresh, row * COLUMNS + column, at(base.cell, from + column));
                    }
                    s.lookAt(base.cell, from);
                    reckonSets(s, row);
                }
            }
            for (int row = 0; row < TABLE_ROWS; row++) {
                if ((rows >> row & 1) != 0 && !mayWriteFresh(table, row, s)) {
                    return -BARRED;
                }
            }
            for (int row = 0; row < TABLE_ROWS; row++) {
                if ((rows >> row & 1) != 0) {
                    base.setRow(table, row, fresh, row * COLUMNS);
                }
            }
            return Integer.bitCount(rows);
        }

        private int deleteRows(int table, int rows) {
            for (int row = TABLE_ROWS - 1; row >= 0; row--) {
                if ((rows >> row & 1) != 0) {
                    base.removeRow(table, row);
                }
            }
            return Integer.bitCount(rows);
        }

        // ---- policies

        private Scope inside(Scope s) {
            int level = s.level + 1;
            return level < scopes.length ? scopes[level] : null;
        }

        private int readable(int table, int runner, Scope s, int deep) {
            int slot = (table * ACTORS + runner) * ACTORS + asker;
            int rows = at(base.readable, slot);
            if (rows == NONE) {
                rows = allowed(table, runner, false, s, deep);
                set(base.readable, slot, rows);
            }
            return rows;
        }

        private int allowed(int table, int runner, boolean isWrite, Scope s, int deep) {
            Scope c = inside(s);
            int rows = 0;
            for (int row = 0; row < at(base.count, table) && c != null; row++) {
                c.lookAt(base.cell, (table * TABLE_ROWS + row) * COLUMNS);
                rows |= may(c, table, runner, isWrite, deep) ? 1 << row : 0;
            }
            return rows;
        }

        /** Whether a runner may read, or write, the row that a scope looks at. */
        private boolean may(Scope c, int table, int runner, boolean isWrite, int deep) {
            if (base.isExempt(runner, table)) {
                return true;
            }
            boolean isLet = false;
            for (int i = 0; i < POLICIES; i++) {
                int slot = table * POLICIES + i;
                int policy = at(base.policy, slot);
                int kind = policy / ACTORS;
                Text condition = base.conditionOf(slot);
                if (condition == null || (kind & 1) != (isWrite ? 1 : 0)
                        || !base.isIn(policy % ACTORS, runner)) {
                    continue;
                }
                c.start(condition, runner, at(base.owner, table), NULL, null);
                c.now = 0;
                boolean isTrue = truth(c, condition.root, deep + 1) == TRUE;
                if (kind >= 2 && !isTrue) {
                    return false;
                }
                isLet |= kind < 2 && isTrue;
            }
            return isLet;
        }

        // ---- queries

        private void reckon(Scope s, Query query, Rows rows, int deep) {
            s.seenOfA = Law.columnsOfSource(base, s.text, query.a, VIEWS, s.me);
            s.seenOfB = Law.columnsOfSource(base, s.text, query.b, VIEWS, s.me);
            s.rowsOfA = load(s, query.a, 0, rows, deep);
            s.rowsOfB = query.b == NONE ? 1 : load(s, query.b, 1, rows, deep);
            pairUp(s, query, deep);
            rows.start(query.isStar ? Integer.bitCount(s.seenOfA) + Integer.bitCount(s.seenOfB)
                    : query.width);
            if (query.isGrouped) {
                tellGroups(s, query, rows, deep);
            } else {
                for (int i = 0; i < s.pairs; i++) {
                    s.now = i;
                    tellRow(s, query, rows, deep);
                }
            }
            rows.arrange(query.isDistinct);
        }

        /** Brings the rows of a source (a is 0, b is 1) into a scope: how many. */
        private int load(Scope s, int place, int side, Rows rows, int deep) {
            int object = at(s.text.token, place) - T0;
            if (object >= FIRST_VIEW) {
                return loadView(s, object, side, rows, deep);
            }
            int readable = readable(object, s.me, s, deep);
            int many = 0;
            for (int row = 0; row < TABLE_ROWS; row++) {
                if ((readable >> row & 1) != 0) {
                    int from = (object * TABLE_ROWS + row) * COLUMNS;
                    for (int column = 0; column < COLUMNS; column++) {
                        s.setCell(side, many, column, at(base.cell, from + column));
                    }
                    many++;
                }
            }
            return many;
        }

        private int loadView(Scope s, int object, int side, Rows rows, int deep) {
            Scope c = inside(s);
            Text text = base.textOf(object);
            Query query = text == null ? null : text.queryAt(text.root);
            if (c == null || query == null || deep > DEEPEST) {
                return 0;
            }
            int runner = Law.runnerOf(base, object, s.me);
            c.start(text, runner, runner, NULL, null);
            reckon(c, query, rows, deep + 1);
            int many = Math.min(rows.count, VIEW_ROWS);
            for (int row = 0; row < many; row++) {
                for (int column = 0; column < COLUMNS; column++) {
                    s.setCell(side, row, column, rows.cellAt(row, column));
                }
            }
            return many;
        }

        /** Keeps the pairs of rows for which where is TRUE. */
        private void pairUp(Scope s, Query query, int deep) {
            s.pairs = 0;
            for (int i = 0; i < s.rowsOfA; i++) {
                for (int j = 0; j < s.rowsOfB; j++) {
                    s.now = s.pairs;
                    set(s.pair, s.now, i * 16 + j);
                    if (query.where == NONE || truth(s, query.where, deep + 1) == TRUE) {
                        s.pairs++;
                    }
                }
            }
        }

        private void tellGroups(Scope s, Query query, Rows rows, int deep) {
            for (int i = 0; i < s.pairs; i++) {
                set(s.first, i, firstLike(s, query.group, i));
            }
            for (int i = 0; i < s.pairs; i++) {
                if (at(s.first, i) == i) {
                    s.group = i;
                    s.now = i;
                    tellRow(s, query, rows, deep);
                }
            }
            if (s.pairs == 0 && query.group == NONE) {
                s.now = NONE;
                tellRow(s, query, rows, deep);
            }
        }

        /** The first row of the group of a row. */
        private static int firstLike(Scope s, int ref, int row) {
            if (ref == NONE) {
                return 0;
            }
            int side = at(s.text.left, ref) & 1;
            int column = at(s.text.right, ref);
            s.now = row;
            int value = s.cellAt(side, column);
            for (int i = 0; i < row; i++) {
                s.now = i;
                if (s.cellAt(side, column) == value) {
                    return i;
                }
            }
            return row;
        }

        private void tellRow(Scope s, Query query, Rows rows, int deep) {
            if (query.isStar) {
                int width = tellSeen(s, 0, s.seenOfA, rows, 0);
                tellSeen(s, 1, s.seenOfB, rows, width);
            } else {
                int node = query.what;
                for (int i = 0; i < COLUMNS && node != NONE; i++) {
                    rows.write(i, valueOf(s, node, deep + 1));
                    node = at(s.text.link, node);
                }
            }
            rows.closeRow();
        }

        private static int tellSeen(Scope s, int side, int seen, Rows rows, int from) {
            int width = from;
            for (int column = 0; column < COLUMNS; column++) {
                if ((seen >> column & 1) != 0) {
                    rows.write(width, s.cellAt(side, column));
                    width++;
                }
            }
            return width;
        }

        /** Reckons a query within another text: how many rows it tells. */
        private int reckonInner(Scope s, int place, int deep) {
            Scope c = inside(s);
            Query query = s.text.queryAt(place);
            // None stands within one that stands within another: so one place for rows will do.
            if (c == null || query == null || s.outer != null) {
                return 0;
            }
            c.start(s.text, s.me, s.caller, s.p, s);
            reckon(c, query, inner, deep + 1);
            return inner.count;
        }

        // ---- values

        private int valueOf(Scope s, int node, int deep) {
            if (deep > DEEPEST) {
                return NULL;
            }
            int left = at(s.text.left, node);
            switch (at(s.text.kind, node)) {
                case FIXED_KIND:
                    return left;
                case ME_KIND:
                    return s.me;
                case ASKER_KIND:
                    return asker;
                case PARAMETER_KIND:
                    return s.p;
                case REF_KIND:
                    return valueOfRef(s, node);
                case NEGATE_KIND:
                    return plus(0, valueOf(s, left, deep + 1), true);
                case CHAIN_KIND:
                    return valueOfChain(s, node, deep);
                case CALL_KIND:
                    int argument = valueOf(s, at(s.text.right, node), deep + 1);
                    return invoke(left, s.caller, argument, s, deep);
                case ROW_COUNT_KIND:
                case AGGREGATE_KIND:
                    return valueOfAggregate(s, node, deep);
                case QUERY_KIND:
                    return reckonInner(s, node, deep) == 0 ? NULL : inner.cellAt(0, 0);
                default:
                    return NULL;
            }
        }

        private static int valueOfRef(Scope s, int node) {
            int source = at(s.text.left, node);
            Scope of = source >= 2 ? s.outer : s;
            return of == null ? NULL : of.cellAt(source & 1, at(s.text.right, node));
        }

        private static int within(int number) {
            return number < -GREATEST || number > GREATEST ? NULL : number;
        }

        private static int plus(int a, int b, boolean isMinus) {
            return a == NULL || b == NULL ? NULL : within(isMinus ? a - b : a + b);
        }

        private static int times(int a, int b) {
            return a == NULL || b == NULL ? NULL : within(a * b);
        }

        private int valueOfChain(Scope s, int head, int deep) {
            int result = valueOf(s, at(s.text.left, head), deep + 1);
            int place = head;
            for (int i = 0; i < TYPED && place != NONE; i++) {
                int operand = valueOf(s, at(s.text.right, place), deep + 1);
                int token = at(s.text.token, place);
                result = token == STAR ? times(result, operand)
                        : plus(result, operand, token == MINUS);
                place = at(s.text.next, place);
            }
            return result;
        }

        private int invoke(int function, int caller, int p, Scope s, int deep) {
            int object = FIRST_FUNCTION + function;
            Text text = base.textOf(object);
            Scope c = inside(s);
            if (c == null || text == null || !base.knows(caller, object)
                    || base.isBroken(caller, object)) {
                return NULL;
            }
            int runner = Law.runnerOf(base, object, caller);
            c.start(text, runner, runner, p, null);
            return valueOf(c, text.root, deep + 1);
        }

        /** Over the rows of the group at hand, each of which is at hand in its turn. */
        private int valueOfAggregate(Scope s, int node, int deep) {
            boolean isOfRows = at(s.text.kind, node) == ROW_COUNT_KIND;
            int token = at(s.text.token, node);
            int held = s.now;
            int many = 0;
            int result = NULL;
            for (int i = 0; i < s.pairs; i++) {
                if (at(s.first, i) != s.group) {
                    continue;
                }
                s.now = i;
                int value = isOfRows ? 0 : valueOf(s, at(s.text.left, node), deep + 1);
                if (value != NULL) {
                    many++;
                    result = many == 1 ? value : gather(token, result, value);
                }
            }
            s.now = held;
            return token == COUNT ? many : result == NULL ? NULL : within(result);
        }

        private static int gather(int token, int a, int b) {
            switch (token) {
                case SUM:
                    return a + b;
                case MIN:
                    return Math.min(a, b);
                default:
                    return Math.max(a, b);
            }
        }

        // ---- conditions

        private int truth(Scope s, int node, int deep) {
            if (deep > DEEPEST) {
                return UNKNOWN;
            }
            int left = at(s.text.left, node);
            switch (at(s.text.kind, node)) {
                case OR_KIND:
                case AND_KIND:
                    return truthOfChain(s, node, deep);
                case NOT_KIND:
                    return TRUE - truth(s, left, deep + 1);
                case EXISTS_KIND:
                    return reckonInner(s, left, deep) > 0 ? TRUE : FALSE;
                case MEMBER_KIND:
                    return base.isIn(left, s.me) ? TRUE : FALSE;
                case COMPARE_KIND:
                    int a = valueOf(s, left, deep + 1);
                    int b = valueOf(s, at(s.text.right, node), deep + 1);
                    return compare(at(s.text.token, node), a, b);
                case IS_NULL_KIND:
                    return valueOf(s, left, deep + 1) == NULL ? TRUE : FALSE;
                case IS_VALUE_KIND:
                    return valueOf(s, left, deep + 1) == NULL ? FALSE : TRUE;
                case IN_KIND:
                    return truthOfIn(s, node, deep);
                case NOT_IN_KIND:
                    return TRUE - truthOfIn(s, node, deep);
                default:
                    return UNKNOWN;
            }
        }

        /** The least of conditions joined by and, the greatest of those joined by or. */
        private int truthOfChain(Scope s, int head, int deep) {
            boolean isOr = at(s.text.kind, head) == OR_KIND;
            int result = truth(s, at(s.text.left, head), deep + 1);
            int place = head;
            for (int i = 0; i < TYPED && place != NONE; i++) {
                int operand = truth(s, at(s.text.right, place), deep + 1);
                result = isOr ? Math.max(result, operand) : Math.min(result, operand);
                place = at(s.text.next, place);
            }
            return result;
        }

        private static int compare(int token, int a, int b) {
            if (a == NULL || b == NULL) {
                return UNKNOWN;
            }
            boolean isSo;
            switch (token) {
                case EQUAL:
                    isSo = a == b;
                    break;
                case UNEQUAL:
                    isSo = a != b;
                    break;
                case LESS:
                    isSo = a < b;
                    break;
                default:
                    isSo = a <= b;
                    break;
            }
            return isSo ? TRUE : FALSE;
        }

        private int truthOfIn(Scope s, int node, int deep) {
            int value = valueOf(s, at(s.text.left, node), deep + 1);
            int result = FALSE;
            int item = at(s.text.right, node);
            for (int i = 0; i < TYPED && item != NONE; i++) {
                result = Math.max(result, compare(EQUAL, value, valueOf(s, item, deep + 1)));
                item = at(s.text.link, item);
            }
            return result;
        }
    }
}
