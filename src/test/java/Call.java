import java.util.Set;

/** One call of the face with its numbers; a truth is 1 or 0. */
record Call(String name, long... n) {
    private static final Set<String> READING = Set.of("is", "value", "given", "peek", "place", "says", "follow", "mark",
        "set", "related", "along", "next", "leads", "sort", "route", "first", "stands", "came", "read", "choose",
        "total", "mean", "word", "digest", "sentence", "count", "fault");

    boolean is(String other) {
        return name.equals(other);
    }

    /** Whether it only asks. */
    boolean reads() {
        return READING.contains(name);
    }

    int at(int i) {
        return (int) n[i];
    }

    boolean truth(int i) {
        return n[i] != 0;
    }

    @Override
    public String toString() {
        StringBuilder text = new StringBuilder(name).append('(');
        for (int i = 0; i < n.length; i++) {
            text.append(i == 0 ? "" : ", ").append(n[i]);
        }
        return text.append(')').toString();
    }

    long on(WorldMake w) {
        switch (name) {
            case "kind": return w.kind(at(0));
            case "is": return w.is(at(0), at(1));
            case "property": return w.property(at(0), at(1), at(2));
            case "usual": return w.usual(at(0), at(1), n[2]);
            case "thing": return w.thing(at(0), at(1));
            case "put": return w.put(at(0), at(1));
            case "bar": return w.bar(at(0), at(1));
            case "give": return w.give(at(0), at(1), n[2]);
            case "value": return w.value(at(0), at(1));
            case "given": return w.given(at(0), at(1));
            case "peek": return w.peek(at(0), at(1), at(2));
            case "place": return w.place(at(0), at(1));
            case "says": return w.says(at(0), at(1));
            case "follow": return w.follow(at(0), at(1), at(2));
            case "mark": return w.mark(at(0), at(1));
            case "remark": return w.remark(at(0), at(1), at(2));
            case "open": return w.open(at(0), truth(1));
            default: return onWhatIsNotSure(w);
        }
    }

    private long onWhatIsNotSure(WorldMake w) {
        switch (name) {
            case "among": return w.among(at(0), n[1]);
            case "pair": return w.pair(at(0), at(1), truth(2));
            case "most": return w.most(at(0), at(1));
            case "settle": return w.settle();
            case "set": return w.set(at(0));
            case "relation": return w.relation(at(0));
            case "relate": return w.relate(at(0), at(1), at(2));
            case "deny": return w.deny(at(0), at(1), at(2));
            case "related": return w.related(at(0), at(1), at(2));
            case "along": return w.along(at(0), at(1), at(2));
            case "next": return w.next(at(0), at(1), at(2));
            case "exit": return w.exit(at(0), at(1), at(2));
            case "door": return w.door(at(0), at(1), at(2), at(3));
            case "leads": return w.leads(at(0), at(1));
            case "sort": return w.sort(at(0), at(1));
            case "route": return w.route(at(0), at(1), truth(2));
            case "first": return w.first(at(0), at(1), truth(2));
            default: return onTheRest(w);
        }
    }

    private long onTheRest(WorldMake w) {
        switch (name) {
            case "shelf": return w.shelf(at(0), at(1));
            case "stand": return w.stand(at(0), at(1), at(2));
            case "stands": return w.stands(at(0), at(1));
            case "haul": return w.haul(at(0), at(1), at(2), at(3), at(4));
            case "came": return w.came();
            case "table": return w.table(at(0), at(1), at(2));
            case "fill": return w.fill(at(0), at(1), at(2), n[3]);
            case "blank": return w.blank(at(0), at(1), at(2));
            case "read": return w.read(at(0), at(1), at(2));
            case "choose": return w.choose(at(0), at(1), n[2], at(3));
            case "rank": return w.rank(at(0), at(1), truth(2));
            case "total": return w.total(at(0), at(1));
            case "mean": return w.mean(at(0), at(1));
            case "make": return w.make();
            case "word": return w.word(at(0));
            case "digest": return w.digest();
            case "sentence": return w.sentence(at(0), at(1));
            case "count": return w.count(at(0));
            case "fault": return w.fault();
            case "clear": return w.clear();
            default: throw new IllegalStateException(name);
        }
    }
}
