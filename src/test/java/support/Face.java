/** Calls CrowdRoll by the name of a method; arguments that it has not are passed over. */
final class Face {
    private Face() {
    }

    static int call(CrowdRoll x, String name, int a, int b, int c, int d, long seed) {
        return switch (name) {
            case "member" -> x.member(a, seed);
            case "join" -> x.join(a, b);
            case "leave" -> x.leave(a);
            case "turn" -> x.turn(a);
            case "fall" -> x.fall(a);
            case "rise" -> x.rise(a);
            case "deliver" -> x.deliver(a);
            case "lose" -> x.lose(a);
            case "twice" -> x.twice(a);
            case "cut" -> x.cut(a, b);
            case "heal" -> x.heal(a, b);
            case "letters" -> x.letters(a);
            case "underWay" -> x.underWay(a);
            case "letter" -> x.letter(a, b);
            case "carries" -> x.carries(a, b, c);
            case "state" -> x.state(a, b);
            case "news" -> x.news(a, b, c);
            case "as" -> x.as(a, b, c);
            case "round" -> x.round(a, b);
            case "next" -> x.next(a);
            case "copy" -> x.copy(a, b, c, d);
            case "table" -> x.table(a);
            case "agree" -> x.agree();
            case "apart" -> x.apart(a);
            case "count" -> x.count(a, b);
            case "way" -> x.way(a, b);
            case "wayAt" -> x.wayAt(a);
            case "forge" -> x.forge(a, b);
            case "check" -> x.check(a, b, c, d);
            case "replay" -> x.replay();
            case "image" -> x.image();
            case "back" -> x.back();
            case "trace" -> x.trace(a);
            case "again" -> x.again();
            default -> x.status(a);
        };
    }
}
