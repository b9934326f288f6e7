import java.util.ArrayList;
import java.util.List;
import java.util.Map;

/** Rules as a tree: plain to read, with exceptions for faults and for what is refused. */
final class PlainRules {
    static final class Fault extends Exception {
        private static final long serialVersionUID = 1L;
        final int answer;

        Fault(int number, int place) {
            this.answer = -1000 * number - place;
        }
    }

    private static final class Refused extends RuntimeException {
        private static final long serialVersionUID = 1L;
    }

    private static final class Node {
        final String sign;
        final Node left;
        final Node right;

        Node(String sign, Node left, Node right) {
            this.sign = sign;
            this.left = left;
            this.right = right;
        }
    }

    private static final class Clause {
        char letter;
        Node value;
        Node condition;
    }

    private final String text;
    private int at;
    private final List<Clause> clauses = new ArrayList<>();

    PlainRules(String text) throws Fault {
        this.text = text;
        if (text.isEmpty()) {
            return;
        }
        clauses.add(clause());
        while (at < text.length()) {
            take(";");
            clauses.add(clause());
        }
    }

    int size() {
        return clauses.size();
    }

    int first(char letter, int none, int low, int high, Map<Character, Integer> letters) {
        for (Clause clause : clauses) {
            if (clause.letter == letter && holds(clause, letters)) {
                int value;
                try {
                    value = number(clause.value, letters);
                } catch (Refused refused) {
                    value = 0;
                }
                return value < low ? low : value > high ? high : value;
            }
        }
        return none;
    }

    int holding(char letter, Map<Character, Integer> letters) {
        int many = 0;
        for (Clause clause : clauses) {
            many += clause.letter == letter && holds(clause, letters) ? 1 : 0;
        }
        return many;
    }

    int all(char letter) {
        int many = 0;
        for (Clause clause : clauses) {
            many += clause.letter == letter ? 1 : 0;
        }
        return many;
    }

    private static boolean holds(Clause clause, Map<Character, Integer> letters) {
        try {
            return truth(clause.condition, letters);
        } catch (Refused refused) {
            return false;
        }
    }

    private static boolean truth(Node node, Map<Character, Integer> letters) {
        switch (node.sign) {
            case "|": return truth(node.left, letters) || truth(node.right, letters);
            case "&": return truth(node.left, letters) && truth(node.right, letters);
            case "!": return !truth(node.left, letters);
            case "<": return number(node.left, letters) < number(node.right, letters);
            case ">": return number(node.left, letters) > number(node.right, letters);
            default: return number(node.left, letters) == number(node.right, letters);
        }
    }

    private static int number(Node node, Map<Character, Integer> letters) {
        if (node.left == null) {
            char first = node.sign.charAt(0);
            return Character.isDigit(first) ? Integer.parseInt(node.sign) : letters.get(first);
        }
        int left = number(node.left, letters);
        int right = number(node.right, letters);
        switch (node.sign) {
            case "+": return left + right;
            case "-": return left - right;
            case "*": return left * right;
            default:
                if (right == 0) {
                    throw new Refused();
                }
                return node.sign.equals("/") ? left / right : left % right;
        }
    }

    private char sign() {
        return at < text.length() ? text.charAt(at) : 0;
    }

    private boolean isNow(String signs) {
        return at < text.length() && signs.indexOf(text.charAt(at)) >= 0;
    }

    private String take(String signs) throws Fault {
        if (!isNow(signs)) {
            throw new Fault(1, at);
        }
        at++;
        return text.substring(at - 1, at);
    }

    private Clause clause() throws Fault {
        if (isNow("dfpnawou") && clauses.size() == 16) {
            throw new Fault(4, at);
        }
        Clause clause = new Clause();
        clause.letter = take("dfpnawou").charAt(0);
        if ("dfpn".indexOf(clause.letter) >= 0) {
            clause.value = joined(0, 0);
        }
        clause.condition = inBrackets(0);
        return clause;
    }

    private void open(String sign, int depth) throws Fault {
        if (isNow(sign) && depth == 6) {
            throw new Fault(5, at);
        }
        take(sign);
    }

    private Node inBrackets(int depth) throws Fault {
        open("(", depth);
        Node node = joinedTruth("|", depth + 1);
        take(")");
        return node;
    }

    private Node joinedTruth(String sign, int depth) throws Fault {
        Node node = sign.equals("|") ? joinedTruth("&", depth) : piece(depth);
        if (isNow(sign)) {
            take(sign);
            return new Node(sign, node, joinedTruth(sign, depth));
        }
        return node;
    }

    private Node piece(int depth) throws Fault {
        if (sign() == '!') {
            open("!", depth);
            return new Node("!", piece(depth + 1), null);
        }
        if (sign() == '(') {
            return inBrackets(depth);
        }
        Node left = joined(0, depth);
        String how = take("<>=");
        return new Node(how, left, joined(0, depth));
    }

    private Node joined(int level, int depth) throws Fault {
        String signs = level == 0 ? "+-" : "*/%";
        Node node = level == 0 ? joined(1, depth) : factor(depth);
        while (isNow(signs)) {
            String how = take(signs);
            node = new Node(how, node, level == 0 ? joined(1, depth) : factor(depth));
        }
        return node;
    }

    private Node factor(int depth) throws Fault {
        if (sign() == '[') {
            open("[", depth);
            Node node = joined(0, depth + 1);
            take("]");
            return node;
        }
        if (isNow("0123456789")) {
            int start = at;
            while (isNow("0123456789")) {
                if (at - start == 5) {
                    throw new Fault(2, at);
                }
                at++;
            }
            return new Node(text.substring(start, at), null, null);
        }
        return new Node(take("kapzwmtnyevhdslqc"), null, null);
    }
}
