/** Texts of programs with a given number of something. */
final class Texts {
    private Texts() {
    }

    /** That many EFFECTS: cell 0 becomes 0, cell 1 becomes 1, and so on; at most ten. */
    static String effects(int many) {
        StringBuilder text = new StringBuilder("c0:=0");
        for (int i = 1; i < many; i++) {
            text.append(",c").append(i).append(":=").append(i);
        }
        return text.toString();
    }

    static String rules(int many, String rule) {
        return rule + (" else " + rule).repeat(many - 1);
    }

    /** One EFFECT on cell 1, the sum of that many PARTS, all the same. */
    static String parts(int many, String part) {
        return "c1:=" + part + ("+" + part).repeat(many - 1);
    }

    static String brackets(int deep, String sum) {
        return "(".repeat(deep) + sum + ")".repeat(deep);
    }
}
