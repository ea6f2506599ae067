/** The board turned round: rows upside down, and the two sides changed for one another. */
final class Mirror {
    private Mirror() {
    }

    static String text(String text) {
        String[] parts = text.split(" ");
        String[] rows = parts[0].split("/");
        StringBuilder turned = new StringBuilder();
        for (int k = rows.length - 1; k >= 0; k--) {
            turned.append(otherCase(rows[k])).append(k > 0 ? "/" : "");
        }
        turned.append(parts[1].equals("w") ? " b " : " w ").append(rights(parts[2]));
        turned.append(" ").append(parts[3].equals("-") ? "-" : square(parts[3]));
        return turned.append(" ").append(parts[4]).append(" ").append(parts[5]).toString();
    }

    private static String rights(String letters) {
        String others = otherCase(letters);
        StringBuilder ordered = new StringBuilder();
        for (char letter : "-KQkq".toCharArray()) {
            ordered.append(others.indexOf(letter) >= 0 ? "" + letter : "");
        }
        return ordered.toString();
    }

    private static String otherCase(String text) {
        StringBuilder changed = new StringBuilder();
        for (char c : text.toCharArray()) {
            changed.append(Character.isUpperCase(c) ? Character.toLowerCase(c) : Character.toUpperCase(c));
        }
        return changed.toString();
    }

    static String square(String name) {
        return name.charAt(0) + "" + (char) ('1' + '8' - name.charAt(1));
    }

    /** Moves such as "e2e4 a7a8=5". */
    static String moves(String moves) {
        StringBuilder turned = new StringBuilder();
        for (String move : moves.split(" ")) {
            turned.append(turned.length() == 0 ? "" : " ");
            turned.append(square(move.substring(0, 2))).append(square(move.substring(2, 4))).append(move.substring(4));
        }
        return turned.toString();
    }
}
