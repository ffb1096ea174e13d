/** The bounds of a text: TOKENS, the TEXT and its FAULTS, and promises 2 to 5. */
public final class TextBoundsTest {
    private static final String HEAD = "carry 1;office 1;";
    private static final String TWO = "carry 1;office 1;office 1;";
    private static final String[] FORMS = {"carry 1 ;", "office 1 ;", "rate 1 1 1 ;", "profit 1 1 1 ;",
        "taxable 1 1 1 1 ;", "deductible 1 1 1 1 ;", "loss 1 1 1 ;"};
    private static final Sentences S = new Sentences();

    public static void main(String[] args) {
        blanks();
        words();
        numbers();
        semicolons();
        runs();
        sizeOfText();
        order();
        linePieces();
        linesInAnyOrder();
        carry();
        rates();
        offices();
        years();
        sums();
        firstYears();
        lastYears();
        mostItems();
        mostLosses();
        firstFault();
        firstKind();
        faultsAtTheirToken();
        endOfText();
        tooManyBytes();
        tokensReadWhole();
        numbersNotAsTold();
        oneMore();
        feed();
        end();
        text();
        fault();
        S.finish();
    }

    private static boolean isLetter(int sign) {
        return sign >= 97 && sign <= 122;
    }

    private static boolean isDigit(int sign) {
        return sign >= 48 && sign <= 57;
    }

    private static String padded(String text, int size) {
        return text + " ".repeat(size - text.length());
    }

    private static void blanks() {
        S.of("Terms", "TOKENS of a text, with blanks (32, 10) between them or not");
        S.right("carry 0;office 0;", 2);
        S.right(" carry 0;office 0; ", 2);
        S.right("\ncarry\n0\n;\noffice\n0\n;\n", 2);
        S.right("  \n carry \n\n 0  ;\n \noffice   0 ; \n ", 2);
        S.right("carry 0;office 0;loss 0 5 9;", 3);
        for (int sign = 0; sign <= 255; sign++) {
            boolean blank = sign == 32 || sign == 10;
            String behindWord = "carry" + (char) sign + "0;office 0;";
            String behindNumber = "carry 0" + (char) sign + ";office 0;";
            String behindAll = "carry 0;office 0;" + (char) sign;
            if (blank) {
                S.right(behindWord, 2);
                S.right(behindNumber, 2);
                S.right(behindAll, 2);
            } else {
                S.faulty(behindWord, 1, isLetter(sign) || isDigit(sign) ? 0 : 5);
                S.faulty(behindAll, 1, 17);
            }
            if (isDigit(sign)) {
                S.right(behindNumber, 2);
            } else if (!blank) {
                S.faulty(behindNumber, 1, isLetter(sign) ? 6 : sign == ';' ? 8 : 7);
            }
        }
    }

    private static void words() {
        S.of("Terms", "WORDS: small letters");
        for (String form : FORMS) {
            String ahead = aheadOf(form);
            String word = form.substring(0, form.indexOf(' '));
            String rest = form.substring(word.length());
            for (int k = 0; k < word.length(); k++) {
                String large = word.substring(0, k) + word.substring(k, k + 1).toUpperCase() + word.substring(k + 1);
                S.faulty(ahead + large + rest, 1, ahead.length());
                S.faulty(ahead + word.substring(0, k) + word.substring(k + 1) + rest, 1, ahead.length());
                S.faulty(ahead + word.substring(0, k) + 'q' + word.substring(k + 1) + rest, 1, ahead.length());
            }
            S.faulty(ahead + word + "s" + rest, 1, ahead.length());
            S.faulty(ahead + "a" + word + rest, 1, ahead.length());
        }
        // The signs next to 'a' and 'z' are no letters: the WORD ends ahead of them.
        S.faulty("carry{ 1;", 1, 5);
        S.faulty("carry` 1;", 1, 5);
        S.faulty("az", 1, 0);
        S.faulty("a".repeat(600), 1, 0);
    }

    private static void numbers() {
        S.of("Terms", "NUMBERS: 1 to 5 digits");
        S.due("1 digit", S.right("carry 7;office 0;", 2).now(1), 7);
        S.due("2 digits", S.right("carry 07;office 0;", 2).now(1), 7);
        S.due("4 digits", S.right("carry 0007;office 0;", 2).now(1), 7);
        S.due("5 digits", S.right("carry 00007;office 0;", 2).now(1), 7);
        S.faulty("carry 000007;office 0;", 1, 6);
        S.faulty("carry ;office 0;", 1, 6);
        S.due("99999", S.right(HEAD + "profit 0 1 99999;", 3).covered(0, 1, 1), 99999);
        S.faulty(HEAD + "profit 0 1 099999;", 1, 28);
        // None wraps around into what would be as told.
        S.faulty("carry 4294967297;office 0;", 1, 6);
        S.faulty("carry 18446744073709551617;office 0;", 1, 6);
        S.faulty("carry " + "0".repeat(594), 1, 6);
        S.faulty("carry 1/;", 1, 7);
        S.faulty("carry 1:;", 1, 7);
        S.faulty("carry -1;", 1, 6);
        S.faulty("carry +1;", 1, 6);
    }

    private static void semicolons() {
        S.of("Terms", "the sign ;");
        S.right("carry 1;office 1;", 2);
        for (char other : new char[] {':', '<', ',', '.'}) {
            S.faulty("carry 1" + other + "office 1;", 1, 7);
            S.faulty("carry 1;office 1" + other, 1, 16);
        }
        S.faulty("carry 1;;office 1;", 1, 8);
        S.faulty("carry 1;office 1;;", 1, 17);
    }

    private static void runs() {
        S.of("Terms", "(A WORD, NUMBER goes on as long as small letters and digits do; what is not as told is no TOKEN.)");
        S.faulty("carry1;office 1;", 1, 0);
        S.faulty("carry 1office 1;", 1, 6);
        S.faulty("carry 1;office1;", 1, 8);
        S.faulty("carry 1a;office 1;", 1, 6);
        S.faulty("carry a1;office 1;", 1, 6);
        S.faulty("carry 12345a;", 1, 6);
        S.faulty("carry 1;office 1;loss0 1 1;", 1, 17);
        S.faulty("carry 1;office 1;loss 0 1 1loss 0 1 1;", 1, 26);
        S.right("carry 1;office 1;loss 0 1 1;loss 0 1 1;", 4);
    }

    private static void sizeOfText() {
        S.of("Terms", "A TEXT has at most 600 bytes");
        S.right(padded(HEAD, 599), 2);
        S.right(padded(HEAD, 600), 2);
        S.faulty(padded(HEAD, 601), 1, 600);
        S.faulty(padded(HEAD, 640), 1, 600);
        S.right(padded(HEAD, 588) + "loss 0 1 39;", 3);
        S.faulty(padded(HEAD, 589) + "loss 0 1 39;", 1, 600);
    }

    private static void order() {
        S.of("Terms", "'carry' N ; 'office' RATE ; { 'office' RATE ; } { LINE }");
        S.faulty("", 1, 0);
        S.faulty("carry 1;", 1, 8);
        S.right("carry 1;office 1;", 2);
        S.right("carry 1;office 1;office 1;", 3);
        S.right("carry 1;office 1;office 1;office 1;", 4);
        S.right("carry 1;office 1;loss 0 1 1;", 3);
        S.faulty("office 1;", 1, 0);
        S.faulty("loss 0 1 1;", 1, 0);
        S.faulty("carry 1;carry 1;office 1;", 1, 8);
        S.faulty("carry 1;loss 0 1 1;office 1;", 1, 8);
        S.faulty("carry 1;office 1;carry 1;", 1, 17);
        S.faulty("carry 1;office 1;loss 0 1 1;office 1;", 1, 28);
        S.faulty("carry 1;office 1;loss 0 1 1;carry 1;", 1, 28);
        S.faulty("carry 1;office 1;;", 1, 17);
        S.faulty("carry 1;office 1;5", 1, 17);
    }

    private static String aheadOf(String form) {
        return form.startsWith("carry") ? "" : form.startsWith("office") ? "carry 1;" : TWO;
    }

    private static String joined(String[] pieces) {
        return String.join(" ", pieces);
    }

    private static int placeOf(String[] pieces, int k) {
        int place = 0;
        for (int j = 0; j < k; j++) {
            place += pieces[j].length() + 1;
        }
        return place;
    }

    /** Each piece of each line once left out, once doubled and once another. */
    private static void linePieces() {
        S.of("Terms", "LINE: 'rate' OFFICE YEAR RATE ; | 'profit' OFFICE YEAR SUM ; | 'taxable' OFFICE SUM FIRST LAST ; "
            + "| 'deductible' OFFICE SUM FIRST LAST ; | 'loss' OFFICE SUM LAST ;");
        for (String form : FORMS) {
            String ahead = aheadOf(form);
            String behind = form.startsWith("carry") ? "office 1;" : "";
            int lines = form.startsWith("carry") || form.startsWith("office") ? 2 : 4;
            S.right(ahead + form + behind, lines);
            String[] pieces = form.split(" ");
            int numbers = pieces.length - 2;
            S.faulty(ahead + form.replace(" 1 ;", " ;"), 1, ahead.length() + placeOf(pieces, numbers));
            S.faulty(ahead + form.replace(";", "1 ;"), 1, ahead.length() + placeOf(pieces, numbers + 1));
            S.faulty(ahead + joined(pieces).replace(" ;", ""), 1, ahead.length() + form.length() - 2);
            for (int k = 0; k < pieces.length; k++) {
                for (String other : new String[] {";", "1", "x", "carry", "loss", "$"}) {
                    boolean fits = other.equals(pieces[k]) || k == 0 && mayBegin(ahead, other);
                    if (!fits) {
                        String[] spoilt = pieces.clone();
                        spoilt[k] = other;
                        S.faulty(ahead + joined(spoilt), 1, ahead.length() + placeOf(pieces, k));
                    }
                }
            }
        }
    }

    private static boolean mayBegin(String ahead, String word) {
        return ahead.isEmpty() ? word.equals("carry") : ahead.equals(TWO) && word.equals("loss");
    }

    private static void linesInAnyOrder() {
        S.of("Terms", "(in any order)");
        String[] lines = {"rate 1 3 7;", "profit 0 2 8;", "taxable 1 9 1 2;", "deductible 0 6 1 2;", "loss 1 5 4;"};
        for (int from = 0; from < lines.length; from++) {
            for (int step = 1; step < lines.length; step++) {
                StringBuilder text = new StringBuilder(TWO);
                for (int k = 0; k < lines.length; k++) {
                    text.append(lines[(from + k * step) % lines.length]);
                }
                DeferredDesk d = S.right(text.toString(), 8);
                int taxable = d.item(0, 1) == 1 ? 0 : 1;
                S.due("rate", d.rate(1, 3), 7);
                S.due("profit", d.expect(0, 2, 0), 8);
                S.due("taxable", d.item(taxable, 2), 9);
                S.due("deductible", d.item(1 - taxable, 2), 6);
                S.due("loss", d.loss(0, 1), 5);
            }
        }
    }

    private static void carry() {
        S.of("Terms", "N 0 to 20");
        for (int n : new int[] {0, 1, 19, 20}) {
            S.due("N", S.right("carry " + n + ";office 1;", 2).now(1), n);
        }
        for (int n : new int[] {21, 22, 99, 99999}) {
            S.faulty("carry " + n + ";office 1;", 2, 6);
        }
    }

    private static void rates() {
        S.of("Terms", "RATE 0 to 900 (of 1000)");
        for (int rate : new int[] {0, 1, 899, 900}) {
            S.due("of office", S.right("carry 1;office " + rate + ";", 2).rate(0, 0), rate);
            S.due("of rate", S.right(HEAD + "rate 0 3 " + rate + ";", 3).rate(0, 3), rate);
            S.due("of 1000", S.right("carry 1;office " + rate + ";taxable 0 1000 1 1;", 3).balance(0, 0), rate);
        }
        for (int rate : new int[] {901, 902, 1000, 99999}) {
            S.faulty("carry 1;office " + rate + ";", 2, 15);
            S.faulty(TWO + "rate 0 3 " + rate + ";", 2, 35);
            S.faulty("carry 1;office 1;office " + rate + ";", 2, 24);
        }
    }

    private static void offices() {
        S.of("Terms", "3 OFFICES at most, numbered from 0");
        String text = "carry 1;";
        for (int count = 1; count <= 3; count++) {
            text += "office " + count + ";";
            DeferredDesk d = S.right(text, 1 + count);
            S.due("offices", d.now(2), count);
            for (int office = 0; office < count; office++) {
                S.due("by number", d.rate(office, 0), office + 1);
                officeTold(text, office, count);
            }
            S.due("one more", d.rate(count, 0), -1);
            officeNotTold(text, count);
            officeNotTold(text, count + 1);
            officeNotTold(text, 99999);
        }
        S.faulty(text + "office 4;", 3, text.length());
    }

    private static void officeTold(String text, int office, int count) {
        for (String line : new String[] {"rate # 1 1;", "profit # 1 1;", "taxable # 1 1 1;", "deductible # 1 1 1;", "loss # 1 1;"}) {
            S.right(text + line.replace("#", "" + office), 2 + count);
        }
    }

    private static void officeNotTold(String text, int office) {
        for (String line : new String[] {"rate # 1 1;", "profit # 1 1;", "taxable # 1 1 1;", "deductible # 1 1 1;", "loss # 1 1;"}) {
            S.faulty(text + line.replace("#", "" + office), 2, text.length() + line.indexOf('#'));
        }
    }

    /** One number of a line at its bounds, and what is beyond them. */
    private static void bound(String line, int[] asTold, int[] notAsTold) {
        for (int number : asTold) {
            S.right(HEAD + line.replace("#", "" + number), 3);
        }
        for (int number : notAsTold) {
            S.faulty(HEAD + line.replace("#", "" + number), 2, 17 + line.indexOf('#'));
        }
    }

    private static void years() {
        S.of("Terms", "YEAR 0 to 39");
        bound("rate 0 # 5;", new int[] {0, 1, 38, 39}, new int[] {40, 41, 99999});
        bound("profit 0 # 5;", new int[] {0, 1, 38, 39}, new int[] {40, 41, 99999});
    }

    private static void sums() {
        S.of("Terms", "SUM 1 to 99999");
        for (String line : new String[] {"profit 0 1 #;", "taxable 0 # 1 1;", "deductible 0 # 1 1;", "loss 0 # 1;"}) {
            bound(line, new int[] {1, 2, 99998, 99999}, new int[] {0});
            int place = 17 + line.indexOf('#');
            S.faulty(HEAD + line.replace("#", "00000"), 2, place);
            S.faulty(HEAD + line.replace("#", "100000"), 1, place);
        }
    }

    private static void firstYears() {
        S.of("Terms", "FIRST 1 to 39");
        for (String word : new String[] {"taxable", "deductible"}) {
            bound(word + " 0 5 # 39;", new int[] {1, 2, 38, 39}, new int[] {0, 40, 41, 99999});
        }
    }

    private static void lastYears() {
        S.of("Terms", "LAST no less than FIRST and no more than 39");
        for (String word : new String[] {"taxable", "deductible"}) {
            bound(word + " 0 5 7 #;", new int[] {7, 8, 38, 39}, new int[] {0, 6, 40, 99999});
            bound(word + " 0 5 1 #;", new int[] {1, 2, 38, 39}, new int[] {0, 40, 99999});
            bound(word + " 0 5 39 #;", new int[] {39}, new int[] {0, 1, 38, 40, 99999});
        }
        S.of("Terms", "(of a loss 1 to 39)");
        bound("loss 0 5 #;", new int[] {1, 2, 38, 39}, new int[] {0, 40, 41, 99999});
    }

    private static void mostItems() {
        S.of("Terms", "At most 16 ITEMS ('taxable', 'deductible', numbered together from 0)");
        for (String pair : new String[] {"taxable 0 5 1 1;taxable 0 5 1 1;", "deductible 0 5 1 1;deductible 0 5 1 1;",
            "taxable 0 5 1 1;deductible 0 5 1 1;"}) {
            String all = HEAD + pair.repeat(8);
            String less = all.substring(0, all.lastIndexOf(';', all.length() - 2) + 1);
            S.due("15", S.right(less, 17).now(3), 15);
            S.due("16", S.right(all, 18).now(3), 16);
            S.right(all + "loss 0 1 1;rate 0 1 1;profit 0 1 1;", 21);
            S.faulty(all + "taxable 0 5 1 1;", 3, all.length());
            S.faulty(all + "deductible 0 5 1 1;", 3, all.length());
        }
        DeferredDesk d = S.right(HEAD + "deductible 0 11 1 1;taxable 0 12 1 1;loss 0 9 9;deductible 0 13 1 1;", 6);
        for (int item = 0; item < 3; item++) {
            S.due("number " + item, d.item(item, 2), 11 + item);
        }
    }

    private static void mostLosses() {
        S.of("Terms", "10 LOSSES (from 0)");
        String ten = HEAD + "loss 0 5 1;".repeat(10);
        S.due("9", S.right(HEAD + "loss 0 5 1;".repeat(9), 11).now(4), 9);
        S.due("10", S.right(ten, 12).now(4), 10);
        S.right(ten + "taxable 0 5 1 1;".repeat(16), 28);
        S.faulty(ten + "loss 0 5 1;", 3, ten.length());
        DeferredDesk d = S.right(HEAD + "loss 0 11 1;taxable 0 5 1 1;loss 0 12 1;", 5);
        S.due("number 0", d.loss(0, 1), 11);
        S.due("number 1", d.loss(1, 1), 12);
    }

    private static void firstFault() {
        S.of("Terms", "FAULTS, the first along the text");
        S.faulty("carry 21;office 901;", 2, 6);
        S.faulty("carry 20;office 901;$", 2, 16);
        S.faulty("carry $ 21;", 1, 6);
        S.faulty("carry 1;office 1;office 1;office 1;office 901 $", 3, 35);
        S.faulty("carry 1;office 1;office 1;office 901;office 1;", 2, 33);
        S.faulty("carry 1;office 1;loss 1 0 0;", 2, 22);
        S.faulty("carry 1;office 1;loss 0 0 0;", 2, 24);
        S.faulty("carry 1;office 1;loss 0 1 0;", 2, 26);
        S.faulty("carry 1;office 1;loss 0 1 1$;", 1, 27);
    }

    private static void firstKind() {
        S.of("Terms", "(of one TOKEN the one that stands first in this list)");
        // Too large and no TOKEN; too large and where no NUMBER can come.
        S.faulty("carry 100000;", 1, 6);
        S.faulty("carry 1 99999;", 1, 8);
        S.faulty("99999;", 1, 0);
        S.faulty("carry 1;office 1;99999", 1, 17);
        // One more than told, and where it can't come.
        S.faulty("carry 1;office 1;office 1;office 1;loss 0 1 1;office 1;", 1, 46);
        String items = HEAD + "taxable 0 5 1 1;".repeat(16);
        S.faulty(items + "profit taxable", 1, items.length() + 7);
        S.faulty(items + "taxables 0 5 1 1;", 1, items.length());
        String losses = HEAD + "loss 0 5 1;".repeat(10);
        S.faulty(losses + "profit 0 1 loss", 1, losses.length() + 11);
    }

    private static void faultsAtTheirToken() {
        S.of("Terms", "1 no TOKEN, or one that can't come (at it;");
        S.faulty("$", 1, 0);
        S.faulty(" $", 1, 1);
        S.faulty("carry \n $ 1;", 1, 8);
        S.faulty("carry 1;office 1; \n loss 0 1 1 \n 5;", 1, 33);
        S.faulty("carry 1;office 1; \n lost 0 1 1;", 1, 20);
    }

    /** Each length to which one text can be cut. */
    private static void endOfText() {
        S.of("Terms", "the end: how many bytes there are;");
        String text = "carry 7;office 5;loss 0 3 9; ";
        for (int n = 0; n <= text.length(); n++) {
            String cut = text.substring(0, n);
            if (n == 17 || n >= 28) {
                S.right(cut, n == 17 ? 2 : 3);
            } else if (n < 5) {
                S.faulty(cut, 1, 0);
            } else if (n > 8 && n < 14) {
                S.faulty(cut, 1, 8);
            } else if (n > 17 && n < 21) {
                S.faulty(cut, 1, 17);
            } else {
                S.faulty(cut, 1, n);
            }
        }
        S.faulty(" ", 1, 1);
        S.faulty(" \n \n", 1, 4);
        S.faulty("carry 7; \n", 1, 10);
        S.faulty("carry 7;office  ", 1, 16);
        S.faulty(padded("carry 7;office", 599), 1, 599);
        S.faulty(padded("carry 7;office", 600), 1, 600);
        S.faulty(" ".repeat(600), 1, 600);
    }

    private static void tooManyBytes() {
        S.of("Terms", "600, if there are more and no FAULT is ahead:");
        S.faulty(padded("carry 7;office", 601), 1, 600);
        S.faulty(" ".repeat(601), 1, 600);
        S.faulty(" ".repeat(640), 1, 600);
        S.faulty(padded(HEAD, 600) + "$", 1, 600);
        S.faulty(padded(HEAD, 600) + ";", 1, 600);
        S.faulty(padded(HEAD, 600) + "loss 0 1 1;", 1, 600);
        S.faulty(padded(HEAD, 610) + "$", 1, 600);
        S.faulty(padded(HEAD, 639) + "$", 1, 600);
        S.faulty(padded(HEAD, 599) + "$ ", 1, 599);
        S.faulty(padded(HEAD, 599) + "; ", 1, 599);
        S.faulty(padded("carry 21;", 640), 2, 6);
        S.faulty(padded("carry 1;office 901;", 640), 2, 15);
        S.faulty(padded("carry 1;office 1;office 1;office 1;office 1;", 640), 3, 35);
        S.faulty(padded("carry 1;loss", 601), 1, 8);
    }

    private static void tokensReadWhole() {
        S.of("Terms", "TOKENS that begin ahead of it are read whole)");
        // '40' at 599 has its '0' behind 600 bytes; it is 40 all the same, and '39' is 39.
        S.faulty(padded(HEAD, 590) + "loss 0 5 40;", 2, 599);
        S.faulty(padded(HEAD, 590) + "loss 0 5 39;", 1, 600);
        S.faulty(padded(HEAD, 591) + "loss 0 5 40;", 1, 600);
        S.faulty(padded(HEAD, 592) + "loss 0 99999 9;", 1, 600);
        S.faulty(padded(HEAD, 592) + "loss 0 100000 9;", 1, 599);
        S.faulty(padded(HEAD, 592) + "loss 0 00000 9;", 2, 599);
        S.faulty(padded(HEAD, 593) + "loss 0 100000 9;", 1, 600);
        S.faulty(padded(HEAD, 599) + "loss", 1, 600);
        S.faulty(padded(HEAD, 599) + "lost", 1, 599);
        S.faulty(padded(HEAD, 599) + "loss" + "s".repeat(37), 1, 599);
        S.faulty(padded(HEAD, 600) + "lost", 1, 600);
        String full = "carry 1;office 1;office 1;office 1;";
        S.faulty(padded(full, 599) + "office 1;", 3, 599);
        S.faulty(padded(full, 600) + "office 1;", 1, 600);
        String items = HEAD + "taxable 0 5 1 1;".repeat(16);
        S.faulty(padded(items, 599) + "deductible 0 5 1 1;", 3, 599);
        S.faulty(padded(items, 600) + "deductible 0 5 1 1;", 1, 600);
        String losses = HEAD + "loss 0 5 1;".repeat(10);
        S.faulty(padded(losses, 599) + "loss 0 5 1;", 3, 599);
        S.faulty(padded(losses, 600) + "loss 0 5 1;", 1, 600);
        S.faulty(padded(HEAD, 589) + "loss 0 5 9 ;", 1, 600);
        S.right(padded(HEAD, 588) + "loss 0 5 9 ;", 3);
    }

    private static void numbersNotAsTold() {
        S.of("Terms", "2 a NUMBER that is not as told (at it);");
        S.faulty("carry \n 21;", 2, 8);
        S.faulty("carry 00021;", 2, 6);
        S.faulty("carry 21", 2, 6);
        S.faulty("carry 21$", 2, 6);
        S.faulty(HEAD + "taxable 0 5 9 8", 2, 31);
        S.faulty(HEAD + "taxable  0  5  9  8 ;", 2, 35);
    }

    private static void oneMore() {
        S.of("Terms", "3 one more 'office', ITEM, LOSS than told (at its WORD).");
        String full = "carry 1;office 1;office 1;office 1;";
        String items = HEAD + "taxable 0 5 1 1;deductible 0 5 1 1;".repeat(8);
        String losses = HEAD + "loss 0 5 1;".repeat(10);
        for (String rest : new String[] {"", " ", ";", " $", " 99999", " 0 5 1 1;", "\n0\n5\n1;"}) {
            S.faulty(full + " office" + rest, 3, full.length() + 1);
            S.faulty(items + " taxable" + rest, 3, items.length() + 1);
            S.faulty(items + "\ndeductible" + rest, 3, items.length() + 1);
            S.faulty(losses + " \nloss" + rest, 3, losses.length() + 2);
        }
    }

    private static DeferredDesk tapeOf(String text) {
        DeferredDesk desk = Sentences.richDesk();
        Checks.tell(desk, text);
        return desk;
    }

    private static void feed() {
        S.of("Promise 2: feed", "Twenty bytes come behind the tape, of each number the highest first: how many it has;");
        DeferredDesk d = new DeferredDesk();
        S.due("first", d.feed(0x63617272, 0x7920373b, 0x6f666669, 0x63652035, 0x3b0a6c6f), 20);
        S.due("behind it", d.feed(0x73732030, 0x20332039, 0x3b202020, 0x20202020, 0x20202020), 40);
        S.due("read", d.text(), 3);
        S.due("carry", d.now(1), 7);
        S.due("loss", d.loss(0, 2), 9);
        S.due("behind an emptied tape", d.feed(-1, Integer.MIN_VALUE, Integer.MAX_VALUE, 0, 1), 20);
        S.due("no TOKEN", d.text(), -1);

        S.of("Promise 2: feed", "NONE, and none come, if it would have more than 640.");
        DeferredDesk full = new DeferredDesk();
        for (int k = 1; k <= 32; k++) {
            S.due("feed " + k, full.feed(k, k, k, k, k), 20 * k);
        }
        S.due("feed 33", full.feed(1, 1, 1, 1, 1), -1);
        for (int size = 619; size <= 640; size++) {
            String tape = padded("carry 7;office 5;", size);
            if (size <= 620) {
                S.due("feed to " + (size + 20), tapeOf(tape).feed(1, 1, 1, 1, 1), size + 20);
            } else {
                S.changesNothing("feed behind " + size, -1, () -> tapeOf(tape), x -> x.feed(0x24242424, 1, 1, 1, 1));
            }
        }
        // The bytes ahead of a refused call are those that they were.
        DeferredDesk kept = tapeOf(padded("carry 7;office 5;", 640));
        kept.feed(0x24242424, 0x24242424, 0x24242424, 0x24242424, 0x24242424);
        kept.end(600);
        S.due("text of what came", kept.text(), 2);
    }

    private static void end() {
        S.of("Promise 3: end", "The tape has its first n bytes alone: true;");
        String text = "carry 7;office 5;loss 0 3 9;";
        for (int n : new int[] {0, 1, 16, 17, 27, 28}) {
            DeferredDesk d = tapeOf(text);
            S.due("end " + n, d.end(n), true);
            S.due("bytes", d.now(7), n);
            S.due("end " + n + " again", d.end(n), true);
            S.due("one more is gone", d.end(n + 1), false);
            S.due("feed behind it", d.feed(0x20202020, 0x20202020, 0x20202020, 0x20202020, 0x20202020), n + 20);
            S.due("text", d.text(), n == 28 ? 3 : n == 17 ? 2 : n == 1 ? -1 : -1 - n - 20);
        }
        S.due("end 0 of an empty tape", new DeferredDesk().end(0), true);
        S.due("end 640", tapeOf(padded(text, 640)).end(640), true);

        S.of("Promise 3: end", "false, if it has not so many, or n is below 0.");
        for (int n : new int[] {29, 30, 640, Integer.MAX_VALUE, -1, -2, Integer.MIN_VALUE}) {
            S.changesNothing("end " + n, 0, () -> tapeOf(text), d -> d.end(n) ? 1 : 0);
        }
        S.changesNothing("end 1 of an empty tape", 0, DeferredDesk::new, d -> d.end(1) ? 1 : 0);
        S.changesNothing("end -1 of an empty tape", 0, DeferredDesk::new, d -> d.end(-1) ? 1 : 0);
        S.changesNothing("end 641", 0, () -> tapeOf(padded(text, 640)), d -> d.end(641) ? 1 : 0);
    }

    private static void text() {
        S.of("Promise 4: text", "The tape (empty then, even with a FAULT) is a TEXT:");
        DeferredDesk d = tapeOf("carry 7;office 5;");
        S.due("right", d.text(), 2);
        S.due("empty", d.now(7), 0);
        S.due("an empty tape is no TEXT", d.text(), -1);
        S.due("its kind", d.fault(), 1);
        S.due("all stays", d.now(1), 7);
        Checks.tell(d, "carry 7;office 5;$");
        S.due("fault", d.text(), -18);
        S.due("empty", d.now(7), 0);
        S.due("nothing to cut", d.end(1), false);
        S.due("feed from the first on", d.feed(0x63617272, 0x7920383b, 0x6f666669, 0x63652035, 0x3b202020), 20);
        S.due("text of that alone", d.text(), 2);
        S.due("carry", d.now(1), 8);

        S.of("Promise 4: text", "how many LINES ('carry', 'office' ones, too);");
        S.right("carry 7;office 5;", 2);
        S.right("carry 7;office 5;office 5;office 5;", 4);
        S.right(HEAD + "rate 0 0 0;".repeat(53), 55);

        S.of("Promise 4: text", "-1 less the place of a FAULT: all stays.");
        S.faulty("", 1, 0);
        S.faulty("$", 1, 0);
        S.faulty("carry $", 1, 6);
        S.faulty(padded(HEAD, 599) + "$", 1, 599);
        S.faulty(padded(HEAD, 601), 1, 600);
        S.due("all stays of a new object", new DeferredDesk().text(), -1);
        S.same("all stays of a new object", Shown.bookOf(withFault(new DeferredDesk())), Shown.bookOf(new DeferredDesk()));
        // What was read ahead of the FAULT has left nothing behind for a later TEXT.
        DeferredDesk later = withFault(new DeferredDesk());
        Checks.read(later, HEAD);
        S.same("a TEXT behind a FAULT", Shown.of(later), Shown.of(Checks.desk(HEAD)));
    }

    private static DeferredDesk withFault(DeferredDesk d) {
        Checks.read(d, "carry 9;office 900;office 800;rate 0 0 5;profit 0 1 7;taxable 0 5 1 9;deductible 1 5 1 9;loss 0 5 9;$");
        return d;
    }

    private static void fault() {
        S.of("Promise 5: fault", "The kind of the FAULT of the latest text(); 0 without one and ahead of any.");
        DeferredDesk d = new DeferredDesk();
        S.due("ahead of any", d.fault(), 0);
        Checks.tell(d, "carry 21;");
        S.due("ahead of text()", d.fault(), 0);
        d.text();
        S.due("kind 2", d.fault(), 2);
        S.due("kind 2 again", d.fault(), 2);
        d.yearEnd();
        d.undo();
        d.feed(1, 1, 1, 1, 1);
        d.end(0);
        S.due("no other call changes it", d.fault(), 2);
        d.text();
        S.due("kind 1", d.fault(), 1);
        Checks.read(d, "carry 1;office 1;office 1;office 1;office 1;");
        S.due("kind 3", d.fault(), 3);
        Checks.read(d, HEAD);
        S.due("without one", d.fault(), 0);
        Checks.read(d, "carry");
        S.due("kind 1 behind a right one", d.fault(), 1);
    }
}
