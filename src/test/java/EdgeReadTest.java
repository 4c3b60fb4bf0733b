/** Each sentence on reading that names a boundary case: where reading stops, and what may be open. */
public final class EdgeReadTest {
    private static final int NO_ERROR = Handshakewarden.NONE;

    public static void main(String[] args) {
        rolesFromAToF();
        rolesStandAlone();
        kindsFrom0To9();
        kindsStandAlone();
        namesXToZ();
        namesStandAlone();
        wordsAreMaximalRuns();
        bytesAheadOfTokens();
        bytesBehindTokens();
        bytesBetweenTokens();
        digitsSideBySide();
        firstByteOfTheToken();
        textThatEndsTooEarly();
        firstTokenThatDoesNotFit();
        grammarOfBranches();
        grammarOfBrackets();
        secondRoleIsTheFirst();
        kindStandsAlready();
        nameOfALoopThatIsOpen();
        nameOfNoOpenLoop();
        nameWithoutALetter();
        roleOnTheOtherSide();
        rolesOfOtherBrackets();
        twelveMayBeOpen();
        loopUntilItsWholeIsRead();
        bracesAndBracketsUntilTheyClose();
        loopsOutsideOfBrackets();
        Check.end("EdgeReadTest");
    }

    private static void error(String text, int position) {
        Check.due("error of \"" + text + "\"", position, Check.errorOf(text));
    }

    private static void fine(String text) {
        error(text, NO_ERROR);
    }

    /** "There are the roles a to f (numbered 0 to 5)". */
    private static void rolesFromAToF() {
        for (char from = 'a'; from <= 'f'; from++) {
            for (char to = 'a'; to <= 'f'; to++) {
                if (from != to) {
                    Handshakewarden hall = Check.hallOf(from + ">" + to + "{0:end}");
                    Check.due("sender " + from, from - 'a', hall.placeAt(0, 0, 1));
                    Check.due("receiver " + to, to - 'a', hall.placeAt(0, 0, 2));
                    Check.due("both", 1 << (from - 'a') | 1 << (to - 'a'), hall.roles(0));
                }
            }
        }
        for (char other = 'g'; other <= 'z'; other++) {
            error(other + ">a{0:end}", 0);
            error("a>" + other + "{0:end}", 2);
        }
        error("`>a{0:end}", 0);
        error("a>`{0:end}", 2);
        error("A>b{0:end}", 0);
        error("a>F{0:end}", 2);
    }

    /** "ROLE is a letter from a to f, standing alone". */
    private static void rolesStandAlone() {
        error("aa>b{0:end}", 0);
        error("fa>b{0:end}", 0);
        error("a>bb{0:end}", 2);
        error("a>bx{0:end}", 2);
        fine("a >b {0:end}");
        error("a1>b{0:end}", 1);
        error("a>b1{0:end}", 3);
    }

    /** "the letters' kinds 0 to 9". */
    private static void kindsFrom0To9() {
        for (int kind = 0; kind <= 9; kind++) {
            Handshakewarden hall = Check.hallOf("a>b{" + kind + ":end}");
            Check.due("kind " + kind, 1 << kind, hall.placeAt(0, 0, 3));
            Check.due("next of " + kind, 1, hall.next(0, 0, kind));
        }
        error("a>b{/:end}", 4);
        error("a>b{::end}", 4);
        error("a>b{-1:end}", 4);
    }

    /** "KIND is a digit, standing alone". */
    private static void kindsStandAlone() {
        error("a>b{10:end}", 4);
        error("a>b{00:end}", 4);
        fine("a>b{ 1 :end}");
        error("a>b{0:end,99:end}", 10);
        error("a>b{1x:end}", 5);
    }

    /** "NAME is x, y or z, standing alone". */
    private static void namesXToZ() {
        fine("loop x a>b{0:x}");
        fine("loop y a>b{0:y}");
        fine("loop z a>b{0:z}");
        for (char other = 'a'; other < 'x'; other++) {
            error("loop " + other + " end", 5);
        }
        error("loop { end", 5);
        error("loop X end", 5);
        error("loop end end", 5);
        error("loop loop end", 5);
        error("loop 0 end", 5);
    }

    private static void namesStandAlone() {
        error("loop xx end", 5);
        error("loop yz end", 5);
        error("loopx end", 0);
        error("loop xend", 5);
        error("loop x a>b{0:xx}", 13);
        fine("loop\nx\nend");
        error("loop x1 end", 6);
    }

    /** "Words are maximal runs of letters a to z". */
    private static void wordsAreMaximalRuns() {
        fine("end");
        error("ende", 0);
        error("zend", 0);
        error("endend", 0);
        error("en d", 0);
        error("loo p x end", 0);
        error("loope x end", 0);
        error("enD", 0);
        error("en\u00e4", 0);
        fine("a>b{0:end}");
        error("a>b{0:enda}", 6);
        error("END", 0);
    }

    private static boolean isLetter(char sign) {
        return sign >= 'a' && sign <= 'z';
    }

    /** "The bytes 32 and 10 may stand ahead of ... tokens. Everything else ... is no token." */
    private static void bytesAheadOfTokens() {
        for (char sign = 1; sign <= 255; sign++) {
            int due = sign == 32 || sign == 10 ? NO_ERROR : sign == '(' ? 4 : 0;
            error(sign + "end", due);
        }
    }

    /** "... and behind tokens". */
    private static void bytesBehindTokens() {
        for (char sign = 1; sign <= 255; sign++) {
            error("end" + sign, sign == 32 || sign == 10 ? NO_ERROR : isLetter(sign) ? 0 : 3);
        }
    }

    /** "... between ... tokens". */
    private static void bytesBetweenTokens() {
        for (char sign = 1; sign <= 255; sign++) {
            boolean blank = sign == 32 || sign == 10;
            boolean digit = sign >= '0' && sign <= '9';
            error("a" + sign + ">b{7:end}", blank ? NO_ERROR : isLetter(sign) ? 0 : sign == '>' ? 2 : 1);
            error("a>b{7" + sign + ":end}", blank ? NO_ERROR : digit ? 4 : sign == ':' ? 6 : 5);
        }
        fine("\n \na\n>  b\n{ 7\n\n: end , 8 : ( end | end ) }\n \n");
    }

    /** "so also two digits side by side, is no token": the first of them is where reading stops. */
    private static void digitsSideBySide() {
        error("a>b{77:end}", 4);
        error("a>b{777:end}", 4);
        error("a>b{ 77:end}", 5);
        error("a>b{7 7:end}", 6);
        error("a>b{7\n7:end}", 6);
        error("end 7", 4);
        error("end 77", 4);
        error("a>b{7:7}", 6);
        error("77", 0);
        error("7", 0);
    }

    /** "The error position is the index of its first byte". */
    private static void firstByteOfTheToken() {
        error("looping x end", 0);
        error("   looping x end", 3);
        error("loop xyzzy end", 5);
        error("a>b{0:nothing}", 6);
        error("end \n\n loop", 7);
        error("a>b{0:end} end", 11);
        error("a > a {0:end}", 4);
    }

    /** "or the length of the text if the text ends too early". */
    private static void textThatEndsTooEarly() {
        String text = "loop x a>b{0:(end|c>d{1:end}),2:x}";
        for (int length = 0; length < text.length(); length++) {
            String begun = text.substring(0, length);
            // "l", "lo", "loo" and "en" are words that do not fit, but "e" is a ROLE.
            boolean cutWord = begun.endsWith("l") || begun.endsWith("lo") || begun.endsWith("loo")
                    || begun.endsWith("en");
            int start = length;
            while (cutWord && start > 0 && isLetter(text.charAt(start - 1))) {
                start--;
            }
            error(begun, start);
            error(begun + " \n ", cutWord ? start : length + 3);
        }
        fine(text);
        error("", 0);
        error(" ", 1);
        error("\n", 1);
    }

    /** "Reading stops at the first token that does not fit". */
    private static void firstTokenThatDoesNotFit() {
        error("a>b{0:end,0:end,77:?}", 10);
        error("end ? end", 4);
        error("a>a{77:?}", 2);
        error("? a>a", 0);
        error("x y z", 0);
    }

    /** ROLE ">" ROLE "{" branch { "," branch } "}". */
    private static void grammarOfBranches() {
        error("a>b{}", 4);
        error("a>b{,0:end}", 4);
        error("a>b{0:end,}", 10);
        error("a>b{0:end,,1:end}", 10);
        error("a>b{0:end 1:end}", 10);
        error("a>b{0:,1:end}", 6);
        error("a>b{0:end)", 9);
        error("a>b 0:end", 4);
        error("a,b{0:end}", 1);
        error("a>>b{0:end}", 2);
        error("a>b{{0:end}}", 4);
        error("a>b{0:end}}", 10);
        error("a>b{0:end}{1:end}", 10);
        fine("a>b{0:end,1:end,2:end,3:end,4:end,5:end,6:end,7:end,8:end,9:end}");
        error("a>b{0:end,1:end,2:end,3:end,4:end,5:end,6:end,7:end,8:end,9:end,0:end}", 64);
        error("a>b{0:end,1:end,2:end,3:end,4:end,5:end,6:end,7:end,8:end,9:end,a:end}", 64);
        error("a>b{0:end,1:end,2:end,3:end,4:end,5:end,6:end,7:end,8:end,9:end)", 63);
    }

    /** "(" whole "|" whole ")". */
    private static void grammarOfBrackets() {
        fine("(end|end)");
        error("()", 1);
        error("(|)", 1);
        error("(end|)", 5);
        error("(|end)", 1);
        error("(end)", 4);
        error("(end,end)", 4);
        error("(end|end", 8);
        error("(end|end}", 8);
        error("(end|end|end)", 8);
        error("(end||end)", 5);
        error("(end|end))", 9);
        error("end|end", 3);
        error("end)", 3);
        error("|", 0);
        error(")", 0);
    }

    /** "the second ROLE that is the first one". */
    private static void secondRoleIsTheFirst() {
        for (char role = 'a'; role <= 'f'; role++) {
            error(role + ">" + role + "{0:end}", 2);
            error("a>b{3:" + role + ">" + role + "{0:end}}", 8);
        }
        fine("a>b{0:b>a{0:a>b{0:end}}}");
    }

    /** "a KIND that stands in these branches already". */
    private static void kindStandsAlready() {
        for (int kind = 0; kind <= 9; kind++) {
            error("a>b{" + kind + ":end," + kind + ":end}", 10);
        }
        error("a>b{0:end,1:end,0:end}", 16);
        error("a>b{0:b>a{0:end},0:end}", 17);
        fine("a>b{0:b>a{0:end,1:end},1:end}");
        fine("a>b{1:end,0:a>b{1:end,0:end}}");
    }

    /** "a NAME behind "loop" that is the name of a loop that is open". */
    private static void nameOfALoopThatIsOpen() {
        error("loop x loop x end", 12);
        error("loop x loop y loop x end", 19);
        error("loop x a>b{0:loop x end}", 18);
        error("loop x a>b{0:x,1:a>b{2:loop x a>b{0:x}}}", 28);
        fine("loop x loop y loop z end");
        fine("a>b{0:loop x end,1:loop x end}");
        fine("a>b{0:loop x a>b{0:x},1:loop x a>b{0:x}}");
        fine("loop y a>b{0:loop x a>b{0:x},1:loop x a>b{0:y}}");
    }

    /** "a NAME of no open loop". */
    private static void nameOfNoOpenLoop() {
        error("x", 0);
        error("y", 0);
        error("z", 0);
        error("a>b{0:z}", 6);
        error("loop x a>b{0:y}", 13);
        error("a>b{0:loop x a>b{0:x},1:x}", 24);
        error("a>b{1:x,0:loop x a>b{0:x}}", 6);
        error("loop x a>b{0:x} x", 16);
        fine("loop x a>b{0:loop y a>b{0:y,1:x},1:x}");
        error("loop x a>b{0:loop y a>b{0:y,1:x},1:y}", 35);
    }

    /** "... or of one behind which no ">" has come". */
    private static void nameWithoutALetter() {
        error("loop x x", 7);
        error("loop x loop y x", 14);
        error("loop x loop y y", 14);
        error("loop x x>b{0:end}", 7);
        error("loop x a>x{0:end}", 9);
        error("loop x a>b{0:loop y y}", 20);
        fine("loop x a>b{0:loop y x}");
        fine("loop x loop y a>b{0:x,1:y}");
        fine("loop x end");
    }

    /** "a ROLE that stands on the other side of a "|" (of the same brackets, ahead of it)". */
    private static void roleOnTheOtherSide() {
        String left = "(a>b{0:end}|";
        for (char role = 'a'; role <= 'f'; role++) {
            boolean stands = role <= 'b';
            char other = role == 'f' ? 'e' : 'f';
            error(left + role + ">" + other + "{0:end})", stands ? 12 : NO_ERROR);
            error(left + other + ">" + role + "{0:end})", stands ? 14 : NO_ERROR);
            error(left + "e>f{0:f>e{0:" + (role >= 'e' ? "c" : role) + ">f{0:end}}})", stands ? 24 : NO_ERROR);
        }
        error("(loop x a>b{0:x}|loop x b>c{0:x})", 24);
        error("((a>b{0:end}|end)|(end|a>c{0:end}))", 23);
    }

    private static void rolesOfOtherBrackets() {
        fine("a>b{0:(a>b{0:end}|c>d{0:end})}");
        fine("a>b{0:(a>b{0:end}|c>d{0:end}),1:(c>d{0:end}|a>b{0:end})}");
        fine("c>d{0:(a>b{0:end}|c>d{0:end}),1:a>b{0:c>a{0:end}}}");
        fine("(a>b{0:end}|(c>d{0:end}|e>f{0:end}))");
        fine("((a>b{0:end}|c>d{0:end})|e>f{0:end})");
        error("((a>b{0:end}|c>d{0:end})|f>d{0:end})", 27);
        error("(a>b{0:end}|c>d{0:(c>e{0:end}|a>d{0:end})})", 30);
        error("(a>b{0:end}|(c>d{0:end}|e>b{0:end}))", 26);
        fine("a>b{0:(a>b{0:end}|end),1:a>b{0:end}}");
    }

    /** A text with one of each sign ("l" a loop, "b" a brace, "p" a bracket) within the one before. */
    private static String nested(String signs) {
        StringBuilder ahead = new StringBuilder();
        StringBuilder behind = new StringBuilder();
        int name = 0;
        for (char sign : signs.toCharArray()) {
            if (sign == 'l') {
                ahead.append("loop ").append("xyz".charAt(name)).append(' ');
                name++;
            } else if (sign == 'b') {
                ahead.append("a>b{0:");
                behind.insert(0, "}");
            } else {
                ahead.append("(");
                behind.insert(0, "|end)");
                name = 0;
            }
        }
        return ahead + "end" + behind;
    }

    /** "a "loop", "{" or "(" while 12 of these are open". */
    private static void twelveMayBeOpen() {
        String[] twelve = {
            "bbbbbbbbbbbb", "pppppppppppp", "lbbbbbbbbbbb", "lllbbbbbbbbb", "llpllpllplll", "bpbpbpbpbpbp",
            "lbplbplbplbp", "plbplbplbplb", "bplbplbplbpl", "llbpllbpllbp", "bbbbbbbbblll", "ppppppppplll",
            "lplplplplplp", "plplplplplpl"
        };
        for (String signs : twelve) {
            String text = nested(signs);
            fine(text);
            int inside = text.indexOf("end");
            error(nested(signs + "b"), inside + 3);
            error(nested(signs + "p"), inside);
            error(text.substring(0, inside) + "loop x end", inside);
            error(nested(signs.substring(0, 11) + "p"), NO_ERROR);
            error(nested(signs.substring(0, 11) + "b"), NO_ERROR);
            error(nested(signs.substring(0, 10) + "pl"), NO_ERROR);
        }
    }

    /** "(a "loop" until its whole is read)". */
    private static void loopUntilItsWholeIsRead() {
        String eleven = nested("bbbbbbbbbbb");
        error("a>b{0:loop x end,1:" + eleven + "}", NO_ERROR);
        error("a>b{0:loop x a>b{0:x},1:" + eleven + "}", NO_ERROR);
        // A loop is open within its branches, too, and so the twelfth brace is one too many.
        error("loop x " + eleven, NO_ERROR);
        error("loop x a>b{0:" + eleven + "}", 13 + 66 - 3);
        error("loop x a>b{0:end,1:" + eleven + "}", 19 + 66 - 3);
        error("(loop x end|" + eleven + ")", NO_ERROR);
    }

    private static void bracesAndBracketsUntilTheyClose() {
        String eleven = nested("bbbbbbbbbbb");
        String twelve = nested("bbbbbbbbbbbb");
        fine("a>b{0:end,1:" + eleven + "}");
        error("a>b{0:end,1:" + twelve + "}", 12 + 72 - 3);
        fine("a>b{0:" + eleven + ",1:" + eleven + "}");
        fine("(end|" + eleven + ")");
        error("(end|" + twelve + ")", 5 + 72 - 3);
        fine("((end|end)|" + eleven + ")");
        fine("a>b{0:(end|end),1:" + eleven + "}");
        fine("(" + nested("ppppppppppp") + "|" + nested("ppppppppppp") + ")");
        error("(end|" + nested("pppppppppppp") + ")", 5 + 11);
    }

    /** "Within ( ) the loops that are open outside are not." */
    private static void loopsOutsideOfBrackets() {
        error("loop x a>b{0:(x|end)}", 14);
        error("loop x a>b{0:(end|x)}", 18);
        error("loop x a>b{0:(end|(end|x))}", 23);
        error("loop x a>b{0:(a>b{0:x}|end)}", 20);
        error("loop x (a>b{0:x}|end)", 14);
        fine("loop x a>b{0:(loop x a>b{0:x}|loop x c>d{0:x}),1:x}");
        error("loop x a>b{0:(loop x a>b{0:x}|c>d{0:x})}", 36);
        fine("loop x a>b{0:(end|end),1:x}");
        fine("loop x loop y loop z a>b{0:(loop x loop y loop z end|end),1:x,2:y,3:z}");
        Handshakewarden hall = Check.hallOf("loop x a>b{0:loop y b>a{0:loop z a>b{0:(loop z end|end),1:x,2:y,3:z}}}");
        for (int name = 0; name < 3; name++) {
            Check.due("a name behind the brackets", name, hall.next(0, 2, name + 1));
        }
        error("loop x a>b{0:(loop y end|end),1:y}", 32);
        error("loop x a>b{0:(end|loop x loop x end)}", 30);
    }
}
