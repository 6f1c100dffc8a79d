/** COMPILING and promise 7: each place that the document names. A ^ stands before the byte that is wrong. */
public final class PlaceBoundsTest {
    private static final String SIX = "{if 1}{each t}{each t c=1}{if 1}{else}{if 1}{each t}";
    private static final String SIX_ENDS = "{end}".repeat(6);

    public static void main(String[] args) {
        tooManyTags();
        fiveWords();
        behindEndAndElse();
        noneOpen();
        behindEachIfLet();
        sixOpen();
        eachParts();
        ifParts();
        letParts();
        points();
        widths();
        braces();
        digits();
        quotes();
        otherFactors();
        nineDeep();
        arguments();
        theEnd();
        aboveFiveHundred();
        noTemplateThen();
        Check.end();
    }

    private static void good(String... templates) {
        for (String template : templates) {
            place(template, 0);
        }
    }

    private static void wrong(String... marked) {
        for (String template : marked) {
            place(template.replace("^", ""), template.indexOf('^') + 1);
        }
    }

    private static void place(String template, int want) {
        Desk desk = new Desk();
        Check.same("compile " + template, desk.compile(template), want);
        if (want > 0) {
            Check.same("no template: tags of " + template, desk.about(2), 0);
            Check.same("no template: merge of " + template, desk.merge(), Desk.STATE);
        }
    }

    private static void tooManyTags() {
        Check.sentence("At most 120 tags; At the { of a tag: 120 tags are read already");
        String most = "{a}".repeat(120);
        good(most, most + "{{", most + "x}y{{z}", "{{".repeat(20) + most);
        wrong(most + "^{a}", most + "^{}", most + "^{", most + "^{?", most + "{{x^{a}", most + "^{let}",
                most + "^{end x}", most + "^{if 1}{end}", most + "^{abcdefghi}", most + "^{else}", most + "{{^{");
        wrong("{a}".repeat(119) + "{^}", "{a}".repeat(119) + "{^", "{a}".repeat(119) + "^{end}");
        String[] kinds = {"{if 1}{end}", "{each t}{end}", "{if 1}{else}{end}{a}"};
        for (String kind : kinds) {
            int tags = kind.length() - kind.replace("{", "").length();
            String whole = kind + "{a}".repeat(120 - tags);
            good(whole, "{a}".repeat(120 - tags) + kind);
            wrong(whole + "^{a}");
        }
        wrong("{if 1}" + "{a}".repeat(119) + "^{end}", "{if 1}{else}" + "{a}".repeat(118) + "^{end}",
                "{if 1}" + "{a}".repeat(119) + "^{else}{end}", "{let a=1}" + "{a}".repeat(119) + "^{let a=1}");
        Desk desk = new Desk();
        desk.compile(most);
        Check.same("all 120 are told", desk.about(2), 120);
    }

    private static void fiveWords() {
        Check.sentence("letters a .. z that stand there are read as far as they go; are they one of the five words, "
                + "it is that tag; otherwise an EXPR begins there");
        good("{ends}", "{ifs}", "{lets}", "{elses}", "{eachs}", "{en}", "{e}");
        wrong("{eachx^ t}{end}", "{ifx^ 1}", "{letx^ a=1}", "{end^1}", "{if^1}{end}", "{^End}", "{^IF 1}", "{^ end}",
                "{(^end)}", "{1+^let}", "{endend^ }", "{^abcdefghi 1}", "{^}", "{^ }");
    }

    private static void behindEndAndElse() {
        Check.sentence("Behind end and else: } (else that place)");
        good("{if 1}{end}", "{if 1}{else}{end}");
        wrong("{if 1}{end^", "{if 1}{end^ }", "{if 1}{end^:2}", "{if 1}{end^(1)}", "{if 1}{end^{", "{if 1}{end^ if}",
                "{if 1}{else^ }{end}", "{if 1}{else^", "{if 1}{else^1}{end}", "{if 1}{else^(1)}{end}");
        Check.sentence("Behind end and else: } (else that place), and (then) at the {: none is open");
        wrong("{end^ }", "{end^", "{else^ }", "{else^", "{if 1}{else}{else^ }", "{each t}{else^:}");
    }

    private static void noneOpen() {
        Check.sentence("at the {: none is open that it belongs to (a second else, too)");
        good("{if 1}{else}{end}{if 1}{else}{end}", "{if 1}{else}{if 1}{else}{end}{end}",
                "{if 1}{each t}{end}{else}{each t}{end}{end}", "{each t}{if 1}{else}{end}{end}");
        wrong("^{end}", "x^{end}", "{if 1}{end}^{end}", "{each t}{end}^{end}", "{if 1}{else}{end}^{end}", "^{else}",
                "{a}^{else}", "{if 1}{end}^{else}", "{each t}^{else}{end}", "{each t c=1}^{else}{end}",
                "{if 1}{else}^{else}{end}", "{if 1}{each t}^{else}{end}{end}", "{if 1}{if 1}{else}^{else}{end}{end}",
                "{if 1}{else}{if 1}{end}^{else}{end}", "{each t}{if 1}{end}^{else}{end}", SIX + SIX_ENDS + "^{end}");
    }

    private static void behindEachIfLet() {
        Check.sentence("Behind each, if, let: a space");
        wrong("{each^}", "{each^", "{each^(t)}", "{each^\tt}", "{each^=1}", "{if^}", "{if^", "{if^(1)}{end}",
                "{if^'a'}{end}", "{if^-1}{end}", "{let^}", "{let^", "{let^=1}", "{let^(a)=1}", "{let^:a=1}");
    }

    private static void sixOpen() {
        Check.sentence("At most six tags each and if are open one within the other; "
                + "at the { of each and if: six are open");
        String[] begins = {"{if 1}", "{each t}", "{each t c=1}", "{if 1}{else}"};
        for (String begin : begins) {
            good(begin.repeat(6) + SIX_ENDS, begin.repeat(5) + (begin + "{end}").repeat(3) + "{end}".repeat(5));
            wrong(begin.repeat(6) + "^" + begin + "{end}".repeat(7));
            good(SIX.replace("{if 1}{each t}{each", begin + "{if 1}{each") + SIX_ENDS);
        }
        good(SIX + SIX_ENDS, SIX + "{a}{let a=1}{{" + SIX_ENDS, SIX + "{end}{if 1}" + SIX_ENDS,
                SIX + "{end}{each t}" + SIX_ENDS, SIX + SIX_ENDS + SIX + SIX_ENDS, "{if 1}{end}".repeat(40));
        wrong(SIX + "^{if 1}{end}" + SIX_ENDS, SIX + "^{each t}{end}" + SIX_ENDS, SIX + "^{if ?}", SIX + "^{each ",
                SIX + "^{each t c=}", SIX + "{end}{if 1}^{if 1}", SIX + "{end}{end}{if 1}{each t}^{each t}");
        Check.sentence("Behind each, if, let: a space; at the { of each and if (then): six are open");
        wrong(SIX + "{if^}", SIX + "{each^", SIX + "{let^}", SIX + "{let ^}");
    }

    private static void eachParts() {
        Check.sentence("Then: a name, and } or a space, a name, =, an EXPR, }");
        good("{each t}{end}", "{each t c=1}{end}", "{each t c='a'+b*(c)}{end}");
        wrong("{each ^}", "{each ^", "{each ^ t}", "{each ^1}", "{each ^'t'}", "{each ^(t)}", "{each ^each}",
                "{each ^T}", "{each ^abcdefghi}");
        wrong("{each t^", "{each t^=1}", "{each t^(1)}", "{each t^:2}", "{each t^>2}", "{each t^,u}", "{each t^1}");
        wrong("{each t ^", "{each t ^}", "{each t ^ c=1}", "{each t ^=1}", "{each t ^1=1}", "{each t ^let=1}",
                "{each t ^abcdefghi=1}");
        wrong("{each t c^", "{each t c^}", "{each t c^ =1}", "{each t c^(1)}", "{each t c^:1}", "{each t c^1=1}");
        wrong("{each t c=^", "{each t c=^}", "{each t c=^ 1}", "{each t c=^=1}", "{each t c=^end}");
        wrong("{each t c=1^", "{each t c=1^ }", "{each t c=1^:2}", "{each t c=1^>2}", "{each t c=1^<2}",
                "{each t c=1^ d=2}", "{each t c=1^=1}");
    }

    private static void ifParts() {
        Check.sentence("Then: .. an EXPR and }");
        good("{if 1}{end}", "{if a*(b)-'c'}{end}");
        wrong("{if ^", "{if ^}", "{if ^ 1}", "{if ^if}", "{if ^=1}", "{if 1^", "{if 1^ }", "{if 1^:2}", "{if 1^>2}",
                "{if 1^<2}", "{if a^=1}", "{if 1^)}");
    }

    private static void letParts() {
        Check.sentence("Then: .. a name, =, an EXPR and }");
        good("{let a=1}", "{let abcdefgh=-(1)}", "{let a=a}");
        wrong("{let ^", "{let ^}", "{let ^ a=1}", "{let ^1=1}", "{let ^=1}", "{let ^let=1}", "{let ^abcdefghi=1}");
        wrong("{let a^", "{let a^}", "{let a^ =1}", "{let a^(1)=1}", "{let a^:=1}", "{let a^-1}");
        wrong("{let a=^", "{let a=^}", "{let a=^ 1}", "{let a=^=1}", "{let a=^+1}");
        wrong("{let a=1^", "{let a=1^ }", "{let a=1^:2}", "{let a=1^>2}", "{let a=1^<2}", "{let a=1^=1}",
                "{let a=1^,}");
    }

    private static void points() {
        Check.sentence("P 1 to 4; Behind an EXPR alone: perhaps a : and P");
        for (int b = 0; b <= 255; b++) {
            boolean fits = b >= '1' && b <= '4';
            place("{a:" + (char) b + "}", fits ? 0 : 4);
        }
        good("{a:1}", "{a:4}", "{a:1>1}", "{a:4<20}");
        wrong("{a:^", "{a:^}", "{a:^0}", "{a:^5}", "{a:^ 2}", "{a:^>3}", "{a:2^2}", "{a:2^:2}", "{a:2^ }", "{a:2^",
                "{a^ :2}", "{a:4^0}", "{a:^-1}", "{^:2}");
    }

    private static void widths() {
        Check.sentence("W 1 to 20 (one or two digits, no 0 first); "
                + "perhaps > or < and W: a digit 1 to 9, and perhaps another digit (at that one: W above 20)");
        String[] before = {"{a>", "{a<", "{a:2>", "{a:2<"};
        for (String start : before) {
            for (int b = 0; b <= 255; b++) {
                boolean digit = b >= '0' && b <= '9';
                boolean fits = digit && b != '0';
                place(start + (char) b + "}", fits ? 0 : start.length() + 1);
                place(start + "1" + (char) b + "}", digit || b == '}' ? 0 : start.length() + 2);
                place(start + "2" + (char) b + "}", b == '0' || b == '}' ? 0 : start.length() + 2);
            }
            for (int width = 1; width <= 99; width++) {
                place(start + width + "}", width <= 20 ? 0 : start.length() + 2);
                place(start + "0" + width + "}", start.length() + 1);
            }
        }
        wrong("{a>^", "{a>^}", "{a>^>3}", "{a>^ 3}", "{a^ >3}", "{a>3^ }", "{a>3^", "{a>20^", "{a>20^0}", "{a>19^9}",
                "{a>1^a}", "{a>3^<3}", "{a>3^>3}", "{a>3^:2}", "{a>^<3}", "{a>^-3}", "{^>3}", "{a>2^1", "{a>^'3'}");
    }

    private static void braces() {
        Check.sentence("and }. Each of these, if it is not there, at that place");
        good("{a}", "{1}", "{'w'}", "{f(1)}", "{(a)}", "{-a}");
        for (int b = 0; b <= 255; b++) {
            if ("}+-*:<>".indexOf(b) < 0) {
                place("{(a)" + (char) b + "}", 5);
            }
        }
        wrong("{a^", "{a^ }", "{a^{b}", "{a^;}", "{a^)}", "{a^,b}", "{a^=1}", "{a^'b'}", "{a^1}", "{1^a}", "{'w'^a}",
                "{'w'^'w'}", "{(a)^(a)}", "{f(1)^(1)}", "{1^ +1}", "{1+^ 1}");
    }

    private static void digits() {
        Check.sentence("1 to 15 digits; digits as far as they go (at the first: more than 15)");
        good("{1}", "{123456789012345}", "{000000000000000}", "{a+123456789012345*1}");
        wrong("{^1234567890123456}", "{^0000000000000000}", "{a+^1234567890123456}", "{(^1234567890123456",
                "{f(1,^1234567890123456)}", "{^12345678901234567890}", "{123456789012345^", "{^1234567890123456",
                "{123456789012345^a}", "{let a=^1234567890123456}", "{-^1234567890123456}");
    }

    private static void quotes() {
        Check.sentence("a quote: at it, if before the next quote there are more than 12 bytes");
        good("{''}", "{'123456789012'}");
        wrong("{^'1234567890123'}", "{1+^'1234567890123'}", "{^'" + "x".repeat(100) + "'}", "{'a'^'b'}");
        Check.sentence("or one that no word has");
        good("{'~'}", "{' '}", "{'{'}", "{'a:<'}");
        wrong("{^'a;b'}", "{^';'}", "{^'a}b'}", "{^'}'}", "{^'a\nb'}", "{^'\u007f'}", "{^'\u0080'}", "{^'\u001f'}",
                "{1*^'12345678901;'}", "{^'123456789012;'}");
        Check.sentence("(the END, if there is none before, and none of these)");
        wrong("{'^", "{'a^", "{'123456789012^", "{1+'^", "{'a'+'^", "{'a {b^");
        wrong("{^'1234567890123", "{^'a;", "{^'a}", "{^'}", "{^'a\u007f", "{'a'+^'a} b");
        place("x".repeat(498) + "{'", 501);
        place("x".repeat(490) + "{'abcdefghijkl'}", 501);
        place("x".repeat(490) + "{'abcde;ghijkl'}", 492);
        place("x".repeat(490) + "{'abcdefgh;jkl'}", 501);
        place("x".repeat(486) + "{'abcdefghijkl'}", 501);
        place("x".repeat(485) + "{'abcdefghijkl'}", 501);
        place("x".repeat(485) + "{'abcdefghijklm'}", 487);
        place("x".repeat(484) + "{'abcdefghijkl'}", 0);
    }

    private static void otherFactors() {
        Check.sentence("a name, with a ( just behind it or not; a ( or -; anything else: at that place");
        good("{a}", "{a(1)}", "{(a)}", "{-a}", "{-(a)}", "{--a}", "{(-a)}", "{a--a}", "{a*-a}", "{a+-a}", "{-1*-1}");
        for (int b = 0; b <= 255; b++) {
            boolean begins = b >= 'a' && b <= 'z' || b >= '0' && b <= '9' || b == '\'' || b == '(' || b == '-';
            if (!begins) {
                place("{1+" + (char) b + "}", 4);
                place("{f(1," + (char) b + ")}", 6);
                if (b != '{') {
                    place("{" + (char) b + "}", 2);
                }
            }
        }
        wrong("{a^ (1)}", "{1^(1)}", "{1+^}", "{1-^}", "{1*^}", "{1+^", "{-^", "{-^}", "{-^+1}", "{-^ 1}", "{^+1}",
                "{^*1}", "{1+^+1}", "{1+^*1}", "{1*^*1}", "{1*^+1}", "{-^*1}", "{1^/2}", "{1^.5}", "{(^", "{(^}",
                "{(^)}", "{abcdefgh^ (1)}", "{^abcdefghi(1)}", "{1+^end(1)}", "{let^(1)}");
    }

    private static void nineDeep() {
        Check.sentence("Factors are at most eight deep: "
                + "each ( and each - makes what is in it, or behind it, one deeper; "
                + "the outermost ones are 1 deep; At a ( or -: what it would make nine deep");
        String[] opening = {"(", "-", "f(", "abcdefgh(1,", "min(1,2+", "(2*", "-(", "(-"};
        for (String open : opening) {
            int levels = open.equals("-(") || open.equals("(-") ? 2 : 1;
            String close = open.contains("(") ? ")" : "";
            String seven = open.repeat(7 / levels) + (levels == 2 ? "-" : "");
            String ends = close.repeat(7 / levels);
            good("{" + seven + "1" + ends + "}", "{" + seven + "1*2+a" + ends + "}", "{" + seven + "'w'" + ends + "}",
                    "{1+" + seven + "a" + ends + "*" + seven + "a" + ends + "}");
            wrong("{" + seven + "^-1" + ends + "}", "{" + seven + "^(1)" + ends + "}",
                    "{" + seven + "g^(1)" + ends + "}", "{" + seven + "^(", "{" + seven + "^-", "{" + seven + "g^(");
        }
        wrong("{(((((((1+^(1)", "{f(f(f(f(f(f(f(1,^-1", "{(((((((1*g^(1)", "{(((((((1-^-1");
        good("{-------1+(1)}", "{((((((-1+(1)))))))}", "{(((((((1-1)))))))}");
        good("{" + "(1)+".repeat(60) + "1}", "{" + "-1-".repeat(60) + "1}", "{1" + "-1".repeat(100) + "}",
                "{f(" + "f(1),".repeat(60) + "1)}", "{(" + "(1)*".repeat(60) + "1)}", "{-------1-1-1}", "{1--------1}");
        wrong("{1--------^-1}", "{f(1,------^-1)}", "{let a=-------^-1}", "{if -------^(1)}",
                "{each t c=-------f^(1)}");
        Check.sentence("digits, names and words are read before what is behind them is looked at");
        wrong("{-------^1234567890123456}", "{-------^abcdefghi(1)}", "{-------^end(1)}", "{-------^'a;'}");
    }

    private static void arguments() {
        Check.sentence("Behind an argument: a , or ); behind an EXPR in ( ): a )");
        good("{f(1)}", "{f(1,2)}", "{f(a,'b',(c),-d,g(e))}", "{((1))}");
        wrong("{f(^)}", "{f(^}", "{f(^", "{f(^,1)}", "{f(1^", "{f(1^}", "{f(1^;2)}", "{f(1^ )}", "{f(1^ ,2)}",
                "{f(1,^)}", "{f(1,^", "{f(1,^ 2)}", "{f(1,2^", "{f(1,2^}", "{f(1^:2)}", "{f(1^>2)}", "{f(1,^,2)}",
                "{f(1)^)}", "{f(g(1)^}", "{f(^ 1)}");
        wrong("{(1^}", "{(1^", "{(1^,2)}", "{(1^ )}", "{(1^:2)}", "{(1)^)}", "{((1)^}", "{(^ 1)}", "{(1+2^}",
                "{('a'^'b')}");
    }

    private static void theEnd() {
        Check.sentence("At the END: a tag or a block that is open");
        good("", "x", "{a}", "{if 1}{end}", "{{", "}", "{{}");
        wrong("{^", "x{^", "{{{^", "{a}{^", "{a^", "{a:^", "{a>1^", "{if^", "{if ^", "{if 1^", "{if 1}^", "{if 1}x^",
                "{each t}^", "{each t c=1}{a}^", "{if 1}{else}^", "{if 1}{else}x{{^", "{if 1}{each t}{end}^", SIX + "^",
                SIX + "{end}".repeat(5) + "^", "{if 1}{end^", "{let a=1^", "{f(1^", "{(1)^", "{-1^", "{abcdefgh^");
    }

    private static void aboveFiveHundred() {
        Check.sentence("A TEMPLATE is a text of at most 500 bytes; THE END; and if the size is above 500");
        good("x".repeat(499), "x".repeat(500), "x".repeat(497) + "{a}", "x".repeat(498) + "{{", "{a}" + "x".repeat(497),
                "{if 1}" + "x".repeat(489) + "{end}");
        String end = "x".repeat(500) + "^";
        wrong(end + "x", end + "x".repeat(100), end + "{a}", end + "{", end + "?", "{a}" + "x".repeat(497) + "^x",
                "x".repeat(498) + "{{^x", "{if 1}{end}" + "x".repeat(489) + "^{end}");
        Check.sentence("reads from the left, up to the size, or 500 if that is less "
                + "(THE END, also where there is no byte any more)");
        wrong("x".repeat(499) + "{^{", "x".repeat(499) + "{^a}", "x".repeat(498) + "{a^}", "x".repeat(497) + "{ab^}",
                "{if 1}" + "x".repeat(490) + "{end^}", "{if 1}" + "x".repeat(494) + "^{end}",
                "{if 1}" + "x".repeat(494) + "^" + "x".repeat(100), "x".repeat(496) + "{123^4567890123456}",
                "x".repeat(493) + "{abcdef^ghij}", "x".repeat(491) + "{abcdefgh^i}", "x".repeat(493) + "{a:2>2^1}",
                "x".repeat(497) + "{if^}", "x".repeat(496) + "{end^}", "x".repeat(495) + "{else^}");
        wrong("x".repeat(490) + "{^abcdefghi" + "x".repeat(60), "{^?" + "x".repeat(598), "^{end}" + "x".repeat(595),
                "x".repeat(495) + "^{end}x", "{a}".repeat(120) + "x".repeat(139) + "^{{" + "x".repeat(99));
    }

    private static void noTemplateThen() {
        Check.sentence("0; or 1 more than the place of what is wrong (there is no template then)");
        Desk desk = new Desk();
        Check.same("a template", desk.merged("a{1}b"), "a1b");
        Check.same("wrong at the first place", desk.compile("{end}"), 1);
        Check.same("no template", desk.merge(), Desk.STATE);
        Check.same("no tags", desk.about(2), 0);
        Check.same("wrong again", desk.compile("{a"), 3);
        Check.same("no template", desk.merge(), Desk.STATE);
        Check.same("an empty template", desk.compile(""), 0);
        Check.same("is merged", desk.merge(), 0);
        Check.same("too long", desk.compile("x".repeat(501)), 501);
        Check.same("no template", desk.merge(), Desk.STATE);
        Check.same("a template again", desk.merged("c{2}{3}"), "c23");
        Check.same("tags", desk.about(2), 2);
    }
}
