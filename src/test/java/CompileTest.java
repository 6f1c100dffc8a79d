/** Promise 7. */
public final class CompileTest {
    public static void main(String[] args) {
        ordinary();
        tags();
        blocks();
        names();
        factors();
        depth();
        printing();
        ends();
        noTemplate();
        Check.end();
    }

    private static void due(String template, int want) {
        Check.same("compile " + template, new Desk().compile(template), want);
    }

    private static void ordinary() {
        due("", 0);
        due("plain }} text;'", 0);
        due("{{", 0);
        due("{{{{a}", 0);
        due("{{{a}", 0);
        due("{a}{b}}", 0);
        due("{each t}{each t c=1+2*f('x',y)}{end}{end}", 0);
        due("{if a-b}{else}{end}{if 1}{end}", 0);
        due("{let a=-(1)}", 0);
        due("{'{'}", 0);
    }

    private static void tags() {
        due("{", 2);
        due("{{{", 4);
        due("{}", 2);
        due("{ a}", 2);
        due("{a }", 3);
        due("{end", 5);
        due("{end x}", 5);
        due("{end1}", 5);
        due("{ends}", 0);
        due("{if}", 4);
        due("{if(1)}", 4);
        due("{if  1}{end}", 5);
        due("{if 1", 6);
        due("{if 1 }{end}", 6);
        due("{let}", 5);
        due("{let }", 6);
        due("{let a", 7);
        due("{let a =1}", 7);
        due("{let a= 1}", 8);
        due("{let a=1 }", 9);
        due("{let a=1}", 0);
        due("{let 1=1}", 6);
        due("{each", 6);
        due("{each}", 6);
        due("{each  a}{end}", 7);
        due("{each a }{end}", 9);
        due("{each a=1}{end}", 8);
        due("{each a b}{end}", 10);
        due("{each a b =1}{end}", 10);
        due("{each a b=1 }{end}", 12);
        due("{each a b=1", 12);
        due("{each 'a'}{end}", 7);
        due("{each a let=1}{end}", 9);
        due("{a}".repeat(120), 0);
        due("{a}".repeat(121), 361);
        due("{a}".repeat(120) + "{{x}", 0);
        due("{a}".repeat(120) + "{", 361);
        due("{a}".repeat(119) + "{?}", 359);
        due("{a}".repeat(120) + "{?}", 361);
        due("{if 1}{end}".repeat(2) + "{a}".repeat(117), 371);
    }

    private static void blocks() {
        due("{end}", 1);
        due("a{end}", 2);
        due("{else}", 1);
        due("{if 1}{end}{end}", 12);
        due("{if 1}{else}{else}{end}", 13);
        due("{each a}{else}{end}", 9);
        due("{if 1}{each a}{else}{end}{end}", 15);
        due("{if 1}{each a}{end}{else}{end}", 0);
        due("{if 1}{else}{if 1}{else}{end}{end}", 0);
        due("{if 1}", 7);
        due("{if 1}{else}", 13);
        due("{each a}{if 1}{end}", 20);
        due("{else", 6);
        due("{else x}", 6);
        String six = "{if 1}{each a}".repeat(3);
        due(six + "{end}".repeat(6), 0);
        due(six + "{if 1}" + "{end}".repeat(7), 43);
        due(six + "{each a}" + "{end}".repeat(7), 43);
        due(six + "{each}" + "{end}".repeat(6), 48);
        due(six + "{if}" + "{end}".repeat(6), 46);
        due(six + "{each ?}" + "{end}".repeat(6), 43);
        due(six + "{let a=1}" + "{end}".repeat(6), 0);
        due(six + "{end}{if 1}" + "{end}".repeat(6), 0);
    }

    private static void names() {
        due("{abcdefgh}", 0);
        due("{abcdefghi}", 2);
        due("{abcdefghi(1)}", 2);
        due("{let abcdefghi=1}", 6);
        due("{each abcdefghi}{end}", 7);
        due("{1+end}", 4);
        due("{1+else}", 4);
        due("{(if)}", 3);
        due("{let if=1}", 6);
        due("{each end}{end}", 7);
        due("{f(each)}", 4);
        due("{let(1)}", 5);
        due("{A}", 2);
        due("{aB}", 3);
        due("{a1}", 3);
    }

    private static void factors() {
        due("{123456789012345}", 0);
        due("{1234567890123456}", 2);
        due("{1+1234567890123456}", 4);
        due("{1a}", 3);
        due("{1+}", 4);
        due("{+1}", 2);
        due("{1++1}", 4);
        due("{1--1}", 0);
        due("{1*-1}", 0);
        due("{*1}", 2);
        due("{1**1}", 4);
        due("{1/1}", 3);
        due("{''}", 0);
        due("{'123456789012'}", 0);
        due("{'1234567890123'}", 2);
        due("{'a;b'}", 2);
        due("{'a}b'}", 2);
        due("{'a\u007f'}", 2);
        due("{'\u001f'}", 2);
        due("{'", 3);
        due("{'abc", 6);
        due("{'123456789012", 15);
        due("{'1234567890123", 2);
        due("{'ab;", 2);
        due("{'a'b'}", 5);
        due("{f()}", 4);
        due("{f(}", 4);
        due("{f(1}", 5);
        due("{f(1,)}", 6);
        due("{f(1,2", 7);
        due("{f(1 ,2)}", 5);
        due("{f(1, 2)}", 6);
        due("{f (1)}", 3);
        due("{(1}", 4);
        due("{(1,2)}", 4);
        due("{()}", 3);
        due("{(1))}", 5);
        due("{(a)(b)}", 5);
        due("{f(1)(2)}", 6);
    }

    private static void depth() {
        due("{" + "(".repeat(7) + "1" + ")".repeat(7) + "}", 0);
        due("{" + "(".repeat(8) + "1" + ")".repeat(8) + "}", 9);
        due("{" + "-".repeat(7) + "1}", 0);
        due("{" + "-".repeat(8) + "1}", 9);
        due("{" + "f(".repeat(7) + "1" + ")".repeat(7) + "}", 0);
        due("{" + "f(".repeat(8) + "1" + ")".repeat(8) + "}", 17);
        due("{" + "(-".repeat(3) + "(1" + ")".repeat(4) + "}", 0);
        due("{" + "(-".repeat(4) + "1" + ")".repeat(4) + "}", 9);
        due("{" + "-".repeat(7) + "abcdefgh(1)}", 17);
        due("{" + "-".repeat(7) + "a(}", 10);
        due("{1" + "-1".repeat(20) + "}", 0);
        due("{" + "(1)+".repeat(20) + "-1}", 0);
        due("{f(" + "(1),".repeat(20) + "-1)}", 0);
    }

    private static void printing() {
        due("{1:1}{1:4}", 0);
        due("{1:0}", 4);
        due("{1:5}", 4);
        due("{1:}", 4);
        due("{1:", 4);
        due("{1:12}", 5);
        due("{1:2>3}{1:2<3}{1>3}{1<3}", 0);
        due("{1>3:2}", 5);
        due("{1>}", 4);
        due("{1>0}", 4);
        due("{1>01}", 4);
        due("{1>9}{1<10}{1>19}{1<20}", 0);
        due("{1>21}", 5);
        due("{1<30}", 5);
        due("{1>99}", 5);
        due("{1>123}", 6);
        due("{1>2", 5);
        due("{1>2<3}", 5);
        due("{if 1:2}{end}", 6);
        due("{let a=1>2}", 9);
        due("{each a b=1:2}{end}", 12);
        due("{f(1:2)}", 5);
    }

    private static void ends() {
        due("x".repeat(500), 0);
        due("x".repeat(501), 501);
        due("x".repeat(600), 501);
        due("x".repeat(497) + "{a}", 0);
        due("x".repeat(498) + "{a}", 501);
        due("x".repeat(499) + "{{", 501);
        due("x".repeat(498) + "{{", 0);
        due("x".repeat(498) + "{{y", 501);
        due("x".repeat(494) + "{'abcdefghijklm'}", 501);
        due("x".repeat(480) + "{'abcdefghijklm'}zzzz", 482);
        due("x".repeat(493) + "{abcdefghijkl}", 501);
        due("x".repeat(490) + "{abcdefghijkl}", 492);
        due("{if 1}" + "x".repeat(494) + "{end}", 501);
        due("{if 1}" + "x".repeat(489) + "{end}", 0);
        due("{?" + "x".repeat(550), 2);
    }

    private static void noTemplate() {
        Desk fresh = Desk.shop();
        Check.same("compile", fresh.compile("ab{1}{if 1}{else}{end}"), 0);
        Check.same("all tags count", fresh.about(2), 4);
        Check.same("merge", fresh.merge(), 3);
        Check.same("compile again", fresh.compile("{x}{"), 5);
        Check.same("no tags", fresh.about(2), 0);
        Check.same("no template", fresh.merge(), Desk.STATE);
        Check.same("the output stays", fresh.output(), "ab1");
        Check.same("a template again", fresh.merged("z"), "z");
    }
}
