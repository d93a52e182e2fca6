/** The class under test behind the calls that are told by name. */
final class Program implements Guild {
    private final GivensGuild guild = new GivensGuild();

    @Override
    public String ask(String call, int... arguments) {
        try {
            return answer(call, arguments);
        } catch (RuntimeException e) {
            return e.getClass().getSimpleName();
        }
    }

    private String answer(String call, int... a) {
        switch (call) {
            case "addClass": return "" + guild.addClass((char) a[0], (char) a[1], a[2] != 0);
            case "extend": return "" + guild.extend(a[0], a[1], a[2]);
            case "lineSize": return "" + guild.lineSize(a[0]);
            case "lineAt": return "" + guild.lineAt(a[0], a[1]);
            case "variable": return "" + guild.variable();
            case "lay": return "" + guild.lay(a[0], a[1]);
            case "number": return "" + guild.number(a[0]);
            case "base": return "" + guild.base(a[0], a[1]);
            case "isBelow": return "" + guild.isBelow(a[0], a[1]);
            case "define": return "" + guild.define(a[0], a[1], (char) a[2], a[3], a[4]);
            case "defineField": return "" + guild.defineField(a[0], a[1], a[2], a[3]);
            case "isAdmitted": return "" + guild.isAdmitted(a[0]);
            case "call": return "" + guild.call(a[0], a[1]);
            case "callAnew": return "" + guild.callAnew(a[0], a[1]);
            case "definer": return "" + guild.definer(a[0], a[1]);
            case "fieldOf": return "" + guild.fieldOf(a[0], a[1]);
            case "openScope": return "" + guild.openScope(a[0]);
            case "give": return "" + guild.give(a[0], a[1], a[2], a[3]);
            case "giveBeside": return "" + guild.giveBeside(a[0], a[1], a[2], a[3]);
            case "look": return "" + guild.look(a[0], a[1]);
            case "find": return "" + guild.find(a[0], a[1]);
            case "findAnew": return "" + guild.findAnew(a[0], a[1]);
            case "used": return "" + guild.used(a[0], a[1]);
            case "leaves": return "" + guild.leaves(a[0]);
            case "missing": return "" + guild.missing(a[0], a[1]);
            case "needless": return "" + guild.needless(a[0], a[1]);
            case "compared": return "" + guild.compared();
            case "admittedShare": return "" + guild.admittedShare();
            case "meanLine": return "" + guild.meanLine();
            case "isSound": return "" + guild.isSound();
            default: throw new Error("no such call: " + call);
        }
    }
}
