/** One call of the face, with its arguments. */
record Call(String name, int... arguments) {
    int on(LogicSmith s) {
        int[] a = arguments;
        switch (name) {
            case "function": return s.function(a[0]);
            case "put": return s.put(a[0], a[1], a[2]);
            case "bits": return s.bits(a[0], a[1], a[2], a[3]);
            case "tear": return s.tear(a[0], a[1], a[2]);
            case "at": return s.at(a[0], a[1]);
            case "places": return s.places(a[0], a[1]);
            case "take": return s.take(a[0], a[1], a[2]);
            case "primes": return s.primes(a[0]);
            case "prime": return s.prime(a[0], a[1]);
            case "least": return s.least(a[0]);
            case "summed": return s.summed(a[0]);
            case "letters": return s.letters();
            case "graph": return s.graph(a[0], a[1]);
            case "order": return s.order(a[0]);
            case "net": return s.net(a[0]);
            case "gate": return s.gate(a[0], a[1], a[2], a[3]);
            case "keep": return s.keep(a[0], a[1], a[2]);
            case "out": return s.out(a[0], a[1], a[2]);
            case "told": return s.told(a[0], a[1], a[2]);
            case "output": return s.output(a[0], a[1]);
            case "value": return s.value(a[0], a[1], a[2]);
            case "same": return s.same(a[0], a[1]);
            case "parts": return s.parts(a[0], a[1]);
            case "comes": return s.comes(a[0], a[1]);
            case "cared": return s.cared(a[0], a[1]);
            case "shape": return s.shape(a[0]);
            case "step": return s.step(a[0], a[1]);
            case "back": return s.back(a[0]);
            case "weight": return s.weight(a[0]);
            case "count": return s.count(a[0]);
            case "remove": return s.remove(a[0]);
            default: throw new IllegalArgumentException(name);
        }
    }

    Call with(int place, int value) {
        int[] a = arguments.clone();
        a[place] = value;
        return new Call(name, a);
    }

    @Override
    public String toString() {
        StringBuilder text = new StringBuilder(name).append('(');
        for (int i = 0; i < arguments.length; i++) {
            text.append(i == 0 ? "" : ", ").append(arguments[i]);
        }
        return text.append(')').toString();
    }
}
