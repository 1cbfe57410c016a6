section GFIELDS
variable {p : Program} {l : Launch} {e : Env} {R : Room} {s : State} {m : MethodId} {args : Array Value} {below : List Frame} {meth : Method} {c : Code} {n0 : Nat} {D : va_G} {cA : Nat → ClassId} {nL : Nat} {Q : State → Prop} {cells slots : Nat} {M : gM} {sz pc n : Nat} {L : List (Nat × Value)} {st : List Value} {own : String} {cc : ByteArray}
