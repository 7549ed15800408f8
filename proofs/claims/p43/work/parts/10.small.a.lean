
section QR
variable {p : Program} {l : Launch} {e : Env} {R : Room} {s : State} {m : MethodId} {args : Array Value} {below : List Frame} {meth : Method} {c : Code} {H : Heap} {locs : List Loc} {cells slots : Nat} {Q : State → Prop}
variable {cc : ByteArray} {pc nL : Nat} {ls : Array Slot} {rest : List Value} {g : q_G} {K : Nat → Nat} {L : List Nat} {A : Nat → Prop} {w : q_Ws} {f0 f : Nat → va_E} {a : Nat}

end QR
