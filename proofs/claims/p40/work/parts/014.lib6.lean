section
/-! calls with a part of the world that nobody looks into -/
section G6
variable {p : Program} {l : Launch} {e : Env} {R : Room} {s : State} {m : MethodId} {args : Array Value} {below : List Frame} {meth : Method} {c : Code} {H : Heap} {locs : List Loc} {cells slots : Nat} {Q : State → Prop}
variable {cc : ByteArray} {pc : Nat} {ls : Array Slot} {rest st0 : List Value} {D : va_G} {A A0 : Nat → Prop} {a : Nat} {tys : List (ClassId × FieldType)} {ws wc wr pl : va_W} {H0 : Heap} {mc ms : Nat} {av : Array Value} {w1 : gEx → va_W}
end G6
end
section
section G7
variable {p : Program} {l : Launch} {e : Env} {R : Room} {s : State} {m : MethodId} {args : Array Value} {below : List Frame} {meth : Method} {c : Code} {cells slots : Nat} {Q : State → Prop} {H : Heap} {locs : List Loc} {pc : Nat} {ls : Array Slot} {rest : List Value} {cc : ByteArray}
end G7
/-! the reference's led table: which step comes next is settled by the table alone -/
end
