section
/-! bytes fed, the same on both sides -/
section GF
variable {p : Program} {l : Launch} {e : Env} {R : Room} {s : State} {m : MethodId} {args : Array Value} {below : List Frame} {meth : Method} {c : Code} {cells slots : Nat} {Q : State → Prop} {D : va_G} {tys : List (ClassId × FieldType)} {ws : va_W} {H H0 : Heap} {locs : List Loc} {A : Nat → Prop} {a pc : Nat} {ls : Array Slot} {rest : List Value} {cc : ByteArray}
end GF
/-! the two tapes alike -/
end
