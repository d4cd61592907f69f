/-! string constants: what every start of a method that reads words knows of them -/
def lenS : List Nat := [5, 3, 4, 5, 6, 6, 4, 3, 3, 4, 3, 3, 3, 2, 5]
def bytS : List (List Int32) := [[104, 111, 117, 115, 101], [114, 111, 119], [119, 111, 114, 100], [119, 111, 114, 116, 104], [115, 101, 110, 100, 101, 114], [115, 113, 117, 97, 114, 101], [112, 101, 97, 107], [109, 105, 110], [109, 97, 120], [119, 104, 101, 110], [110, 111, 116], [97, 108, 108], [97, 110, 100], [111, 114], [108, 105, 109, 105, 116]]
def idxS : List Nat := [107, 115, 129, 137, 246, 248, 250, 252, 257, 199, 227, 235, 225, 217, 151]
def txS : List String := ["house", "row", "word", "worth", "sender", "square", "peak", "min", "max", "when", "not", "all", "and", "or", "limit"]
def sF (adK adV : Nat → Nat) (A : Nat → Prop) (U : State) (H : Heap) : Prop := vk_S 15 lenS bytS adK adV A U H ∧ (∀ i : Nat, i < 15 → vk_R "ManyOut$Reader" (idxS.getD i 0) (txS.getD i "") (adK i) U) ∧ va_Z "java/lang/String" "COMPACT_STRINGS" "Z" (.int 1) A U H ∧ va_Zq "jdk/internal/util/Preconditions" "SIOOBE_FORMATTER" "Ljava/util/function/BiFunction;" A U H
theorem sF.moved {adK adV : Nat → Nat} {A : Nat → Prop} {s U : State} {H : Heap} (hW : s.WarmedH U.vm) (h : sF adK adV A s H) : sF adK adV A U H :=
  ⟨vk_S.moved hW.alike h.1, fun i hi => vk_R.warm hW (h.2.1 i hi), va_Z.moved hW.alike h.2.2.1, va_Zq.moved hW.alike h.2.2.2⟩
theorem sF.kept {adK adV : Nat → Nat} {A : Nat → Prop} {U : State} {H H1 : Heap} (h : sF adK adV A U H) (hq : ∀ a : Nat, a < H.size → ¬ A a → H1[a]? = H[a]?) : sF adK adV A U H1 :=
  ⟨vk_S.kept h.1 hq, h.2.1, va_Z.kept h.2.2.1 hq, va_Zq.kept h.2.2.2 hq⟩
theorem sF.narrow {adK adV : Nat → Nat} {A B : Nat → Prop} {U : State} {H : Heap} (h : sF adK adV A U H) (hAB : ∀ q, B q → A q) : sF adK adV B U H :=
  ⟨vk_S.narrow h.1 hAB, h.2.1, va_Z.narrow h.2.2.1 hAB, va_Zq.narrow h.2.2.2 hAB⟩
