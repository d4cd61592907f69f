theorem ts_0 : (Cond.stringRef "ManyOut$Reader" 107 "house") ∈ lw_tbl := List.mem_append_right _ (g_k3 (List.mem_of_getElem? (i := 60) (by decide +kernel)))
theorem ts_1 : (Cond.stringRef "ManyOut$Reader" 115 "row") ∈ lw_tbl := List.mem_append_right _ (g_k3 (List.mem_of_getElem? (i := 133) (by decide +kernel)))
theorem ts_2 : (Cond.stringRef "ManyOut$Reader" 129 "word") ∈ lw_tbl := List.mem_append_right _ (g_k3 (List.mem_of_getElem? (i := 158) (by decide +kernel)))
theorem ts_3 : (Cond.stringRef "ManyOut$Reader" 137 "worth") ∈ lw_tbl := List.mem_append_right _ (g_k3 (List.mem_of_getElem? (i := 167) (by decide +kernel)))
theorem ts_4 : (Cond.stringRef "ManyOut$Reader" 246 "sender") ∈ lw_tbl := List.mem_append_right _ (g_k3 (List.mem_of_getElem? (i := 200) (by decide +kernel)))
theorem ts_5 : (Cond.stringRef "ManyOut$Reader" 248 "square") ∈ lw_tbl := List.mem_append_right _ (g_k3 (List.mem_of_getElem? (i := 209) (by decide +kernel)))
theorem ts_6 : (Cond.stringRef "ManyOut$Reader" 250 "peak") ∈ lw_tbl := List.mem_append_right _ (g_k3 (List.mem_of_getElem? (i := 210) (by decide +kernel)))
theorem ts_7 : (Cond.stringRef "ManyOut$Reader" 252 "min") ∈ lw_tbl := List.mem_append_right _ (g_k3 (List.mem_of_getElem? (i := 211) (by decide +kernel)))
theorem ts_8 : (Cond.stringRef "ManyOut$Reader" 257 "max") ∈ lw_tbl := List.mem_append_right _ (g_k3 (List.mem_of_getElem? (i := 216) (by decide +kernel)))
theorem ts_9 : (Cond.stringRef "ManyOut$Reader" 199 "when") ∈ lw_tbl := List.mem_append_right _ (g_k3 (List.mem_of_getElem? (i := 217) (by decide +kernel)))
theorem ts_10 : (Cond.stringRef "ManyOut$Reader" 227 "not") ∈ lw_tbl := List.mem_append_right _ (g_k3 (List.mem_of_getElem? (i := 234) (by decide +kernel)))
theorem ts_11 : (Cond.stringRef "ManyOut$Reader" 235 "all") ∈ lw_tbl := List.mem_append_right _ (g_k3 (List.mem_of_getElem? (i := 235) (by decide +kernel)))
theorem ts_12 : (Cond.stringRef "ManyOut$Reader" 225 "and") ∈ lw_tbl := List.mem_append_right _ (g_k3 (List.mem_of_getElem? (i := 239) (by decide +kernel)))
theorem ts_13 : (Cond.stringRef "ManyOut$Reader" 217 "or") ∈ lw_tbl := List.mem_append_right _ (g_k4 (List.mem_of_getElem? (i := 0) (by decide +kernel)))
theorem ts_14 : (Cond.stringRef "ManyOut$Reader" 151 "limit") ∈ lw_tbl := List.mem_append_right _ (g_k4 (List.mem_of_getElem? (i := 5) (by decide +kernel)))
theorem ts_c : (Cond.laysStatic "java/lang/String" "COMPACT_STRINGS" "Z") ∈ lw_tbl := List.mem_append_right _ (g_k3 (List.mem_of_getElem? (i := 82) (by decide +kernel)))
theorem ts_f : (Cond.laysStatic "jdk/internal/util/Preconditions" "SIOOBE_FORMATTER" "Ljava/util/function/BiFunction;") ∈ lw_tbl := List.mem_append_right _ (g_k3 (List.mem_of_getElem? (i := 98) (by decide +kernel)))
theorem sm1x : ∀ i : Nat, i < 15 → (flatC (Jvm.Cond.and given_1 narrow_1))[([9, 18, 26, 36, 48, 62, 77, 91, 105, 120, 137, 154, 172, 191, 210].getD i 0)]? = some (Cond.exactly (Term.string "ManyOut$Reader" (idxS.getD i 0)) "java/lang/String") := by decide +kernel
theorem sm1 : ∀ i : Nat, i < 15 → (Cond.exactly (Term.string "ManyOut$Reader" (idxS.getD i 0)) "java/lang/String") ∈ (flatC (Jvm.Cond.and given_1 narrow_1)) := fun i hi => List.mem_of_getElem? (sm1x i hi)
theorem sm2x : ∀ i : Nat, i < 15 → (flatC (Jvm.Cond.and given_1 narrow_1))[([10, 19, 27, 37, 49, 63, 78, 92, 106, 121, 138, 155, 173, 192, 211].getD i 0)]? = some (Cond.eq (.field (Term.string "ManyOut$Reader" (idxS.getD i 0)) "java/lang/String" "coder" "B") (.int 0)) := by decide +kernel
theorem sm2 : ∀ i : Nat, i < 15 → (Cond.eq (.field (Term.string "ManyOut$Reader" (idxS.getD i 0)) "java/lang/String" "coder" "B") (.int 0)) ∈ (flatC (Jvm.Cond.and given_1 narrow_1)) := fun i hi => List.mem_of_getElem? (sm2x i hi)
theorem sm3x : ∀ i : Nat, i < 15 → (flatC (Jvm.Cond.and given_1 narrow_1))[([11, 20, 28, 38, 50, 64, 79, 93, 107, 122, 139, 156, 174, 193, 212].getD i 0)]? = some (Cond.arrayOf (.field (Term.string "ManyOut$Reader" (idxS.getD i 0)) "java/lang/String" "value" "[B") .byte) := by decide +kernel
theorem sm3 : ∀ i : Nat, i < 15 → (Cond.arrayOf (.field (Term.string "ManyOut$Reader" (idxS.getD i 0)) "java/lang/String" "value" "[B") .byte) ∈ (flatC (Jvm.Cond.and given_1 narrow_1)) := fun i hi => List.mem_of_getElem? (sm3x i hi)
theorem sm4 : ∀ i : Nat, i < 15 → (Cond.eq (.length (.field (Term.string "ManyOut$Reader" (idxS.getD i 0)) "java/lang/String" "value" "[B")) (.int (Int32.ofNat (lenS.getD i 0)))) ∈ (flatC (Jvm.Cond.and given_1 narrow_1)) := by decide +kernel
theorem sm5 : ∀ i : Nat, i < 15 → ∀ j : Nat, j < lenS.getD i 0 → (Cond.eq (.elem (.field (Term.string "ManyOut$Reader" (idxS.getD i 0)) "java/lang/String" "value" "[B") (.int (Int32.ofNat j))) (.int ((bytS.getD i []).getD j 0))) ∈ (flatC (Jvm.Cond.and given_1 narrow_1)) := by decide +kernel
theorem sn0x : ∀ j : Nat, j < 15 → 0 < j → (flatC (Jvm.Cond.and given_1 narrow_1))[([0, 25, 34, 45, 58, 72, 85, 98, 112, 128, 144, 161, 179, 197, 219].getD j 0)]? = some (Cond.not (Cond.eq (Term.string "ManyOut$Reader" 107) (Term.string "ManyOut$Reader" (idxS.getD j 0)))) := by decide +kernel
theorem sn0 : ∀ j : Nat, j < 15 → 0 < j → (Cond.not (Cond.eq (Term.string "ManyOut$Reader" 107) (Term.string "ManyOut$Reader" (idxS.getD j 0)))) ∈ (flatC (Jvm.Cond.and given_1 narrow_1)) := fun j hj h => List.mem_of_getElem? (sn0x j hj h)
theorem sn1x : ∀ j : Nat, j < 15 → 1 < j → (flatC (Jvm.Cond.and given_1 narrow_1))[([0, 0, 35, 46, 59, 73, 86, 99, 113, 129, 145, 162, 180, 198, 220].getD j 0)]? = some (Cond.not (Cond.eq (Term.string "ManyOut$Reader" 115) (Term.string "ManyOut$Reader" (idxS.getD j 0)))) := by decide +kernel
theorem sn1 : ∀ j : Nat, j < 15 → 1 < j → (Cond.not (Cond.eq (Term.string "ManyOut$Reader" 115) (Term.string "ManyOut$Reader" (idxS.getD j 0)))) ∈ (flatC (Jvm.Cond.and given_1 narrow_1)) := fun j hj h => List.mem_of_getElem? (sn1x j hj h)
theorem sn2x : ∀ j : Nat, j < 15 → 2 < j → (flatC (Jvm.Cond.and given_1 narrow_1))[([0, 0, 0, 47, 60, 74, 87, 100, 114, 130, 146, 163, 181, 199, 221].getD j 0)]? = some (Cond.not (Cond.eq (Term.string "ManyOut$Reader" 129) (Term.string "ManyOut$Reader" (idxS.getD j 0)))) := by decide +kernel
theorem sn2 : ∀ j : Nat, j < 15 → 2 < j → (Cond.not (Cond.eq (Term.string "ManyOut$Reader" 129) (Term.string "ManyOut$Reader" (idxS.getD j 0)))) ∈ (flatC (Jvm.Cond.and given_1 narrow_1)) := fun j hj h => List.mem_of_getElem? (sn2x j hj h)
theorem sn3x : ∀ j : Nat, j < 15 → 3 < j → (flatC (Jvm.Cond.and given_1 narrow_1))[([0, 0, 0, 0, 61, 75, 88, 101, 115, 131, 147, 164, 182, 200, 222].getD j 0)]? = some (Cond.not (Cond.eq (Term.string "ManyOut$Reader" 137) (Term.string "ManyOut$Reader" (idxS.getD j 0)))) := by decide +kernel
theorem sn3 : ∀ j : Nat, j < 15 → 3 < j → (Cond.not (Cond.eq (Term.string "ManyOut$Reader" 137) (Term.string "ManyOut$Reader" (idxS.getD j 0)))) ∈ (flatC (Jvm.Cond.and given_1 narrow_1)) := fun j hj h => List.mem_of_getElem? (sn3x j hj h)
theorem sn4x : ∀ j : Nat, j < 15 → 4 < j → (flatC (Jvm.Cond.and given_1 narrow_1))[([0, 0, 0, 0, 0, 76, 89, 102, 116, 132, 148, 165, 183, 201, 223].getD j 0)]? = some (Cond.not (Cond.eq (Term.string "ManyOut$Reader" 246) (Term.string "ManyOut$Reader" (idxS.getD j 0)))) := by decide +kernel
theorem sn4 : ∀ j : Nat, j < 15 → 4 < j → (Cond.not (Cond.eq (Term.string "ManyOut$Reader" 246) (Term.string "ManyOut$Reader" (idxS.getD j 0)))) ∈ (flatC (Jvm.Cond.and given_1 narrow_1)) := fun j hj h => List.mem_of_getElem? (sn4x j hj h)
theorem sn5x : ∀ j : Nat, j < 15 → 5 < j → (flatC (Jvm.Cond.and given_1 narrow_1))[([0, 0, 0, 0, 0, 0, 90, 103, 117, 133, 149, 166, 184, 202, 224].getD j 0)]? = some (Cond.not (Cond.eq (Term.string "ManyOut$Reader" 248) (Term.string "ManyOut$Reader" (idxS.getD j 0)))) := by decide +kernel
theorem sn5 : ∀ j : Nat, j < 15 → 5 < j → (Cond.not (Cond.eq (Term.string "ManyOut$Reader" 248) (Term.string "ManyOut$Reader" (idxS.getD j 0)))) ∈ (flatC (Jvm.Cond.and given_1 narrow_1)) := fun j hj h => List.mem_of_getElem? (sn5x j hj h)
theorem sn6x : ∀ j : Nat, j < 15 → 6 < j → (flatC (Jvm.Cond.and given_1 narrow_1))[([0, 0, 0, 0, 0, 0, 0, 104, 118, 134, 150, 167, 185, 203, 225].getD j 0)]? = some (Cond.not (Cond.eq (Term.string "ManyOut$Reader" 250) (Term.string "ManyOut$Reader" (idxS.getD j 0)))) := by decide +kernel
theorem sn6 : ∀ j : Nat, j < 15 → 6 < j → (Cond.not (Cond.eq (Term.string "ManyOut$Reader" 250) (Term.string "ManyOut$Reader" (idxS.getD j 0)))) ∈ (flatC (Jvm.Cond.and given_1 narrow_1)) := fun j hj h => List.mem_of_getElem? (sn6x j hj h)
theorem sn7x : ∀ j : Nat, j < 15 → 7 < j → (flatC (Jvm.Cond.and given_1 narrow_1))[([0, 0, 0, 0, 0, 0, 0, 0, 119, 135, 151, 168, 186, 204, 226].getD j 0)]? = some (Cond.not (Cond.eq (Term.string "ManyOut$Reader" 252) (Term.string "ManyOut$Reader" (idxS.getD j 0)))) := by decide +kernel
theorem sn7 : ∀ j : Nat, j < 15 → 7 < j → (Cond.not (Cond.eq (Term.string "ManyOut$Reader" 252) (Term.string "ManyOut$Reader" (idxS.getD j 0)))) ∈ (flatC (Jvm.Cond.and given_1 narrow_1)) := fun j hj h => List.mem_of_getElem? (sn7x j hj h)
theorem sn8x : ∀ j : Nat, j < 15 → 8 < j → (flatC (Jvm.Cond.and given_1 narrow_1))[([0, 0, 0, 0, 0, 0, 0, 0, 0, 136, 152, 169, 187, 205, 227].getD j 0)]? = some (Cond.not (Cond.eq (Term.string "ManyOut$Reader" 257) (Term.string "ManyOut$Reader" (idxS.getD j 0)))) := by decide +kernel
theorem sn8 : ∀ j : Nat, j < 15 → 8 < j → (Cond.not (Cond.eq (Term.string "ManyOut$Reader" 257) (Term.string "ManyOut$Reader" (idxS.getD j 0)))) ∈ (flatC (Jvm.Cond.and given_1 narrow_1)) := fun j hj h => List.mem_of_getElem? (sn8x j hj h)
theorem sn9x : ∀ j : Nat, j < 15 → 9 < j → (flatC (Jvm.Cond.and given_1 narrow_1))[([0, 0, 0, 0, 0, 0, 0, 0, 0, 0, 153, 170, 188, 206, 228].getD j 0)]? = some (Cond.not (Cond.eq (Term.string "ManyOut$Reader" 199) (Term.string "ManyOut$Reader" (idxS.getD j 0)))) := by decide +kernel
theorem sn9 : ∀ j : Nat, j < 15 → 9 < j → (Cond.not (Cond.eq (Term.string "ManyOut$Reader" 199) (Term.string "ManyOut$Reader" (idxS.getD j 0)))) ∈ (flatC (Jvm.Cond.and given_1 narrow_1)) := fun j hj h => List.mem_of_getElem? (sn9x j hj h)
theorem sn10x : ∀ j : Nat, j < 15 → 10 < j → (flatC (Jvm.Cond.and given_1 narrow_1))[([0, 0, 0, 0, 0, 0, 0, 0, 0, 0, 0, 171, 189, 207, 229].getD j 0)]? = some (Cond.not (Cond.eq (Term.string "ManyOut$Reader" 227) (Term.string "ManyOut$Reader" (idxS.getD j 0)))) := by decide +kernel
theorem sn10 : ∀ j : Nat, j < 15 → 10 < j → (Cond.not (Cond.eq (Term.string "ManyOut$Reader" 227) (Term.string "ManyOut$Reader" (idxS.getD j 0)))) ∈ (flatC (Jvm.Cond.and given_1 narrow_1)) := fun j hj h => List.mem_of_getElem? (sn10x j hj h)
theorem sn11x : ∀ j : Nat, j < 15 → 11 < j → (flatC (Jvm.Cond.and given_1 narrow_1))[([0, 0, 0, 0, 0, 0, 0, 0, 0, 0, 0, 0, 190, 208, 230].getD j 0)]? = some (Cond.not (Cond.eq (Term.string "ManyOut$Reader" 235) (Term.string "ManyOut$Reader" (idxS.getD j 0)))) := by decide +kernel
theorem sn11 : ∀ j : Nat, j < 15 → 11 < j → (Cond.not (Cond.eq (Term.string "ManyOut$Reader" 235) (Term.string "ManyOut$Reader" (idxS.getD j 0)))) ∈ (flatC (Jvm.Cond.and given_1 narrow_1)) := fun j hj h => List.mem_of_getElem? (sn11x j hj h)
theorem sn12x : ∀ j : Nat, j < 15 → 12 < j → (flatC (Jvm.Cond.and given_1 narrow_1))[([0, 0, 0, 0, 0, 0, 0, 0, 0, 0, 0, 0, 0, 209, 231].getD j 0)]? = some (Cond.not (Cond.eq (Term.string "ManyOut$Reader" 225) (Term.string "ManyOut$Reader" (idxS.getD j 0)))) := by decide +kernel
theorem sn12 : ∀ j : Nat, j < 15 → 12 < j → (Cond.not (Cond.eq (Term.string "ManyOut$Reader" 225) (Term.string "ManyOut$Reader" (idxS.getD j 0)))) ∈ (flatC (Jvm.Cond.and given_1 narrow_1)) := fun j hj h => List.mem_of_getElem? (sn12x j hj h)
theorem sn13x : ∀ j : Nat, j < 15 → 13 < j → (flatC (Jvm.Cond.and given_1 narrow_1))[([0, 0, 0, 0, 0, 0, 0, 0, 0, 0, 0, 0, 0, 0, 232].getD j 0)]? = some (Cond.not (Cond.eq (Term.string "ManyOut$Reader" 217) (Term.string "ManyOut$Reader" (idxS.getD j 0)))) := by decide +kernel
theorem sn13 : ∀ j : Nat, j < 15 → 13 < j → (Cond.not (Cond.eq (Term.string "ManyOut$Reader" 217) (Term.string "ManyOut$Reader" (idxS.getD j 0)))) ∈ (flatC (Jvm.Cond.and given_1 narrow_1)) := fun j hj h => List.mem_of_getElem? (sn13x j hj h)
theorem sm6 : ∀ i j : Nat, i < 15 → j < 15 → i < j → (Cond.not (Cond.eq (Term.string "ManyOut$Reader" (idxS.getD i 0)) (Term.string "ManyOut$Reader" (idxS.getD j 0)))) ∈ (flatC (Jvm.Cond.and given_1 narrow_1)) := by
  intro i j hi hj h
  match i, hi with
  | 0, _ => exact sn0 j hj h
  | 1, _ => exact sn1 j hj h
  | 2, _ => exact sn2 j hj h
  | 3, _ => exact sn3 j hj h
  | 4, _ => exact sn4 j hj h
  | 5, _ => exact sn5 j hj h
  | 6, _ => exact sn6 j hj h
  | 7, _ => exact sn7 j hj h
  | 8, _ => exact sn8 j hj h
  | 9, _ => exact sn9 j hj h
  | 10, _ => exact sn10 j hj h
  | 11, _ => exact sn11 j hj h
  | 12, _ => exact sn12 j hj h
  | 13, _ => exact sn13 j hj h
  | i + 14, hi => exact absurd h (by omega)
theorem sm7 : (Cond.eq (.static "java/lang/String" "COMPACT_STRINGS" "Z") (.int 1)) ∈ (flatC (Jvm.Cond.and given_1 narrow_1)) := by decide +kernel
theorem sm8 : (Cond.isRef (.static "jdk/internal/util/Preconditions" "SIOOBE_FORMATTER" "Ljava/util/function/BiFunction;")) ∈ (flatC (Jvm.Cond.and given_1 narrow_1)) := by decide +kernel
theorem sml : ∀ i : Nat, i < 15 → lenS.getD i 0 < 2 ^ 31 := by decide +kernel
theorem s_setup {p : Program} {s : State} {m : MethodId} {meth : Method} {c : Code} {b L : Nat} {xs : Nat → Int32} (C0 : lw_At p s m meth c b L xs) : ∃ adK adV : Nat → Nat, sF adK adV (fun q : Nat => s.heap.size ≤ q) s s.heap := by
  obtain ⟨hx, hb, hr, hml, hown, hts0, hX, hbl, hlocks, hgv⟩ := id C0
  have hs := flat_of_before _ hgv
  have hA : ∀ a : Nat, a < s.heap.size → ¬ (fun q : Nat => s.heap.size ≤ q) a := fun a h => Nat.not_le.mpr h
  obtain ⟨adK, adV, h1, h2⟩ := vk_Sof (args := #[Value.ref b]) (s := s) (N := 15) (tm := fun i => Term.string "ManyOut$Reader" (idxS.getD i 0)) (len := lenS) (byt := bytS) (A := (fun q : Nat => s.heap.size ≤ q)) sml (fun i hi => hs _ (sm1 i hi)) (fun i hi => hs _ (sm2 i hi)) (fun i hi => hs _ (sm3 i hi)) (fun i hi => hs _ (sm4 i hi)) (fun i hi j hj => hs _ (sm5 i hi j hj)) (fun i j hi hj hn => (Nat.lt_or_gt_of_ne hn).elim (fun h => Or.inl (hs _ (sm6 i j hi hj h))) (fun h => Or.inr (hs _ (sm6 j i hj hi h)))) hA
  refine ⟨adK, adV, h1, fun i hi => ?_, va_Zof (hts0 _ ts_c) (g_tbl hts0 _ tw_15) (va_eqi (hs _ sm7)) hA, va_Zqof (hts0 _ ts_f) (g_tbl hts0 _ tw_17) (hs _ sm8) hA⟩
  refine vk_R.of (A := #[Value.ref b]) ?_ (h2 i hi)
  match i, hi with
  | 0, _ => exact hts0 _ ts_0
  | 1, _ => exact hts0 _ ts_1
  | 2, _ => exact hts0 _ ts_2
  | 3, _ => exact hts0 _ ts_3
  | 4, _ => exact hts0 _ ts_4
  | 5, _ => exact hts0 _ ts_5
  | 6, _ => exact hts0 _ ts_6
  | 7, _ => exact hts0 _ ts_7
  | 8, _ => exact hts0 _ ts_8
  | 9, _ => exact hts0 _ ts_9
  | 10, _ => exact hts0 _ ts_10
  | 11, _ => exact hts0 _ ts_11
  | 12, _ => exact hts0 _ ts_12
  | 13, _ => exact hts0 _ ts_13
  | 14, _ => exact hts0 _ ts_14
  | i + 15, hi => exact absurd hi (by omega)
