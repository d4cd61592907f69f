def cX_1 (cB cC cI cJ : ClassId) (u : gEx) : Nat × va_E := ((u.1 1), .inr (4, [.ref (u.1 2), .ref (u.1 14), .int (u.2.2.2.1 1), .int (u.2.2.2.1 2), .int (u.2.2.2.1 3), .int (u.2.2.2.1 4), .int (u.2.2.2.1 5), .int (u.2.2.2.1 6)]))
def cX_2 (cB cC cI cJ : ClassId) (u : gEx) : Nat × va_E := ((u.1 2), .inr (9, [.ref (u.1 15), .int (u.2.2.2.1 7)]))
def cX_3 (cB cC cI cJ : ClassId) (u : gEx) : Nat × va_E := ((u.1 3), .inr (7, [.ref (u.1 16), .ref (u.1 17), .ref (u.1 18), .ref (u.1 19), .ref (u.1 20), .ref (u.1 21), .ref (u.1 22), .ref (u.1 23), .int (u.2.2.2.1 8), .long (u.2.2.2.2 0), .int (u.2.2.2.1 9)]))
def cX_4 (cB cC cI cJ : ClassId) (u : gEx) : Nat × va_E := ((u.1 4), .inr (6, [.ref (u.1 24), .ref (u.1 25), .ref (u.1 26), .long (u.2.2.2.2 1)]))
def cX_5 (cB cC cI cJ : ClassId) (u : gEx) : Nat × va_E := ((u.1 5), .inr (0, [.ref (u.1 27), .ref (u.1 28), .int (u.2.2.2.1 10), .int (u.2.2.2.1 11), .long (u.2.2.2.2 2), .int (u.2.2.2.1 12), .int (u.2.2.2.1 13)]))
def cX_6 (cB cC cI cJ : ClassId) (u : gEx) : Nat × va_E := ((u.1 6), .inr (3, [.ref (u.1 29), .ref (u.1 30), .ref (u.1 31), .ref (u.1 32), .ref (u.1 33), .ref (u.1 34), .long (u.2.2.2.2 3), .int (u.2.2.2.1 14), .long (u.2.2.2.2 4), .long (u.2.2.2.2 5)]))
def cX_7 (cB cC cI cJ : ClassId) (u : gEx) : Nat × va_E := ((u.1 7), .inl (cI, 6, .inl (u.2.1 0)))
def cX_8 (cB cC cI cJ : ClassId) (u : gEx) : Nat × va_E := ((u.1 8), .inl (cI, 5, .inl (u.2.1 1)))
def cX_9 (cB cC cI cJ : ClassId) (u : gEx) : Nat × va_E := ((u.1 9), .inl (cI, 5, .inl (u.2.1 2)))
def cX_10 (cB cC cI cJ : ClassId) (u : gEx) : Nat × va_E := ((u.1 10), .inl (cI, 14, .inl (u.2.1 3)))
def cX_12 (cB cC cI cJ : ClassId) (u : gEx) : Nat × va_E := ((u.1 12), .inr (2, [.ref (u.1 38), .ref (u.1 39), .ref (u.1 40), .int (u.2.2.2.1 22), .int (u.2.2.2.1 23), .int (u.2.2.2.1 24), .int (u.2.2.2.1 25), .int (u.2.2.2.1 26)]))
def cX_13 (cB cC cI cJ : ClassId) (u : gEx) : Nat × va_E := ((u.1 13), .inr (2, [.ref (u.1 41), .ref (u.1 42), .ref (u.1 43), .int (u.2.2.2.1 27), .int (u.2.2.2.1 28), .int (u.2.2.2.1 29), .int (u.2.2.2.1 30), .int (u.2.2.2.1 31)]))
def cX_14 (cB cC cI cJ : ClassId) (u : gEx) : Nat × va_E := ((u.1 14), .inr (1, [.ref (u.1 44), .ref (u.1 45), .ref (u.1 46), .int (u.2.2.2.1 32), .int (u.2.2.2.1 33), .int (u.2.2.2.1 34), .int (u.2.2.2.1 35), .int (u.2.2.2.1 36), .int (u.2.2.2.1 37), .int (u.2.2.2.1 38)]))
def cX_15 (cB cC cI cJ : ClassId) (u : gEx) : Nat × va_E := ((u.1 15), .inl (cB, 1600, .inl (u.2.1 4)))
def cX_16 (cB cC cI cJ : ClassId) (u : gEx) : Nat × va_E := ((u.1 16), .inr (10, [.ref (u.1 47), .ref (u.1 48), .ref (u.1 49), .ref (u.1 50), .ref (u.1 51), .ref (u.1 52), .ref (u.1 53), .int (u.2.2.2.1 39)]))
def cX_17 (cB cC cI cJ : ClassId) (u : gEx) : Nat × va_E := ((u.1 17), .inl (cJ, 10, .inr (.inl (u.2.2.1 0))))
def cX_18 (cB cC cI cJ : ClassId) (u : gEx) : Nat × va_E := ((u.1 18), .inl (cI, 10, .inl (u.2.1 5)))
def cX_19 (cB cC cI cJ : ClassId) (u : gEx) : Nat × va_E := ((u.1 19), .inl (cJ, 40, .inr (.inl (u.2.2.1 1))))
def cX_20 (cB cC cI cJ : ClassId) (u : gEx) : Nat × va_E := ((u.1 20), .inl (cJ, 40, .inr (.inl (u.2.2.1 2))))
def cX_21 (cB cC cI cJ : ClassId) (u : gEx) : Nat × va_E := ((u.1 21), .inl (cI, 5, .inl (u.2.1 6)))
def cX_22 (cB cC cI cJ : ClassId) (u : gEx) : Nat × va_E := ((u.1 22), .inl (cI, 5, .inl (u.2.1 7)))
def cX_23 (cB cC cI cJ : ClassId) (u : gEx) : Nat × va_E := ((u.1 23), .inl (cI, 6, .inl (u.2.1 8)))
def cX_24 (cB cC cI cJ : ClassId) (u : gEx) : Nat × va_E := ((u.1 24), .inr (10, [.ref (u.1 54), .ref (u.1 55), .ref (u.1 56), .ref (u.1 57), .ref (u.1 58), .ref (u.1 59), .ref (u.1 60), .int (u.2.2.2.1 40)]))
def cX_25 (cB cC cI cJ : ClassId) (u : gEx) : Nat × va_E := ((u.1 25), .inl (cI, 5, .inl (u.2.1 9)))
def cX_26 (cB cC cI cJ : ClassId) (u : gEx) : Nat × va_E := ((u.1 26), .inl (cJ, 32, .inr (.inl (u.2.2.1 3))))
def cX_27 (cB cC cI cJ : ClassId) (u : gEx) : Nat × va_E := ((u.1 27), .inl (cJ, 256, .inr (.inl (u.2.2.1 4))))
def cX_28 (cB cC cI cJ : ClassId) (u : gEx) : Nat × va_E := ((u.1 28), .inl (cI, 5, .inl (u.2.1 10)))
def cX_29 (cB cC cI cJ : ClassId) (u : gEx) : Nat × va_E := ((u.1 29), .inr (10, [.ref (u.1 61), .ref (u.1 62), .ref (u.1 63), .ref (u.1 64), .ref (u.1 65), .ref (u.1 66), .ref (u.1 67), .int (u.2.2.2.1 41)]))
def cX_30 (cB cC cI cJ : ClassId) (u : gEx) : Nat × va_E := ((u.1 30), .inl (cI, 5, .inl (u.2.1 11)))
def cX_31 (cB cC cI cJ : ClassId) (u : gEx) : Nat × va_E := ((u.1 31), .inl (cI, 5, .inl (u.2.1 12)))
def cX_32 (cB cC cI cJ : ClassId) (u : gEx) : Nat × va_E := ((u.1 32), .inl (cI, 5, .inl (u.2.1 13)))
def cX_33 (cB cC cI cJ : ClassId) (u : gEx) : Nat × va_E := ((u.1 33), .inl (cI, 5, .inl (u.2.1 14)))
def cX_34 (cB cC cI cJ : ClassId) (u : gEx) : Nat × va_E := ((u.1 34), .inl (cJ, 5, .inr (.inl (u.2.2.1 5))))
def cX_36 (cB cC cI cJ : ClassId) (u : gEx) : Nat × va_E := ((u.1 36), .inr (5, [.ref (u.1 69), .ref (u.1 70), .ref (u.1 71), .ref (u.1 72), .ref (u.1 73), .int (u.2.2.2.1 42), .int (u.2.2.2.1 43)]))
def cX_37 (cB cC cI cJ : ClassId) (u : gEx) : Nat × va_E := ((u.1 37), .inl (cI, 80, .inl (u.2.1 15)))
def cX_38 (cB cC cI cJ : ClassId) (u : gEx) : Nat × va_E := ((u.1 38), .inr (8, [.ref (u.1 74)]))
def cX_39 (cB cC cI cJ : ClassId) (u : gEx) : Nat × va_E := ((u.1 39), .inl (cJ, 25, .inr (.inl (u.2.2.1 6))))
def cX_40 (cB cC cI cJ : ClassId) (u : gEx) : Nat × va_E := ((u.1 40), .inl (cI, 120, .inl (u.2.1 16)))
def cX_41 (cB cC cI cJ : ClassId) (u : gEx) : Nat × va_E := ((u.1 41), .inr (8, [.ref (u.1 75)]))
def cX_42 (cB cC cI cJ : ClassId) (u : gEx) : Nat × va_E := ((u.1 42), .inl (cJ, 25, .inr (.inl (u.2.2.1 7))))
def cX_43 (cB cC cI cJ : ClassId) (u : gEx) : Nat × va_E := ((u.1 43), .inl (cI, 120, .inl (u.2.1 17)))
def cX_44 (cB cC cI cJ : ClassId) (u : gEx) : Nat × va_E := ((u.1 44), .inr (8, [.ref (u.1 76)]))
def cX_45 (cB cC cI cJ : ClassId) (u : gEx) : Nat × va_E := ((u.1 45), .inr (5, [.ref (u.1 77), .ref (u.1 78), .ref (u.1 79), .ref (u.1 80), .ref (u.1 81), .int (u.2.2.2.1 44), .int (u.2.2.2.1 45)]))
def cX_46 (cB cC cI cJ : ClassId) (u : gEx) : Nat × va_E := ((u.1 46), .inl (cI, 80, .inl (u.2.1 18)))
def cX_47 (cB cC cI cJ : ClassId) (u : gEx) : Nat × va_E := ((u.1 47), .inl (cJ, 25, .inr (.inl (u.2.2.1 8))))
def cX_48 (cB cC cI cJ : ClassId) (u : gEx) : Nat × va_E := ((u.1 48), .inl (cJ, 5, .inr (.inl (u.2.2.1 9))))
def cX_49 (cB cC cI cJ : ClassId) (u : gEx) : Nat × va_E := ((u.1 49), .inl (cJ, 25, .inr (.inl (u.2.2.1 10))))
def cX_50 (cB cC cI cJ : ClassId) (u : gEx) : Nat × va_E := ((u.1 50), .inl (cI, 5, .inl (u.2.1 19)))
def cX_51 (cB cC cI cJ : ClassId) (u : gEx) : Nat × va_E := ((u.1 51), .inl (cI, 5, .inl (u.2.1 20)))
def cX_52 (cB cC cI cJ : ClassId) (u : gEx) : Nat × va_E := ((u.1 52), .inl (cI, 5, .inl (u.2.1 21)))
def cX_53 (cB cC cI cJ : ClassId) (u : gEx) : Nat × va_E := ((u.1 53), .inl (cI, 5, .inl (u.2.1 22)))
def cX_54 (cB cC cI cJ : ClassId) (u : gEx) : Nat × va_E := ((u.1 54), .inl (cJ, 25, .inr (.inl (u.2.2.1 11))))
def cX_55 (cB cC cI cJ : ClassId) (u : gEx) : Nat × va_E := ((u.1 55), .inl (cJ, 5, .inr (.inl (u.2.2.1 12))))
def cX_56 (cB cC cI cJ : ClassId) (u : gEx) : Nat × va_E := ((u.1 56), .inl (cJ, 25, .inr (.inl (u.2.2.1 13))))
def cX_57 (cB cC cI cJ : ClassId) (u : gEx) : Nat × va_E := ((u.1 57), .inl (cI, 5, .inl (u.2.1 23)))
def cX_58 (cB cC cI cJ : ClassId) (u : gEx) : Nat × va_E := ((u.1 58), .inl (cI, 5, .inl (u.2.1 24)))
def cX_59 (cB cC cI cJ : ClassId) (u : gEx) : Nat × va_E := ((u.1 59), .inl (cI, 5, .inl (u.2.1 25)))
def cX_60 (cB cC cI cJ : ClassId) (u : gEx) : Nat × va_E := ((u.1 60), .inl (cI, 5, .inl (u.2.1 26)))
def cX_61 (cB cC cI cJ : ClassId) (u : gEx) : Nat × va_E := ((u.1 61), .inl (cJ, 25, .inr (.inl (u.2.2.1 14))))
def cX_62 (cB cC cI cJ : ClassId) (u : gEx) : Nat × va_E := ((u.1 62), .inl (cJ, 5, .inr (.inl (u.2.2.1 15))))
def cX_63 (cB cC cI cJ : ClassId) (u : gEx) : Nat × va_E := ((u.1 63), .inl (cJ, 25, .inr (.inl (u.2.2.1 16))))
def cX_64 (cB cC cI cJ : ClassId) (u : gEx) : Nat × va_E := ((u.1 64), .inl (cI, 5, .inl (u.2.1 27)))
def cX_65 (cB cC cI cJ : ClassId) (u : gEx) : Nat × va_E := ((u.1 65), .inl (cI, 5, .inl (u.2.1 28)))
def cX_66 (cB cC cI cJ : ClassId) (u : gEx) : Nat × va_E := ((u.1 66), .inl (cI, 5, .inl (u.2.1 29)))
def cX_67 (cB cC cI cJ : ClassId) (u : gEx) : Nat × va_E := ((u.1 67), .inl (cI, 5, .inl (u.2.1 30)))
def cX_69 (cB cC cI cJ : ClassId) (u : gEx) : Nat × va_E := ((u.1 69), .inl (cI, 1600, .inl (u.2.1 32)))
def cX_70 (cB cC cI cJ : ClassId) (u : gEx) : Nat × va_E := ((u.1 70), .inl (cI, 8, .inl (u.2.1 33)))
def cX_71 (cB cC cI cJ : ClassId) (u : gEx) : Nat × va_E := ((u.1 71), .inl (cI, 8, .inl (u.2.1 34)))
def cX_72 (cB cC cI cJ : ClassId) (u : gEx) : Nat × va_E := ((u.1 72), .inl (cI, 8, .inl (u.2.1 35)))
def cX_73 (cB cC cI cJ : ClassId) (u : gEx) : Nat × va_E := ((u.1 73), .inl (cI, 64, .inl (u.2.1 36)))
def cX_74 (cB cC cI cJ : ClassId) (u : gEx) : Nat × va_E := ((u.1 74), .inl (cI, 30, .inl (u.2.1 37)))
def cX_75 (cB cC cI cJ : ClassId) (u : gEx) : Nat × va_E := ((u.1 75), .inl (cI, 30, .inl (u.2.1 38)))
def cX_76 (cB cC cI cJ : ClassId) (u : gEx) : Nat × va_E := ((u.1 76), .inl (cI, 30, .inl (u.2.1 39)))
def cX_77 (cB cC cI cJ : ClassId) (u : gEx) : Nat × va_E := ((u.1 77), .inl (cI, 1600, .inl (u.2.1 40)))
def cX_78 (cB cC cI cJ : ClassId) (u : gEx) : Nat × va_E := ((u.1 78), .inl (cI, 8, .inl (u.2.1 41)))
def cX_79 (cB cC cI cJ : ClassId) (u : gEx) : Nat × va_E := ((u.1 79), .inl (cI, 8, .inl (u.2.1 42)))
def cX_80 (cB cC cI cJ : ClassId) (u : gEx) : Nat × va_E := ((u.1 80), .inl (cI, 8, .inl (u.2.1 43)))
def cX_81 (cB cC cI cJ : ClassId) (u : gEx) : Nat × va_E := ((u.1 81), .inl (cI, 64, .inl (u.2.1 44)))
theorem pX_0 {u : gEx} (h : fX u) : (0 ≤ (u.2.2.2.1 0).toInt ∧ (u.2.2.2.1 0).toInt ≤ 14) := by
  unfold fX at h
  exact h.1
theorem pX_1 {u : gEx} (h : fX u) : (0 ≤ (u.2.2.2.1 1).toInt ∧ (u.2.2.2.1 1).toInt ≤ 1600) := by
  unfold fX at h
  exact h.2.1
theorem pX_2 {u : gEx} (h : fX u) : ((-1) ≤ (u.2.2.2.1 2).toInt ∧ (u.2.2.2.1 2).toInt ≤ 255) := by
  unfold fX at h
  exact h.2.2.1
theorem pX_3 {u : gEx} (h : fX u) : (0 ≤ (u.2.2.2.1 3).toInt ∧ (u.2.2.2.1 3).toInt ≤ 1600) := by
  unfold fX at h
  exact h.2.2.2.1
theorem pX_4 {u : gEx} (h : fX u) : (0 ≤ (u.2.2.2.1 5).toInt ∧ (u.2.2.2.1 5).toInt ≤ 4) := by
  unfold fX at h
  exact h.2.2.2.2.1
theorem pX_5 {u : gEx} (h : fX u) : ((-1) ≤ (u.2.2.2.1 6).toInt ∧ (u.2.2.2.1 6).toInt ≤ 1600) := by
  unfold fX at h
  exact h.2.2.2.2.2.1
theorem pX_6 {u : gEx} (h : fX u) : (0 ≤ (u.2.2.2.1 7).toInt ∧ (u.2.2.2.1 7).toInt ≤ 1600) := by
  unfold fX at h
  exact h.2.2.2.2.2.2.1
theorem pX_7 {u : gEx} (h : fX u) : (0 ≤ (u.2.2.2.1 8).toInt ∧ (u.2.2.2.1 8).toInt ≤ 10) := by
  unfold fX at h
  exact h.2.2.2.2.2.2.2.1
theorem pX_8 {u : gEx} (h : fX u) : (0 ≤ (u.2.2.2.1 9).toInt ∧ (u.2.2.2.1 9).toInt ≤ 1) := by
  unfold fX at h
  exact h.2.2.2.2.2.2.2.2.1
theorem pX_9 {u : gEx} (h : fX u) : (0 ≤ (u.2.2.2.1 10).toInt ∧ (u.2.2.2.1 10).toInt ≤ 16) := by
  unfold fX at h
  exact h.2.2.2.2.2.2.2.2.2.1
theorem pX_10 {u : gEx} (h : fX u) : (0 ≤ (u.2.2.2.1 11).toInt ∧ (u.2.2.2.1 11).toInt ≤ 1) := by
  unfold fX at h
  exact h.2.2.2.2.2.2.2.2.2.2.1
theorem pX_11 {u : gEx} (h : fX u) : (0 ≤ (u.2.2.2.1 12).toInt ∧ (u.2.2.2.1 12).toInt ≤ 256) := by
  unfold fX at h
  exact h.2.2.2.2.2.2.2.2.2.2.2.1
theorem pX_12 {u : gEx} (h : fX u) : (0 ≤ (u.2.2.2.1 14).toInt ∧ (u.2.2.2.1 14).toInt ≤ 1) := by
  unfold fX at h
  exact h.2.2.2.2.2.2.2.2.2.2.2.2.1
theorem pX_13 {u : gEx} (h : fX u) : ((-1) ≤ (u.2.2.2.1 15).toInt ∧ (u.2.2.2.1 15).toInt ≤ 8) := by
  unfold fX at h
  exact h.2.2.2.2.2.2.2.2.2.2.2.2.2.1
theorem pX_14 {u : gEx} (h : fX u) : ((-1) ≤ (u.2.2.2.1 16).toInt ∧ (u.2.2.2.1 16).toInt ≤ 5) := by
  unfold fX at h
  exact h.2.2.2.2.2.2.2.2.2.2.2.2.2.2.1
theorem pX_15 {u : gEx} (h : fX u) : ((-1) ≤ (u.2.2.2.1 17).toInt ∧ (u.2.2.2.1 17).toInt ≤ 6) := by
  unfold fX at h
  exact h.2.2.2.2.2.2.2.2.2.2.2.2.2.2.2.1
theorem pX_16 {u : gEx} (h : fX u) : (0 ≤ (u.2.2.2.1 18).toInt ∧ (u.2.2.2.1 18).toInt ≤ 6) := by
  unfold fX at h
  exact h.2.2.2.2.2.2.2.2.2.2.2.2.2.2.2.2.1
theorem pX_17 {u : gEx} (h : fX u) : (0 ≤ (u.2.2.2.1 19).toInt ∧ (u.2.2.2.1 19).toInt ≤ 16) := by
  unfold fX at h
  exact h.2.2.2.2.2.2.2.2.2.2.2.2.2.2.2.2.2.1
theorem pX_18 {u : gEx} (h : fX u) : ((-1) ≤ (u.2.2.2.1 22).toInt ∧ (u.2.2.2.1 22).toInt ≤ 5) := by
  unfold fX at h
  exact h.2.2.2.2.2.2.2.2.2.2.2.2.2.2.2.2.2.2.1
theorem pX_19 {u : gEx} (h : fX u) : (0 ≤ (u.2.2.2.1 23).toInt ∧ (u.2.2.2.1 23).toInt ≤ 39) := by
  unfold fX at h
  exact h.2.2.2.2.2.2.2.2.2.2.2.2.2.2.2.2.2.2.2.1
theorem pX_20 {u : gEx} (h : fX u) : (0 ≤ (u.2.2.2.1 24).toInt ∧ (u.2.2.2.1 24).toInt ≤ 40) := by
  unfold fX at h
  exact h.2.2.2.2.2.2.2.2.2.2.2.2.2.2.2.2.2.2.2.2.1
theorem pX_21 {u : gEx} (h : fX u) : (0 ≤ (u.2.2.2.1 25).toInt ∧ (u.2.2.2.1 25).toInt ≤ 40) := by
  unfold fX at h
  exact h.2.2.2.2.2.2.2.2.2.2.2.2.2.2.2.2.2.2.2.2.2.1
theorem pX_22 {u : gEx} (h : fX u) : ((u.2.2.2.1 24).toInt + (u.2.2.2.1 25).toInt ≤ 40) := by
  unfold fX at h
  exact h.2.2.2.2.2.2.2.2.2.2.2.2.2.2.2.2.2.2.2.2.2.2.1
theorem pX_23 {u : gEx} (h : fX u) : ((-1) ≤ (u.2.2.2.1 27).toInt ∧ (u.2.2.2.1 27).toInt ≤ 5) := by
  unfold fX at h
  exact h.2.2.2.2.2.2.2.2.2.2.2.2.2.2.2.2.2.2.2.2.2.2.2.1
theorem pX_24 {u : gEx} (h : fX u) : (0 ≤ (u.2.2.2.1 28).toInt ∧ (u.2.2.2.1 28).toInt ≤ 39) := by
  unfold fX at h
  exact h.2.2.2.2.2.2.2.2.2.2.2.2.2.2.2.2.2.2.2.2.2.2.2.2.1
theorem pX_25 {u : gEx} (h : fX u) : (0 ≤ (u.2.2.2.1 29).toInt ∧ (u.2.2.2.1 29).toInt ≤ 40) := by
  unfold fX at h
  exact h.2.2.2.2.2.2.2.2.2.2.2.2.2.2.2.2.2.2.2.2.2.2.2.2.2.1
theorem pX_26 {u : gEx} (h : fX u) : (0 ≤ (u.2.2.2.1 30).toInt ∧ (u.2.2.2.1 30).toInt ≤ 40) := by
  unfold fX at h
  exact h.2.2.2.2.2.2.2.2.2.2.2.2.2.2.2.2.2.2.2.2.2.2.2.2.2.2.1
theorem pX_27 {u : gEx} (h : fX u) : ((u.2.2.2.1 29).toInt + (u.2.2.2.1 30).toInt ≤ 40) := by
  unfold fX at h
  exact h.2.2.2.2.2.2.2.2.2.2.2.2.2.2.2.2.2.2.2.2.2.2.2.2.2.2.2.1
theorem pX_28 {u : gEx} (h : fX u) : ((-1) ≤ (u.2.2.2.1 32).toInt ∧ (u.2.2.2.1 32).toInt ≤ 8) := by
  unfold fX at h
  exact h.2.2.2.2.2.2.2.2.2.2.2.2.2.2.2.2.2.2.2.2.2.2.2.2.2.2.2.2.1
theorem pX_29 {u : gEx} (h : fX u) : ((-1) ≤ (u.2.2.2.1 33).toInt ∧ (u.2.2.2.1 33).toInt ≤ 5) := by
  unfold fX at h
  exact h.2.2.2.2.2.2.2.2.2.2.2.2.2.2.2.2.2.2.2.2.2.2.2.2.2.2.2.2.2.1
theorem pX_30 {u : gEx} (h : fX u) : ((-1) ≤ (u.2.2.2.1 34).toInt ∧ (u.2.2.2.1 34).toInt ≤ 6) := by
  unfold fX at h
  exact h.2.2.2.2.2.2.2.2.2.2.2.2.2.2.2.2.2.2.2.2.2.2.2.2.2.2.2.2.2.2.1
theorem pX_31 {u : gEx} (h : fX u) : (0 ≤ (u.2.2.2.1 35).toInt ∧ (u.2.2.2.1 35).toInt ≤ 6) := by
  unfold fX at h
  exact h.2.2.2.2.2.2.2.2.2.2.2.2.2.2.2.2.2.2.2.2.2.2.2.2.2.2.2.2.2.2.2.1
theorem pX_32 {u : gEx} (h : fX u) : (0 ≤ (u.2.2.2.1 36).toInt ∧ (u.2.2.2.1 36).toInt ≤ 16) := by
  unfold fX at h
  exact h.2.2.2.2.2.2.2.2.2.2.2.2.2.2.2.2.2.2.2.2.2.2.2.2.2.2.2.2.2.2.2.2.1
theorem pX_33 {u : gEx} (h : fX u) : (0 ≤ (u.2.2.2.1 39).toInt ∧ (u.2.2.2.1 39).toInt ≤ 4) := by
  unfold fX at h
  exact h.2.2.2.2.2.2.2.2.2.2.2.2.2.2.2.2.2.2.2.2.2.2.2.2.2.2.2.2.2.2.2.2.2.1
theorem pX_34 {u : gEx} (h : fX u) : (∀ j, 0 ≤ ((u.2.1 6) j).toInt ∧ ((u.2.1 6) j).toInt ≤ 4) := by
  unfold fX at h
  exact h.2.2.2.2.2.2.2.2.2.2.2.2.2.2.2.2.2.2.2.2.2.2.2.2.2.2.2.2.2.2.2.2.2.2.1
theorem pX_35 {u : gEx} (h : fX u) : (0 ≤ (u.2.2.2.1 40).toInt ∧ (u.2.2.2.1 40).toInt ≤ 4) := by
  unfold fX at h
  exact h.2.2.2.2.2.2.2.2.2.2.2.2.2.2.2.2.2.2.2.2.2.2.2.2.2.2.2.2.2.2.2.2.2.2.2.1
theorem pX_36 {u : gEx} (h : fX u) : (0 ≤ (u.2.2.2.1 41).toInt ∧ (u.2.2.2.1 41).toInt ≤ 4) := by
  unfold fX at h
  exact h.2.2.2.2.2.2.2.2.2.2.2.2.2.2.2.2.2.2.2.2.2.2.2.2.2.2.2.2.2.2.2.2.2.2.2.2.1
theorem pX_37 {u : gEx} (h : fX u) : (0 ≤ (u.2.2.2.1 42).toInt ∧ (u.2.2.2.1 42).toInt ≤ 1600) := by
  unfold fX at h
  exact h.2.2.2.2.2.2.2.2.2.2.2.2.2.2.2.2.2.2.2.2.2.2.2.2.2.2.2.2.2.2.2.2.2.2.2.2.2.1
theorem pX_38 {u : gEx} (h : fX u) : (0 ≤ (u.2.2.2.1 43).toInt ∧ (u.2.2.2.1 43).toInt ≤ 8) := by
  unfold fX at h
  exact h.2.2.2.2.2.2.2.2.2.2.2.2.2.2.2.2.2.2.2.2.2.2.2.2.2.2.2.2.2.2.2.2.2.2.2.2.2.2.1
theorem pX_39 {u : gEx} (h : fX u) : (∀ j, (-7) ≤ ((u.2.1 15) j).toInt ∧ ((u.2.1 15) j).toInt ≤ 7) := by
  unfold fX at h
  exact h.2.2.2.2.2.2.2.2.2.2.2.2.2.2.2.2.2.2.2.2.2.2.2.2.2.2.2.2.2.2.2.2.2.2.2.2.2.2.2.1
theorem pX_40 {u : gEx} (h : fX u) : (0 ≤ (u.2.2.2.1 44).toInt ∧ (u.2.2.2.1 44).toInt ≤ 1600) := by
  unfold fX at h
  exact h.2.2.2.2.2.2.2.2.2.2.2.2.2.2.2.2.2.2.2.2.2.2.2.2.2.2.2.2.2.2.2.2.2.2.2.2.2.2.2.2.1
theorem pX_41 {u : gEx} (h : fX u) : (0 ≤ (u.2.2.2.1 45).toInt ∧ (u.2.2.2.1 45).toInt ≤ 8) := by
  unfold fX at h
  exact h.2.2.2.2.2.2.2.2.2.2.2.2.2.2.2.2.2.2.2.2.2.2.2.2.2.2.2.2.2.2.2.2.2.2.2.2.2.2.2.2.2.1
theorem pX_42 {u : gEx} (h : fX u) : (∀ j, (-7) ≤ ((u.2.1 18) j).toInt ∧ ((u.2.1 18) j).toInt ≤ 7) := by
  unfold fX at h
  exact h.2.2.2.2.2.2.2.2.2.2.2.2.2.2.2.2.2.2.2.2.2.2.2.2.2.2.2.2.2.2.2.2.2.2.2.2.2.2.2.2.2.2.1
theorem pX_43 {u : gEx} (h : fX u) : (∀ j, (-1) ≤ ((u.2.1 21) j).toInt ∧ ((u.2.1 21) j).toInt ≤ 8) := by
  unfold fX at h
  exact h.2.2.2.2.2.2.2.2.2.2.2.2.2.2.2.2.2.2.2.2.2.2.2.2.2.2.2.2.2.2.2.2.2.2.2.2.2.2.2.2.2.2.2.1
theorem pX_44 {u : gEx} (h : fX u) : (∀ j, 0 ≤ ((u.2.1 22) j).toInt ∧ ((u.2.1 22) j).toInt ≤ 7) := by
  unfold fX at h
  exact h.2.2.2.2.2.2.2.2.2.2.2.2.2.2.2.2.2.2.2.2.2.2.2.2.2.2.2.2.2.2.2.2.2.2.2.2.2.2.2.2.2.2.2.2.1
theorem pX_45 {u : gEx} (h : fX u) : (∀ j, (-3) ≤ ((u.2.1 25) j).toInt ∧ ((u.2.1 25) j).toInt ≤ 24) := by
  unfold fX at h
  exact h.2.2.2.2.2.2.2.2.2.2.2.2.2.2.2.2.2.2.2.2.2.2.2.2.2.2.2.2.2.2.2.2.2.2.2.2.2.2.2.2.2.2.2.2.2.1
theorem pX_46 {u : gEx} (h : fX u) : (∀ j, 0 ≤ ((u.2.1 26) j).toInt ∧ ((u.2.1 26) j).toInt ≤ 23) := by
  unfold fX at h
  exact h.2.2.2.2.2.2.2.2.2.2.2.2.2.2.2.2.2.2.2.2.2.2.2.2.2.2.2.2.2.2.2.2.2.2.2.2.2.2.2.2.2.2.2.2.2.2.1
theorem pX_47 {u : gEx} (h : fX u) : (∀ j, (-3) ≤ ((u.2.1 29) j).toInt ∧ ((u.2.1 29) j).toInt ≤ 24) := by
  unfold fX at h
  exact h.2.2.2.2.2.2.2.2.2.2.2.2.2.2.2.2.2.2.2.2.2.2.2.2.2.2.2.2.2.2.2.2.2.2.2.2.2.2.2.2.2.2.2.2.2.2.2.1
theorem pX_48 {u : gEx} (h : fX u) : (∀ j, 0 ≤ ((u.2.1 30) j).toInt ∧ ((u.2.1 30) j).toInt ≤ 23) := by
  unfold fX at h
  exact h.2.2.2.2.2.2.2.2.2.2.2.2.2.2.2.2.2.2.2.2.2.2.2.2.2.2.2.2.2.2.2.2.2.2.2.2.2.2.2.2.2.2.2.2.2.2.2.2.1
theorem pX_49 {u : gEx} (h : fX u) : (∀ j, 0 ≤ ((u.2.1 33) j).toInt ∧ ((u.2.1 33) j).toInt ≤ 1600) := by
  unfold fX at h
  exact h.2.2.2.2.2.2.2.2.2.2.2.2.2.2.2.2.2.2.2.2.2.2.2.2.2.2.2.2.2.2.2.2.2.2.2.2.2.2.2.2.2.2.2.2.2.2.2.2.2.1
theorem pX_50 {u : gEx} (h : fX u) : (∀ j, 0 ≤ ((u.2.1 34) j).toInt ∧ ((u.2.1 34) j).toInt ≤ 1600) := by
  unfold fX at h
  exact h.2.2.2.2.2.2.2.2.2.2.2.2.2.2.2.2.2.2.2.2.2.2.2.2.2.2.2.2.2.2.2.2.2.2.2.2.2.2.2.2.2.2.2.2.2.2.2.2.2.2.1
theorem pX_51 {u : gEx} (h : fX u) : (∀ j, 0 ≤ ((u.2.1 35) j).toInt ∧ ((u.2.1 35) j).toInt ≤ 1600) := by
  unfold fX at h
  exact h.2.2.2.2.2.2.2.2.2.2.2.2.2.2.2.2.2.2.2.2.2.2.2.2.2.2.2.2.2.2.2.2.2.2.2.2.2.2.2.2.2.2.2.2.2.2.2.2.2.2.2.1
theorem pX_52 {u : gEx} (h : fX u) : (∀ j, 0 ≤ ((u.2.1 41) j).toInt ∧ ((u.2.1 41) j).toInt ≤ 1600) := by
  unfold fX at h
  exact h.2.2.2.2.2.2.2.2.2.2.2.2.2.2.2.2.2.2.2.2.2.2.2.2.2.2.2.2.2.2.2.2.2.2.2.2.2.2.2.2.2.2.2.2.2.2.2.2.2.2.2.2.1
theorem pX_53 {u : gEx} (h : fX u) : (∀ j, 0 ≤ ((u.2.1 42) j).toInt ∧ ((u.2.1 42) j).toInt ≤ 1600) := by
  unfold fX at h
  exact h.2.2.2.2.2.2.2.2.2.2.2.2.2.2.2.2.2.2.2.2.2.2.2.2.2.2.2.2.2.2.2.2.2.2.2.2.2.2.2.2.2.2.2.2.2.2.2.2.2.2.2.2.2.1
theorem pX_54 {u : gEx} (h : fX u) : (∀ j, 0 ≤ ((u.2.1 43) j).toInt ∧ ((u.2.1 43) j).toInt ≤ 1600) := by
  unfold fX at h
  exact h.2.2.2.2.2.2.2.2.2.2.2.2.2.2.2.2.2.2.2.2.2.2.2.2.2.2.2.2.2.2.2.2.2.2.2.2.2.2.2.2.2.2.2.2.2.2.2.2.2.2.2.2.2.2.1
theorem pX_55 {u : gEx} (h : fX u) : LedOK (u.2.1 37) (u.2.1 16) (u.2.2.2.1 23).toInt (u.2.2.2.1 24).toInt (u.2.2.2.1 25).toInt := by
  unfold fX at h
  exact h.2.2.2.2.2.2.2.2.2.2.2.2.2.2.2.2.2.2.2.2.2.2.2.2.2.2.2.2.2.2.2.2.2.2.2.2.2.2.2.2.2.2.2.2.2.2.2.2.2.2.2.2.2.2.2.1
theorem pX_56 {u : gEx} (h : fX u) : TB (u.2.1 31) 99 := by
  unfold fX at h
  exact h.2.2.2.2.2.2.2.2.2.2.2.2.2.2.2.2.2.2.2.2.2.2.2.2.2.2.2.2.2.2.2.2.2.2.2.2.2.2.2.2.2.2.2.2.2.2.2.2.2.2.2.2.2.2.2.2.1
theorem pX_57 {u : gEx} (h : fX u) : XOK (u.2.1 31) (u.2.1 37) (u.2.1 16) (u.2.2.2.1 22).toInt (u.2.2.2.1 23).toInt (u.2.2.2.1 24).toInt (u.2.2.2.1 25).toInt (u.2.2.2.1 26).toInt := by
  unfold fX at h
  exact h.2.2.2.2.2.2.2.2.2.2.2.2.2.2.2.2.2.2.2.2.2.2.2.2.2.2.2.2.2.2.2.2.2.2.2.2.2.2.2.2.2.2.2.2.2.2.2.2.2.2.2.2.2.2.2.2.2.1
theorem pX_58 {u : gEx} (h : fX u) : (u.2.2.2.1 22).toInt = (u.2.2.2.1 16).toInt := by
  unfold fX at h
  exact h.2.2.2.2.2.2.2.2.2.2.2.2.2.2.2.2.2.2.2.2.2.2.2.2.2.2.2.2.2.2.2.2.2.2.2.2.2.2.2.2.2.2.2.2.2.2.2.2.2.2.2.2.2.2.2.2.2.2.1
theorem pX_59 {u : gEx} (h : fX u) : knQ (u.2.2.2.1 11).toInt (u.2.2.2.1 10).toInt (u.2.2.1 4) (u.2.1 31) (u.2.1 15) (u.2.2.2.1 16).toInt (u.2.2.2.1 17).toInt (u.2.2.2.1 19).toInt := by
  unfold fX at h
  exact h.2.2.2.2.2.2.2.2.2.2.2.2.2.2.2.2.2.2.2.2.2.2.2.2.2.2.2.2.2.2.2.2.2.2.2.2.2.2.2.2.2.2.2.2.2.2.2.2.2.2.2.2.2.2.2.2.2.2.2
def cM_1 (cB cC cI cJ : ClassId) (u : gEx) : Nat × va_E := ((u.1 1), .inl (cI, 1600, .inl (u.2.1 0)))
def cM_2 (cB cC cI cJ : ClassId) (u : gEx) : Nat × va_E := ((u.1 2), .inl (cC, 5, .inl (u.2.1 1)))
def cM_3 (cB cC cI cJ : ClassId) (u : gEx) : Nat × va_E := ((u.1 3), .inl (cC, 3, .inl (u.2.1 2)))
def cM_4 (cB cC cI cJ : ClassId) (u : gEx) : Nat × va_E := ((u.1 4), .inl (cC, 4, .inl (u.2.1 3)))
def cM_5 (cB cC cI cJ : ClassId) (u : gEx) : Nat × va_E := ((u.1 5), .inl (cC, 5, .inl (u.2.1 4)))
def cM_6 (cB cC cI cJ : ClassId) (u : gEx) : Nat × va_E := ((u.1 6), .inl (cC, 5, .inl (u.2.1 5)))
def cM_7 (cB cC cI cJ : ClassId) (u : gEx) : Nat × va_E := ((u.1 7), .inl (cC, 4, .inl (u.2.1 6)))
def cM_8 (cB cC cI cJ : ClassId) (u : gEx) : Nat × va_E := ((u.1 8), .inl (cC, 2, .inl (u.2.1 7)))
def cM_9 (cB cC cI cJ : ClassId) (u : gEx) : Nat × va_E := ((u.1 9), .inl (cC, 3, .inl (u.2.1 8)))
def cM_10 (cB cC cI cJ : ClassId) (u : gEx) : Nat × va_E := ((u.1 10), .inl (cC, 3, .inl (u.2.1 9)))
def cM_11 (cB cC cI cJ : ClassId) (u : gEx) : Nat × va_E := ((u.1 11), .inl (cC, 3, .inl (u.2.1 10)))
def cM_12 (cB cC cI cJ : ClassId) (u : gEx) : Nat × va_E := ((u.1 12), .inl (cC, 6, .inl (u.2.1 11)))
def cM_13 (cB cC cI cJ : ClassId) (u : gEx) : Nat × va_E := ((u.1 13), .inl (cC, 6, .inl (u.2.1 12)))
def cM_14 (cB cC cI cJ : ClassId) (u : gEx) : Nat × va_E := ((u.1 14), .inl (cC, 4, .inl (u.2.1 13)))
def cM_15 (cB cC cI cJ : ClassId) (u : gEx) : Nat × va_E := ((u.1 15), .inl (cC, 3, .inl (u.2.1 14)))
def cM_16 (cB cC cI cJ : ClassId) (u : gEx) : Nat × va_E := ((u.1 16), .inl (cC, 3, .inl (u.2.1 15)))
def cM_17 (cB cC cI cJ : ClassId) (u : gEx) : Nat × va_E := ((u.1 17), .inl (cI, 6, .inl (u.2.1 16)))
def cM_19 (cB cC cI cJ : ClassId) (u : gEx) : Nat × va_E := ((u.1 19), .inl (cI, 160, .inl (u.2.1 18)))
def cM_20 (cB cC cI cJ : ClassId) (u : gEx) : Nat × va_E := ((u.1 20), .inl (cI, 3200, .inl (u.2.1 19)))
def cM_21 (cB cC cI cJ : ClassId) (u : gEx) : Nat × va_E := ((u.1 21), .inl (cI, 1700, .inl (u.2.1 20)))
def cM_22 (cB cC cI cJ : ClassId) (u : gEx) : Nat × va_E := ((u.1 22), .inl (cI, 2, .inl (u.2.1 21)))
def cM_23 (cB cC cI cJ : ClassId) (u : gEx) : Nat × va_E := ((u.1 23), .inl (cI, 16, .inl (u.2.1 22)))
def cM_24 (cB cC cI cJ : ClassId) (u : gEx) : Nat × va_E := ((u.1 24), .inl (cI, 16, .inl (u.2.1 23)))
def cM_25 (cB cC cI cJ : ClassId) (u : gEx) : Nat × va_E := ((u.1 25), .inl (cI, 16, .inl (u.2.1 24)))
def cM_26 (cB cC cI cJ : ClassId) (u : gEx) : Nat × va_E := ((u.1 26), .inl (cJ, 1700, .inr (.inl (u.2.2.1 0))))
def cM_27 (cB cC cI cJ : ClassId) (u : gEx) : Nat × va_E := ((u.1 27), .inl (cI, 30, .inl (u.2.1 25)))
def cM_29 (cB cC cI cJ : ClassId) (u : gEx) : Nat × va_E := ((u.1 29), .inl (cI, 5, .inl (u.2.1 27)))
def cM_30 (cB cC cI cJ : ClassId) (u : gEx) : Nat × va_E := ((u.1 30), .inl (cJ, 10, .inr (.inl (u.2.2.1 1))))
def cM_31 (cB cC cI cJ : ClassId) (u : gEx) : Nat × va_E := ((u.1 31), .inl (cI, 10, .inl (u.2.1 28)))
def cM_32 (cB cC cI cJ : ClassId) (u : gEx) : Nat × va_E := ((u.1 32), .inl (cI, 5, .inl (u.2.1 29)))
def cM_33 (cB cC cI cJ : ClassId) (u : gEx) : Nat × va_E := ((u.1 33), .inl (cI, 5, .inl (u.2.1 30)))
def cM_34 (cB cC cI cJ : ClassId) (u : gEx) : Nat × va_E := ((u.1 34), .inl (cJ, 6, .inr (.inl (u.2.2.1 2))))
def cM_35 (cB cC cI cJ : ClassId) (u : gEx) : Nat × va_E := ((u.1 35), .inl (cJ, 25, .inr (.inl (u.2.2.1 3))))
def cM_36 (cB cC cI cJ : ClassId) (u : gEx) : Nat × va_E := ((u.1 36), .inl (cI, 200, .inl (u.2.1 31)))
def cM_37 (cB cC cI cJ : ClassId) (u : gEx) : Nat × va_E := ((u.1 37), .inl (cI, 200, .inl (u.2.1 32)))
def cM_38 (cB cC cI cJ : ClassId) (u : gEx) : Nat × va_E := ((u.1 38), .inl (cI, 200, .inl (u.2.1 33)))
def cM_39 (cB cC cI cJ : ClassId) (u : gEx) : Nat × va_E := ((u.1 39), .inl (cI, 5, .inl (u.2.1 34)))
def cM_40 (cB cC cI cJ : ClassId) (u : gEx) : Nat × va_E := ((u.1 40), .inl (cI, 5, .inl (u.2.1 35)))
def cM_41 (cB cC cI cJ : ClassId) (u : gEx) : Nat × va_E := ((u.1 41), .inl (cI, 5, .inl (u.2.1 36)))
def cM_42 (cB cC cI cJ : ClassId) (u : gEx) : Nat × va_E := ((u.1 42), .inl (cI, 5, .inl (u.2.1 37)))
def cM_43 (cB cC cI cJ : ClassId) (u : gEx) : Nat × va_E := ((u.1 43), .inl (cI, 20, .inl (u.2.1 38)))
theorem pM_0 {u : gEx} (h : fM u) : (0 ≤ (u.2.2.2.1 0).toInt ∧ (u.2.2.2.1 0).toInt ≤ 1600) := by
  unfold fM at h
  exact h.1
theorem pM_1 {u : gEx} (h : fM u) : (0 ≤ (u.2.2.2.1 1).toInt ∧ (u.2.2.2.1 1).toInt ≤ 1600) := by
  unfold fM at h
  exact h.2.1
theorem pM_2 {u : gEx} (h : fM u) : (0 ≤ (u.2.2.2.1 2).toInt ∧ (u.2.2.2.1 2).toInt ≤ 1600) := by
  unfold fM at h
  exact h.2.2.1
theorem pM_3 {u : gEx} (h : fM u) : ((-1) ≤ (u.2.2.2.1 3).toInt ∧ (u.2.2.2.1 3).toInt ≤ 1600) := by
  unfold fM at h
  exact h.2.2.2.1
theorem pM_4 {u : gEx} (h : fM u) : (0 ≤ (u.2.2.2.1 4).toInt ∧ (u.2.2.2.1 4).toInt ≤ 4) := by
  unfold fM at h
  exact h.2.2.2.2.1
theorem pM_5 {u : gEx} (h : fM u) : ((-1) ≤ (u.2.2.2.1 5).toInt ∧ (u.2.2.2.1 5).toInt ≤ 1600) := by
  unfold fM at h
  exact h.2.2.2.2.2.1
theorem pM_6 {u : gEx} (h : fM u) : (0 ≤ (u.2.2.2.1 8).toInt ∧ (u.2.2.2.1 8).toInt ≤ 8) := by
  unfold fM at h
  exact h.2.2.2.2.2.2.1
theorem pM_7 {u : gEx} (h : fM u) : (0 ≤ (u.2.2.2.1 9).toInt ∧ (u.2.2.2.1 9).toInt ≤ 5) := by
  unfold fM at h
  exact h.2.2.2.2.2.2.2.1
theorem pM_8 {u : gEx} (h : fM u) : (0 ≤ (u.2.2.2.1 10).toInt ∧ (u.2.2.2.1 10).toInt ≤ 6) := by
  unfold fM at h
  exact h.2.2.2.2.2.2.2.2.1
theorem pM_9 {u : gEx} (h : fM u) : (0 ≤ (u.2.2.2.1 11).toInt ∧ (u.2.2.2.1 11).toInt ≤ 6) := by
  unfold fM at h
  exact h.2.2.2.2.2.2.2.2.2.1
theorem pM_10 {u : gEx} (h : fM u) : (0 ≤ (u.2.2.2.1 12).toInt ∧ (u.2.2.2.1 12).toInt ≤ 16) := by
  unfold fM at h
  exact h.2.2.2.2.2.2.2.2.2.2.1
theorem pM_11 {u : gEx} (h : fM u) : (0 ≤ (u.2.2.2.1 14).toInt ∧ (u.2.2.2.1 14).toInt ≤ 60) := by
  unfold fM at h
  exact h.2.2.2.2.2.2.2.2.2.2.2.1
theorem pM_12 {u : gEx} (h : fM u) : (0 ≤ (u.2.2.2.1 15).toInt ∧ (u.2.2.2.1 15).toInt ≤ 1600) := by
  unfold fM at h
  exact h.2.2.2.2.2.2.2.2.2.2.2.2.1
theorem pM_13 {u : gEx} (h : fM u) : (0 ≤ (u.2.2.2.1 16).toInt ∧ (u.2.2.2.1 16).toInt ≤ 1700) := by
  unfold fM at h
  exact h.2.2.2.2.2.2.2.2.2.2.2.2.2.1
theorem pM_14 {u : gEx} (h : fM u) : (0 ≤ (u.2.2.2.1 18).toInt ∧ (u.2.2.2.1 18).toInt ≤ 1700) := by
  unfold fM at h
  exact h.2.2.2.2.2.2.2.2.2.2.2.2.2.2.1
theorem pM_15 {u : gEx} (h : fM u) : (0 ≤ (u.2.2.2.1 19).toInt ∧ (u.2.2.2.1 19).toInt ≤ 1700) := by
  unfold fM at h
  exact h.2.2.2.2.2.2.2.2.2.2.2.2.2.2.2.1
theorem pM_16 {u : gEx} (h : fM u) : (0 ≤ (u.2.2.2.1 20).toInt ∧ (u.2.2.2.1 20).toInt ≤ 200) := by
  unfold fM at h
  exact h.2.2.2.2.2.2.2.2.2.2.2.2.2.2.2.2.1
theorem pM_17 {u : gEx} (h : fM u) : (0 ≤ (u.2.2.2.1 21).toInt ∧ (u.2.2.2.1 21).toInt ≤ 40) := by
  unfold fM at h
  exact h.2.2.2.2.2.2.2.2.2.2.2.2.2.2.2.2.2.1
theorem pM_18 {u : gEx} (h : fM u) : (0 ≤ (u.2.2.2.1 22).toInt ∧ (u.2.2.2.1 22).toInt ≤ 40) := by
  unfold fM at h
  exact h.2.2.2.2.2.2.2.2.2.2.2.2.2.2.2.2.2.2.1
theorem pM_19 {u : gEx} (h : fM u) : (0 ≤ (u.2.2.2.1 23).toInt ∧ (u.2.2.2.1 23).toInt ≤ 1) := by
  unfold fM at h
  exact h.2.2.2.2.2.2.2.2.2.2.2.2.2.2.2.2.2.2.2.1
theorem pM_20 {u : gEx} (h : fM u) : (0 ≤ (u.2.2.2.1 24).toInt ∧ (u.2.2.2.1 24).toInt ≤ 14) := by
  unfold fM at h
  exact h.2.2.2.2.2.2.2.2.2.2.2.2.2.2.2.2.2.2.2.2.1
theorem pM_21 {u : gEx} (h : fM u) : (0 ≤ (u.2.2.2.1 25).toInt ∧ (u.2.2.2.1 25).toInt ≤ 200) := by
  unfold fM at h
  exact h.2.2.2.2.2.2.2.2.2.2.2.2.2.2.2.2.2.2.2.2.2.1
theorem pM_22 {u : gEx} (h : fM u) : (0 ≤ (u.2.2.2.1 26).toInt ∧ (u.2.2.2.1 26).toInt ≤ 40) := by
  unfold fM at h
  exact h.2.2.2.2.2.2.2.2.2.2.2.2.2.2.2.2.2.2.2.2.2.2.1
theorem pM_23 {u : gEx} (h : fM u) : (0 ≤ (u.2.2.2.1 27).toInt ∧ (u.2.2.2.1 27).toInt ≤ 40) := by
  unfold fM at h
  exact h.2.2.2.2.2.2.2.2.2.2.2.2.2.2.2.2.2.2.2.2.2.2.2.1
theorem pM_24 {u : gEx} (h : fM u) : ((u.2.2.2.1 21).toInt ≤ (u.2.2.2.1 20).toInt) := by
  unfold fM at h
  exact h.2.2.2.2.2.2.2.2.2.2.2.2.2.2.2.2.2.2.2.2.2.2.2.2.1
theorem pM_25 {u : gEx} (h : fM u) : ((u.2.2.2.1 20).toInt + (u.2.2.2.1 22).toInt ≤ 200) := by
  unfold fM at h
  exact h.2.2.2.2.2.2.2.2.2.2.2.2.2.2.2.2.2.2.2.2.2.2.2.2.2.1
theorem pM_26 {u : gEx} (h : fM u) : ((u.2.2.2.1 9).toInt = 0 ∨ 2 ≤ (u.2.2.2.1 8).toInt) := by
  unfold fM at h
  exact h.2.2.2.2.2.2.2.2.2.2.2.2.2.2.2.2.2.2.2.2.2.2.2.2.2.2.1
theorem pM_27 {u : gEx} (h : fM u) : (∀ j, 0 ≤ ((u.2.1 0) j).toInt ∧ ((u.2.1 0) j).toInt ≤ 255) := by
  unfold fM at h
  exact h.2.2.2.2.2.2.2.2.2.2.2.2.2.2.2.2.2.2.2.2.2.2.2.2.2.2.2.1
theorem pM_28 {u : gEx} (h : fM u) : (∀ j, (-9999) ≤ ((u.2.1 17) j).toInt ∧ ((u.2.1 17) j).toInt ≤ 9999) := by
  unfold fM at h
  exact h.2.2.2.2.2.2.2.2.2.2.2.2.2.2.2.2.2.2.2.2.2.2.2.2.2.2.2.2.1
theorem pM_29 {u : gEx} (h : fM u) : (∀ j, (-9999) ≤ ((u.2.1 18) j).toInt ∧ ((u.2.1 18) j).toInt ≤ 9999) := by
  unfold fM at h
  exact h.2.2.2.2.2.2.2.2.2.2.2.2.2.2.2.2.2.2.2.2.2.2.2.2.2.2.2.2.2.1
theorem pM_30 {u : gEx} (h : fM u) : (∀ j, 0 ≤ ((u.2.1 21) j).toInt ∧ ((u.2.1 21) j).toInt ≤ 8) := by
  unfold fM at h
  exact h.2.2.2.2.2.2.2.2.2.2.2.2.2.2.2.2.2.2.2.2.2.2.2.2.2.2.2.2.2.2.1
theorem pM_31 {u : gEx} (h : fM u) : (∀ j, 0 ≤ ((u.2.1 22) j).toInt ∧ ((u.2.1 22) j).toInt ≤ 1600) := by
  unfold fM at h
  exact h.2.2.2.2.2.2.2.2.2.2.2.2.2.2.2.2.2.2.2.2.2.2.2.2.2.2.2.2.2.2.2.1
theorem pM_32 {u : gEx} (h : fM u) : (∀ j, 0 ≤ ((u.2.1 23) j).toInt ∧ ((u.2.1 23) j).toInt ≤ 1600) := by
  unfold fM at h
  exact h.2.2.2.2.2.2.2.2.2.2.2.2.2.2.2.2.2.2.2.2.2.2.2.2.2.2.2.2.2.2.2.2.1
theorem pM_33 {u : gEx} (h : fM u) : (∀ j, 0 ≤ ((u.2.1 24) j).toInt ∧ ((u.2.1 24) j).toInt ≤ 1600) := by
  unfold fM at h
  exact h.2.2.2.2.2.2.2.2.2.2.2.2.2.2.2.2.2.2.2.2.2.2.2.2.2.2.2.2.2.2.2.2.2.1
theorem pM_34 {u : gEx} (h : fM u) : (∀ j, (-1100000) ≤ ((u.2.1 26) j).toInt ∧ ((u.2.1 26) j).toInt ≤ 1100000) := by
  unfold fM at h
  exact h.2.2.2.2.2.2.2.2.2.2.2.2.2.2.2.2.2.2.2.2.2.2.2.2.2.2.2.2.2.2.2.2.2.2.1
theorem pM_35 {u : gEx} (h : fM u) : (∀ j, 0 ≤ ((u.2.1 29) j).toInt ∧ ((u.2.1 29) j).toInt ≤ 4) := by
  unfold fM at h
  exact h.2.2.2.2.2.2.2.2.2.2.2.2.2.2.2.2.2.2.2.2.2.2.2.2.2.2.2.2.2.2.2.2.2.2.2.1
theorem pM_36 {u : gEx} (h : fM u) : (∀ j, 0 ≤ ((u.2.1 31) j).toInt ∧ ((u.2.1 31) j).toInt ≤ 4) := by
  unfold fM at h
  exact h.2.2.2.2.2.2.2.2.2.2.2.2.2.2.2.2.2.2.2.2.2.2.2.2.2.2.2.2.2.2.2.2.2.2.2.2.1
theorem pM_37 {u : gEx} (h : fM u) : (∀ j, 0 ≤ ((u.2.1 32) j).toInt ∧ ((u.2.1 32) j).toInt ≤ 4) := by
  unfold fM at h
  exact h.2.2.2.2.2.2.2.2.2.2.2.2.2.2.2.2.2.2.2.2.2.2.2.2.2.2.2.2.2.2.2.2.2.2.2.2.2.1
theorem pM_38 {u : gEx} (h : fM u) : RI 0 (((u.2.1 21) 0).toInt) (u.2.1 19) (u.2.1 22) (u.2.1 23) (u.2.1 24) 1600 := by
  unfold fM at h
  exact h.2.2.2.2.2.2.2.2.2.2.2.2.2.2.2.2.2.2.2.2.2.2.2.2.2.2.2.2.2.2.2.2.2.2.2.2.2.2.1
theorem pM_39 {u : gEx} (h : fM u) : MOK (u.2.1 17) (u.2.1 25) (u.2.1 31) (u.2.1 32) (u.2.1 33) (u.2.2.2.1 10).toInt (u.2.2.2.1 9).toInt (u.2.2.2.1 20).toInt (u.2.2.2.1 22).toInt := by
  unfold fM at h
  exact h.2.2.2.2.2.2.2.2.2.2.2.2.2.2.2.2.2.2.2.2.2.2.2.2.2.2.2.2.2.2.2.2.2.2.2.2.2.2.2.1
theorem pM_40 {u : gEx} (h : fM u) : (u.2.2.2.1 21).toInt + (u.2.2.2.1 22).toInt ≤ 40 := by
  unfold fM at h
  exact h.2.2.2.2.2.2.2.2.2.2.2.2.2.2.2.2.2.2.2.2.2.2.2.2.2.2.2.2.2.2.2.2.2.2.2.2.2.2.2.2.1
theorem pM_41 {u : gEx} (h : fM u) : rowL (u.2.1 14) 3 = wMin := by
  unfold fM at h
  exact h.2.2.2.2.2.2.2.2.2.2.2.2.2.2.2.2.2.2.2.2.2.2.2.2.2.2.2.2.2.2.2.2.2.2.2.2.2.2.2.2.2.1
theorem pM_42 {u : gEx} (h : fM u) : rowL (u.2.1 15) 3 = wMax := by
  unfold fM at h
  exact h.2.2.2.2.2.2.2.2.2.2.2.2.2.2.2.2.2.2.2.2.2.2.2.2.2.2.2.2.2.2.2.2.2.2.2.2.2.2.2.2.2.2.1
theorem pM_43 {u : gEx} (h : fM u) : rowL (u.2.1 11) 6 = wSender := by
  unfold fM at h
  exact h.2.2.2.2.2.2.2.2.2.2.2.2.2.2.2.2.2.2.2.2.2.2.2.2.2.2.2.2.2.2.2.2.2.2.2.2.2.2.2.2.2.2.2.1
theorem pM_44 {u : gEx} (h : fM u) : rowL (u.2.1 12) 6 = wSquare := by
  unfold fM at h
  exact h.2.2.2.2.2.2.2.2.2.2.2.2.2.2.2.2.2.2.2.2.2.2.2.2.2.2.2.2.2.2.2.2.2.2.2.2.2.2.2.2.2.2.2.2.1
theorem pM_45 {u : gEx} (h : fM u) : rowL (u.2.1 13) 4 = wPeak := by
  unfold fM at h
  exact h.2.2.2.2.2.2.2.2.2.2.2.2.2.2.2.2.2.2.2.2.2.2.2.2.2.2.2.2.2.2.2.2.2.2.2.2.2.2.2.2.2.2.2.2.2.1
theorem pM_46 {u : gEx} (h : fM u) : rowL (u.2.1 6) 4 = wWhen := by
  unfold fM at h
  exact h.2.2.2.2.2.2.2.2.2.2.2.2.2.2.2.2.2.2.2.2.2.2.2.2.2.2.2.2.2.2.2.2.2.2.2.2.2.2.2.2.2.2.2.2.2.2.1
theorem pM_47 {u : gEx} (h : fM u) : rowL (u.2.1 9) 3 = wNot := by
  unfold fM at h
  exact h.2.2.2.2.2.2.2.2.2.2.2.2.2.2.2.2.2.2.2.2.2.2.2.2.2.2.2.2.2.2.2.2.2.2.2.2.2.2.2.2.2.2.2.2.2.2.2.1
theorem pM_48 {u : gEx} (h : fM u) : rowL (u.2.1 10) 3 = wAll := by
  unfold fM at h
  exact h.2.2.2.2.2.2.2.2.2.2.2.2.2.2.2.2.2.2.2.2.2.2.2.2.2.2.2.2.2.2.2.2.2.2.2.2.2.2.2.2.2.2.2.2.2.2.2.2.1
theorem pM_49 {u : gEx} (h : fM u) : rowL (u.2.1 8) 3 = wAnd := by
  unfold fM at h
  exact h.2.2.2.2.2.2.2.2.2.2.2.2.2.2.2.2.2.2.2.2.2.2.2.2.2.2.2.2.2.2.2.2.2.2.2.2.2.2.2.2.2.2.2.2.2.2.2.2.2.1
theorem pM_50 {u : gEx} (h : fM u) : rowL (u.2.1 7) 2 = wOr := by
  unfold fM at h
  exact h.2.2.2.2.2.2.2.2.2.2.2.2.2.2.2.2.2.2.2.2.2.2.2.2.2.2.2.2.2.2.2.2.2.2.2.2.2.2.2.2.2.2.2.2.2.2.2.2.2.2.1
theorem pM_51 {u : gEx} (h : fM u) : rowL (u.2.1 2) 3 = wRow := by
  unfold fM at h
  exact h.2.2.2.2.2.2.2.2.2.2.2.2.2.2.2.2.2.2.2.2.2.2.2.2.2.2.2.2.2.2.2.2.2.2.2.2.2.2.2.2.2.2.2.2.2.2.2.2.2.2.2.1
theorem pM_52 {u : gEx} (h : fM u) : rowL (u.2.1 3) 4 = wWord := by
  unfold fM at h
  exact h.2.2.2.2.2.2.2.2.2.2.2.2.2.2.2.2.2.2.2.2.2.2.2.2.2.2.2.2.2.2.2.2.2.2.2.2.2.2.2.2.2.2.2.2.2.2.2.2.2.2.2.2.1
theorem pM_53 {u : gEx} (h : fM u) : rowL (u.2.1 5) 5 = wLimit := by
  unfold fM at h
  exact h.2.2.2.2.2.2.2.2.2.2.2.2.2.2.2.2.2.2.2.2.2.2.2.2.2.2.2.2.2.2.2.2.2.2.2.2.2.2.2.2.2.2.2.2.2.2.2.2.2.2.2.2.2.1
theorem pM_54 {u : gEx} (h : fM u) : rowL (u.2.1 4) 5 = wWorth := by
  unfold fM at h
  exact h.2.2.2.2.2.2.2.2.2.2.2.2.2.2.2.2.2.2.2.2.2.2.2.2.2.2.2.2.2.2.2.2.2.2.2.2.2.2.2.2.2.2.2.2.2.2.2.2.2.2.2.2.2.2.1
theorem pM_55 {u : gEx} (h : fM u) : rowL (u.2.1 1) 5 = wHouse := by
  unfold fM at h
  exact h.2.2.2.2.2.2.2.2.2.2.2.2.2.2.2.2.2.2.2.2.2.2.2.2.2.2.2.2.2.2.2.2.2.2.2.2.2.2.2.2.2.2.2.2.2.2.2.2.2.2.2.2.2.2.2
