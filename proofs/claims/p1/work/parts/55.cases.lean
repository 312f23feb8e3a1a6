/-! the law's cases on fresh objects -/
theorem var_of {x : Int32} (h : 0 ≤ x ∧ x < 8) : ∃ v, v < 8 ∧ x = nI v := by
  obtain ⟨j, h1, h2⟩ := nI_of2 (x := x) (M := 7) (n := 7) (by decide) (Int32.not_lt.mpr h.1) (by
    have := Int32.lt_iff_toInt_lt.mp h.2
    rw [Int32.le_iff_toInt_le]
    have e8 : (8 : Int32).toInt = 8 := by decide
    have e7 : (7 : Int32).toInt = 7 := by decide
    omega)
  exact ⟨j, by omega, h2⟩
theorem lt8_7 {x : Int32} : (0 ≤ x ∧ x < 8) ↔ (0 ≤ x ∧ x ≤ 7) := by
  have e8 : (8 : Int32).toInt = 8 := by decide
  have e7 : (7 : Int32).toInt = 7 := by decide
  rw [Int32.lt_iff_toInt_lt, Int32.le_iff_toInt_le, Int32.le_iff_toInt_le, e8, e7]
  omega
theorem no0 (i : Int32) : ¬ (0 ≤ i ∧ i < sX0.1 13 0) := fun h => absurd (Int32.lt_of_le_of_lt h.1 h.2) (by decide)
theorem no0m (i : Int32) : ¬ ((0 : Int32) ≤ i ∧ i ≤ sM0.2.2.1 1 0 - 1) := fun h => absurd (Int32.le_trans h.1 h.2) (by decide)
theorem s23 (v : Nat) : sX0.2.2.1 23 v = 0 := rfl
theorem s21 (v : Nat) : sX0.2.2.1 21 v = 0 := rfl
theorem s22 {v : Nat} (h : v < 8) : sX0.2.2.1 22 v = 100 := (by decide : ∀ v, v < 8 → hundred v = 100) v h
theorem m_al : sM0.2.2.1 1 = al0 8 := rfl
theorem sp0 (al : Nat → Int32) (v : Nat) : spL al 0 v 0 31 0 0 = 1073741824 := by
  have e : ∀ (k : Nat) (s : Int32) (r : Nat), k < 31 → spL al 0 v 0 (r + 1) k s = spL al 0 v 0 r (k + 1) ((1 : Int32) <<< (nI k &&& 31)) := by
    intro k s r hk
    rw [spL, if_pos ((by decide +kernel : ∀ k, k < 31 → (0 : Int32).toInt64 + 1 ≤ ((1 : Int32) <<< (nI k &&& 31)).toInt64) k hk)]
    rw [if_neg (show ¬ (0 : Int32) < opnC _ 0 from (by decide : ¬ (0 : Int32) < 0))]
  have g : ∀ (r k : Nat) (s : Int32), k + r = 31 → k < 31 ∨ s = 1073741824 → spL al 0 v 0 r k s = 1073741824 := by
    intro r
    induction r with
    | zero =>
      intro k s hk h
      rcases h with h | h
      · omega
      · exact h
    | succ r ih =>
      intro k s hk h
      rw [e k s r (by omega)]
      refine ih (k + 1) _ (by omega) ?_
      by_cases h1 : k + 1 < 31
      · exact Or.inl h1
      · refine Or.inr ?_
        rw [show k = 30 by omega]; decide +kernel
  exact g 31 0 0 rfl (Or.inl (by decide))
theorem cRun0 (al : Nat → Int32) : (cRun al 0).2.2.1 = -1 ∧ (cRun al 0).2.2.2.2.1 = 0 := by
  unfold cRun
  rw [rIter0]
  exact ⟨rfl, rfl⟩
theorem fi0 (al : Nat → Int32) (v : Nat) (h hi : Int32) : ∀ r k, fiL al 0 v h hi r k = -2147483648 := by
  intro r
  induction r with
  | zero => intro k; rfl
  | succ r ih =>
    intro k
    rw [fiL]
    split
    · rw [if_pos (cRun0 _).1]; exact ih (k + 1)
    · rfl
section CS
variable {l : Launch} {G : cxG} {b sz : Nat} {xs : Nat → Int32} {adX adM : Nat → Nat} {ow : Nat} {f : Nat → Int64}
theorem cs_append (hl : l.stackTraces = false) : PZ (XL b 4 xs) QL l G mL_law [] sz 156 [(0, .ref b), (1, .ref (adX 0)), (2, .ref (adM 0)), (3, .ref ow), (4, .int 0)] [] 140 3622 (wp G adX LX [] (rtM G adM sM0 ow f) sX0) := by
  by_cases hv : 0 ≤ xs 1 ∧ xs 1 ≤ 127
  · exact lo_append (specD_r1 (x_append (xs 1) 0 hv (by decide) rfl) rfl) (fun τ g => specD_r1 (r_append_ok (xs 1) 0 hv (by decide) rfl) ⟨rfl, rfl⟩)
  · exact lt1_append (x_append_t1 hl (xs 1) hv) (specD_r1 (r_append_no1 (xs 1) hv) ⟨⟨_, rfl⟩, rfl⟩)
theorem cs_clearText (hl : l.stackTraces = false) : PZ (XL b 4 xs) QL l G mL_law [] sz 212 [(0, .ref b), (1, .ref (adX 0)), (2, .ref (adM 0)), (3, .ref ow), (4, .int 0)] [] 140 3622 (wp G adX LX [] (rtM G adM sM0 ow f) sX0) := by
  exact ld_clearText (r := 0) (specD_r1 x_clearText rfl) (fun τ => specD_r1 r_clearText rfl)
theorem cs_parse (hl : l.stackTraces = false) : PZ (XL b 4 xs) QL l G mL_law [] sz 225 [(0, .ref b), (1, .ref (adX 0)), (2, .ref (adM 0)), (3, .ref ow), (4, .int 0)] [] 140 3622 (wp G adX LX [] (rtM G adM sM0 ow f) sX0) := by
  exact ld_parse (r := 0) (x_parse0 (m := 0) (s := 26) (n := 0) (by decide) rfl rfl rfl (by decide) (by decide) rfl rfl) (fun τ => r1_mono (r_parse (tl := 0) (m := 0) (by decide) (by decide) rfl rfl) (fun v ρ h => h.1.trans rfl))
theorem cs_setRange (hl : l.stackTraces = false) : PZ (XL b 4 xs) QL l G mL_law [] sz 238 [(0, .ref b), (1, .ref (adX 0)), (2, .ref (adM 0)), (3, .ref ow), (4, .int 0)] [] 140 3622 (wp G adX LX [] (rtM G adM sM0 ow f) sX0) := by
  by_cases hv : 0 ≤ xs 1 ∧ xs 1 < 8
  · by_cases hlh : xs 2 ≤ xs 3
    · obtain ⟨v, h1, h2⟩ := var_of hv
      refine lo_setRange (r := limV sX0 20 v (xs 2) (xs 3)) (by rw [h2]; exact x_setRange (m := 0) (s := 26) (n := 0) (by decide) rfl rfl rfl (by decide) (by decide) rfl v h1 _ _ hlh) (fun τ g => ?_)
      rw [h2]
      refine specD_r1 (r_setRange_ok v 0 (xs 2) (xs 3) h1 hlh (by decide) rfl) ⟨congrArg Value.int ?_, rfl⟩
      unfold alRange
      rw [upd_s, m_al, (al0_v v h1).2.2]
      unfold limV
      rw [s23]
      by_cases hc : xs 2 ≤ 0 ∧ 0 ≤ xs 3
      · rw [if_pos hc, if_neg (fun z => z.elim (Int32.not_lt.mpr hc.1) (Int32.not_lt.mpr hc.2))]
      · rw [if_neg hc, if_pos]
        by_cases h : xs 2 ≤ 0
        · exact Or.inr (Int32.not_le.mp (fun z => hc ⟨h, z⟩))
        · exact Or.inl (Int32.not_le.mp h)
    · exact lt2_setRange (x_setRange_t2 hl _ _ _ hv hlh) (specD_r1 (r_setRange_no (xs 1) (xs 2) (xs 3) (fun h => hlh h.2)) ⟨⟨_, rfl⟩, by rw [decide_eq_true (lt8_7.mp hv), decide_eq_false hlh]; rfl⟩)
  · exact lt1_setRange (x_setRange_t1 hl _ _ _ hv) (specD_r1 (r_setRange_no (xs 1) (xs 2) (xs 3) (fun h => hv (lt8_7.mpr h.1))) ⟨⟨_, rfl⟩, by rw [decide_eq_false (fun h => hv (lt8_7.mpr h))]; rfl⟩)
theorem cs_setInput (hl : l.stackTraces = false) : PZ (XL b 4 xs) QL l G mL_law [] sz 318 [(0, .ref b), (1, .ref (adX 0)), (2, .ref (adM 0)), (3, .ref ow), (4, .int 0)] [] 140 3622 (wp G adX LX [] (rtM G adM sM0 ow f) sX0) := by
  by_cases hv : 0 ≤ xs 1 ∧ xs 1 < 8
  · obtain ⟨v, h1, h2⟩ := var_of hv
    obtain ⟨a1, a2, a3⟩ := al0_v v h1
    by_cases hx : sX0.2.2.1 21 v ≤ xs 2 ∧ xs 2 ≤ sX0.2.2.1 22 v
    · refine lo_setInput (r := 0) (by rw [h2]; exact x_setInput (m := 0) (s := 26) (n := 0) (by decide) rfl rfl rfl (by decide) (by decide) rfl v h1 _ hx) (fun τ g => ?_)
      rw [h2]
      refine specD_r1 (r_setInput_ok v 0 (xs 2) h1 (by decide) rfl ?_) ⟨congrArg Value.int ?_, rfl⟩
      · rw [m_al, a1, a2]; rw [s21, s22 h1] at hx; exact hx
      · rw [m_al]; exact a3
    · refine lt2_setInput (by rw [h2]; exact x_setInput_t2 hl v h1 _ hx) ?_
      rw [h2]
      refine specD_r1 (r_setInput_no2 v (xs 2) h1 ?_) ⟨⟨_, rfl⟩, rfl⟩
      rw [m_al, a1, a2]; rw [s21, s22 h1] at hx; exact hx
  · exact lt1_setInput (x_setInput_t1 hl _ _ hv) (specD_r1 (r_setInput_no1 (xs 1) (xs 2) (fun h => hv (lt8_7.mpr h))) ⟨⟨_, rfl⟩, rfl⟩)
theorem cs_input (hl : l.stackTraces = false) : PZ (XL b 4 xs) QL l G mL_law [] sz 386 [(0, .ref b), (1, .ref (adX 0)), (2, .ref (adM 0)), (3, .ref ow), (4, .int 0)] [] 140 3622 (wp G adX LX [] (rtM G adM sM0 ow f) sX0) := by
  by_cases hv : 0 ≤ xs 1 ∧ xs 1 < 8
  · obtain ⟨v, h1, h2⟩ := var_of hv
    obtain ⟨a1, a2, a3⟩ := al0_v v h1
    have e2 : (2 : Int32).toInt = 2 := by decide
    have e0 : (0 : Int32).toInt = 0 := by decide
    by_cases hw : 0 ≤ xs 2 ∧ xs 2 ≤ 2
    · obtain ⟨w, w1, w2⟩ := nI_of2 (x := xs 2) (M := 2) (n := 2) (by decide) (Int32.not_lt.mpr hw.1) hw.2
      refine lo_input (r := sX0.2.2.1 (21 + w) v) (by rw [h2, w2]; exact specD_r1 (x_input v w h1 (by omega)) rfl) (fun τ g => ?_)
      rw [h2, w2]
      refine specD_r1 (r_input_ok v w h1 (by omega)) ⟨congrArg Value.int ?_, rfl⟩
      rw [m_al]
      rcases (show w = 0 ∨ w = 1 ∨ w = 2 by omega) with rfl | rfl | rfl
      · exact a1
      · exact a2.trans (s22 h1).symm
      · exact a3
    · refine lt2_input (x_input_t2 hl _ _ hv ?_) (specD_r1 (r_input_no (xs 1) (xs 2) (fun h => hw h.2)) ⟨⟨_, rfl⟩, by rw [decide_eq_true (lt8_7.mp hv), decide_eq_false hw]; rfl⟩)
      rw [Int32.le_iff_toInt_le, Int32.le_iff_toInt_le, e2, e0] at hw
      omega
  · exact lt1_input (x_input_t1 hl _ _ hv) (specD_r1 (r_input_no (xs 1) (xs 2) (fun h => hv (lt8_7.mpr h.1))) ⟨⟨_, rfl⟩, by rw [decide_eq_false (fun h => hv (lt8_7.mpr h))]; rfl⟩)
theorem cs_remove (hl : l.stackTraces = false) : PZ (XL b 4 xs) QL l G mL_law [] sz 454 [(0, .ref b), (1, .ref (adX 0)), (2, .ref (adM 0)), (3, .ref ow), (4, .int 0)] [] 140 3622 (wp G adX LX [] (rtM G adM sM0 ow f) sX0) := by
  exact lt1_remove (x_remove_t1 hl _ (no0 _)) (specD_r1 (r_remove_no1 (xs 1) (no0m _)) ⟨⟨_, rfl⟩, rfl⟩)
theorem cs_instructions (hl : l.stackTraces = false) : PZ (XL b 4 xs) QL l G mL_law [] sz 510 [(0, .ref b), (1, .ref (adX 0)), (2, .ref (adM 0)), (3, .ref ow), (4, .int 0)] [] 140 3622 (wp G adX LX [] (rtM G adM sM0 ow f) sX0) := by
  exact ld_instructions (r := 0) (specD_r1 x_instructions rfl) (fun τ => specD_r1 r_instructions rfl)
theorem cs_instruction (hl : l.stackTraces = false) : PZ (XL b 4 xs) QL l G mL_law [] sz 523 [(0, .ref b), (1, .ref (adX 0)), (2, .ref (adM 0)), (3, .ref ow), (4, .int 0)] [] 140 3622 (wp G adX LX [] (rtM G adM sM0 ow f) sX0) := by
  exact lt1_instruction (x_instruction_t1 hl _ _ (no0 _)) (specD_r1 (r_instruction_no (xs 1) (xs 2) (fun h => no0m _ h.1)) ⟨⟨_, rfl⟩, by rw [decide_eq_false (no0m _)]; rfl⟩)
theorem cs_operand (hl : l.stackTraces = false) : PZ (XL b 4 xs) QL l G mL_law [] sz 591 [(0, .ref b), (1, .ref (adX 0)), (2, .ref (adM 0)), (3, .ref ow), (4, .int 0)] [] 140 3622 (wp G adX LX [] (rtM G adM sM0 ow f) sX0) := by
  by_cases hz : xs 2 = 0
  · exact lt1_operand false (show if false = true then ¬ xs 2 = 0 else xs 2 = 0 from hz) (x_operand_t1 hl _ _ (no0 _)) (specD_r1 (r_operand_no (xs 1) false (no0m _)) ⟨⟨_, rfl⟩, rfl⟩)
  · exact lt1_operand true (show if true = true then ¬ xs 2 = 0 else xs 2 = 0 from hz) (x_operand_t1 hl _ _ (no0 _)) (specD_r1 (r_operand_no (xs 1) true (no0m _)) ⟨⟨_, rfl⟩, rfl⟩)
theorem cs_state (hl : l.stackTraces = false) : PZ (XL b 4 xs) QL l G mL_law [] sz 675 [(0, .ref b), (1, .ref (adX 0)), (2, .ref (adM 0)), (3, .ref ow), (4, .int 0)] [] 140 3622 (wp G adX LX [] (rtM G adM sM0 ow f) sX0) := by
  exact lt1_state (x_state_t1 hl _ (no0 _)) (specD_r1 (r_state_no (xs 1) (no0m _)) ⟨⟨_, rfl⟩, rfl⟩)
theorem cs_states (hl : l.stackTraces = false) : PZ (XL b 4 xs) QL l G mL_law [] sz 731 [(0, .ref b), (1, .ref (adX 0)), (2, .ref (adM 0)), (3, .ref ow), (4, .int 0)] [] 140 3622 (wp G adX LX [] (rtM G adM sM0 ow f) sX0) := by
  by_cases ha : 0 ≤ xs 1 ∧ xs 1 ≤ 4
  · exact lo_states (r := 0) (x_states0 rfl rfl _ ha) (fun τ g => specD_r1 (r_states_ok (xs 1) 0 (wf0 rfl) ha) ⟨rfl, (mAna0 _).1⟩)
  · exact lt1_states (x_states_t1 hl _ ha) (specD_r1 (r_states_no (xs 1) ha) ⟨⟨_, rfl⟩, rfl⟩)
theorem cs_coveredBy (hl : l.stackTraces = false) : PZ (XL b 4 xs) QL l G mL_law [] sz 787 [(0, .ref b), (1, .ref (adX 0)), (2, .ref (adM 0)), (3, .ref ow), (4, .int 0)] [] 140 3622 (wp G adX LX [] (rtM G adM sM0 ow f) sX0) := by
  exact lt1_coveredBy (x_coveredBy_t1 hl _ (no0 _)) (specD_r1 (r_coveredBy_no (xs 1) (no0m _)) ⟨⟨_, rfl⟩, rfl⟩)
theorem cs_range (hl : l.stackTraces = false) : PZ (XL b 4 xs) QL l G mL_law [] sz 843 [(0, .ref b), (1, .ref (adX 0)), (2, .ref (adM 0)), (3, .ref ow), (4, .int 0)] [] 140 3622 (wp G adX LX [] (rtM G adM sM0 ow f) sX0) := by
  by_cases hz : xs 2 = 0
  · exact lt1_range false (show if false = true then ¬ xs 2 = 0 else xs 2 = 0 from hz) (x_range_t1 hl _ _ (no0 _)) (specD_r1 (r_range_no1 (xs 1) false (no0m _)) ⟨⟨_, rfl⟩, rfl⟩)
  · exact lt1_range true (show if true = true then ¬ xs 2 = 0 else xs 2 = 0 from hz) (x_range_t1 hl _ _ (no0 _)) (specD_r1 (r_range_no1 (xs 1) true (no0m _)) ⟨⟨_, rfl⟩, rfl⟩)
theorem cs_finalRange (hl : l.stackTraces = false) : PZ (XL b 4 xs) QL l G mL_law [] sz 926 [(0, .ref b), (1, .ref (adX 0)), (2, .ref (adM 0)), (3, .ref ow), (4, .int 0)] [] 140 3622 (wp G adX LX [] (rtM G adM sM0 ow f) sX0) := by
  by_cases hz : xs 2 = 0
  · by_cases hv : 0 ≤ xs 1 ∧ xs 1 < 8
    · obtain ⟨v, h1, h2⟩ := var_of hv
      obtain ⟨a1, a2, a3⟩ := al0_v v h1
      refine lo_finalRange false (show if false = true then ¬ xs 2 = 0 else xs 2 = 0 from hz) (r := if false = true then sX0.2.2.1 22 v else sX0.2.2.1 21 v) (by rw [h2]; exact x_finalRange0 rfl rfl v h1 false) (fun τ g => ?_)
      rw [h2]
      refine specD_r1 (r_finalRange_ok v 0 h1 false (wf0 rfl)) ⟨congrArg Value.int ?_, (mAna0 _).1⟩
      rw [aFin0]
      show (if (1 : Int32) = 0 then (0 : Int32) else if false = true then (pfxL 8 (inH (al0 8)) (fun _ => 0) v).toInt32 else (pfxL 8 (inL (al0 8)) (fun _ => 0) v).toInt32) = _
      rw [if_neg (by decide)]
      unfold pfxL
      rw [if_pos h1, if_pos h1]
      unfold inH inL
      rw [a1, a2, s22 h1, s21]
      rfl
    · exact lt1_finalRange false (show if false = true then ¬ xs 2 = 0 else xs 2 = 0 from hz) (x_finalRange_t1 hl _ _ hv) (specD_r1 (r_finalRange_no (xs 1) false (fun h => hv (lt8_7.mpr h))) ⟨⟨_, rfl⟩, rfl⟩)
  · by_cases hv : 0 ≤ xs 1 ∧ xs 1 < 8
    · obtain ⟨v, h1, h2⟩ := var_of hv
      obtain ⟨a1, a2, a3⟩ := al0_v v h1
      refine lo_finalRange true (show if true = true then ¬ xs 2 = 0 else xs 2 = 0 from hz) (r := if true = true then sX0.2.2.1 22 v else sX0.2.2.1 21 v) (by rw [h2]; exact x_finalRange0 rfl rfl v h1 true) (fun τ g => ?_)
      rw [h2]
      refine specD_r1 (r_finalRange_ok v 0 h1 true (wf0 rfl)) ⟨congrArg Value.int ?_, (mAna0 _).1⟩
      rw [aFin0]
      show (if (1 : Int32) = 0 then (0 : Int32) else if true = true then (pfxL 8 (inH (al0 8)) (fun _ => 0) v).toInt32 else (pfxL 8 (inL (al0 8)) (fun _ => 0) v).toInt32) = _
      rw [if_neg (by decide)]
      unfold pfxL
      rw [if_pos h1, if_pos h1]
      unfold inH inL
      rw [a1, a2, s22 h1, s21]
      rfl
    · exact lt1_finalRange true (show if true = true then ¬ xs 2 = 0 else xs 2 = 0 from hz) (x_finalRange_t1 hl _ _ hv) (specD_r1 (r_finalRange_no (xs 1) true (fun h => hv (lt8_7.mpr h))) ⟨⟨_, rfl⟩, rfl⟩)
theorem cs_completes (hl : l.stackTraces = false) : PZ (XL b 4 xs) QL l G mL_law [] sz 1010 [(0, .ref b), (1, .ref (adX 0)), (2, .ref (adM 0)), (3, .ref ow), (4, .int 0)] [] 140 3622 (wp G adX LX [] (rtM G adM sM0 ow f) sX0) := by
  exact ld_completes (r := 1) (x_completes0 rfl rfl) (fun τ => specD_r1 (r_completes 0 (wf0 rfl)) (by rw [aFin0]; rfl))
theorem cs_failure (hl : l.stackTraces = false) : PZ (XL b 4 xs) QL l G mL_law [] sz 1023 [(0, .ref b), (1, .ref (adX 0)), (2, .ref (adM 0)), (3, .ref ow), (4, .int 0)] [] 140 3622 (wp G adX LX [] (rtM G adM sM0 ow f) sX0) := by
  by_cases hz : xs 1 = 0
  · exact ld_failure false (show if false = true then ¬ xs 1 = 0 else xs 1 = 0 from hz) (r := -1) (x_failure0 rfl rfl rfl false) (fun τ => specD_r1 (r_failure (N := 0) (wf0 rfl) false) (congrArg Value.int (mOut0 _ false).2.1))
  · exact ld_failure true (show if true = true then ¬ xs 1 = 0 else xs 1 = 0 from hz) (r := -1) (x_failure0 rfl rfl rfl true) (fun τ => specD_r1 (r_failure (N := 0) (wf0 rfl) true) (congrArg Value.int (mOut0 _ true).2.1))
theorem cs_result (hl : l.stackTraces = false) : PZ (XL b 4 xs) QL l G mL_law [] sz 1064 [(0, .ref b), (1, .ref (adX 0)), (2, .ref (adM 0)), (3, .ref ow), (4, .int 0)] [] 140 3622 (wp G adX LX [] (rtM G adM sM0 ow f) sX0) := by
  by_cases hz : xs 2 = 0
  · by_cases hv : 0 ≤ xs 1 ∧ xs 1 < 8
    · obtain ⟨v, h1, h2⟩ := var_of hv
      refine lo_result false (show if false = true then ¬ xs 2 = 0 else xs 2 = 0 from hz) (r := 0) (by rw [h2]; exact x_result0 rfl rfl rfl v h1 false) (fun τ g => ?_)
      rw [h2]
      refine specD_r1 (r_result_ok (N := 0) (wf0 rfl) v h1 false) ⟨congrArg Value.int ?_, (mOut0 _ false).2.2.1⟩
      rw [(mOut0 _ false).2.2.2.2.2 v h1, show (sI sM0 0 3 0).2.2.1 1 = al0 8 from rfl, (al0_v v h1).2.2]
      rfl
    · exact lt1_result false (show if false = true then ¬ xs 2 = 0 else xs 2 = 0 from hz) (x_result_t1 hl _ _ hv) (specD_r1 (r_result_no (xs 1) false (fun h => hv (lt8_7.mpr h))) ⟨⟨_, rfl⟩, rfl⟩)
  · by_cases hv : 0 ≤ xs 1 ∧ xs 1 < 8
    · obtain ⟨v, h1, h2⟩ := var_of hv
      refine lo_result true (show if true = true then ¬ xs 2 = 0 else xs 2 = 0 from hz) (r := 0) (by rw [h2]; exact x_result0 rfl rfl rfl v h1 true) (fun τ g => ?_)
      rw [h2]
      refine specD_r1 (r_result_ok (N := 0) (wf0 rfl) v h1 true) ⟨congrArg Value.int ?_, (mOut0 _ true).2.2.1⟩
      rw [(mOut0 _ true).2.2.2.2.2 v h1, show (sI sM0 0 3 0).2.2.1 1 = al0 8 from rfl, (al0_v v h1).2.2]
      rfl
    · exact lt1_result true (show if true = true then ¬ xs 2 = 0 else xs 2 = 0 from hz) (x_result_t1 hl _ _ hv) (specD_r1 (r_result_no (xs 1) true (fun h => hv (lt8_7.mpr h))) ⟨⟨_, rfl⟩, rfl⟩)
theorem cs_checks (hl : l.stackTraces = false) : PZ (XL b 4 xs) QL l G mL_law [] sz 1148 [(0, .ref b), (1, .ref (adX 0)), (2, .ref (adM 0)), (3, .ref ow), (4, .int 0)] [] 140 3622 (wp G adX LX [] (rtM G adM sM0 ow f) sX0) := by
  by_cases hz : xs 1 = 0
  · exact ld_checks false (show if false = true then ¬ xs 1 = 0 else xs 1 = 0 from hz) (r := 0) (x_checks0 rfl rfl rfl false) (fun τ => specD_r1 (r_checks (N := 0) (wf0 rfl) false) (congrArg Value.int (mOut0 _ false).1))
  · exact ld_checks true (show if true = true then ¬ xs 1 = 0 else xs 1 = 0 from hz) (r := 0) (x_checks0 rfl rfl rfl true) (fun τ => specD_r1 (r_checks (N := 0) (wf0 rfl) true) (congrArg Value.int (mOut0 _ true).1))
theorem cs_executed (hl : l.stackTraces = false) : PZ (XL b 4 xs) QL l G mL_law [] sz 1189 [(0, .ref b), (1, .ref (adX 0)), (2, .ref (adM 0)), (3, .ref ow), (4, .int 0)] [] 140 3622 (wp G adX LX [] (rtM G adM sM0 ow f) sX0) := by
  exact ld_executed (r := 0) (x_executed0 rfl rfl rfl) (fun τ => specD_r1 (r_executed (N := 0) (wf0 rfl)) (congrArg Value.int (cRun0 _).2))
theorem cs_saving (hl : l.stackTraces = false) : PZ (XL b 4 xs) QL l G mL_law [] sz 1202 [(0, .ref b), (1, .ref (adX 0)), (2, .ref (adM 0)), (3, .ref ow), (4, .int 0)] [] 140 3622 (wp G adX LX [] (rtM G adM sM0 ow f) sX0) := by
  exact ld_saving (x_saving0 rfl rfl rfl) (fun τ => r_saving0 rfl)
theorem cs_openWith (hl : l.stackTraces = false) : PZ (XL b 4 xs) QL l G mL_law [] sz 1243 [(0, .ref b), (1, .ref (adX 0)), (2, .ref (adM 0)), (3, .ref ow), (4, .int 0)] [] 140 3622 (wp G adX LX [] (rtM G adM sM0 ow f) sX0) := by
  by_cases hv : 0 ≤ xs 1 ∧ xs 1 < 8
  · by_cases hlh : xs 2 ≤ xs 3
    · obtain ⟨v, h1, h2⟩ := var_of hv
      refine lo_openWith (r := 0) (by rw [h2]; exact x_openWith0 rfl v h1 _ _ hlh) (fun τ g => ?_)
      rw [h2]
      exact specD_r1 (r_openWith_ok (N := 0) (wf0 rfl) v h1 (xs 2) (xs 3) hlh) ⟨rfl, (mAna0 _).1⟩
    · exact lt2_openWith (x_openWith_t2 hl _ _ _ hv hlh) (specD_r1 (r_openWith_no (xs 1) (xs 2) (xs 3) (fun h => hlh h.2)) ⟨⟨_, rfl⟩, by rw [decide_eq_true (lt8_7.mp hv), decide_eq_false hlh]; rfl⟩)
  · exact lt1_openWith (x_openWith_t1 hl _ _ _ hv) (specD_r1 (r_openWith_no (xs 1) (xs 2) (xs 3) (fun h => hv (lt8_7.mpr h.1))) ⟨⟨_, rfl⟩, by rw [decide_eq_false (fun h => hv (lt8_7.mpr h))]; rfl⟩)
theorem cs_safePower (hl : l.stackTraces = false) : PZ (XL b 4 xs) QL l G mL_law [] sz 1323 [(0, .ref b), (1, .ref (adX 0)), (2, .ref (adM 0)), (3, .ref ow), (4, .int 0)] [] 140 3622 (wp G adX LX [] (rtM G adM sM0 ow f) sX0) := by
  by_cases hv : 0 ≤ xs 1 ∧ xs 1 < 8
  · obtain ⟨v, h1, h2⟩ := var_of hv
    refine lo_safePower (r := 1073741824) (by rw [h2]; exact x_safePower0 rfl v h1 rfl) (fun τ g => ?_)
    rw [h2]
    refine r1_mono (r_safePower_ok (N := 0) (wf0 rfl) v h1) (fun w ρ h => ⟨h.1.trans (congrArg Value.int ?_), congrArg (fun q => q.2.1) h.2⟩)
    rw [m_al, (al0_v v h1).1]
    exact sp0 _ v
  · exact lt1_safePower (x_safePower_t1 hl _ hv) (specD_r1 (r_safePower_no (xs 1) (fun h => hv (lt8_7.mpr h))) ⟨⟨_, rfl⟩, rfl⟩)
theorem cs_failingInput (hl : l.stackTraces = false) : PZ (XL b 4 xs) QL l G mL_law [] sz 1379 [(0, .ref b), (1, .ref (adX 0)), (2, .ref (adM 0)), (3, .ref ow), (4, .int 0)] [] 140 3622 (wp G adX LX [] (rtM G adM sM0 ow f) sX0) := by
  by_cases hv : 0 ≤ xs 1 ∧ xs 1 < 8
  · obtain ⟨v, h1, h2⟩ := var_of hv
    refine lo_failingInput (r := -2147483648) (by rw [h2]; exact x_failingInput0 rfl v h1 rfl (s22 h1)) (fun τ g => ?_)
    rw [h2]
    exact r1_mono (r_failingInput_ok (N := 0) (wf0 rfl) v h1) (fun w ρ h => ⟨h.1.trans (congrArg Value.int (fi0 _ v _ _ 201 0)), congrArg (fun q => q.2.1) h.2⟩)
  · exact lt1_failingInput (x_failingInput_t1 hl _ hv) (specD_r1 (r_failingInput_no (xs 1) (fun h => hv (lt8_7.mpr h))) ⟨⟨_, rfl⟩, rfl⟩)
theorem cs_undo (hl : l.stackTraces = false) : PZ (XL b 4 xs) QL l G mL_law [] sz 1435 [(0, .ref b), (1, .ref (adX 0)), (2, .ref (adM 0)), (3, .ref ow), (4, .int 0)] [] 140 3622 (wp G adX LX [] (rtM G adM sM0 ow f) sX0) := by
  exact lt1_undo (x_undo_t1 hl rfl) (specD_r1 (r_undo_no (by decide)) ⟨⟨_, rfl⟩, rfl⟩)
theorem cs_digest (hl : l.stackTraces = false) : PZ (XL b 4 xs) QL l G mL_law [] sz 1479 [(0, .ref b), (1, .ref (adX 0)), (2, .ref (adM 0)), (3, .ref ow), (4, .int 0)] [] 140 3622 (wp G adX LX [] (rtM G adM sM0 ow f) sX0) := by
  exact ld_digest (x_digest0 rfl rfl rfl rfl rfl (fun j hj => ⟨rfl, s22 hj, rfl⟩)) (fun τ => r_digest0 rfl rfl rfl)
end CS
