/-! THE CLASS: the analysis, for any program -/
section ACC
variable {σ : St} {id j a b : Nat} {x : Int32} {y : Int64} {f : Nat → Int32} {g : Nat → Int64}
theorem I2 : (sI σ id j x).2.1 = σ.2.1 := rfl
theorem I3 : (sI σ id j x).2.2.1 = σ.2.2.1 := rfl
theorem I4 : (sI σ id j x).2.2.2.1 = σ.2.2.2.1 := rfl
theorem J1 : (sJ σ id j y).1 = σ.1 := rfl
theorem J3 : (sJ σ id j y).2.2.1 = σ.2.2.1 := rfl
theorem J4 : (sJ σ id j y).2.2.2.1 = σ.2.2.2.1 := rfl
theorem A1 : (sA σ id f).1 = σ.1 := rfl
theorem A2 : (sA σ id f).2.1 = σ.2.1 := rfl
theorem A4 : (sA σ id f).2.2.2.1 = σ.2.2.2.1 := rfl
theorem L1 : (sL σ id g).1 = σ.1 := rfl
theorem L2 : (sL σ id g).2.1 = σ.2.1 := rfl
theorem L3 : (sL σ id g).2.2.1 = σ.2.2.1 := rfl
theorem gJ : (sJ σ id j y).2.1 id j = y := if_pos ⟨rfl, rfl⟩
theorem gJ' (h : ¬ (a = id ∧ b = j)) : (sJ σ id j y).2.1 a b = σ.2.1 a b := if_neg h
end ACC
/-! numbers -/
def iR (x : Int64) : Prop := -2147483648 ≤ x.toInt ∧ x.toInt ≤ 2147483647
theorem lMin : (-2147483648 : Int64).toInt = -2147483648 := by decide
theorem lMax : (2147483647 : Int64).toInt = 2147483647 := by decide
theorem isI_iff (x : Int64) : isI x = true ↔ iR x := by
  unfold isI iR
  rw [decide_eq_true_eq, Int64.le_iff_toInt_le, Int64.le_iff_toInt_le, lMin, lMax]
theorem iR_32 (x : Int32) : iR x.toInt64 := by
  unfold iR
  rw [Int32.toInt_toInt64]
  have h1 := Int32.le_toInt x
  have h2 := Int32.toInt_lt x
  omega
theorem add_I {x y : Int64} (hx : iR x) (hy : iR y) : (x + y).toInt = x.toInt + y.toInt := by
  obtain ⟨a, b⟩ := hx
  obtain ⟨c, d⟩ := hy
  rw [Int64.toInt_add, Int.bmod_eq_of_le (by omega) (by omega)]
theorem sub_I {x y : Int64} (hx : iR x) (hy : iR y) : (x - y).toInt = x.toInt - y.toInt := by
  obtain ⟨a, b⟩ := hx
  obtain ⟨c, d⟩ := hy
  rw [Int64.toInt_sub, Int.bmod_eq_of_le (by omega) (by omega)]
theorem mul_b {x y : Int} (h1 : -2147483648 ≤ x) (h2 : x ≤ 2147483647) (h3 : -2147483648 ≤ y) (h4 : y ≤ 2147483647) : -4611686018427387904 ≤ x * y ∧ x * y ≤ 4611686018427387904 := by
  have k : x.natAbs * y.natAbs ≤ 2147483648 * 2147483648 := Nat.mul_le_mul (by omega) (by omega)
  rw [← Int.natAbs_mul] at k
  omega
theorem mul_I {x y : Int64} (hx : iR x) (hy : iR y) : (x * y).toInt = x.toInt * y.toInt := by
  obtain ⟨k1, k2⟩ := mul_b hx.1 hx.2 hy.1 hy.2
  rw [Int64.toInt_mul, Int.bmod_eq_of_le (by omega) (by omega)]
theorem lmin_lsr (x y : Int64) : (if y < x then y else x) = lsr x y := by
  unfold lsr
  by_cases h1 : x < y
  · rw [if_pos h1, if_neg (fun h => absurd (Int64.lt_iff_toInt_lt.mp h) (by have := Int64.lt_iff_toInt_lt.mp h1; omega))]
  · rw [if_neg h1]
    by_cases h2 : y < x
    · rw [if_pos h2]
    · rw [if_neg h2]
      exact Int64.le_antisymm (Int64.not_lt.mp h2) (Int64.not_lt.mp h1)
theorem lsr_I (x y : Int64) : (lsr x y).toInt = min x.toInt y.toInt := by
  unfold lsr
  by_cases h : x < y
  · rw [if_pos h]; have := Int64.lt_iff_toInt_lt.mp h; omega
  · rw [if_neg h]; have := Int64.le_iff_toInt_le.mp (Int64.not_lt.mp h); omega
theorem gtr_I (x y : Int64) : (gtr x y).toInt = max x.toInt y.toInt := by
  unfold gtr
  by_cases h : y < x
  · rw [if_pos h]; have := Int64.lt_iff_toInt_lt.mp h; omega
  · rw [if_neg h]; have := Int64.le_iff_toInt_le.mp (Int64.not_lt.mp h); omega
def cmF (k : Int32) (a b c d : Int64) : Int64 := if k = 1 then a + c else if k = 2 then a - d else if k = 3 then lsr (lsr (a * c) (a * d)) (lsr (b * c) (b * d)) else a
def cmT (k : Int32) (a b c d : Int64) : Int64 := if k = 1 then b + d else if k = 2 then b - c else if k = 3 then gtr (gtr (a * c) (a * d)) (gtr (b * c) (b * d)) else b
/-- ranges as they must be -/
def lhOK (lo hi : Nat → Int64) : Prop := ∀ v, v < 8 → iR (lo v) ∧ iR (hi v) ∧ (lo v).toInt ≤ (hi v).toInt
theorem vOf_lh {lo hi : Nat → Int64} (h : lhOK lo hi) {x : Int32} (hx : okOp x) : iR (vOf lo x) ∧ iR (vOf hi x) ∧ (vOf lo x).toInt ≤ (vOf hi x).toInt := by
  unfold vOf
  rcases hx with ⟨v, h1, h2⟩ | h2
  · have : x < 8 := by rw [h2]; exact nI_lt (b := 8) h1 (by decide)
    rw [if_pos this, if_pos this, h2, show tN (nI v) = v from nI_clamp (by omega)]
    exact h v h1
  · rw [if_neg h2, if_neg h2]
    exact ⟨iR_32 _, iR_32 _, Int.le_refl _⟩
theorem cm_le {k : Int32} {a b c d : Int64} (ha : iR a) (hb : iR b) (hab : a.toInt ≤ b.toInt) (h : (k = 1 ∨ k = 2 ∨ k = 3) → iR c ∧ iR d ∧ c.toInt ≤ d.toInt) : (cmF k a b c d).toInt ≤ (cmT k a b c d).toInt := by
  unfold cmF cmT
  by_cases k1 : k = 1
  · obtain ⟨hc, hd, hcd⟩ := h (Or.inl k1)
    rw [if_pos k1, if_pos k1, add_I ha hc, add_I hb hd]; omega
  · rw [if_neg k1, if_neg k1]
    by_cases k2 : k = 2
    · obtain ⟨hc, hd, hcd⟩ := h (Or.inr (Or.inl k2))
      rw [if_pos k2, if_pos k2, sub_I ha hd, sub_I hb hc]; omega
    · rw [if_neg k2, if_neg k2]
      by_cases k3 : k = 3
      · rw [if_pos k3, if_pos k3, lsr_I, lsr_I, lsr_I, gtr_I, gtr_I, gtr_I]; omega
      · rw [if_neg k3, if_neg k3]; exact hab
theorem kd03 {al : Nat → Int32} {N i : Nat} (hW : wfP al N) (hi : i < N) (hl : ¬ 4 ≤ kdA al i) : kdA al i = 0 ∨ kdA al i = 1 ∨ kdA al i = 2 ∨ kdA al i = 3 := by
  obtain ⟨k, h1, h2⟩ := hW.2.2.2.2.2 i hi
  rw [h2] at hl ⊢
  have : ¬ 4 ≤ k := fun q => hl (by rw [show (4 : Int32) = nI 4 from rfl]; exact nI_le q (by omega))
  rcases (show k = 0 ∨ k = 1 ∨ k = 2 ∨ k = 3 by omega) with e | e | e | e <;> subst e
  · exact Or.inl rfl
  · exact Or.inr (Or.inl rfl)
  · exact Or.inr (Or.inr (Or.inl rfl))
  · exact Or.inr (Or.inr (Or.inr rfl))
theorem rgF_cm {al : Nat → Int32} {N i : Nat} {lo hi : Nat → Int64} (hW : wfP al N) (hi' : i < N) (hl : ¬ 4 ≤ kdA al i) : rgF al lo hi i = cmF (kdA al i) (vOf lo (al (1 + 4 * i + 2))) (vOf hi (al (1 + 4 * i + 2))) (vOf lo (al (1 + 4 * i + 3))) (vOf hi (al (1 + 4 * i + 3))) ∧ rgT al lo hi i = cmT (kdA al i) (vOf lo (al (1 + 4 * i + 2))) (vOf hi (al (1 + 4 * i + 2))) (vOf lo (al (1 + 4 * i + 3))) (vOf hi (al (1 + 4 * i + 3))) := by
  unfold rgF rgT rgC cmF cmT
  rcases kd03 hW hi' hl with k | k | k | k <;> rw [k] <;> simp +decide only [if_true, if_false, Int64.add_zero, and_self]
section XN
variable {l : Launch} {G : cxG} {adr : Nat → Nat} {Lf Rt : va_W} {σ : St}
theorem x_isVar (x : Int32) (ws : va_W) : SpecD l G mX10_isVariable [.int x] ws (some (.int (bI (decide (0 ≤ x ∧ x < 8))))) ws := by
  refine spec_of (by decide) (Nat.le_of_ble_eq_true rfl) (fun sz => ?_)
  by_cases h : 0 ≤ x ∧ x < 8
  · rw [decide_eq_true h]
    refine pw_iload_n dX10_isVariable_0 rfl ?_
    refine pw_if_lt 14 dX10_isVariable_1 (by decide) (fun c_1 => absurd c_1 (Int32.not_lt.mpr h.1)) (fun c_1 => ?_)
    refine pw_iload_n dX10_isVariable_4 rfl ?_
    refine pw_bipush (v := 8) dX10_isVariable_5 rfl ?_
    refine pw_icmp_ge 14 dX10_isVariable_7 (by decide) (fun c_7 => absurd h.2 (Int32.not_lt.mpr c_7)) (fun c_7 => ?_)
    refine pw_iconst (v := 1) dX10_isVariable_10 rfl ?_
    refine pw_goto (tgt := 15) dX10_isVariable_11 (by decide) ?_
    exact pw_iret rfl rfl dX10_isVariable_15 (Nat.zero_le _) (Nat.zero_le _) rfl
  · rw [decide_eq_false h]
    by_cases h0 : x < 0
    · refine pw_iload_n dX10_isVariable_0 rfl ?_
      refine pw_if_lt 14 dX10_isVariable_1 (by decide) (fun c_1 => ?_) (fun c_1 => absurd h0 c_1)
      refine pw_iconst (v := 0) dX10_isVariable_14 rfl ?_
      exact pw_iret rfl rfl dX10_isVariable_15 (Nat.zero_le _) (Nat.zero_le _) rfl
    · refine pw_iload_n dX10_isVariable_0 rfl ?_
      refine pw_if_lt 14 dX10_isVariable_1 (by decide) (fun c_1 => absurd c_1 h0) (fun c_1 => ?_)
      refine pw_iload_n dX10_isVariable_4 rfl ?_
      refine pw_bipush (v := 8) dX10_isVariable_5 rfl ?_
      refine pw_icmp_ge 14 dX10_isVariable_7 (by decide) (fun c_7 => ?_) (fun c_7 => absurd (Int32.not_lt.mp (fun q => h ⟨Int32.not_lt.mp h0, q⟩)) c_7)
      refine pw_iconst (v := 0) dX10_isVariable_14 rfl ?_
      exact pw_iret rfl rfl dX10_isVariable_15 (Nat.zero_le _) (Nat.zero_le _) rfl
theorem x_isInt (x : Int64) (ws : va_W) : SpecD l G mX10_isInt [.long x] ws (some (.int (bI (isI x)))) ws := by
  refine spec_of (by decide) (Nat.le_of_ble_eq_true rfl) (fun sz => ?_)
  unfold isI
  by_cases h : -2147483648 ≤ x ∧ x ≤ 2147483647
  · rw [decide_eq_true h]
    refine pw_lload_n dX10_isInt_0 rfl ?_
    refine pw_ldc2 dX10_isInt_1 kc_RX10_325 ?_
    refine pw_lcmp dX10_isInt_4 ?_
    refine pw_if_lt 20 dX10_isInt_5 (by decide) (fun c_5 => absurd ((lg_cmp_lt _ _).mp c_5) (Int64.not_lt.mpr h.1)) (fun c_5 => ?_)
    refine pw_lload_n dX10_isInt_8 rfl ?_
    refine pw_ldc2 dX10_isInt_9 kc_RX10_327 ?_
    refine pw_lcmp dX10_isInt_12 ?_
    refine pw_if_gt 20 dX10_isInt_13 (by decide) (fun c_13 => absurd ((lg_cmp_gt _ _).mp c_13) (Int64.not_lt.mpr h.2)) (fun c_13 => ?_)
    refine pw_iconst (v := 1) dX10_isInt_16 rfl ?_
    refine pw_goto (tgt := 21) dX10_isInt_17 (by decide) ?_
    exact pw_iret rfl rfl dX10_isInt_21 (Nat.zero_le _) (Nat.zero_le _) rfl
  · rw [decide_eq_false h]
    by_cases h0 : x < -2147483648
    · refine pw_lload_n dX10_isInt_0 rfl ?_
      refine pw_ldc2 dX10_isInt_1 kc_RX10_325 ?_
      refine pw_lcmp dX10_isInt_4 ?_
      refine pw_if_lt 20 dX10_isInt_5 (by decide) (fun c_5 => ?_) (fun c_5 => absurd ((lg_cmp_lt _ _).mpr h0) c_5)
      refine pw_iconst (v := 0) dX10_isInt_20 rfl ?_
      exact pw_iret rfl rfl dX10_isInt_21 (Nat.zero_le _) (Nat.zero_le _) rfl
    · refine pw_lload_n dX10_isInt_0 rfl ?_
      refine pw_ldc2 dX10_isInt_1 kc_RX10_325 ?_
      refine pw_lcmp dX10_isInt_4 ?_
      refine pw_if_lt 20 dX10_isInt_5 (by decide) (fun c_5 => absurd ((lg_cmp_lt _ _).mp c_5) h0) (fun c_5 => ?_)
      refine pw_lload_n dX10_isInt_8 rfl ?_
      refine pw_ldc2 dX10_isInt_9 kc_RX10_327 ?_
      refine pw_lcmp dX10_isInt_12 ?_
      refine pw_if_gt 20 dX10_isInt_13 (by decide) (fun c_13 => ?_) (fun c_13 => absurd ((lg_cmp_gt _ _).mpr (Int64.not_le.mp (fun q => h ⟨Int64.not_lt.mp h0, q⟩))) c_13)
      refine pw_iconst (v := 0) dX10_isInt_20 rfl ?_
      exact pw_iret rfl rfl dX10_isInt_21 (Nat.zero_le _) (Nat.zero_le _) rfl
theorem okVar {x : Int32} (hx : okOp x) : (x < 8 → (0 ≤ x ∧ x < 8) ∧ vp_in x 8) ∧ (¬ x < 8 → ¬ (0 ≤ x ∧ x < 8)) := by
  refine ⟨fun h => ?_, fun h q => h q.2⟩
  rcases hx with ⟨v, h1, h2⟩ | h2
  · rw [h2]; exact ⟨⟨nI_pos' (by omega), nI_lt (b := 8) h1 (by decide)⟩, vp_in_nI h1 (by decide)⟩
  · exact absurd h h2
theorem x_lowOf {b : Nat} (hb : LX.1[b]? = some (.inl 0)) (x : Int32) (hx : okOp x) : SpecD l G mX0_lowOf [.ref (adr b), .int x] (wp G adr LX Lf Rt σ) (some (.long (vOf (σ.2.2.2.1 (b + 3)) x))) (wp G adr LX Lf Rt σ) := by
  refine spec_of (by decide) (Nat.le_of_ble_eq_true rfl) (fun sz => ?_)
  unfold vOf
  by_cases h : x < 8
  · rw [if_pos h]
    obtain ⟨h1, h2⟩ := (okVar hx).1 h
    refine pw_iload_n dX0_lowOf_0 rfl ?_
    refine lp_cS1 (mi' := mX10_isVariable) (As := [_]) dX0_lowOf_1 lk_RX0_145 mk_X10_isVariable ms_X10_isVariable ⟨by decide, by decide⟩ rfl rfl (Nat.le_of_ble_eq_true rfl) ⟨rfl, rfl⟩ ⟨Nat.zero_le _, Nat.zero_le _⟩ (x_isVar x _) ?_
    rw [decide_eq_true h1]
    refine pw_if_eq 16 dX0_lowOf_4 (by decide) (fun c_4 => absurd (show (1 : Int32) = 0 from c_4) (by decide)) (fun c_4 => ?_)
    refine pw_aload_n dX0_lowOf_7 rfl ?_
    refine lp_getr (b + 3) dX0_lowOf_8 fp_RX0_26.FL hb rfl (rX0_3 hb) ?_
    refine pw_iload_n dX0_lowOf_11 rfl ?_
    refine lp_lald dX0_lowOf_12 (kX0_3 hb) h2 ?_
    refine pw_goto (tgt := 22) dX0_lowOf_13 (by decide) ?_
    exact pw_lret rfl dX0_lowOf_22 (Nat.zero_le _) (Nat.zero_le _) rfl
  · rw [if_neg h]
    refine pw_iload_n dX0_lowOf_0 rfl ?_
    refine lp_cS1 (mi' := mX10_isVariable) (As := [_]) dX0_lowOf_1 lk_RX0_145 mk_X10_isVariable ms_X10_isVariable ⟨by decide, by decide⟩ rfl rfl (Nat.le_of_ble_eq_true rfl) ⟨rfl, rfl⟩ ⟨Nat.zero_le _, Nat.zero_le _⟩ (x_isVar x _) ?_
    rw [decide_eq_false ((okVar hx).2 h)]
    refine pw_if_eq 16 dX0_lowOf_4 (by decide) (fun c_4 => ?_) (fun c_4 => absurd rfl c_4)
    refine pw_iload_n dX0_lowOf_16 rfl ?_
    refine pw_sipush (v := 20000) dX0_lowOf_17 rfl ?_
    refine pw_isub dX0_lowOf_20 ?_
    refine pw_i2l dX0_lowOf_21 ?_
    exact pw_lret rfl dX0_lowOf_22 (Nat.zero_le _) (Nat.zero_le _) rfl
theorem x_highOf {b : Nat} (hb : LX.1[b]? = some (.inl 0)) (x : Int32) (hx : okOp x) : SpecD l G mX0_highOf [.ref (adr b), .int x] (wp G adr LX Lf Rt σ) (some (.long (vOf (σ.2.2.2.1 (b + 4)) x))) (wp G adr LX Lf Rt σ) := by
  refine spec_of (by decide) (Nat.le_of_ble_eq_true rfl) (fun sz => ?_)
  unfold vOf
  by_cases h : x < 8
  · rw [if_pos h]
    obtain ⟨h1, h2⟩ := (okVar hx).1 h
    refine pw_iload_n dX0_highOf_0 rfl ?_
    refine lp_cS1 (mi' := mX10_isVariable) (As := [_]) dX0_highOf_1 lk_RX0_145 mk_X10_isVariable ms_X10_isVariable ⟨by decide, by decide⟩ rfl rfl (Nat.le_of_ble_eq_true rfl) ⟨rfl, rfl⟩ ⟨Nat.zero_le _, Nat.zero_le _⟩ (x_isVar x _) ?_
    rw [decide_eq_true h1]
    refine pw_if_eq 16 dX0_highOf_4 (by decide) (fun c_4 => absurd (show (1 : Int32) = 0 from c_4) (by decide)) (fun c_4 => ?_)
    refine pw_aload_n dX0_highOf_7 rfl ?_
    refine lp_getr (b + 4) dX0_highOf_8 fp_RX0_30.FL hb rfl (rX0_4 hb) ?_
    refine pw_iload_n dX0_highOf_11 rfl ?_
    refine lp_lald dX0_highOf_12 (kX0_4 hb) h2 ?_
    refine pw_goto (tgt := 22) dX0_highOf_13 (by decide) ?_
    exact pw_lret rfl dX0_highOf_22 (Nat.zero_le _) (Nat.zero_le _) rfl
  · rw [if_neg h]
    refine pw_iload_n dX0_highOf_0 rfl ?_
    refine lp_cS1 (mi' := mX10_isVariable) (As := [_]) dX0_highOf_1 lk_RX0_145 mk_X10_isVariable ms_X10_isVariable ⟨by decide, by decide⟩ rfl rfl (Nat.le_of_ble_eq_true rfl) ⟨rfl, rfl⟩ ⟨Nat.zero_le _, Nat.zero_le _⟩ (x_isVar x _) ?_
    rw [decide_eq_false ((okVar hx).2 h)]
    refine pw_if_eq 16 dX0_highOf_4 (by decide) (fun c_4 => ?_) (fun c_4 => absurd rfl c_4)
    refine pw_iload_n dX0_highOf_16 rfl ?_
    refine pw_sipush (v := 20000) dX0_highOf_17 rfl ?_
    refine pw_isub dX0_highOf_20 ?_
    refine pw_i2l dX0_highOf_21 ?_
    exact pw_lret rfl dX0_highOf_22 (Nat.zero_le _) (Nat.zero_le _) rfl
def nwS (σ : St) (b : Nat) (F T : Int64) : St := sJ (sJ σ b 11 F) b 12 T
theorem x_multiply {b : Nat} (hb : LX.1[b]? = some (.inl 0)) (a1 b1 c1 d1 : Int64) : SpecD l G mX0_multiply [.ref (adr b), .long a1, .long b1, .long c1, .long d1] (wp G adr LX Lf Rt σ) none (wp G adr LX Lf Rt (nwS σ b (lsr (lsr (a1 * c1) (a1 * d1)) (lsr (b1 * c1) (b1 * d1))) (gtr (gtr (a1 * c1) (a1 * d1)) (gtr (b1 * c1) (b1 * d1))))) := by
  refine spec_of (by decide) (Nat.le_of_ble_eq_true rfl) (fun sz => ?_)
  refine pw_lload_n dX0_multiply_0 rfl ?_
  refine pw_lload dX0_multiply_1 rfl ?_
  refine pw_lmul dX0_multiply_3 ?_
  refine pw_lstore dX0_multiply_4 (by decide) ?_
  refine pw_lload_n dX0_multiply_6 rfl ?_
  refine pw_lload dX0_multiply_7 rfl ?_
  refine pw_lmul dX0_multiply_9 ?_
  refine pw_lstore dX0_multiply_10 (by decide) ?_
  refine pw_lload_n dX0_multiply_12 rfl ?_
  refine pw_lload dX0_multiply_13 rfl ?_
  refine pw_lmul dX0_multiply_15 ?_
  refine pw_lstore dX0_multiply_16 (by decide) ?_
  refine pw_lload_n dX0_multiply_18 rfl ?_
  refine pw_lload dX0_multiply_19 rfl ?_
  refine pw_lmul dX0_multiply_21 ?_
  refine pw_lstore dX0_multiply_22 (by decide) ?_
  refine pw_aload_n dX0_multiply_24 rfl ?_
  refine pw_lload dX0_multiply_25 rfl ?_
  refine pw_lload dX0_multiply_27 rfl ?_
  refine pw_lmin dX0_multiply_29 ma_RX0_128 ma_s_min ma_i ma_c_min (by decide) (Nat.le_of_ble_eq_true rfl) (Nat.zero_le _) (Nat.zero_le _) ?_
  refine pw_topl (lsr (a1 * c1) (a1 * d1)) (lmin_lsr _ _) ?_
  refine pw_lload dX0_multiply_32 rfl ?_
  refine pw_lload dX0_multiply_34 rfl ?_
  refine pw_lmin dX0_multiply_36 ma_RX0_128 ma_s_min ma_i ma_c_min (by decide) (Nat.le_of_ble_eq_true rfl) (Nat.zero_le _) (Nat.zero_le _) ?_
  refine pw_topl (lsr (b1 * c1) (b1 * d1)) (lmin_lsr _ _) ?_
  refine pw_lmin dX0_multiply_39 ma_RX0_128 ma_s_min ma_i ma_c_min (by decide) (Nat.le_of_ble_eq_true rfl) (Nat.zero_le _) (Nat.zero_le _) ?_
  refine pw_topl (lsr (lsr (a1 * c1) (a1 * d1)) (lsr (b1 * c1) (b1 * d1))) (lmin_lsr _ _) ?_
  refine lp_putj dX0_multiply_42 fp_RX0_53 hb rfl ?_
  refine pw_aload_n dX0_multiply_45 rfl ?_
  refine pw_lload dX0_multiply_46 rfl ?_
  refine pw_lload dX0_multiply_48 rfl ?_
  refine pw_lmax dX0_multiply_50 ma_RX0_120 ma_s_max ma_i ma_c_max (by decide) (Nat.le_of_ble_eq_true rfl) (Nat.zero_le _) (Nat.zero_le _) ?_
  refine pw_lload dX0_multiply_53 rfl ?_
  refine pw_lload dX0_multiply_55 rfl ?_
  refine pw_lmax dX0_multiply_57 ma_RX0_120 ma_s_max ma_i ma_c_max (by decide) (Nat.le_of_ble_eq_true rfl) (Nat.zero_le _) (Nat.zero_le _) ?_
  refine pw_lmax dX0_multiply_60 ma_RX0_120 ma_s_max ma_i ma_c_max (by decide) (Nat.le_of_ble_eq_true rfl) (Nat.zero_le _) (Nat.zero_le _) ?_
  refine lp_putj dX0_multiply_63 fp_RX0_57 hb rfl ?_
  exact pw_vret rfl dX0_multiply_66 (Nat.zero_le _) (Nat.zero_le _) rfl
theorem x_compute {b : Nat} (hb : LX.1[b]? = some (.inl 0)) (k f s : Int32) (hf : okOp f) (hs : k = 1 ∨ k = 2 ∨ k = 3 → okOp s) : SpecD l G mX0_compute [.ref (adr b), .int k, .int f, .int s] (wp G adr LX Lf Rt σ) none (wp G adr LX Lf Rt (nwS σ b (cmF k (vOf (σ.2.2.2.1 (b + 3)) f) (vOf (σ.2.2.2.1 (b + 4)) f) (vOf (σ.2.2.2.1 (b + 3)) s) (vOf (σ.2.2.2.1 (b + 4)) s)) (cmT k (vOf (σ.2.2.2.1 (b + 3)) f) (vOf (σ.2.2.2.1 (b + 4)) f) (vOf (σ.2.2.2.1 (b + 3)) s) (vOf (σ.2.2.2.1 (b + 4)) s)))) := by
  refine spec_of (by decide) (Nat.le_of_ble_eq_true rfl) (fun sz => ?_)
  unfold cmF cmT
  by_cases k1 : k = 1
  · rw [if_pos k1, if_pos k1]
    have hs := hs (Or.inl k1)
    refine pw_aload_n dX0_compute_0 rfl ?_
    refine pw_iload_n dX0_compute_1 rfl ?_
    refine lp_cV1 (mi' := mX0_lowOf) (As := [_]) (q := (RX0, TX0, 13)) dX0_compute_2 lk_RX0_134 mk_X0_lowOf mi_X0_lowOf me_X0_lowOf ⟨by decide, by decide⟩ rfl rfl (Nat.le_of_ble_eq_true rfl) hb rfl ⟨rfl, rfl⟩ ⟨Nat.zero_le _, Nat.zero_le _⟩ (x_lowOf hb f hf) ?_
    refine pw_lstore dX0_compute_5 (by decide) ?_
    refine pw_aload_n dX0_compute_7 rfl ?_
    refine pw_iload_n dX0_compute_8 rfl ?_
    refine lp_cV1 (mi' := mX0_highOf) (As := [_]) (q := (RX0, TX0, 13)) dX0_compute_9 lk_RX0_138 mk_X0_highOf mi_X0_highOf me_X0_highOf ⟨by decide, by decide⟩ rfl rfl (Nat.le_of_ble_eq_true rfl) hb rfl ⟨rfl, rfl⟩ ⟨Nat.zero_le _, Nat.zero_le _⟩ (x_highOf hb f hf) ?_
    refine pw_lstore dX0_compute_12 (by decide) ?_
    refine pw_iload_n dX0_compute_14 rfl ?_
    refine pw_iconst (v := 1) dX0_compute_15 rfl ?_
    refine pw_icmp_ne 46 dX0_compute_16 (by decide) (fun c_16 => absurd c_16 (fun z => z k1)) (fun c_16 => ?_)
    refine pw_aload_n dX0_compute_19 rfl ?_
    refine pw_lload dX0_compute_20 rfl ?_
    refine pw_aload_n dX0_compute_22 rfl ?_
    refine pw_iload_n dX0_compute_23 rfl ?_
    refine lp_cV1 (mi' := mX0_lowOf) (As := [_]) (q := (RX0, TX0, 13)) dX0_compute_24 lk_RX0_134 mk_X0_lowOf mi_X0_lowOf me_X0_lowOf ⟨by decide, by decide⟩ rfl rfl (Nat.le_of_ble_eq_true rfl) hb rfl ⟨rfl, rfl⟩ ⟨Nat.zero_le _, Nat.zero_le _⟩ (x_lowOf hb s hs) ?_
    refine pw_ladd dX0_compute_27 ?_
    refine lp_putj dX0_compute_28 fp_RX0_53 hb rfl ?_
    refine pw_aload_n dX0_compute_31 rfl ?_
    refine pw_lload dX0_compute_32 rfl ?_
    refine pw_aload_n dX0_compute_34 rfl ?_
    refine pw_iload_n dX0_compute_35 rfl ?_
    refine lp_cV1 (mi' := mX0_highOf) (As := [_]) (q := (RX0, TX0, 13)) dX0_compute_36 lk_RX0_138 mk_X0_highOf mi_X0_highOf me_X0_highOf ⟨by decide, by decide⟩ rfl rfl (Nat.le_of_ble_eq_true rfl) hb rfl ⟨rfl, rfl⟩ ⟨Nat.zero_le _, Nat.zero_le _⟩ (x_highOf hb s hs) ?_
    refine pw_ladd dX0_compute_39 ?_
    refine lp_putj dX0_compute_40 fp_RX0_57 hb rfl ?_
    refine pw_goto (tgt := 116) dX0_compute_43 (by decide) ?_
    exact pw_vret rfl dX0_compute_116 (Nat.zero_le _) (Nat.zero_le _) rfl
  · rw [if_neg k1, if_neg k1]
    by_cases k2 : k = 2
    · rw [if_pos k2, if_pos k2]
      have hs := hs (Or.inr (Or.inl k2))
      refine pw_aload_n dX0_compute_0 rfl ?_
      refine pw_iload_n dX0_compute_1 rfl ?_
      refine lp_cV1 (mi' := mX0_lowOf) (As := [_]) (q := (RX0, TX0, 13)) dX0_compute_2 lk_RX0_134 mk_X0_lowOf mi_X0_lowOf me_X0_lowOf ⟨by decide, by decide⟩ rfl rfl (Nat.le_of_ble_eq_true rfl) hb rfl ⟨rfl, rfl⟩ ⟨Nat.zero_le _, Nat.zero_le _⟩ (x_lowOf hb f hf) ?_
      refine pw_lstore dX0_compute_5 (by decide) ?_
      refine pw_aload_n dX0_compute_7 rfl ?_
      refine pw_iload_n dX0_compute_8 rfl ?_
      refine lp_cV1 (mi' := mX0_highOf) (As := [_]) (q := (RX0, TX0, 13)) dX0_compute_9 lk_RX0_138 mk_X0_highOf mi_X0_highOf me_X0_highOf ⟨by decide, by decide⟩ rfl rfl (Nat.le_of_ble_eq_true rfl) hb rfl ⟨rfl, rfl⟩ ⟨Nat.zero_le _, Nat.zero_le _⟩ (x_highOf hb f hf) ?_
      refine pw_lstore dX0_compute_12 (by decide) ?_
      refine pw_iload_n dX0_compute_14 rfl ?_
      refine pw_iconst (v := 1) dX0_compute_15 rfl ?_
      refine pw_icmp_ne 46 dX0_compute_16 (by decide) (fun c_16 => ?_) (fun c_16 => absurd c_16 k1)
      refine pw_iload_n dX0_compute_46 rfl ?_
      refine pw_iconst (v := 2) dX0_compute_47 rfl ?_
      refine pw_icmp_ne 78 dX0_compute_48 (by decide) (fun c_48 => absurd c_48 (fun z => z k2)) (fun c_48 => ?_)
      refine pw_aload_n dX0_compute_51 rfl ?_
      refine pw_lload dX0_compute_52 rfl ?_
      refine pw_aload_n dX0_compute_54 rfl ?_
      refine pw_iload_n dX0_compute_55 rfl ?_
      refine lp_cV1 (mi' := mX0_highOf) (As := [_]) (q := (RX0, TX0, 13)) dX0_compute_56 lk_RX0_138 mk_X0_highOf mi_X0_highOf me_X0_highOf ⟨by decide, by decide⟩ rfl rfl (Nat.le_of_ble_eq_true rfl) hb rfl ⟨rfl, rfl⟩ ⟨Nat.zero_le _, Nat.zero_le _⟩ (x_highOf hb s hs) ?_
      refine pw_lsub dX0_compute_59 ?_
      refine lp_putj dX0_compute_60 fp_RX0_53 hb rfl ?_
      refine pw_aload_n dX0_compute_63 rfl ?_
      refine pw_lload dX0_compute_64 rfl ?_
      refine pw_aload_n dX0_compute_66 rfl ?_
      refine pw_iload_n dX0_compute_67 rfl ?_
      refine lp_cV1 (mi' := mX0_lowOf) (As := [_]) (q := (RX0, TX0, 13)) dX0_compute_68 lk_RX0_134 mk_X0_lowOf mi_X0_lowOf me_X0_lowOf ⟨by decide, by decide⟩ rfl rfl (Nat.le_of_ble_eq_true rfl) hb rfl ⟨rfl, rfl⟩ ⟨Nat.zero_le _, Nat.zero_le _⟩ (x_lowOf hb s hs) ?_
      refine pw_lsub dX0_compute_71 ?_
      refine lp_putj dX0_compute_72 fp_RX0_57 hb rfl ?_
      refine pw_goto (tgt := 116) dX0_compute_75 (by decide) ?_
      exact pw_vret rfl dX0_compute_116 (Nat.zero_le _) (Nat.zero_le _) rfl
    · rw [if_neg k2, if_neg k2]
      by_cases k3 : k = 3
      · rw [if_pos k3, if_pos k3]
        have hs := hs (Or.inr (Or.inr k3))
        refine pw_aload_n dX0_compute_0 rfl ?_
        refine pw_iload_n dX0_compute_1 rfl ?_
        refine lp_cV1 (mi' := mX0_lowOf) (As := [_]) (q := (RX0, TX0, 13)) dX0_compute_2 lk_RX0_134 mk_X0_lowOf mi_X0_lowOf me_X0_lowOf ⟨by decide, by decide⟩ rfl rfl (Nat.le_of_ble_eq_true rfl) hb rfl ⟨rfl, rfl⟩ ⟨Nat.zero_le _, Nat.zero_le _⟩ (x_lowOf hb f hf) ?_
        refine pw_lstore dX0_compute_5 (by decide) ?_
        refine pw_aload_n dX0_compute_7 rfl ?_
        refine pw_iload_n dX0_compute_8 rfl ?_
        refine lp_cV1 (mi' := mX0_highOf) (As := [_]) (q := (RX0, TX0, 13)) dX0_compute_9 lk_RX0_138 mk_X0_highOf mi_X0_highOf me_X0_highOf ⟨by decide, by decide⟩ rfl rfl (Nat.le_of_ble_eq_true rfl) hb rfl ⟨rfl, rfl⟩ ⟨Nat.zero_le _, Nat.zero_le _⟩ (x_highOf hb f hf) ?_
        refine pw_lstore dX0_compute_12 (by decide) ?_
        refine pw_iload_n dX0_compute_14 rfl ?_
        refine pw_iconst (v := 1) dX0_compute_15 rfl ?_
        refine pw_icmp_ne 46 dX0_compute_16 (by decide) (fun c_16 => ?_) (fun c_16 => absurd c_16 k1)
        refine pw_iload_n dX0_compute_46 rfl ?_
        refine pw_iconst (v := 2) dX0_compute_47 rfl ?_
        refine pw_icmp_ne 78 dX0_compute_48 (by decide) (fun c_48 => ?_) (fun c_48 => absurd c_48 k2)
        refine pw_iload_n dX0_compute_78 rfl ?_
        refine pw_iconst (v := 3) dX0_compute_79 rfl ?_
        refine pw_icmp_ne 104 dX0_compute_80 (by decide) (fun c_80 => absurd c_80 (fun z => z k3)) (fun c_80 => ?_)
        refine pw_aload_n dX0_compute_83 rfl ?_
        refine pw_lload dX0_compute_84 rfl ?_
        refine pw_lload dX0_compute_86 rfl ?_
        refine pw_aload_n dX0_compute_88 rfl ?_
        refine pw_iload_n dX0_compute_89 rfl ?_
        refine lp_cV1 (mi' := mX0_lowOf) (As := [_]) (q := (RX0, TX0, 13)) dX0_compute_90 lk_RX0_134 mk_X0_lowOf mi_X0_lowOf me_X0_lowOf ⟨by decide, by decide⟩ rfl rfl (Nat.le_of_ble_eq_true rfl) hb rfl ⟨rfl, rfl⟩ ⟨Nat.zero_le _, Nat.zero_le _⟩ (x_lowOf hb s hs) ?_
        refine pw_aload_n dX0_compute_93 rfl ?_
        refine pw_iload_n dX0_compute_94 rfl ?_
        refine lp_cV1 (mi' := mX0_highOf) (As := [_]) (q := (RX0, TX0, 13)) dX0_compute_95 lk_RX0_138 mk_X0_highOf mi_X0_highOf me_X0_highOf ⟨by decide, by decide⟩ rfl rfl (Nat.le_of_ble_eq_true rfl) hb rfl ⟨rfl, rfl⟩ ⟨Nat.zero_le _, Nat.zero_le _⟩ (x_highOf hb s hs) ?_
        refine lp_cV0 (mi' := mX0_multiply) (As := [_, _, _, _]) (q := (RX0, TX0, 13)) dX0_compute_98 lk_RX0_141 mk_X0_multiply mi_X0_multiply me_X0_multiply ⟨by decide, by decide⟩ rfl rfl (Nat.le_of_ble_eq_true rfl) hb rfl ⟨rfl, rfl⟩ ⟨Nat.zero_le _, Nat.zero_le _⟩ (x_multiply hb _ _ _ _) ?_
        refine pw_goto (tgt := 116) dX0_compute_101 (by decide) ?_
        exact pw_vret rfl dX0_compute_116 (Nat.zero_le _) (Nat.zero_le _) rfl
      · rw [if_neg k3, if_neg k3]
        refine pw_aload_n dX0_compute_0 rfl ?_
        refine pw_iload_n dX0_compute_1 rfl ?_
        refine lp_cV1 (mi' := mX0_lowOf) (As := [_]) (q := (RX0, TX0, 13)) dX0_compute_2 lk_RX0_134 mk_X0_lowOf mi_X0_lowOf me_X0_lowOf ⟨by decide, by decide⟩ rfl rfl (Nat.le_of_ble_eq_true rfl) hb rfl ⟨rfl, rfl⟩ ⟨Nat.zero_le _, Nat.zero_le _⟩ (x_lowOf hb f hf) ?_
        refine pw_lstore dX0_compute_5 (by decide) ?_
        refine pw_aload_n dX0_compute_7 rfl ?_
        refine pw_iload_n dX0_compute_8 rfl ?_
        refine lp_cV1 (mi' := mX0_highOf) (As := [_]) (q := (RX0, TX0, 13)) dX0_compute_9 lk_RX0_138 mk_X0_highOf mi_X0_highOf me_X0_highOf ⟨by decide, by decide⟩ rfl rfl (Nat.le_of_ble_eq_true rfl) hb rfl ⟨rfl, rfl⟩ ⟨Nat.zero_le _, Nat.zero_le _⟩ (x_highOf hb f hf) ?_
        refine pw_lstore dX0_compute_12 (by decide) ?_
        refine pw_iload_n dX0_compute_14 rfl ?_
        refine pw_iconst (v := 1) dX0_compute_15 rfl ?_
        refine pw_icmp_ne 46 dX0_compute_16 (by decide) (fun c_16 => ?_) (fun c_16 => absurd c_16 k1)
        refine pw_iload_n dX0_compute_46 rfl ?_
        refine pw_iconst (v := 2) dX0_compute_47 rfl ?_
        refine pw_icmp_ne 78 dX0_compute_48 (by decide) (fun c_48 => ?_) (fun c_48 => absurd c_48 k2)
        refine pw_iload_n dX0_compute_78 rfl ?_
        refine pw_iconst (v := 3) dX0_compute_79 rfl ?_
        refine pw_icmp_ne 104 dX0_compute_80 (by decide) (fun c_80 => ?_) (fun c_80 => absurd c_80 k3)
        refine pw_aload_n dX0_compute_104 rfl ?_
        refine pw_lload dX0_compute_105 rfl ?_
        refine lp_putj dX0_compute_107 fp_RX0_53 hb rfl ?_
        refine pw_aload_n dX0_compute_110 rfl ?_
        refine pw_lload dX0_compute_111 rfl ?_
        refine lp_putj dX0_compute_113 fp_RX0_57 hb rfl ?_
        exact pw_vret rfl dX0_compute_116 (Nat.zero_le _) (Nat.zero_le _) rfl
def noteS (σ : St) (b i : Nat) : St := sL (sL (sA σ (b + 5) (upd (σ.2.2.1 (b + 5)) i 1)) (b + 7) (vp_updL (σ.2.2.2.1 (b + 7)) i (if σ.2.2.1 (b + 5) i = 0 then σ.2.1 b 11 else lsr (σ.2.2.2.1 (b + 7) i) (σ.2.1 b 11)))) (b + 8) (vp_updL (σ.2.2.2.1 (b + 8)) i (if σ.2.2.1 (b + 5) i = 0 then σ.2.1 b 12 else gtr (σ.2.2.2.1 (b + 8) i) (σ.2.1 b 12)))
theorem upd_same {f : Nat → Int32} {i : Nat} {x : Int32} (h : f i = x) : upd f i x = f := by
  funext j
  unfold upd
  by_cases e : j = i
  · rw [if_pos e, e, h]
  · rw [if_neg e]
theorem x_note {b : Nat} (hb : LX.1[b]? = some (.inl 0)) (i : Nat) (hi : i < 30) (hr : σ.2.2.1 (b + 5) i = 0 ∨ σ.2.2.1 (b + 5) i = 1) : SpecD l G mX0_note [.ref (adr b), .int (nI i)] (wp G adr LX Lf Rt σ) none (wp G adr LX Lf Rt (noteS σ b i)) := by
  refine spec_of (by decide) (Nat.le_of_ble_eq_true rfl) (fun sz => ?_)
  have bi : vp_in (nI i) 30 := vp_in_nI hi (by decide)
  have ei : (nI i).toNatClampNeg = i := nI_clamp (by omega)
  unfold noteS
  by_cases h0 : σ.2.2.1 (b + 5) i = 0
  · rw [if_pos h0, if_pos h0]
    refine pw_aload_n dX0_note_0 rfl ?_
    refine lp_getr (b + 5) dX0_note_1 fp_RX0_36.FL hb rfl (rX0_6 hb) ?_
    refine pw_iload_n dX0_note_4 rfl ?_
    refine lp_zald dX0_note_5 (kX0_6 hb) (by assumption) ?_
    rw [ei]
    refine pw_if_eq 50 dX0_note_6 (by decide) (fun c_6 => ?_) (fun c_6 => absurd h0 c_6)
    refine pw_aload_n dX0_note_50 rfl ?_
    refine lp_getr (b + 5) dX0_note_51 fp_RX0_36.FL hb rfl (rX0_6 hb) ?_
    refine pw_iload_n dX0_note_54 rfl ?_
    refine pw_iconst (v := 1) dX0_note_55 rfl ?_
    refine lp_zast dX0_note_56 (kX0_6 hb) (by assumption) rfl ?_
    refine pw_aload_n dX0_note_57 rfl ?_
    refine lp_getr (b + 7) dX0_note_58 fp_RX0_43.FL hb rfl (rX0_8 hb) ?_
    refine pw_iload_n dX0_note_61 rfl ?_
    refine pw_aload_n dX0_note_62 rfl ?_
    refine lp_getj dX0_note_63 fp_RX0_53.FL hb rfl ?_
    refine lp_last dX0_note_66 (kX0_8 hb) (by assumption) ?_
    refine pw_aload_n dX0_note_67 rfl ?_
    refine lp_getr (b + 8) dX0_note_68 fp_RX0_46.FL hb rfl (rX0_9 hb) ?_
    refine pw_iload_n dX0_note_71 rfl ?_
    refine pw_aload_n dX0_note_72 rfl ?_
    refine lp_getj dX0_note_73 fp_RX0_57.FL hb rfl ?_
    refine lp_last dX0_note_76 (kX0_9 hb) (by assumption) ?_
    exact pw_vret rfl dX0_note_77 (Nat.zero_le _) (Nat.zero_le _) (by
      rw [ei]
      rw [gL' (show ¬ b + 8 = b + 7 by omega)]
      rfl)
  · have h1 : σ.2.2.1 (b + 5) i = 1 := hr.resolve_left h0
    rw [if_neg h0, if_neg h0, upd_same h1, sA_self]
    refine pw_aload_n dX0_note_0 rfl ?_
    refine lp_getr (b + 5) dX0_note_1 fp_RX0_36.FL hb rfl (rX0_6 hb) ?_
    refine pw_iload_n dX0_note_4 rfl ?_
    refine lp_zald dX0_note_5 (kX0_6 hb) (by assumption) ?_
    rw [ei]
    refine pw_if_eq 50 dX0_note_6 (by decide) (fun c_6 => absurd c_6 h0) (fun c_6 => ?_)
    refine pw_aload_n dX0_note_9 rfl ?_
    refine lp_getr (b + 7) dX0_note_10 fp_RX0_43.FL hb rfl (rX0_8 hb) ?_
    refine pw_iload_n dX0_note_13 rfl ?_
    refine pw_aload_n dX0_note_14 rfl ?_
    refine lp_getr (b + 7) dX0_note_15 fp_RX0_43.FL hb rfl (rX0_8 hb) ?_
    refine pw_iload_n dX0_note_18 rfl ?_
    refine lp_lald dX0_note_19 (kX0_8 hb) (by assumption) ?_
    refine pw_aload_n dX0_note_20 rfl ?_
    refine lp_getj dX0_note_21 fp_RX0_53.FL hb rfl ?_
    refine pw_lmin dX0_note_24 ma_RX0_128 ma_s_min ma_i ma_c_min (by decide) (Nat.le_of_ble_eq_true rfl) (Nat.zero_le _) (Nat.zero_le _) ?_
    refine pw_topl (lsr (σ.2.2.2.1 (b + 7) i) (σ.2.1 b 11)) (by rw [ei]; exact lmin_lsr _ _) ?_
    refine lp_last dX0_note_27 (kX0_8 hb) (by assumption) ?_
    refine pw_aload_n dX0_note_28 rfl ?_
    refine lp_getr (b + 8) dX0_note_29 fp_RX0_46.FL hb rfl (rX0_9 hb) ?_
    refine pw_iload_n dX0_note_32 rfl ?_
    refine pw_aload_n dX0_note_33 rfl ?_
    refine lp_getr (b + 8) dX0_note_34 fp_RX0_46.FL hb rfl (rX0_9 hb) ?_
    refine pw_iload_n dX0_note_37 rfl ?_
    refine lp_lald dX0_note_38 (kX0_9 hb) (by assumption) ?_
    refine pw_aload_n dX0_note_39 rfl ?_
    refine lp_getj dX0_note_40 fp_RX0_57.FL hb rfl ?_
    refine pw_lmax dX0_note_43 ma_RX0_120 ma_s_max ma_i ma_c_max (by decide) (Nat.le_of_ble_eq_true rfl) (Nat.zero_le _) (Nat.zero_le _) ?_
    refine pw_topl (gtr (σ.2.2.2.1 (b + 8) i) (σ.2.1 b 12)) (by rw [ei, gL' (show ¬ b + 8 = b + 7 by omega)]; rfl) ?_
    refine lp_last dX0_note_46 (kX0_9 hb) (by assumption) ?_
    refine pw_goto (tgt := 77) dX0_note_47 (by decide) ?_
    exact pw_vret rfl dX0_note_77 (Nat.zero_le _) (Nat.zero_le _) (by
      rw [ei]
      rw [gL' (show ¬ b + 8 = b + 7 by omega)])
end XN
