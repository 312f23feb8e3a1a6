/-! THE CLASS: reading a text, the small methods -/
theorem ch_let {t : Nat → Int32} {tl p : Nat} (h : isLet (ch t tl p) = true) : p < tl ∧ ch t tl p = t p := by
  by_cases hp : p < tl
  · exact ⟨hp, by unfold ch; rw [if_pos hp]⟩
  · unfold ch at h; rw [if_neg hp] at h; exact absurd h (by decide)
theorem ch_fig {t : Nat → Int32} {tl p : Nat} (h : isFig (ch t tl p) = true) : p < tl ∧ ch t tl p = t p := by
  by_cases hp : p < tl
  · exact ⟨hp, by unfold ch; rw [if_pos hp]⟩
  · unfold ch at h; rw [if_neg hp] at h; exact absurd h (by decide)
theorem rdNum_0 {t : Nat → Int32} {tl p : Nat} {v : Int32} (k : Nat) (h : isFig (ch t tl p) = false) : rdNum t tl k p v = (p, v) := by
  cases k with
  | zero => rfl
  | succ k => rw [rdNum, if_neg (by rw [h]; decide)]
theorem rdNum_m {t : Nat → Int32} {tl : Nat} : ∀ (k p : Nat) (v : Int32), p ≤ (rdNum t tl k p v).1 ∧ (rdNum t tl k p v).1 ≤ p + k := by
  intro k
  induction k with
  | zero => intro p v; exact ⟨Nat.le_refl _, Nat.le_refl _⟩
  | succ k ih =>
    intro p v
    rw [rdNum]
    by_cases h : isFig (ch t tl p) = true
    · rw [if_pos h]
      have := ih (p + 1) (10 * v + t p - 48)
      omega
    · rw [if_neg h]; dsimp only; omega
theorem rdNum_s {t : Nat → Int32} {tl p : Nat} {v : Int32} (k : Nat) (h : isFig (ch t tl p) = true) : p < (rdNum t tl (k + 1) p v).1 := by
  rw [rdNum, if_pos h]
  have := (rdNum_m (t := t) (tl := tl) k (p + 1) (10 * v + t p - 48)).1
  omega
/-- an operand as the class reads it -/
def opP (t : Nat → Int32) (tl p : Nat) : Nat := if ch t tl p = 95 then p + 1 else p
def opR (t : Nat → Int32) (tl p : Nat) : Nat × Option Int32 :=
  if isLet (ch t tl p) = true then (p + 1, some (ch t tl p - 97)) else
  if isFig (ch t tl (opP t tl p)) = true then ((rdNum t tl 4 (opP t tl p) 0).1, some (20000 + (if ch t tl p = 95 then -(rdNum t tl 4 (opP t tl p) 0).2 else (rdNum t tl 4 (opP t tl p) 0).2))) else (opP t tl p, none)
theorem opR_rd {t : Nat → Int32} {tl p : Nat} : rdOpd t tl p = (match opR t tl p with
  | (q, none) => (q, -1)
  | (q, some v) => if isLet (ch t tl p) = true then (q, v) else if isFig (ch t tl q) = true then (q, -1) else (q, v)) := by
  unfold rdOpd opR
  by_cases hl : isLet (ch t tl p) = true
  · rw [if_pos hl, if_pos hl]
    dsimp only
    rw [if_pos hl, (ch_let hl).2]
  · rw [if_neg hl, if_neg hl]
    show (if (rdNum t tl 4 (opP t tl p) 0).1 = opP t tl p ∨ isFig (ch t tl (rdNum t tl 4 (opP t tl p) 0).1) = true then _ else _) = _
    by_cases hf : isFig (ch t tl (opP t tl p)) = true
    · have hne : ¬ (rdNum t tl 4 (opP t tl p) 0).1 = opP t tl p := by have : opP t tl p < (rdNum t tl 4 (opP t tl p) 0).1 := rdNum_s (v := 0) 3 hf; omega
      rw [if_pos hf]
      dsimp only
      rw [if_neg hl]
      by_cases h5 : isFig (ch t tl (rdNum t tl 4 (opP t tl p) 0).1) = true
      · rw [if_pos (Or.inr h5), if_pos h5]; rfl
      · rw [if_neg (fun z => z.elim hne h5), if_neg h5]; rfl
    · have e := rdNum_0 (t := t) (tl := tl) (p := opP t tl p) (v := 0) 4 (by cases h : isFig (ch t tl (opP t tl p)); rfl; exact absurd h hf)
      rw [if_neg hf]
      dsimp only
      rw [if_pos (Or.inl (by rw [e]))]
      exact congrArg (fun z => (z, (-1 : Int32))) (congrArg Prod.fst e)
section XY
variable {l : Launch} {G : cxG} {adr : Nat → Nat} {Lf Rt : va_W} {σ : St} {tl : Nat}
theorem x_Tat (hT : σ.1 1 1 = nI tl) (htl : tl ≤ 200) (p : Nat) (hp : p < 1000) : SpecD l G mX9_at [.ref (adr 1), .int (nI p)] (wp G adr LX Lf Rt σ) (some (.int (ch (σ.2.2.1 2) tl p))) (wp G adr LX Lf Rt σ) := by
  refine spec_of (by decide) (Nat.le_of_ble_eq_true rfl) (fun sz => ?_)
  have ep : (nI p).toNatClampNeg = p := nI_clamp (by omega)
  unfold ch
  by_cases h : p < tl
  · rw [if_pos h]
    have bp : vp_in (nI p) 200 := vp_in_nI (by omega) (by decide)
    refine pw_iload_n dX9_at_0 rfl ?_
    refine pw_if_lt 21 dX9_at_1 (by decide) (fun c_1 => absurd c_1 (nI_pos (by omega))) (fun c_1 => ?_)
    refine pw_iload_n dX9_at_4 rfl ?_
    refine pw_aload_n dX9_at_5 rfl ?_
    refine lp_geti dX9_at_6 fp_RX9_15.FL rfl rfl ?_
    refine pw_top (nI tl) hT ?_
    refine pw_icmp_ge 21 dX9_at_9 (by decide) (fun c_9 => absurd c_9 (nI_ge h (by omega))) (fun c_9 => ?_)
    refine pw_aload_n dX9_at_12 rfl ?_
    refine lp_getr 2 dX9_at_13 fp_RX9_9.FL rfl rfl rfl ?_
    refine pw_iload_n dX9_at_16 rfl ?_
    refine lp_iald dX9_at_17 rfl bp ?_
    rw [ep]
    refine pw_goto (tgt := 22) dX9_at_18 (by decide) ?_
    exact pw_iret rfl rfl dX9_at_22 (Nat.zero_le _) (Nat.zero_le _) rfl
  · rw [if_neg h]
    refine pw_iload_n dX9_at_0 rfl ?_
    refine pw_if_lt 21 dX9_at_1 (by decide) (fun c_1 => absurd c_1 (nI_pos (by omega))) (fun c_1 => ?_)
    refine pw_iload_n dX9_at_4 rfl ?_
    refine pw_aload_n dX9_at_5 rfl ?_
    refine lp_geti dX9_at_6 fp_RX9_15.FL rfl rfl ?_
    refine pw_top (nI tl) hT ?_
    refine pw_icmp_ge 21 dX9_at_9 (by decide) (fun c_9 => ?_) (fun c_9 => absurd (nI_le (by omega) (by omega)) c_9)
    refine pw_iconst (v := -1) dX9_at_21 rfl ?_
    exact pw_iret rfl rfl dX9_at_22 (Nat.zero_le _) (Nat.zero_le _) rfl
theorem x_isLet (x : Int32) (ws : va_W) : SpecD l G mX4_isLetter [.int x] ws (some (.int (bI (isLet x)))) ws := by
  refine spec_of (by decide) (Nat.le_of_ble_eq_true rfl) (fun sz => ?_)
  have e : (x < 105) ↔ (x ≤ 104) := by
    rw [Int32.lt_iff_toInt_lt, Int32.le_iff_toInt_le, show (105 : Int32).toInt = 105 from by decide, show (104 : Int32).toInt = 104 from by decide]; omega
  unfold isLet
  by_cases h : 97 ≤ x ∧ x ≤ 104
  · rw [decide_eq_true h]
    refine pw_iload_n dX4_isLetter_0 rfl ?_
    refine pw_bipush (v := 97) dX4_isLetter_1 rfl ?_
    refine pw_icmp_lt 16 dX4_isLetter_3 (by decide) (fun c_3 => absurd c_3 (Int32.not_lt.mpr h.1)) (fun c_3 => ?_)
    refine pw_iload_n dX4_isLetter_6 rfl ?_
    refine pw_bipush (v := 105) dX4_isLetter_7 rfl ?_
    refine pw_icmp_ge 16 dX4_isLetter_9 (by decide) (fun c_9 => absurd (e.mpr h.2) (Int32.not_lt.mpr c_9)) (fun c_9 => ?_)
    refine pw_iconst (v := 1) dX4_isLetter_12 rfl ?_
    refine pw_goto (tgt := 17) dX4_isLetter_13 (by decide) ?_
    exact pw_iret rfl rfl dX4_isLetter_17 (Nat.zero_le _) (Nat.zero_le _) rfl
  · rw [decide_eq_false h]
    by_cases h0 : x < 97
    · refine pw_iload_n dX4_isLetter_0 rfl ?_
      refine pw_bipush (v := 97) dX4_isLetter_1 rfl ?_
      refine pw_icmp_lt 16 dX4_isLetter_3 (by decide) (fun c_3 => ?_) (fun c_3 => absurd h0 c_3)
      refine pw_iconst (v := 0) dX4_isLetter_16 rfl ?_
      exact pw_iret rfl rfl dX4_isLetter_17 (Nat.zero_le _) (Nat.zero_le _) rfl
    · refine pw_iload_n dX4_isLetter_0 rfl ?_
      refine pw_bipush (v := 97) dX4_isLetter_1 rfl ?_
      refine pw_icmp_lt 16 dX4_isLetter_3 (by decide) (fun c_3 => absurd c_3 h0) (fun c_3 => ?_)
      refine pw_iload_n dX4_isLetter_6 rfl ?_
      refine pw_bipush (v := 105) dX4_isLetter_7 rfl ?_
      refine pw_icmp_ge 16 dX4_isLetter_9 (by decide) (fun c_9 => ?_) (fun c_9 => absurd (Int32.not_lt.mp (fun q => h ⟨Int32.not_lt.mp h0, e.mp q⟩)) c_9)
      refine pw_iconst (v := 0) dX4_isLetter_16 rfl ?_
      exact pw_iret rfl rfl dX4_isLetter_17 (Nat.zero_le _) (Nat.zero_le _) rfl
theorem x_isFig (x : Int32) (ws : va_W) : SpecD l G mX4_isDigit [.int x] ws (some (.int (bI (isFig x)))) ws := by
  refine spec_of (by decide) (Nat.le_of_ble_eq_true rfl) (fun sz => ?_)
  unfold isFig
  by_cases h : 48 ≤ x ∧ x ≤ 57
  · rw [decide_eq_true h]
    refine pw_iload_n dX4_isDigit_0 rfl ?_
    refine pw_bipush (v := 48) dX4_isDigit_1 rfl ?_
    refine pw_icmp_lt 16 dX4_isDigit_3 (by decide) (fun c_3 => absurd c_3 (Int32.not_lt.mpr h.1)) (fun c_3 => ?_)
    refine pw_iload_n dX4_isDigit_6 rfl ?_
    refine pw_bipush (v := 57) dX4_isDigit_7 rfl ?_
    refine pw_icmp_gt 16 dX4_isDigit_9 (by decide) (fun c_9 => absurd c_9 (Int32.not_lt.mpr h.2)) (fun c_9 => ?_)
    refine pw_iconst (v := 1) dX4_isDigit_12 rfl ?_
    refine pw_goto (tgt := 17) dX4_isDigit_13 (by decide) ?_
    exact pw_iret rfl rfl dX4_isDigit_17 (Nat.zero_le _) (Nat.zero_le _) rfl
  · rw [decide_eq_false h]
    by_cases h0 : x < 48
    · refine pw_iload_n dX4_isDigit_0 rfl ?_
      refine pw_bipush (v := 48) dX4_isDigit_1 rfl ?_
      refine pw_icmp_lt 16 dX4_isDigit_3 (by decide) (fun c_3 => ?_) (fun c_3 => absurd h0 c_3)
      refine pw_iconst (v := 0) dX4_isDigit_16 rfl ?_
      exact pw_iret rfl rfl dX4_isDigit_17 (Nat.zero_le _) (Nat.zero_le _) rfl
    · refine pw_iload_n dX4_isDigit_0 rfl ?_
      refine pw_bipush (v := 48) dX4_isDigit_1 rfl ?_
      refine pw_icmp_lt 16 dX4_isDigit_3 (by decide) (fun c_3 => absurd c_3 h0) (fun c_3 => ?_)
      refine pw_iload_n dX4_isDigit_6 rfl ?_
      refine pw_bipush (v := 57) dX4_isDigit_7 rfl ?_
      refine pw_icmp_gt 16 dX4_isDigit_9 (by decide) (fun c_9 => ?_) (fun c_9 => absurd (Int32.not_le.mp (fun q => h ⟨Int32.not_lt.mp h0, q⟩)) c_9)
      refine pw_iconst (v := 0) dX4_isDigit_16 rfl ?_
      exact pw_iret rfl rfl dX4_isDigit_17 (Nat.zero_le _) (Nat.zero_le _) rfl
theorem x_kindOf (x : Int32) (ws : va_W) : SpecD l G mX4_kindOf [.int x] ws (some (.int (kindC x))) ws := by
  refine spec_of (by decide) (Nat.le_of_ble_eq_true rfl) (fun sz => ?_)
  unfold kindC
  by_cases h43 : x = 43
  · rw [if_pos h43]
    subst h43
    refine pw_iload_n dX4_kindOf_0 rfl ?_
    refine pw_tableIn (off := 31) 32 dX4_kindOf_1 (by decide) (by decide) (by decide) (by decide) ?_
    refine pw_iconst (v := 1) dX4_kindOf_32 rfl ?_
    exact pw_iret rfl rfl dX4_kindOf_33 (Nat.zero_le _) (Nat.zero_le _) rfl
  · rw [if_neg h43]
    by_cases h45 : x = 45
    · rw [if_pos h45]
      subst h45
      refine pw_iload_n dX4_kindOf_0 rfl ?_
      refine pw_tableIn (off := 33) 34 dX4_kindOf_1 (by decide) (by decide) (by decide) (by decide) ?_
      refine pw_iconst (v := 2) dX4_kindOf_34 rfl ?_
      exact pw_iret rfl rfl dX4_kindOf_35 (Nat.zero_le _) (Nat.zero_le _) rfl
    · rw [if_neg h45]
      by_cases h42 : x = 42
      · rw [if_pos h42]
        subst h42
        refine pw_iload_n dX4_kindOf_0 rfl ?_
        refine pw_tableIn (off := 35) 36 dX4_kindOf_1 (by decide) (by decide) (by decide) (by decide) ?_
        refine pw_iconst (v := 3) dX4_kindOf_36 rfl ?_
        exact pw_iret rfl rfl dX4_kindOf_37 (Nat.zero_le _) (Nat.zero_le _) rfl
      · rw [if_neg h42]
        by_cases h44 : x = 44
        · subst h44
          refine pw_iload_n dX4_kindOf_0 rfl ?_
          refine pw_tableIn (off := 37) 38 dX4_kindOf_1 (by decide) (by decide) (by decide) (by decide) ?_
          refine pw_iconst (v := 0) dX4_kindOf_38 rfl ?_
          exact pw_iret rfl rfl dX4_kindOf_39 (Nat.zero_le _) (Nat.zero_le _) rfl
        · have hx : x.toInt < 42 ∨ 45 < x.toInt := by
            have n (y : Int32) (h : ¬ x = y) : ¬ x.toInt = y.toInt := fun q => h (Int32.toInt_inj.mp q)
            have a := n 42 h42
            have b := n 43 h43
            have c := n 44 h44
            have d := n 45 h45
            rw [show (42 : Int32).toInt = 42 from by decide] at a
            rw [show (43 : Int32).toInt = 43 from by decide] at b
            rw [show (44 : Int32).toInt = 44 from by decide] at c
            rw [show (45 : Int32).toInt = 45 from by decide] at d
            omega
          refine pw_iload_n dX4_kindOf_0 rfl ?_
          refine pw_tableOut 38 dX4_kindOf_1 hx (by decide) ?_
          refine pw_iconst (v := 0) dX4_kindOf_38 rfl ?_
          exact pw_iret rfl rfl dX4_kindOf_39 (Nat.zero_le _) (Nat.zero_le _) rfl
theorem x_take (hT : σ.1 1 1 = nI tl) (htl : tl ≤ 200) (p : Nat) (hp : p < 900) (hat : σ.1 10 2 = nI p) (d : Int32) : SpecD l G mX4_take [.ref (adr 10), .int d] (wp G adr LX Lf Rt σ) (some (.int (bI (decide (ch (σ.2.2.1 2) tl p = d))))) (wp G adr LX Lf Rt (if ch (σ.2.2.1 2) tl p = d then sI σ 10 2 (nI (p + 1)) else sI σ 10 3 (nI p))) := by
  refine spec_of (by decide) (Nat.le_of_ble_eq_true rfl) (fun sz => ?_)
  by_cases h : ch (σ.2.2.1 2) tl p = d
  · rw [if_pos h, decide_eq_true h]
    refine pw_aload_n dX4_take_0 rfl ?_
    refine lp_getr 1 dX4_take_1 fp_RX4_25.FL rfl rfl rfl ?_
    refine pw_aload_n dX4_take_4 rfl ?_
    refine lp_geti dX4_take_5 fp_RX4_9.FL rfl rfl ?_
    refine pw_top (nI p) hat ?_
    refine lp_cV1 (mi' := mX9_at) (As := [_]) (q := (RX9, TX9, 2)) dX4_take_8 lk_RX4_46 mk_X9_at mi_X9_at me_X9_at ⟨by decide, by decide⟩ rfl rfl (Nat.le_of_ble_eq_true rfl) rfl rfl ⟨rfl, rfl⟩ ⟨Nat.zero_le _, Nat.zero_le _⟩ (x_Tat hT htl p (by omega)) ?_
    refine pw_iload_n dX4_take_11 rfl ?_
    refine pw_icmp_eq 25 dX4_take_12 (by decide) (fun c_12 => ?_) (fun c_12 => absurd h c_12)
    refine pw_aload_n dX4_take_25 rfl ?_
    refine pw_dup dX4_take_26 rfl ?_
    refine lp_geti dX4_take_27 fp_RX4_9.FL rfl rfl ?_
    refine pw_top (nI p) hat ?_
    refine pw_iconst (v := 1) dX4_take_30 rfl ?_
    refine pw_iadd dX4_take_31 ?_
    refine pw_top (nI (p + 1)) (nI_1 p) ?_
    refine lp_puti dX4_take_32 fp_RX4_9 rfl rfl rfl rfl ?_
    refine pw_iconst (v := 1) dX4_take_35 rfl ?_
    exact pw_iret rfl rfl dX4_take_36 (Nat.zero_le _) (Nat.zero_le _) rfl
  · rw [if_neg h, decide_eq_false h]
    refine pw_aload_n dX4_take_0 rfl ?_
    refine lp_getr 1 dX4_take_1 fp_RX4_25.FL rfl rfl rfl ?_
    refine pw_aload_n dX4_take_4 rfl ?_
    refine lp_geti dX4_take_5 fp_RX4_9.FL rfl rfl ?_
    refine pw_top (nI p) hat ?_
    refine lp_cV1 (mi' := mX9_at) (As := [_]) (q := (RX9, TX9, 2)) dX4_take_8 lk_RX4_46 mk_X9_at mi_X9_at me_X9_at ⟨by decide, by decide⟩ rfl rfl (Nat.le_of_ble_eq_true rfl) rfl rfl ⟨rfl, rfl⟩ ⟨Nat.zero_le _, Nat.zero_le _⟩ (x_Tat hT htl p (by omega)) ?_
    refine pw_iload_n dX4_take_11 rfl ?_
    refine pw_icmp_eq 25 dX4_take_12 (by decide) (fun c_12 => absurd c_12 h) (fun c_12 => ?_)
    refine pw_aload_n dX4_take_15 rfl ?_
    refine pw_aload_n dX4_take_16 rfl ?_
    refine lp_geti dX4_take_17 fp_RX4_9.FL rfl rfl ?_
    refine pw_top (nI p) hat ?_
    refine lp_puti dX4_take_20 fp_RX4_15 rfl rfl rfl rfl ?_
    refine pw_iconst (v := 0) dX4_take_23 rfl ?_
    exact pw_iret rfl rfl dX4_take_24 (Nat.zero_le _) (Nat.zero_le _) rfl
theorem num_step (v c : Int32) : 10 * v + (c - 48) = 10 * v + c - 48 := by
  rw [Int32.sub_eq_add_neg, Int32.sub_eq_add_neg, Int32.add_assoc]
theorem rn_loop {sz : Nat} {w0 : va_W} {fin : OC → Prop} (hT : σ.1 1 1 = nI tl) (htl : tl ≤ 200) (k : Nat) (hk : k ≤ 4) (R : Nat × Int32) (kk : fin (.inl (some (.int R.2), wp G adr LX Lf Rt (sI σ 10 2 (nI R.1))))) :
    ∀ (r n p : Nat) (v : Int32), n + r = k → p + r < 800 → rdNum (σ.2.2.1 2) tl r p v = R → PW l G mX4_readNumber w0 sz fin 4 [(0, .ref (adr 10)), (1, .int (nI k)), (2, .int v), (3, .int (nI n))] [] 0 0 (wp G adr LX Lf Rt (sI σ 10 2 (nI p))) := by
  intro r
  induction r with
  | zero =>
    intro n p v hn hp hR
    have hn : n = k := by omega
    subst hn
    have hR : (p, v) = R := hR
    rw [← hR] at kk
    refine pw_iload_n dX4_readNumber_4 rfl ?_
    refine pw_iload_n dX4_readNumber_5 rfl ?_
    refine pw_icmp_ge 62 dX4_readNumber_6 (by decide) (fun c_6 => ?_) (fun c_6 => absurd (nI_le (Nat.le_refl n) (by omega)) c_6)
    refine pw_iload_n dX4_readNumber_62 rfl ?_
    exact pw_iret rfl rfl dX4_readNumber_63 (Nat.zero_le _) (Nat.zero_le _) kk
  | succ r ih =>
    intro n p v hn hp hR
    have hat := x_Tat (l := l) (G := G) (adr := adr) (Lf := Lf) (Rt := Rt) (σ := sI σ 10 2 (nI p)) hT htl p (by omega)
    rw [rdNum] at hR
    by_cases hf : isFig (ch (σ.2.2.1 2) tl p) = true
    · rw [if_pos hf] at hR
      rw [← (ch_fig hf).2] at hR
      have hat : SpecD l G mX9_at [.ref (adr 1), .int (nI p)] (wp G adr LX Lf Rt (sI σ 10 2 (nI p))) (some (.int (ch (σ.2.2.1 2) tl p))) (wp G adr LX Lf Rt (sI σ 10 2 (nI p))) := hat
      generalize ch (σ.2.2.1 2) tl p = c at hat hf hR
      refine pw_iload_n dX4_readNumber_4 rfl ?_
      refine pw_iload_n dX4_readNumber_5 rfl ?_
      refine pw_icmp_ge 62 dX4_readNumber_6 (by decide) (fun c_6 => absurd c_6 (nI_ge (by omega) (by omega))) (fun c_6 => ?_)
      refine pw_aload_n dX4_readNumber_9 rfl ?_
      refine lp_getr 1 dX4_readNumber_10 fp_RX4_25.FL rfl rfl rfl ?_
      refine pw_aload_n dX4_readNumber_13 rfl ?_
      refine lp_geti dX4_readNumber_14 fp_RX4_9.FL rfl rfl ?_
      refine pw_top (nI p) rfl ?_
      refine lp_cV1 (mi' := mX9_at) (As := [_]) (q := (RX9, TX9, 2)) dX4_readNumber_17 lk_RX4_46 mk_X9_at mi_X9_at me_X9_at ⟨by decide, by decide⟩ rfl rfl (Nat.le_of_ble_eq_true rfl) rfl rfl ⟨rfl, rfl⟩ ⟨Nat.zero_le _, Nat.zero_le _⟩ hat ?_
      refine lp_cS1 (mi' := mX4_isDigit) (As := [_]) dX4_readNumber_20 lk_RX4_56 mk_X4_isDigit ms_X4_isDigit ⟨by decide, by decide⟩ rfl rfl (Nat.le_of_ble_eq_true rfl) ⟨rfl, rfl⟩ ⟨Nat.zero_le _, Nat.zero_le _⟩ (x_isFig _ _) ?_
      rw [hf]
      refine pw_if_eq 62 dX4_readNumber_23 (by decide) (fun c_23 => absurd (show (1 : Int32) = 0 from c_23) (by decide)) (fun c_23 => ?_)
      refine pw_bipush (v := 10) dX4_readNumber_26 rfl ?_
      refine pw_iload_n dX4_readNumber_28 rfl ?_
      refine pw_imul dX4_readNumber_29 ?_
      refine pw_aload_n dX4_readNumber_30 rfl ?_
      refine lp_getr 1 dX4_readNumber_31 fp_RX4_25.FL rfl rfl rfl ?_
      refine pw_aload_n dX4_readNumber_34 rfl ?_
      refine lp_geti dX4_readNumber_35 fp_RX4_9.FL rfl rfl ?_
      refine pw_top (nI p) rfl ?_
      refine lp_cV1 (mi' := mX9_at) (As := [_]) (q := (RX9, TX9, 2)) dX4_readNumber_38 lk_RX4_46 mk_X9_at mi_X9_at me_X9_at ⟨by decide, by decide⟩ rfl rfl (Nat.le_of_ble_eq_true rfl) rfl rfl ⟨rfl, rfl⟩ ⟨Nat.zero_le _, Nat.zero_le _⟩ hat ?_
      refine pw_bipush (v := 48) dX4_readNumber_41 rfl ?_
      refine pw_isub dX4_readNumber_43 ?_
      refine pw_iadd dX4_readNumber_44 ?_
      refine pw_top (10 * v + c - 48) (num_step v c) ?_
      refine pw_istore_n dX4_readNumber_45 (by decide) ?_
      refine pw_aload_n dX4_readNumber_46 rfl ?_
      refine pw_dup dX4_readNumber_47 rfl ?_
      refine lp_geti dX4_readNumber_48 fp_RX4_9.FL rfl rfl ?_
      refine pw_top (nI p) rfl ?_
      refine pw_iconst (v := 1) dX4_readNumber_51 rfl ?_
      refine pw_iadd dX4_readNumber_52 ?_
      refine pw_top (nI (p + 1)) (nI_1 p) ?_
      refine lp_puti dX4_readNumber_53 fp_RX4_9 rfl rfl rfl rfl ?_
      rw [sI_sI]
      refine pw_iinc dX4_readNumber_56 rfl (by decide) ?_
      refine pw_goto (tgt := 4) dX4_readNumber_59 (by decide) ?_
      exact pw_lk [(0, .ref (adr 10)), (1, .int (nI k)), (2, .int (10 * v + c - 48)), (3, .int (nI (n + 1)))] ⟨rfl, rfl, rfl, congrArg (fun x => some (Value.int x)) (nI_1 n), trivial⟩ (ih (n + 1) (p + 1) _ (by omega) (by omega) hR)
    · have hf' : isFig (ch (σ.2.2.1 2) tl p) = false := by
        cases h : isFig (ch (σ.2.2.1 2) tl p)
        · rfl
        · exact absurd h hf
      rw [if_neg hf] at hR
      rw [← hR] at kk
      refine pw_iload_n dX4_readNumber_4 rfl ?_
      refine pw_iload_n dX4_readNumber_5 rfl ?_
      refine pw_icmp_ge 62 dX4_readNumber_6 (by decide) (fun c_6 => absurd c_6 (nI_ge (by omega) (by omega))) (fun c_6 => ?_)
      refine pw_aload_n dX4_readNumber_9 rfl ?_
      refine lp_getr 1 dX4_readNumber_10 fp_RX4_25.FL rfl rfl rfl ?_
      refine pw_aload_n dX4_readNumber_13 rfl ?_
      refine lp_geti dX4_readNumber_14 fp_RX4_9.FL rfl rfl ?_
      refine pw_top (nI p) rfl ?_
      refine lp_cV1 (mi' := mX9_at) (As := [_]) (q := (RX9, TX9, 2)) dX4_readNumber_17 lk_RX4_46 mk_X9_at mi_X9_at me_X9_at ⟨by decide, by decide⟩ rfl rfl (Nat.le_of_ble_eq_true rfl) rfl rfl ⟨rfl, rfl⟩ ⟨Nat.zero_le _, Nat.zero_le _⟩ hat ?_
      refine lp_cS1 (mi' := mX4_isDigit) (As := [_]) dX4_readNumber_20 lk_RX4_56 mk_X4_isDigit ms_X4_isDigit ⟨by decide, by decide⟩ rfl rfl (Nat.le_of_ble_eq_true rfl) ⟨rfl, rfl⟩ ⟨Nat.zero_le _, Nat.zero_le _⟩ (x_isFig _ _) ?_
      rw [show isFig (ch ((sI σ 10 2 (nI p)).2.2.1 2) tl p) = false from hf']
      refine pw_if_eq 62 dX4_readNumber_23 (by decide) (fun c_23 => ?_) (fun c_23 => absurd rfl c_23)
      refine pw_iload_n dX4_readNumber_62 rfl ?_
      exact pw_iret rfl rfl dX4_readNumber_63 (Nat.zero_le _) (Nat.zero_le _) kk
theorem x_readNumber (hT : σ.1 1 1 = nI tl) (htl : tl ≤ 200) (k : Nat) (hk : k ≤ 4) (p : Nat) (hp : p < 700) (hat : σ.1 10 2 = nI p) : SpecD l G mX4_readNumber [.ref (adr 10), .int (nI k)] (wp G adr LX Lf Rt σ) (some (.int (rdNum (σ.2.2.1 2) tl k p 0).2)) (wp G adr LX Lf Rt (sI σ 10 2 (nI (rdNum (σ.2.2.1 2) tl k p 0).1))) := by
  refine spec_of (by decide) (Nat.le_of_ble_eq_true rfl) (fun sz => ?_)
  have e : σ = sI σ 10 2 (nI p) := by rw [← hat]; exact (sI_self σ 10 2).symm
  refine pw_iconst (v := 0) dX4_readNumber_0 rfl ?_
  refine pw_istore_n dX4_readNumber_1 (by decide) ?_
  refine pw_iconst (v := 0) dX4_readNumber_2 rfl ?_
  refine pw_istore_n dX4_readNumber_3 (by decide) ?_
  refine pw_lk [(0, .ref (adr 10)), (1, .int (nI k)), (2, .int 0), (3, .int (nI 0))] ⟨rfl, rfl, rfl, rfl, trivial⟩ (pw_st e (rn_loop hT htl k hk (rdNum (σ.2.2.1 2) tl k p 0) ?_ k 0 p 0 (by omega) (by omega) rfl))
  rfl
def opS (σ : St) (q : Nat × Option Int32) : St := match q.2 with
  | some _ => sI σ 10 2 (nI q.1)
  | none => sI (sI σ 10 2 (nI q.1)) 10 3 (nI q.1)
def opV (q : Nat × Option Int32) : Int32 := match q.2 with
  | some v => v
  | none => -1
theorem ro_tail {sz : Nat} {w0 : va_W} {fin : OC → Prop} (hT : σ.1 1 1 = nI tl) (htl : tl ≤ 200) (p1 : Nat) (hp : p1 < 600) (mn : Bool)
    (k1 : isFig (ch (σ.2.2.1 2) tl p1) = true → fin (.inl (some (.int (20000 + (if mn = true then -(rdNum (σ.2.2.1 2) tl 4 p1 0).2 else (rdNum (σ.2.2.1 2) tl 4 p1 0).2))), wp G adr LX Lf Rt (sI σ 10 2 (nI (rdNum (σ.2.2.1 2) tl 4 p1 0).1)))))
    (k0 : isFig (ch (σ.2.2.1 2) tl p1) = false → fin (.inl (some (.int (-1)), wp G adr LX Lf Rt (sI (sI σ 10 2 (nI p1)) 10 3 (nI p1))))) :
    PW l G mX4_readOperand w0 sz fin 60 [(0, .ref (adr 10)), (2, .int (bI mn))] [] 0 0 (wp G adr LX Lf Rt (sI σ 10 2 (nI p1))) := by
  have hat := x_Tat (l := l) (G := G) (adr := adr) (Lf := Lf) (Rt := Rt) (σ := sI σ 10 2 (nI p1)) hT htl p1 (by omega)
  have hrn := x_readNumber (l := l) (G := G) (adr := adr) (Lf := Lf) (Rt := Rt) (σ := sI σ 10 2 (nI p1)) hT htl 4 (Nat.le_refl _) p1 (by omega) gI
  rw [sI_sI] at hrn
  cases hf : isFig (ch (σ.2.2.1 2) tl p1)
  · have k0 := k0 hf
    refine pw_aload_n dX4_readOperand_60 rfl ?_
    refine lp_getr 1 dX4_readOperand_61 fp_RX4_25.FL rfl rfl rfl ?_
    refine pw_aload_n dX4_readOperand_64 rfl ?_
    refine lp_geti dX4_readOperand_65 fp_RX4_9.FL rfl rfl ?_
    refine pw_top (nI p1) rfl ?_
    refine lp_cV1 (mi' := mX9_at) (As := [_]) (q := (RX9, TX9, 2)) dX4_readOperand_68 lk_RX4_46 mk_X9_at mi_X9_at me_X9_at ⟨by decide, by decide⟩ rfl rfl (Nat.le_of_ble_eq_true rfl) rfl rfl ⟨rfl, rfl⟩ ⟨Nat.zero_le _, Nat.zero_le _⟩ hat ?_
    refine lp_cS1 (mi' := mX4_isDigit) (As := [_]) dX4_readOperand_71 lk_RX4_56 mk_X4_isDigit ms_X4_isDigit ⟨by decide, by decide⟩ rfl rfl (Nat.le_of_ble_eq_true rfl) ⟨rfl, rfl⟩ ⟨Nat.zero_le _, Nat.zero_le _⟩ (x_isFig _ _) ?_
    rw [show isFig (ch ((sI σ 10 2 (nI p1)).2.2.1 2) tl p1) = false from hf]
    refine pw_if_ne 87 dX4_readOperand_74 (by decide) (fun c_74 => absurd c_74 (fun z => z rfl)) (fun c_74 => ?_)
    refine pw_aload_n dX4_readOperand_77 rfl ?_
    refine pw_aload_n dX4_readOperand_78 rfl ?_
    refine lp_geti dX4_readOperand_79 fp_RX4_9.FL rfl rfl ?_
    refine pw_top (nI p1) rfl ?_
    refine lp_puti dX4_readOperand_82 fp_RX4_15 rfl rfl rfl rfl ?_
    refine pw_iconst (v := -1) dX4_readOperand_85 rfl ?_
    exact pw_iret rfl rfl dX4_readOperand_86 (Nat.zero_le _) (Nat.zero_le _) k0
  · have k1 := k1 hf
    cases mn
    · rw [if_neg (by decide)] at k1
      refine pw_aload_n dX4_readOperand_60 rfl ?_
      refine lp_getr 1 dX4_readOperand_61 fp_RX4_25.FL rfl rfl rfl ?_
      refine pw_aload_n dX4_readOperand_64 rfl ?_
      refine lp_geti dX4_readOperand_65 fp_RX4_9.FL rfl rfl ?_
      refine pw_top (nI p1) rfl ?_
      refine lp_cV1 (mi' := mX9_at) (As := [_]) (q := (RX9, TX9, 2)) dX4_readOperand_68 lk_RX4_46 mk_X9_at mi_X9_at me_X9_at ⟨by decide, by decide⟩ rfl rfl (Nat.le_of_ble_eq_true rfl) rfl rfl ⟨rfl, rfl⟩ ⟨Nat.zero_le _, Nat.zero_le _⟩ hat ?_
      refine lp_cS1 (mi' := mX4_isDigit) (As := [_]) dX4_readOperand_71 lk_RX4_56 mk_X4_isDigit ms_X4_isDigit ⟨by decide, by decide⟩ rfl rfl (Nat.le_of_ble_eq_true rfl) ⟨rfl, rfl⟩ ⟨Nat.zero_le _, Nat.zero_le _⟩ (x_isFig _ _) ?_
      rw [show isFig (ch ((sI σ 10 2 (nI p1)).2.2.1 2) tl p1) = true from hf]
      refine pw_if_ne 87 dX4_readOperand_74 (by decide) (fun c_74 => ?_) (fun c_74 => absurd c_74 (by decide))
      refine pw_aload_n dX4_readOperand_87 rfl ?_
      refine pw_iconst (v := 4) dX4_readOperand_88 rfl ?_
      refine lp_cV1 (mi' := mX4_readNumber) (As := [_]) (q := (RX4, TX4, 6)) dX4_readOperand_89 lk_RX4_80 mk_X4_readNumber mi_X4_readNumber me_X4_readNumber ⟨by decide, by decide⟩ rfl rfl (Nat.le_of_ble_eq_true rfl) rfl rfl ⟨rfl, rfl⟩ ⟨Nat.zero_le _, Nat.zero_le _⟩ hrn ?_
      refine pw_istore_n dX4_readOperand_92 (by decide) ?_
      refine pw_sipush (v := 20000) dX4_readOperand_93 rfl ?_
      refine pw_iload_n dX4_readOperand_96 rfl ?_
      refine pw_if_eq 105 dX4_readOperand_97 (by decide) (fun c_97 => ?_) (fun c_97 => absurd rfl c_97)
      refine pw_iload_n dX4_readOperand_105 rfl ?_
      refine pw_iadd dX4_readOperand_106 ?_
      exact pw_iret rfl rfl dX4_readOperand_107 (Nat.zero_le _) (Nat.zero_le _) k1
    · rw [if_pos rfl] at k1
      refine pw_aload_n dX4_readOperand_60 rfl ?_
      refine lp_getr 1 dX4_readOperand_61 fp_RX4_25.FL rfl rfl rfl ?_
      refine pw_aload_n dX4_readOperand_64 rfl ?_
      refine lp_geti dX4_readOperand_65 fp_RX4_9.FL rfl rfl ?_
      refine pw_top (nI p1) rfl ?_
      refine lp_cV1 (mi' := mX9_at) (As := [_]) (q := (RX9, TX9, 2)) dX4_readOperand_68 lk_RX4_46 mk_X9_at mi_X9_at me_X9_at ⟨by decide, by decide⟩ rfl rfl (Nat.le_of_ble_eq_true rfl) rfl rfl ⟨rfl, rfl⟩ ⟨Nat.zero_le _, Nat.zero_le _⟩ hat ?_
      refine lp_cS1 (mi' := mX4_isDigit) (As := [_]) dX4_readOperand_71 lk_RX4_56 mk_X4_isDigit ms_X4_isDigit ⟨by decide, by decide⟩ rfl rfl (Nat.le_of_ble_eq_true rfl) ⟨rfl, rfl⟩ ⟨Nat.zero_le _, Nat.zero_le _⟩ (x_isFig _ _) ?_
      rw [show isFig (ch ((sI σ 10 2 (nI p1)).2.2.1 2) tl p1) = true from hf]
      refine pw_if_ne 87 dX4_readOperand_74 (by decide) (fun c_74 => ?_) (fun c_74 => absurd c_74 (by decide))
      refine pw_aload_n dX4_readOperand_87 rfl ?_
      refine pw_iconst (v := 4) dX4_readOperand_88 rfl ?_
      refine lp_cV1 (mi' := mX4_readNumber) (As := [_]) (q := (RX4, TX4, 6)) dX4_readOperand_89 lk_RX4_80 mk_X4_readNumber mi_X4_readNumber me_X4_readNumber ⟨by decide, by decide⟩ rfl rfl (Nat.le_of_ble_eq_true rfl) rfl rfl ⟨rfl, rfl⟩ ⟨Nat.zero_le _, Nat.zero_le _⟩ hrn ?_
      refine pw_istore_n dX4_readOperand_92 (by decide) ?_
      refine pw_sipush (v := 20000) dX4_readOperand_93 rfl ?_
      refine pw_iload_n dX4_readOperand_96 rfl ?_
      refine pw_if_eq 105 dX4_readOperand_97 (by decide) (fun c_97 => absurd (show (1 : Int32) = 0 from c_97) (by decide)) (fun c_97 => ?_)
      refine pw_iload_n dX4_readOperand_100 rfl ?_
      refine pw_ineg dX4_readOperand_101 ?_
      refine pw_goto (tgt := 106) dX4_readOperand_102 (by decide) ?_
      refine pw_iadd dX4_readOperand_106 ?_
      exact pw_iret rfl rfl dX4_readOperand_107 (Nat.zero_le _) (Nat.zero_le _) k1
theorem x_readOperand (hT : σ.1 1 1 = nI tl) (htl : tl ≤ 200) (p : Nat) (hp : p < 500) (hat : σ.1 10 2 = nI p) : SpecD l G mX4_readOperand [.ref (adr 10)] (wp G adr LX Lf Rt σ) (some (.int (opV (opR (σ.2.2.1 2) tl p)))) (wp G adr LX Lf Rt (opS σ (opR (σ.2.2.1 2) tl p))) := by
  refine spec_of (by decide) (Nat.le_of_ble_eq_true rfl) (fun sz => ?_)
  have ha := x_Tat (l := l) (G := G) (adr := adr) (Lf := Lf) (Rt := Rt) (σ := σ) hT htl p (by omega)
  have e : σ = sI σ 10 2 (nI p) := by rw [← hat]; exact (sI_self σ 10 2).symm
  unfold opR
  cases hl : isLet (ch (σ.2.2.1 2) tl p)
  · rw [if_neg (by decide)]
    unfold opP
    by_cases h95 : ch (σ.2.2.1 2) tl p = 95
    · rw [if_pos h95, if_pos h95]
      have tail := fun (w0 : va_W) (fin : OC → Prop) => ro_tail (l := l) (G := G) (adr := adr) (Lf := Lf) (Rt := Rt) (σ := σ) (sz := sz) (w0 := w0) (fin := fin) hT htl (p + 1) (by omega) true
      refine pw_aload_n dX4_readOperand_0 rfl ?_
      refine lp_getr 1 dX4_readOperand_1 fp_RX4_25.FL rfl rfl rfl ?_
      refine pw_aload_n dX4_readOperand_4 rfl ?_
      refine lp_geti dX4_readOperand_5 fp_RX4_9.FL rfl rfl ?_
      refine pw_top (nI p) hat ?_
      refine lp_cV1 (mi' := mX9_at) (As := [_]) (q := (RX9, TX9, 2)) dX4_readOperand_8 lk_RX4_46 mk_X9_at mi_X9_at me_X9_at ⟨by decide, by decide⟩ rfl rfl (Nat.le_of_ble_eq_true rfl) rfl rfl ⟨rfl, rfl⟩ ⟨Nat.zero_le _, Nat.zero_le _⟩ ha ?_
      refine pw_istore_n dX4_readOperand_11 (by decide) ?_
      refine pw_iload_n dX4_readOperand_12 rfl ?_
      refine lp_cS1 (mi' := mX4_isLetter) (As := [_]) dX4_readOperand_13 lk_RX4_49 mk_X4_isLetter ms_X4_isLetter ⟨by decide, by decide⟩ rfl rfl (Nat.le_of_ble_eq_true rfl) ⟨rfl, rfl⟩ ⟨Nat.zero_le _, Nat.zero_le _⟩ (x_isLet _ _) ?_
      rw [hl]
      refine pw_if_eq 34 dX4_readOperand_16 (by decide) (fun c_16 => ?_) (fun c_16 => absurd rfl c_16)
      refine pw_iload_n dX4_readOperand_34 rfl ?_
      refine pw_bipush (v := 95) dX4_readOperand_35 rfl ?_
      refine pw_icmp_ne 44 dX4_readOperand_37 (by decide) (fun c_37 => absurd c_37 (fun z => z h95)) (fun c_37 => ?_)
      refine pw_iconst (v := 1) dX4_readOperand_40 rfl ?_
      refine pw_goto (tgt := 45) dX4_readOperand_41 (by decide) ?_
      refine pw_istore_n dX4_readOperand_45 (by decide) ?_
      refine pw_iload_n dX4_readOperand_46 rfl ?_
      refine pw_if_eq 60 dX4_readOperand_47 (by decide) (fun c_47 => absurd (show (1 : Int32) = 0 from c_47) (by decide)) (fun c_47 => ?_)
      refine pw_aload_n dX4_readOperand_50 rfl ?_
      refine pw_dup dX4_readOperand_51 rfl ?_
      refine lp_geti dX4_readOperand_52 fp_RX4_9.FL rfl rfl ?_
      refine pw_top (nI p) hat ?_
      refine pw_iconst (v := 1) dX4_readOperand_55 rfl ?_
      refine pw_iadd dX4_readOperand_56 ?_
      refine pw_top (nI (p + 1)) (nI_1 p) ?_
      refine lp_puti dX4_readOperand_57 fp_RX4_9 rfl rfl rfl rfl ?_
      refine pw_lk [(0, .ref (adr 10)), (2, .int (bI true))] ⟨rfl, rfl, trivial⟩ (tail _ _ (fun hf => ?_) (fun hf => ?_))
      · rw [hf, if_pos rfl, if_pos rfl]; rfl
      · rw [hf, if_neg (by decide)]; rfl
    · rw [if_neg h95, if_neg h95]
      have tail := fun (w0 : va_W) (fin : OC → Prop) => ro_tail (l := l) (G := G) (adr := adr) (Lf := Lf) (Rt := Rt) (σ := σ) (sz := sz) (w0 := w0) (fin := fin) hT htl p (by omega) false
      refine pw_aload_n dX4_readOperand_0 rfl ?_
      refine lp_getr 1 dX4_readOperand_1 fp_RX4_25.FL rfl rfl rfl ?_
      refine pw_aload_n dX4_readOperand_4 rfl ?_
      refine lp_geti dX4_readOperand_5 fp_RX4_9.FL rfl rfl ?_
      refine pw_top (nI p) hat ?_
      refine lp_cV1 (mi' := mX9_at) (As := [_]) (q := (RX9, TX9, 2)) dX4_readOperand_8 lk_RX4_46 mk_X9_at mi_X9_at me_X9_at ⟨by decide, by decide⟩ rfl rfl (Nat.le_of_ble_eq_true rfl) rfl rfl ⟨rfl, rfl⟩ ⟨Nat.zero_le _, Nat.zero_le _⟩ ha ?_
      refine pw_istore_n dX4_readOperand_11 (by decide) ?_
      refine pw_iload_n dX4_readOperand_12 rfl ?_
      refine lp_cS1 (mi' := mX4_isLetter) (As := [_]) dX4_readOperand_13 lk_RX4_49 mk_X4_isLetter ms_X4_isLetter ⟨by decide, by decide⟩ rfl rfl (Nat.le_of_ble_eq_true rfl) ⟨rfl, rfl⟩ ⟨Nat.zero_le _, Nat.zero_le _⟩ (x_isLet _ _) ?_
      rw [hl]
      refine pw_if_eq 34 dX4_readOperand_16 (by decide) (fun c_16 => ?_) (fun c_16 => absurd rfl c_16)
      refine pw_iload_n dX4_readOperand_34 rfl ?_
      refine pw_bipush (v := 95) dX4_readOperand_35 rfl ?_
      refine pw_icmp_ne 44 dX4_readOperand_37 (by decide) (fun c_37 => ?_) (fun c_37 => absurd c_37 h95)
      refine pw_iconst (v := 0) dX4_readOperand_44 rfl ?_
      refine pw_istore_n dX4_readOperand_45 (by decide) ?_
      refine pw_iload_n dX4_readOperand_46 rfl ?_
      refine pw_if_eq 60 dX4_readOperand_47 (by decide) (fun c_47 => ?_) (fun c_47 => absurd rfl c_47)
      refine pw_lk [(0, .ref (adr 10)), (2, .int (bI false))] ⟨rfl, rfl, trivial⟩ (pw_st e (tail _ _ (fun hf => ?_) (fun hf => ?_)))
      · rw [hf, if_pos rfl, if_neg (by decide)]; rfl
      · rw [hf, if_neg (by decide)]; rfl
  · rw [if_pos rfl]
    refine pw_aload_n dX4_readOperand_0 rfl ?_
    refine lp_getr 1 dX4_readOperand_1 fp_RX4_25.FL rfl rfl rfl ?_
    refine pw_aload_n dX4_readOperand_4 rfl ?_
    refine lp_geti dX4_readOperand_5 fp_RX4_9.FL rfl rfl ?_
    refine pw_top (nI p) hat ?_
    refine lp_cV1 (mi' := mX9_at) (As := [_]) (q := (RX9, TX9, 2)) dX4_readOperand_8 lk_RX4_46 mk_X9_at mi_X9_at me_X9_at ⟨by decide, by decide⟩ rfl rfl (Nat.le_of_ble_eq_true rfl) rfl rfl ⟨rfl, rfl⟩ ⟨Nat.zero_le _, Nat.zero_le _⟩ ha ?_
    refine pw_istore_n dX4_readOperand_11 (by decide) ?_
    refine pw_iload_n dX4_readOperand_12 rfl ?_
    refine lp_cS1 (mi' := mX4_isLetter) (As := [_]) dX4_readOperand_13 lk_RX4_49 mk_X4_isLetter ms_X4_isLetter ⟨by decide, by decide⟩ rfl rfl (Nat.le_of_ble_eq_true rfl) ⟨rfl, rfl⟩ ⟨Nat.zero_le _, Nat.zero_le _⟩ (x_isLet _ _) ?_
    rw [hl]
    refine pw_if_eq 34 dX4_readOperand_16 (by decide) (fun c_16 => absurd (show (1 : Int32) = 0 from c_16) (by decide)) (fun c_16 => ?_)
    refine pw_aload_n dX4_readOperand_19 rfl ?_
    refine pw_dup dX4_readOperand_20 rfl ?_
    refine lp_geti dX4_readOperand_21 fp_RX4_9.FL rfl rfl ?_
    refine pw_top (nI p) hat ?_
    refine pw_iconst (v := 1) dX4_readOperand_24 rfl ?_
    refine pw_iadd dX4_readOperand_25 ?_
    refine pw_top (nI (p + 1)) (nI_1 p) ?_
    refine lp_puti dX4_readOperand_26 fp_RX4_9 rfl rfl rfl rfl ?_
    refine pw_iload_n dX4_readOperand_29 rfl ?_
    refine pw_bipush (v := 97) dX4_readOperand_30 rfl ?_
    refine pw_isub dX4_readOperand_32 ?_
    exact pw_iret rfl rfl dX4_readOperand_33 (Nat.zero_le _) (Nat.zero_le _) rfl
end XY
