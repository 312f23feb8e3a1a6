/-! THE CLASS: reading a statement -/
theorem let_var {c : Int32} (h : isLet c = true) : ∃ v, v < 8 ∧ c - 97 = nI v := by
  unfold isLet at h
  obtain ⟨h1, h2⟩ := of_decide_eq_true h
  rw [Int32.le_iff_toInt_le, show (97 : Int32).toInt = 97 from by decide] at h1
  rw [Int32.le_iff_toInt_le, show (104 : Int32).toInt = 104 from by decide] at h2
  refine ⟨(c.toInt - 97).toNat, by omega, ?_⟩
  apply Int32.toInt_inj.mp
  rw [nI_toInt (by omega), Int32.toInt_sub, show (97 : Int32).toInt = 97 from by decide, Int.bmod_eq_of_le (by omega) (by omega)]
  omega
theorem fig_b {c : Int32} (h : isFig c = true) : 48 ≤ c.toInt ∧ c.toInt ≤ 57 := by
  unfold isFig at h
  obtain ⟨h1, h2⟩ := of_decide_eq_true h
  rw [Int32.le_iff_toInt_le, show (48 : Int32).toInt = 48 from by decide] at h1
  rw [Int32.le_iff_toInt_le, show (57 : Int32).toInt = 57 from by decide] at h2
  exact ⟨h1, h2⟩
theorem rdNum_b {t : Nat → Int32} {tl : Nat} : ∀ (k p : Nat) (v : Int32), 0 ≤ v.toInt → (v.toInt + 1) * 10 ^ k ≤ 10000 → 0 ≤ (rdNum t tl k p v).2.toInt ∧ (rdNum t tl k p v).2.toInt ≤ 9999 := by
  intro k
  induction k with
  | zero => intro p v h1 h2; exact ⟨h1, by show v.toInt ≤ _; omega⟩
  | succ k ih =>
    intro p v h1 h2
    rw [rdNum]
    have hp : (1 : Int) ≤ 10 ^ k := Int.pow_pos (by decide)
    have h3 : (v.toInt + 1) * 10 ^ (k + 1) = (10 * v.toInt + 10) * 10 ^ k := by rw [Int.pow_succ]; rw [show (v.toInt + 1) * (10 ^ k * 10) = ((v.toInt + 1) * 10) * 10 ^ k by rw [Int.mul_comm (10 ^ k) 10, Int.mul_assoc]]; congr 1; omega
    rw [h3] at h2
    have hv : 10 * v.toInt + 10 ≤ 10000 := by
      have := Int.mul_le_mul_of_nonneg_left hp (show (0 : Int) ≤ 10 * v.toInt + 10 by omega)
      omega
    by_cases hf : isFig (ch t tl p) = true
    · rw [if_pos hf]
      obtain ⟨f1, f2⟩ := fig_b hf
      rw [(ch_fig hf).2] at f1 f2
      have e : (10 * v + t p - 48).toInt = 10 * v.toInt + (t p).toInt - 48 := by
        rw [Int32.toInt_sub, Int32.toInt_add, Int32.toInt_mul, show (10 : Int32).toInt = 10 from by decide, show (48 : Int32).toInt = 48 from by decide, Int.bmod_eq_of_le (n := 10 * v.toInt) (by omega) (by omega), Int.bmod_eq_of_le (n := 10 * v.toInt + (t p).toInt) (by omega) (by omega), Int.bmod_eq_of_le (by omega) (by omega)]
      refine ih (p + 1) _ (by omega) ?_
      rw [e]
      exact Int.le_trans (Int.mul_le_mul_of_nonneg_right (show 10 * v.toInt + (t p).toInt - 48 + 1 ≤ 10 * v.toInt + 10 by omega) (by omega)) h2
    · rw [if_neg hf]
      exact ⟨h1, by show v.toInt ≤ 9999; omega⟩
theorem opR_ok {t : Nat → Int32} {tl p q : Nat} {v : Int32} (h : opR t tl p = (q, some v)) : okOp v ∧ ¬ v = -1 ∧ p < q ∧ q ≤ p + 5 := by
  unfold opR at h
  by_cases hl : isLet (ch t tl p) = true
  · rw [if_pos hl] at h
    obtain ⟨w, w1, w2⟩ := let_var hl
    injection h with h1 h2
    injection h2 with h2
    rw [w2] at h2
    refine ⟨Or.inl ⟨w, w1, h2.symm⟩, ?_, by omega, by omega⟩
    rw [← h2]
    exact fun e => nI_nm1 (by omega) e.symm
  · rw [if_neg hl] at h
    by_cases hf : isFig (ch t tl (opP t tl p)) = true
    · rw [if_pos hf] at h
      injection h with h1 h2
      injection h2 with h2
      obtain ⟨b1, b2⟩ := rdNum_b (t := t) (tl := tl) 4 (opP t tl p) 0 (by decide) (by decide)
      have hm := rdNum_m (t := t) (tl := tl) 4 (opP t tl p) 0
      have hs := rdNum_s (v := 0) 3 hf
      have hop : p ≤ opP t tl p ∧ opP t tl p ≤ p + 1 := by unfold opP; split <;> omega
      generalize (rdNum t tl 4 (opP t tl p) 0).2 = n at h2 b1 b2
      have hv : 8 ≤ v.toInt := by
        rw [← h2]
        by_cases h95 : ch t tl p = 95
        · rw [if_pos h95, Int32.toInt_add, Int32.toInt_neg, show (20000 : Int32).toInt = 20000 from by decide, Int.bmod_eq_of_le (n := -n.toInt) (by omega) (by omega), Int.bmod_eq_of_le (by omega) (by omega)]; omega
        · rw [if_neg h95, Int32.toInt_add, show (20000 : Int32).toInt = 20000 from by decide, Int.bmod_eq_of_le (by omega) (by omega)]; omega
      refine ⟨Or.inr (fun q => ?_), fun q => ?_, ?_, ?_⟩
      · rw [Int32.lt_iff_toInt_lt, show (8 : Int32).toInt = 8 from by decide] at q; omega
      · rw [q, show (-1 : Int32).toInt = -1 from by decide] at hv; omega
      · have : (rdNum t tl (3 + 1) (opP t tl p) 0).1 = q := h1
        omega
      · omega
    · rw [if_neg hf] at h
      injection h with h1 h2
      cases h2
theorem opR_n {t : Nat → Int32} {tl p q : Nat} (h : opR t tl p = (q, none)) : q ≤ p + 1 := by
  unfold opR at h
  by_cases hl : isLet (ch t tl p) = true
  · rw [if_pos hl] at h; injection h with h1 h2; cases h2
  · rw [if_neg hl] at h
    by_cases hf : isFig (ch t tl (opP t tl p)) = true
    · rw [if_pos hf] at h; injection h with h1 h2; cases h2
    · rw [if_neg hf] at h
      injection h with h1 h2
      rw [← h1]; unfold opP; split <;> omega
/-- an instruction more -/
def addS (σ : St) (r : Nat) (k t f s d : Int32) : St := sI (sA (sA (sA (sA (sA (sA σ 4 (upd (σ.2.2.1 4) r k)) 5 (upd (σ.2.2.1 5) r t)) 6 (upd (σ.2.2.1 6) r f)) 7 (upd (σ.2.2.1 7) r s)) 8 (upd (σ.2.2.1 8) r d)) 9 (upd (σ.2.2.1 9) r (-1))) 3 0 (nI (r + 1))
def asgP (σ : St) (r d : Nat) (R : Nat × Option (Int32 × Int32 × Int32 × Int32)) (τ : St) : Prop := match R.2 with
  | none => ∃ x, τ = sI (sI σ 10 2 x) 10 3 (nI R.1)
  | some (k, v, f, s) => τ = addS (sI σ 10 2 (nI R.1)) r k v f s (nI d)
section XZ
variable {l : Launch} {G : cxG} {adr : Nat → Nat} {Lf Rt : va_W} {σ : St} {tl : Nat}
theorem x_addP (r : Nat) (hr : r < 30) (h : σ.1 3 0 = nI r) (k t f s d : Int32) : SpecD l G mX6_add [.ref (adr 3), .int k, .int t, .int f, .int s, .int d] (wp G adr LX Lf Rt σ) none (wp G adr LX Lf Rt (addS σ r k t f s d)) := by
  refine spec_of (by decide) (Nat.le_of_ble_eq_true rfl) (fun sz => ?_)
  have br : vp_in (nI r) 30 := vp_in_nI hr (by decide)
  have er : (nI r).toNatClampNeg = r := nI_clamp (by omega)
  refine pw_aload_n dX6_add_0 rfl ?_
  refine lp_geti dX6_add_1 fp_RX6_9.FL rfl rfl ?_
  refine pw_top (nI r) h ?_
  refine pw_bipush (v := 30) dX6_add_4 rfl ?_
  refine pw_icmp_ge 81 dX6_add_6 (by decide) (fun c_6 => absurd c_6 (nI_ge (a := r) (b := 30) hr (by decide))) (fun c_6 => ?_)
  refine pw_aload_n dX6_add_9 rfl ?_
  refine lp_getr 4 dX6_add_10 fp_RX6_15.FL rfl rfl rfl ?_
  refine pw_aload_n dX6_add_13 rfl ?_
  refine lp_geti dX6_add_14 fp_RX6_9.FL rfl rfl ?_
  refine pw_top (nI r) h ?_
  refine pw_iload_n dX6_add_17 rfl ?_
  refine lp_iast dX6_add_18 rfl br ?_
  rw [er]
  refine pw_aload_n dX6_add_19 rfl ?_
  refine lp_getr 5 dX6_add_20 fp_RX6_19.FL rfl rfl rfl ?_
  refine pw_aload_n dX6_add_23 rfl ?_
  refine lp_geti dX6_add_24 fp_RX6_9.FL rfl rfl ?_
  refine pw_top (nI r) h ?_
  refine pw_iload_n dX6_add_27 rfl ?_
  refine lp_iast dX6_add_28 rfl br ?_
  rw [er]
  refine pw_aload_n dX6_add_29 rfl ?_
  refine lp_getr 6 dX6_add_30 fp_RX6_22.FL rfl rfl rfl ?_
  refine pw_aload_n dX6_add_33 rfl ?_
  refine lp_geti dX6_add_34 fp_RX6_9.FL rfl rfl ?_
  refine pw_top (nI r) h ?_
  refine pw_iload_n dX6_add_37 rfl ?_
  refine lp_iast dX6_add_38 rfl br ?_
  rw [er]
  refine pw_aload_n dX6_add_39 rfl ?_
  refine lp_getr 7 dX6_add_40 fp_RX6_25.FL rfl rfl rfl ?_
  refine pw_aload_n dX6_add_43 rfl ?_
  refine lp_geti dX6_add_44 fp_RX6_9.FL rfl rfl ?_
  refine pw_top (nI r) h ?_
  refine pw_iload dX6_add_47 rfl ?_
  refine lp_iast dX6_add_49 rfl br ?_
  rw [er]
  refine pw_aload_n dX6_add_50 rfl ?_
  refine lp_getr 8 dX6_add_51 fp_RX6_28.FL rfl rfl rfl ?_
  refine pw_aload_n dX6_add_54 rfl ?_
  refine lp_geti dX6_add_55 fp_RX6_9.FL rfl rfl ?_
  refine pw_top (nI r) h ?_
  refine pw_iload dX6_add_58 rfl ?_
  refine lp_iast dX6_add_60 rfl br ?_
  rw [er]
  refine pw_aload_n dX6_add_61 rfl ?_
  refine lp_getr 9 dX6_add_62 fp_RX6_31.FL rfl rfl rfl ?_
  refine pw_aload_n dX6_add_65 rfl ?_
  refine lp_geti dX6_add_66 fp_RX6_9.FL rfl rfl ?_
  refine pw_top (nI r) h ?_
  refine pw_iconst (v := -1) dX6_add_69 rfl ?_
  refine lp_iast dX6_add_70 rfl br ?_
  rw [er]
  refine pw_aload_n dX6_add_71 rfl ?_
  refine pw_dup dX6_add_72 rfl ?_
  refine lp_geti dX6_add_73 fp_RX6_9.FL rfl rfl ?_
  refine pw_top (nI r) h ?_
  refine pw_iconst (v := 1) dX6_add_76 rfl ?_
  refine pw_iadd dX6_add_77 ?_
  refine pw_top (nI (r + 1)) (nI_1 r) ?_
  refine lp_puti dX6_add_78 fp_RX6_9 rfl rfl rfl rfl ?_
  exact pw_vret rfl dX6_add_81 (Nat.zero_le _) (Nat.zero_le _) rfl
theorem x_pairP (b e : Nat) (hb : b < 30) (he : e < 30) : SpecD l G mX6_pair [.ref (adr 3), .int (nI b), .int (nI e)] (wp G adr LX Lf Rt σ) none (wp G adr LX Lf Rt (sA σ 9 (upd (upd (σ.2.2.1 9) b (nI e)) e (nI b)))) := by
  refine spec_of (by decide) (Nat.le_of_ble_eq_true rfl) (fun sz => ?_)
  have bb : vp_in (nI b) 30 := vp_in_nI hb (by decide)
  have be : vp_in (nI e) 30 := vp_in_nI he (by decide)
  have eb : (nI b).toNatClampNeg = b := nI_clamp (by omega)
  have ee : (nI e).toNatClampNeg = e := nI_clamp (by omega)
  refine pw_aload_n dX6_pair_0 rfl ?_
  refine lp_getr 9 dX6_pair_1 fp_RX6_31.FL rfl rfl rfl ?_
  refine pw_iload_n dX6_pair_4 rfl ?_
  refine pw_iload_n dX6_pair_5 rfl ?_
  refine lp_iast dX6_pair_6 rfl bb ?_
  rw [eb]
  refine pw_aload_n dX6_pair_7 rfl ?_
  refine lp_getr 9 dX6_pair_8 fp_RX6_31.FL rfl rfl rfl ?_
  refine pw_iload_n dX6_pair_11 rfl ?_
  refine pw_iload_n dX6_pair_12 rfl ?_
  refine lp_iast dX6_pair_13 rfl be ?_
  rw [ee, sA_sA, gA]
  exact pw_vret rfl dX6_pair_14 (Nat.zero_le _) (Nat.zero_le _) rfl
theorem ra_tail {sz : Nat} {w0 : va_W} {fin : OC → Prop} (hT : σ.1 1 1 = nI tl) (htl : tl ≤ 200) (r d q : Nat) (hr : r < 30) (hq : q < 800) (herr : σ.1 10 3 = -1) (hdep : σ.1 10 4 = nI d) (hcnt : σ.1 3 0 = nI r) (v f k s : Int32)
    (k1 : ch (σ.2.2.1 2) tl q = 59 → fin (.inl (none, wp G adr LX Lf Rt (addS (sI σ 10 2 (nI (q + 1))) r k v f s (nI d)))))
    (k0 : ¬ ch (σ.2.2.1 2) tl q = 59 → fin (.inl (none, wp G adr LX Lf Rt (sI (sI σ 10 2 (nI q)) 10 3 (nI q))))) :
    PW l G mX4_readAssignment w0 sz fin 87 [(0, .ref (adr 10)), (1, .int v), (2, .int f), (3, .int k), (4, .int s)] [] 0 0 (wp G adr LX Lf Rt (sI σ 10 2 (nI q))) := by
  have ht := x_take (l := l) (G := G) (adr := adr) (Lf := Lf) (Rt := Rt) (σ := sI σ 10 2 (nI q)) hT htl q (by omega) gI 59
  by_cases hc : ch (σ.2.2.1 2) tl q = 59
  · have k1 := k1 hc
    have hc' : ch ((sI σ 10 2 (nI q)).2.2.1 2) tl q = 59 := hc
    rw [decide_eq_true hc', if_pos hc', sI_sI] at ht
    have ha := x_addP (l := l) (G := G) (adr := adr) (Lf := Lf) (Rt := Rt) (σ := sI σ 10 2 (nI (q + 1))) r hr hcnt k v f s (nI d)
    refine pw_aload_n dX4_readAssignment_87 rfl ?_
    refine lp_geti dX4_readAssignment_88 fp_RX4_15.FL rfl rfl ?_
    refine pw_top (-1) herr ?_
    refine pw_iconst (v := -1) dX4_readAssignment_91 rfl ?_
    refine pw_icmp_ne 120 dX4_readAssignment_92 (by decide) (fun c_92 => absurd c_92 (fun z => z rfl)) (fun c_92 => ?_)
    refine pw_aload_n dX4_readAssignment_95 rfl ?_
    refine pw_bipush (v := 59) dX4_readAssignment_96 rfl ?_
    refine lp_cV1 (mi' := mX4_take) (As := [_]) (q := (RX4, TX4, 6)) dX4_readAssignment_98 lk_RX4_65 mk_X4_take mi_X4_take me_X4_take ⟨by decide, by decide⟩ rfl rfl (Nat.le_of_ble_eq_true rfl) rfl rfl ⟨rfl, rfl⟩ ⟨Nat.zero_le _, Nat.zero_le _⟩ ht ?_
    refine pw_if_eq 120 dX4_readAssignment_101 (by decide) (fun c_101 => absurd (show (1 : Int32) = 0 from c_101) (by decide)) (fun c_101 => ?_)
    refine pw_aload_n dX4_readAssignment_104 rfl ?_
    refine lp_getr 3 dX4_readAssignment_105 fp_RX4_29.FL rfl rfl rfl ?_
    refine pw_iload_n dX4_readAssignment_108 rfl ?_
    refine pw_iload_n dX4_readAssignment_109 rfl ?_
    refine pw_iload_n dX4_readAssignment_110 rfl ?_
    refine pw_iload dX4_readAssignment_111 rfl ?_
    refine pw_aload_n dX4_readAssignment_113 rfl ?_
    refine lp_geti dX4_readAssignment_114 fp_RX4_18.FL rfl rfl ?_
    refine pw_top (nI d) hdep ?_
    refine lp_cV0 (mi' := mX6_add) (As := [_, _, _, _, _]) (q := (RX6, TX6, 7)) dX4_readAssignment_117 lk_RX4_76 mk_X6_add mi_X6_add me_X6_add ⟨by decide, by decide⟩ rfl rfl (Nat.le_of_ble_eq_true rfl) rfl rfl ⟨rfl, rfl⟩ ⟨Nat.zero_le _, Nat.zero_le _⟩ ha ?_
    exact pw_vret rfl dX4_readAssignment_120 (Nat.zero_le _) (Nat.zero_le _) k1
  · have k0 := k0 hc
    have hc' : ¬ ch ((sI σ 10 2 (nI q)).2.2.1 2) tl q = 59 := hc
    rw [decide_eq_false hc', if_neg hc'] at ht
    refine pw_aload_n dX4_readAssignment_87 rfl ?_
    refine lp_geti dX4_readAssignment_88 fp_RX4_15.FL rfl rfl ?_
    refine pw_top (-1) herr ?_
    refine pw_iconst (v := -1) dX4_readAssignment_91 rfl ?_
    refine pw_icmp_ne 120 dX4_readAssignment_92 (by decide) (fun c_92 => absurd c_92 (fun z => z rfl)) (fun c_92 => ?_)
    refine pw_aload_n dX4_readAssignment_95 rfl ?_
    refine pw_bipush (v := 59) dX4_readAssignment_96 rfl ?_
    refine lp_cV1 (mi' := mX4_take) (As := [_]) (q := (RX4, TX4, 6)) dX4_readAssignment_98 lk_RX4_65 mk_X4_take mi_X4_take me_X4_take ⟨by decide, by decide⟩ rfl rfl (Nat.le_of_ble_eq_true rfl) rfl rfl ⟨rfl, rfl⟩ ⟨Nat.zero_le _, Nat.zero_le _⟩ ht ?_
    refine pw_if_eq 120 dX4_readAssignment_101 (by decide) (fun c_101 => ?_) (fun c_101 => absurd rfl c_101)
    exact pw_vret rfl dX4_readAssignment_120 (Nat.zero_le _) (Nat.zero_le _) k0
theorem opR_c {t : Nat → Int32} {tl p q : Nat} {v : Int32} (h : opR t tl p = (q, some v)) : (rdOpd t tl p = (q, v)) ∨ (rdOpd t tl p = (q, -1) ∧ isFig (ch t tl q) = true) := by
  rw [opR_rd, h]
  dsimp only
  by_cases hl : isLet (ch t tl p) = true
  · rw [if_pos hl]; exact Or.inl rfl
  · rw [if_neg hl]
    by_cases hf : isFig (ch t tl q) = true
    · rw [if_pos hf]; exact Or.inr ⟨rfl, hf⟩
    · rw [if_neg hf]; exact Or.inl rfl
theorem fig_kind {c : Int32} (h : isFig c = true) : kindC c = 0 ∧ ¬ c = 59 := by
  have hb := fig_b h
  have n (y : Int32) (hy : y.toInt < 48 ∨ 57 < y.toInt) : ¬ c = y := fun q => by rw [q] at hb; omega
  unfold kindC
  rw [if_neg (n 43 (by decide)), if_neg (n 45 (by decide)), if_neg (n 42 (by decide))]
  exact ⟨rfl, n 59 (by decide)⟩
theorem x_readAsg (hT : σ.1 1 1 = nI tl) (htl : tl ≤ 200) (r d p : Nat) (hr : r < 30) (hp : p < 200) (hat : σ.1 10 2 = nI p) (herr : σ.1 10 3 = -1) (hdep : σ.1 10 4 = nI d) (hcnt : σ.1 3 0 = nI r) : SpR0 l G mX4_readAssignment [.ref (adr 10)] adr LX Lf Rt σ (asgP σ r d (rdAsg (σ.2.2.1 2) tl p)) := by
  refine spec_of (by decide) (Nat.le_of_ble_eq_true rfl) (fun sz => ?_)
  have ha := x_Tat (l := l) (G := G) (adr := adr) (Lf := Lf) (Rt := Rt) (σ := σ) hT htl p (by omega)
  have ht := x_take (l := l) (G := G) (adr := adr) (Lf := Lf) (Rt := Rt) (σ := sI σ 10 2 (nI (p + 1))) hT htl (p + 1) (by omega) gI 61
  unfold rdAsg
  by_cases h61 : ch (σ.2.2.1 2) tl (p + 1) = 61
  · rw [if_pos h61]
    have h61' : ch ((sI σ 10 2 (nI (p + 1))).2.2.1 2) tl (p + 1) = 61 := h61
    rw [decide_eq_true h61', if_pos h61', sI_sI] at ht
    have ho := x_readOperand (l := l) (G := G) (adr := adr) (Lf := Lf) (Rt := Rt) (σ := sI σ 10 2 (nI (p + 2))) hT htl (p + 2) (by omega) gI
    have ho : SpecD l G mX4_readOperand [.ref (adr 10)] (wp G adr LX Lf Rt (sI σ 10 2 (nI (p + 1 + 1)))) (some (.int (opV (opR (σ.2.2.1 2) tl (p + 2))))) (wp G adr LX Lf Rt (opS (sI σ 10 2 (nI (p + 2))) (opR (σ.2.2.1 2) tl (p + 2)))) := ho
    rcases hq : opR (σ.2.2.1 2) tl (p + 2) with ⟨q1, _ | f1⟩
    · have hb := opR_n hq
      rw [hq] at ho
      have e1 : rdOpd (σ.2.2.1 2) tl (p + 2) = (q1, -1) := by rw [opR_rd, hq]
      rw [e1, if_pos rfl]
      refine pw_aload_n dX4_readAssignment_0 rfl ?_
      refine lp_getr 1 dX4_readAssignment_1 fp_RX4_25.FL rfl rfl rfl ?_
      refine pw_aload_n dX4_readAssignment_4 rfl ?_
      refine lp_geti dX4_readAssignment_5 fp_RX4_9.FL rfl rfl ?_
      refine pw_top (nI p) hat ?_
      refine lp_cV1 (mi' := mX9_at) (As := [_]) (q := (RX9, TX9, 2)) dX4_readAssignment_8 lk_RX4_46 mk_X9_at mi_X9_at me_X9_at ⟨by decide, by decide⟩ rfl rfl (Nat.le_of_ble_eq_true rfl) rfl rfl ⟨rfl, rfl⟩ ⟨Nat.zero_le _, Nat.zero_le _⟩ ha ?_
      refine pw_bipush (v := 97) dX4_readAssignment_11 rfl ?_
      refine pw_isub dX4_readAssignment_13 ?_
      refine pw_istore_n dX4_readAssignment_14 (by decide) ?_
      refine pw_aload_n dX4_readAssignment_15 rfl ?_
      refine pw_dup dX4_readAssignment_16 rfl ?_
      refine lp_geti dX4_readAssignment_17 fp_RX4_9.FL rfl rfl ?_
      refine pw_top (nI p) hat ?_
      refine pw_iconst (v := 1) dX4_readAssignment_20 rfl ?_
      refine pw_iadd dX4_readAssignment_21 ?_
      refine pw_top (nI (p + 1)) (nI_1 p) ?_
      refine lp_puti dX4_readAssignment_22 fp_RX4_9 rfl rfl rfl rfl ?_
      refine pw_aload_n dX4_readAssignment_25 rfl ?_
      refine pw_bipush (v := 61) dX4_readAssignment_26 rfl ?_
      refine lp_cV1 (mi' := mX4_take) (As := [_]) (q := (RX4, TX4, 6)) dX4_readAssignment_28 lk_RX4_65 mk_X4_take mi_X4_take me_X4_take ⟨by decide, by decide⟩ rfl rfl (Nat.le_of_ble_eq_true rfl) rfl rfl ⟨rfl, rfl⟩ ⟨Nat.zero_le _, Nat.zero_le _⟩ ht ?_
      refine pw_if_ne 35 dX4_readAssignment_31 (by decide) (fun c_31 => ?_) (fun c_31 => absurd c_31 (by decide))
      refine pw_aload_n dX4_readAssignment_35 rfl ?_
      refine lp_cV1 (mi' := mX4_readOperand) (As := []) (q := (RX4, TX4, 6)) dX4_readAssignment_36 lk_RX4_69 mk_X4_readOperand mi_X4_readOperand me_X4_readOperand ⟨by decide, by decide⟩ rfl rfl (Nat.le_of_ble_eq_true rfl) rfl rfl ⟨rfl, rfl⟩ ⟨Nat.zero_le _, Nat.zero_le _⟩ ho ?_
      refine pw_istore_n dX4_readAssignment_39 (by decide) ?_
      refine pw_aload_n dX4_readAssignment_40 rfl ?_
      refine lp_geti dX4_readAssignment_41 fp_RX4_15.FL rfl rfl ?_
      refine pw_top (nI q1) rfl ?_
      refine pw_iconst (v := -1) dX4_readAssignment_44 rfl ?_
      refine pw_icmp_eq 49 dX4_readAssignment_45 (by decide) (fun c_45 => absurd c_45.symm (nI_nm1 (by omega))) (fun c_45 => ?_)
      exact pw_vret rfl dX4_readAssignment_48 (Nat.zero_le _) (Nat.zero_le _) (by refine ⟨_, rfl, nI q1, ?_⟩; show sI (sI (sI σ 10 2 (nI (p + 2))) 10 2 (nI q1)) 10 3 (nI q1) = _; rw [sI_sI])
    · obtain ⟨ok1, ne1, lt1, le1⟩ := opR_ok hq
      rw [hq] at ho
      have ho : SpecD l G mX4_readOperand [.ref (adr 10)] (wp G adr LX Lf Rt (sI σ 10 2 (nI (p + 1 + 1)))) (some (.int f1)) (wp G adr LX Lf Rt (sI σ 10 2 (nI q1))) := by
        have e : opS (sI σ 10 2 (nI (p + 2))) (q1, some f1) = sI σ 10 2 (nI q1) := by show sI (sI σ 10 2 (nI (p + 2))) 10 2 (nI q1) = _; rw [sI_sI]
        rw [e] at ho; exact ho
      have ha1 := x_Tat (l := l) (G := G) (adr := adr) (Lf := Lf) (Rt := Rt) (σ := sI σ 10 2 (nI q1)) hT htl q1 (by omega)
      have ha1 : SpecD l G mX9_at [.ref (adr 1), .int (nI q1)] (wp G adr LX Lf Rt (sI σ 10 2 (nI q1))) (some (.int (ch (σ.2.2.1 2) tl q1))) (wp G adr LX Lf Rt (sI σ 10 2 (nI q1))) := ha1
      by_cases k0 : kindC (ch (σ.2.2.1 2) tl q1) = 0
      · have hfin : ∀ τ, (ch (σ.2.2.1 2) tl q1 = 59 → τ = addS (sI σ 10 2 (nI (q1 + 1))) r 0 (ch (σ.2.2.1 2) tl p - 97) f1 (-1) (nI d)) → (¬ ch (σ.2.2.1 2) tl q1 = 59 → τ = sI (sI σ 10 2 (nI q1)) 10 3 (nI q1)) → asgP σ r d (if (rdOpd (σ.2.2.1 2) tl (p + 2)).2 = -1 then ((rdOpd (σ.2.2.1 2) tl (p + 2)).1, none) else if kindC (ch (σ.2.2.1 2) tl (rdOpd (σ.2.2.1 2) tl (p + 2)).1) = 0 then if ch (σ.2.2.1 2) tl (rdOpd (σ.2.2.1 2) tl (p + 2)).1 = 59 then ((rdOpd (σ.2.2.1 2) tl (p + 2)).1 + 1, some (0, ch (σ.2.2.1 2) tl p - 97, (rdOpd (σ.2.2.1 2) tl (p + 2)).2, -1)) else ((rdOpd (σ.2.2.1 2) tl (p + 2)).1, none) else if (rdOpd (σ.2.2.1 2) tl ((rdOpd (σ.2.2.1 2) tl (p + 2)).1 + 1)).2 = -1 then ((rdOpd (σ.2.2.1 2) tl ((rdOpd (σ.2.2.1 2) tl (p + 2)).1 + 1)).1, none) else if ch (σ.2.2.1 2) tl (rdOpd (σ.2.2.1 2) tl ((rdOpd (σ.2.2.1 2) tl (p + 2)).1 + 1)).1 = 59 then ((rdOpd (σ.2.2.1 2) tl ((rdOpd (σ.2.2.1 2) tl (p + 2)).1 + 1)).1 + 1, some (kindC (ch (σ.2.2.1 2) tl (rdOpd (σ.2.2.1 2) tl (p + 2)).1), ch (σ.2.2.1 2) tl p - 97, (rdOpd (σ.2.2.1 2) tl (p + 2)).2, (rdOpd (σ.2.2.1 2) tl ((rdOpd (σ.2.2.1 2) tl (p + 2)).1 + 1)).2)) else ((rdOpd (σ.2.2.1 2) tl ((rdOpd (σ.2.2.1 2) tl (p + 2)).1 + 1)).1, none)) τ := by
          intro τ t1 t0
          rcases opR_c hq with e | ⟨e, hf⟩
          · rw [e]
            dsimp only
            rw [if_neg ne1, if_pos k0]
            by_cases h59 : ch (σ.2.2.1 2) tl q1 = 59
            · rw [if_pos h59]; exact t1 h59
            · rw [if_neg h59]; exact ⟨_, t0 h59⟩
          · rw [e]
            dsimp only
            rw [if_pos rfl]
            exact ⟨_, t0 (fig_kind hf).2⟩
        refine pw_aload_n dX4_readAssignment_0 rfl ?_
        refine lp_getr 1 dX4_readAssignment_1 fp_RX4_25.FL rfl rfl rfl ?_
        refine pw_aload_n dX4_readAssignment_4 rfl ?_
        refine lp_geti dX4_readAssignment_5 fp_RX4_9.FL rfl rfl ?_
        refine pw_top (nI p) hat ?_
        refine lp_cV1 (mi' := mX9_at) (As := [_]) (q := (RX9, TX9, 2)) dX4_readAssignment_8 lk_RX4_46 mk_X9_at mi_X9_at me_X9_at ⟨by decide, by decide⟩ rfl rfl (Nat.le_of_ble_eq_true rfl) rfl rfl ⟨rfl, rfl⟩ ⟨Nat.zero_le _, Nat.zero_le _⟩ ha ?_
        refine pw_bipush (v := 97) dX4_readAssignment_11 rfl ?_
        refine pw_isub dX4_readAssignment_13 ?_
        refine pw_istore_n dX4_readAssignment_14 (by decide) ?_
        refine pw_aload_n dX4_readAssignment_15 rfl ?_
        refine pw_dup dX4_readAssignment_16 rfl ?_
        refine lp_geti dX4_readAssignment_17 fp_RX4_9.FL rfl rfl ?_
        refine pw_top (nI p) hat ?_
        refine pw_iconst (v := 1) dX4_readAssignment_20 rfl ?_
        refine pw_iadd dX4_readAssignment_21 ?_
        refine pw_top (nI (p + 1)) (nI_1 p) ?_
        refine lp_puti dX4_readAssignment_22 fp_RX4_9 rfl rfl rfl rfl ?_
        refine pw_aload_n dX4_readAssignment_25 rfl ?_
        refine pw_bipush (v := 61) dX4_readAssignment_26 rfl ?_
        refine lp_cV1 (mi' := mX4_take) (As := [_]) (q := (RX4, TX4, 6)) dX4_readAssignment_28 lk_RX4_65 mk_X4_take mi_X4_take me_X4_take ⟨by decide, by decide⟩ rfl rfl (Nat.le_of_ble_eq_true rfl) rfl rfl ⟨rfl, rfl⟩ ⟨Nat.zero_le _, Nat.zero_le _⟩ ht ?_
        refine pw_if_ne 35 dX4_readAssignment_31 (by decide) (fun c_31 => ?_) (fun c_31 => absurd c_31 (by decide))
        refine pw_aload_n dX4_readAssignment_35 rfl ?_
        refine lp_cV1 (mi' := mX4_readOperand) (As := []) (q := (RX4, TX4, 6)) dX4_readAssignment_36 lk_RX4_69 mk_X4_readOperand mi_X4_readOperand me_X4_readOperand ⟨by decide, by decide⟩ rfl rfl (Nat.le_of_ble_eq_true rfl) rfl rfl ⟨rfl, rfl⟩ ⟨Nat.zero_le _, Nat.zero_le _⟩ ho ?_
        refine pw_istore_n dX4_readAssignment_39 (by decide) ?_
        refine pw_aload_n dX4_readAssignment_40 rfl ?_
        refine lp_geti dX4_readAssignment_41 fp_RX4_15.FL rfl rfl ?_
        refine pw_top (-1) herr ?_
        refine pw_iconst (v := -1) dX4_readAssignment_44 rfl ?_
        refine pw_icmp_eq 49 dX4_readAssignment_45 (by decide) (fun c_45 => ?_) (fun c_45 => absurd rfl c_45)
        refine pw_aload_n dX4_readAssignment_49 rfl ?_
        refine lp_getr 1 dX4_readAssignment_50 fp_RX4_25.FL rfl rfl rfl ?_
        refine pw_aload_n dX4_readAssignment_53 rfl ?_
        refine lp_geti dX4_readAssignment_54 fp_RX4_9.FL rfl rfl ?_
        refine pw_top (nI q1) rfl ?_
        refine lp_cV1 (mi' := mX9_at) (As := [_]) (q := (RX9, TX9, 2)) dX4_readAssignment_57 lk_RX4_46 mk_X9_at mi_X9_at me_X9_at ⟨by decide, by decide⟩ rfl rfl (Nat.le_of_ble_eq_true rfl) rfl rfl ⟨rfl, rfl⟩ ⟨Nat.zero_le _, Nat.zero_le _⟩ ha1 ?_
        refine lp_cS1 (mi' := mX4_kindOf) (As := [_]) dX4_readAssignment_60 lk_RX4_73 mk_X4_kindOf ms_X4_kindOf ⟨by decide, by decide⟩ rfl rfl (Nat.le_of_ble_eq_true rfl) ⟨rfl, rfl⟩ ⟨Nat.zero_le _, Nat.zero_le _⟩ (x_kindOf _ _) ?_
        refine pw_top 0 k0 ?_
        refine pw_istore_n dX4_readAssignment_63 (by decide) ?_
        refine pw_iconst (v := -1) dX4_readAssignment_64 rfl ?_
        refine pw_istore dX4_readAssignment_65 (by decide) ?_
        refine pw_iload_n dX4_readAssignment_67 rfl ?_
        refine pw_if_eq 87 dX4_readAssignment_68 (by decide) (fun c_68 => ?_) (fun c_68 => absurd rfl c_68)
        exact pw_lk [(0, .ref (adr 10)), (1, .int (ch (σ.2.2.1 2) tl p - 97)), (2, .int f1), (3, .int 0), (4, .int (-1))] ⟨rfl, rfl, rfl, rfl, rfl, trivial⟩ (ra_tail hT htl r d q1 hr (by omega) herr hdep hcnt _ _ _ _ (fun h => ⟨_, rfl, hfin _ (fun _ => rfl) (fun q => absurd h q)⟩) (fun h => ⟨_, rfl, hfin _ (fun q => absurd q h) (fun _ => rfl)⟩))
      · have hf0 : ¬ isFig (ch (σ.2.2.1 2) tl q1) = true := fun h => k0 (fig_kind h).1
        have e : rdOpd (σ.2.2.1 2) tl (p + 2) = (q1, f1) := (opR_c hq).resolve_right (fun h => hf0 h.2)
        rw [e]
        dsimp only
        rw [if_neg ne1, if_neg k0]
        have ho2 := x_readOperand (l := l) (G := G) (adr := adr) (Lf := Lf) (Rt := Rt) (σ := sI σ 10 2 (nI (q1 + 1))) hT htl (q1 + 1) (by omega) gI
        have ho2 : SpecD l G mX4_readOperand [.ref (adr 10)] (wp G adr LX Lf Rt (sI σ 10 2 (nI (q1 + 1)))) (some (.int (opV (opR (σ.2.2.1 2) tl (q1 + 1))))) (wp G adr LX Lf Rt (opS (sI σ 10 2 (nI (q1 + 1))) (opR (σ.2.2.1 2) tl (q1 + 1)))) := ho2
        rcases hq2 : opR (σ.2.2.1 2) tl (q1 + 1) with ⟨q2, _ | s1⟩
        · have hb := opR_n hq2
          rw [hq2] at ho2
          have e1 : rdOpd (σ.2.2.1 2) tl (q1 + 1) = (q2, -1) := by rw [opR_rd, hq2]
          rw [e1]
          dsimp only
          rw [if_pos rfl]
          refine pw_aload_n dX4_readAssignment_0 rfl ?_
          refine lp_getr 1 dX4_readAssignment_1 fp_RX4_25.FL rfl rfl rfl ?_
          refine pw_aload_n dX4_readAssignment_4 rfl ?_
          refine lp_geti dX4_readAssignment_5 fp_RX4_9.FL rfl rfl ?_
          refine pw_top (nI p) hat ?_
          refine lp_cV1 (mi' := mX9_at) (As := [_]) (q := (RX9, TX9, 2)) dX4_readAssignment_8 lk_RX4_46 mk_X9_at mi_X9_at me_X9_at ⟨by decide, by decide⟩ rfl rfl (Nat.le_of_ble_eq_true rfl) rfl rfl ⟨rfl, rfl⟩ ⟨Nat.zero_le _, Nat.zero_le _⟩ ha ?_
          refine pw_bipush (v := 97) dX4_readAssignment_11 rfl ?_
          refine pw_isub dX4_readAssignment_13 ?_
          refine pw_istore_n dX4_readAssignment_14 (by decide) ?_
          refine pw_aload_n dX4_readAssignment_15 rfl ?_
          refine pw_dup dX4_readAssignment_16 rfl ?_
          refine lp_geti dX4_readAssignment_17 fp_RX4_9.FL rfl rfl ?_
          refine pw_top (nI p) hat ?_
          refine pw_iconst (v := 1) dX4_readAssignment_20 rfl ?_
          refine pw_iadd dX4_readAssignment_21 ?_
          refine pw_top (nI (p + 1)) (nI_1 p) ?_
          refine lp_puti dX4_readAssignment_22 fp_RX4_9 rfl rfl rfl rfl ?_
          refine pw_aload_n dX4_readAssignment_25 rfl ?_
          refine pw_bipush (v := 61) dX4_readAssignment_26 rfl ?_
          refine lp_cV1 (mi' := mX4_take) (As := [_]) (q := (RX4, TX4, 6)) dX4_readAssignment_28 lk_RX4_65 mk_X4_take mi_X4_take me_X4_take ⟨by decide, by decide⟩ rfl rfl (Nat.le_of_ble_eq_true rfl) rfl rfl ⟨rfl, rfl⟩ ⟨Nat.zero_le _, Nat.zero_le _⟩ ht ?_
          refine pw_if_ne 35 dX4_readAssignment_31 (by decide) (fun c_31 => ?_) (fun c_31 => absurd c_31 (by decide))
          refine pw_aload_n dX4_readAssignment_35 rfl ?_
          refine lp_cV1 (mi' := mX4_readOperand) (As := []) (q := (RX4, TX4, 6)) dX4_readAssignment_36 lk_RX4_69 mk_X4_readOperand mi_X4_readOperand me_X4_readOperand ⟨by decide, by decide⟩ rfl rfl (Nat.le_of_ble_eq_true rfl) rfl rfl ⟨rfl, rfl⟩ ⟨Nat.zero_le _, Nat.zero_le _⟩ ho ?_
          refine pw_istore_n dX4_readAssignment_39 (by decide) ?_
          refine pw_aload_n dX4_readAssignment_40 rfl ?_
          refine lp_geti dX4_readAssignment_41 fp_RX4_15.FL rfl rfl ?_
          refine pw_top (-1) herr ?_
          refine pw_iconst (v := -1) dX4_readAssignment_44 rfl ?_
          refine pw_icmp_eq 49 dX4_readAssignment_45 (by decide) (fun c_45 => ?_) (fun c_45 => absurd rfl c_45)
          refine pw_aload_n dX4_readAssignment_49 rfl ?_
          refine lp_getr 1 dX4_readAssignment_50 fp_RX4_25.FL rfl rfl rfl ?_
          refine pw_aload_n dX4_readAssignment_53 rfl ?_
          refine lp_geti dX4_readAssignment_54 fp_RX4_9.FL rfl rfl ?_
          refine pw_top (nI q1) rfl ?_
          refine lp_cV1 (mi' := mX9_at) (As := [_]) (q := (RX9, TX9, 2)) dX4_readAssignment_57 lk_RX4_46 mk_X9_at mi_X9_at me_X9_at ⟨by decide, by decide⟩ rfl rfl (Nat.le_of_ble_eq_true rfl) rfl rfl ⟨rfl, rfl⟩ ⟨Nat.zero_le _, Nat.zero_le _⟩ ha1 ?_
          refine lp_cS1 (mi' := mX4_kindOf) (As := [_]) dX4_readAssignment_60 lk_RX4_73 mk_X4_kindOf ms_X4_kindOf ⟨by decide, by decide⟩ rfl rfl (Nat.le_of_ble_eq_true rfl) ⟨rfl, rfl⟩ ⟨Nat.zero_le _, Nat.zero_le _⟩ (x_kindOf _ _) ?_
          refine pw_istore_n dX4_readAssignment_63 (by decide) ?_
          refine pw_iconst (v := -1) dX4_readAssignment_64 rfl ?_
          refine pw_istore dX4_readAssignment_65 (by decide) ?_
          refine pw_iload_n dX4_readAssignment_67 rfl ?_
          refine pw_if_eq 87 dX4_readAssignment_68 (by decide) (fun c_68 => absurd c_68 k0) (fun c_68 => ?_)
          refine pw_aload_n dX4_readAssignment_71 rfl ?_
          refine pw_dup dX4_readAssignment_72 rfl ?_
          refine lp_geti dX4_readAssignment_73 fp_RX4_9.FL rfl rfl ?_
          refine pw_top (nI q1) rfl ?_
          refine pw_iconst (v := 1) dX4_readAssignment_76 rfl ?_
          refine pw_iadd dX4_readAssignment_77 ?_
          refine pw_top (nI (q1 + 1)) (nI_1 q1) ?_
          refine lp_puti dX4_readAssignment_78 fp_RX4_9 rfl rfl rfl rfl ?_
          rw [sI_sI]
          refine pw_aload_n dX4_readAssignment_81 rfl ?_
          refine lp_cV1 (mi' := mX4_readOperand) (As := []) (q := (RX4, TX4, 6)) dX4_readAssignment_82 lk_RX4_69 mk_X4_readOperand mi_X4_readOperand me_X4_readOperand ⟨by decide, by decide⟩ rfl rfl (Nat.le_of_ble_eq_true rfl) rfl rfl ⟨rfl, rfl⟩ ⟨Nat.zero_le _, Nat.zero_le _⟩ ho2 ?_
          refine pw_istore dX4_readAssignment_85 (by decide) ?_
          refine pw_aload_n dX4_readAssignment_87 rfl ?_
          refine lp_geti dX4_readAssignment_88 fp_RX4_15.FL rfl rfl ?_
          refine pw_top (nI q2) rfl ?_
          refine pw_iconst (v := -1) dX4_readAssignment_91 rfl ?_
          refine pw_icmp_ne 120 dX4_readAssignment_92 (by decide) (fun c_92 => ?_) (fun c_92 => absurd c_92 (fun q => nI_nm1 (by omega) q.symm))
          exact pw_vret rfl dX4_readAssignment_120 (Nat.zero_le _) (Nat.zero_le _) (by refine ⟨_, rfl, nI q2, ?_⟩; show sI (sI (sI σ 10 2 (nI (q1 + 1))) 10 2 (nI q2)) 10 3 (nI q2) = _; rw [sI_sI])
        · obtain ⟨ok2, ne2, lt2, le2⟩ := opR_ok hq2
          rw [hq2] at ho2
          have ho2 : SpecD l G mX4_readOperand [.ref (adr 10)] (wp G adr LX Lf Rt (sI σ 10 2 (nI (q1 + 1)))) (some (.int s1)) (wp G adr LX Lf Rt (sI σ 10 2 (nI q2))) := by
            have e : opS (sI σ 10 2 (nI (q1 + 1))) (q2, some s1) = sI σ 10 2 (nI q2) := by show sI (sI σ 10 2 (nI (q1 + 1))) 10 2 (nI q2) = _; rw [sI_sI]
            rw [e] at ho2; exact ho2
          have hfin : ∀ τ, (ch (σ.2.2.1 2) tl q2 = 59 → τ = addS (sI σ 10 2 (nI (q2 + 1))) r (kindC (ch (σ.2.2.1 2) tl q1)) (ch (σ.2.2.1 2) tl p - 97) f1 s1 (nI d)) → (¬ ch (σ.2.2.1 2) tl q2 = 59 → τ = sI (sI σ 10 2 (nI q2)) 10 3 (nI q2)) → asgP σ r d (if (rdOpd (σ.2.2.1 2) tl (q1 + 1)).2 = -1 then ((rdOpd (σ.2.2.1 2) tl (q1 + 1)).1, none) else if ch (σ.2.2.1 2) tl (rdOpd (σ.2.2.1 2) tl (q1 + 1)).1 = 59 then ((rdOpd (σ.2.2.1 2) tl (q1 + 1)).1 + 1, some (kindC (ch (σ.2.2.1 2) tl q1), ch (σ.2.2.1 2) tl p - 97, f1, (rdOpd (σ.2.2.1 2) tl (q1 + 1)).2)) else ((rdOpd (σ.2.2.1 2) tl (q1 + 1)).1, none)) τ := by
            intro τ t1 t0
            rcases opR_c hq2 with e | ⟨e, hf⟩
            · rw [e]
              dsimp only
              rw [if_neg ne2]
              by_cases h59 : ch (σ.2.2.1 2) tl q2 = 59
              · rw [if_pos h59]; exact t1 h59
              · rw [if_neg h59]; exact ⟨_, t0 h59⟩
            · rw [e]
              dsimp only
              rw [if_pos rfl]
              exact ⟨_, t0 (fig_kind hf).2⟩
          refine pw_aload_n dX4_readAssignment_0 rfl ?_
          refine lp_getr 1 dX4_readAssignment_1 fp_RX4_25.FL rfl rfl rfl ?_
          refine pw_aload_n dX4_readAssignment_4 rfl ?_
          refine lp_geti dX4_readAssignment_5 fp_RX4_9.FL rfl rfl ?_
          refine pw_top (nI p) hat ?_
          refine lp_cV1 (mi' := mX9_at) (As := [_]) (q := (RX9, TX9, 2)) dX4_readAssignment_8 lk_RX4_46 mk_X9_at mi_X9_at me_X9_at ⟨by decide, by decide⟩ rfl rfl (Nat.le_of_ble_eq_true rfl) rfl rfl ⟨rfl, rfl⟩ ⟨Nat.zero_le _, Nat.zero_le _⟩ ha ?_
          refine pw_bipush (v := 97) dX4_readAssignment_11 rfl ?_
          refine pw_isub dX4_readAssignment_13 ?_
          refine pw_istore_n dX4_readAssignment_14 (by decide) ?_
          refine pw_aload_n dX4_readAssignment_15 rfl ?_
          refine pw_dup dX4_readAssignment_16 rfl ?_
          refine lp_geti dX4_readAssignment_17 fp_RX4_9.FL rfl rfl ?_
          refine pw_top (nI p) hat ?_
          refine pw_iconst (v := 1) dX4_readAssignment_20 rfl ?_
          refine pw_iadd dX4_readAssignment_21 ?_
          refine pw_top (nI (p + 1)) (nI_1 p) ?_
          refine lp_puti dX4_readAssignment_22 fp_RX4_9 rfl rfl rfl rfl ?_
          refine pw_aload_n dX4_readAssignment_25 rfl ?_
          refine pw_bipush (v := 61) dX4_readAssignment_26 rfl ?_
          refine lp_cV1 (mi' := mX4_take) (As := [_]) (q := (RX4, TX4, 6)) dX4_readAssignment_28 lk_RX4_65 mk_X4_take mi_X4_take me_X4_take ⟨by decide, by decide⟩ rfl rfl (Nat.le_of_ble_eq_true rfl) rfl rfl ⟨rfl, rfl⟩ ⟨Nat.zero_le _, Nat.zero_le _⟩ ht ?_
          refine pw_if_ne 35 dX4_readAssignment_31 (by decide) (fun c_31 => ?_) (fun c_31 => absurd c_31 (by decide))
          refine pw_aload_n dX4_readAssignment_35 rfl ?_
          refine lp_cV1 (mi' := mX4_readOperand) (As := []) (q := (RX4, TX4, 6)) dX4_readAssignment_36 lk_RX4_69 mk_X4_readOperand mi_X4_readOperand me_X4_readOperand ⟨by decide, by decide⟩ rfl rfl (Nat.le_of_ble_eq_true rfl) rfl rfl ⟨rfl, rfl⟩ ⟨Nat.zero_le _, Nat.zero_le _⟩ ho ?_
          refine pw_istore_n dX4_readAssignment_39 (by decide) ?_
          refine pw_aload_n dX4_readAssignment_40 rfl ?_
          refine lp_geti dX4_readAssignment_41 fp_RX4_15.FL rfl rfl ?_
          refine pw_top (-1) herr ?_
          refine pw_iconst (v := -1) dX4_readAssignment_44 rfl ?_
          refine pw_icmp_eq 49 dX4_readAssignment_45 (by decide) (fun c_45 => ?_) (fun c_45 => absurd rfl c_45)
          refine pw_aload_n dX4_readAssignment_49 rfl ?_
          refine lp_getr 1 dX4_readAssignment_50 fp_RX4_25.FL rfl rfl rfl ?_
          refine pw_aload_n dX4_readAssignment_53 rfl ?_
          refine lp_geti dX4_readAssignment_54 fp_RX4_9.FL rfl rfl ?_
          refine pw_top (nI q1) rfl ?_
          refine lp_cV1 (mi' := mX9_at) (As := [_]) (q := (RX9, TX9, 2)) dX4_readAssignment_57 lk_RX4_46 mk_X9_at mi_X9_at me_X9_at ⟨by decide, by decide⟩ rfl rfl (Nat.le_of_ble_eq_true rfl) rfl rfl ⟨rfl, rfl⟩ ⟨Nat.zero_le _, Nat.zero_le _⟩ ha1 ?_
          refine lp_cS1 (mi' := mX4_kindOf) (As := [_]) dX4_readAssignment_60 lk_RX4_73 mk_X4_kindOf ms_X4_kindOf ⟨by decide, by decide⟩ rfl rfl (Nat.le_of_ble_eq_true rfl) ⟨rfl, rfl⟩ ⟨Nat.zero_le _, Nat.zero_le _⟩ (x_kindOf _ _) ?_
          refine pw_istore_n dX4_readAssignment_63 (by decide) ?_
          refine pw_iconst (v := -1) dX4_readAssignment_64 rfl ?_
          refine pw_istore dX4_readAssignment_65 (by decide) ?_
          refine pw_iload_n dX4_readAssignment_67 rfl ?_
          refine pw_if_eq 87 dX4_readAssignment_68 (by decide) (fun c_68 => absurd c_68 k0) (fun c_68 => ?_)
          refine pw_aload_n dX4_readAssignment_71 rfl ?_
          refine pw_dup dX4_readAssignment_72 rfl ?_
          refine lp_geti dX4_readAssignment_73 fp_RX4_9.FL rfl rfl ?_
          refine pw_top (nI q1) rfl ?_
          refine pw_iconst (v := 1) dX4_readAssignment_76 rfl ?_
          refine pw_iadd dX4_readAssignment_77 ?_
          refine pw_top (nI (q1 + 1)) (nI_1 q1) ?_
          refine lp_puti dX4_readAssignment_78 fp_RX4_9 rfl rfl rfl rfl ?_
          rw [sI_sI]
          refine pw_aload_n dX4_readAssignment_81 rfl ?_
          refine lp_cV1 (mi' := mX4_readOperand) (As := []) (q := (RX4, TX4, 6)) dX4_readAssignment_82 lk_RX4_69 mk_X4_readOperand mi_X4_readOperand me_X4_readOperand ⟨by decide, by decide⟩ rfl rfl (Nat.le_of_ble_eq_true rfl) rfl rfl ⟨rfl, rfl⟩ ⟨Nat.zero_le _, Nat.zero_le _⟩ ho2 ?_
          refine pw_istore dX4_readAssignment_85 (by decide) ?_
          exact pw_lk [(0, .ref (adr 10)), (1, .int (ch (σ.2.2.1 2) tl p - 97)), (2, .int f1), (3, .int (kindC (ch (σ.2.2.1 2) tl q1))), (4, .int s1)] ⟨rfl, rfl, rfl, rfl, rfl, trivial⟩ (ra_tail hT htl r d q2 hr (by omega) herr hdep hcnt _ _ _ _ (fun h => ⟨_, rfl, hfin _ (fun _ => rfl) (fun q => absurd h q)⟩) (fun h => ⟨_, rfl, hfin _ (fun q => absurd q h) (fun _ => rfl)⟩))
  · rw [if_neg h61]
    have h61' : ¬ ch ((sI σ 10 2 (nI (p + 1))).2.2.1 2) tl (p + 1) = 61 := h61
    rw [decide_eq_false h61', if_neg h61'] at ht
    refine pw_aload_n dX4_readAssignment_0 rfl ?_
    refine lp_getr 1 dX4_readAssignment_1 fp_RX4_25.FL rfl rfl rfl ?_
    refine pw_aload_n dX4_readAssignment_4 rfl ?_
    refine lp_geti dX4_readAssignment_5 fp_RX4_9.FL rfl rfl ?_
    refine pw_top (nI p) hat ?_
    refine lp_cV1 (mi' := mX9_at) (As := [_]) (q := (RX9, TX9, 2)) dX4_readAssignment_8 lk_RX4_46 mk_X9_at mi_X9_at me_X9_at ⟨by decide, by decide⟩ rfl rfl (Nat.le_of_ble_eq_true rfl) rfl rfl ⟨rfl, rfl⟩ ⟨Nat.zero_le _, Nat.zero_le _⟩ ha ?_
    refine pw_bipush (v := 97) dX4_readAssignment_11 rfl ?_
    refine pw_isub dX4_readAssignment_13 ?_
    refine pw_istore_n dX4_readAssignment_14 (by decide) ?_
    refine pw_aload_n dX4_readAssignment_15 rfl ?_
    refine pw_dup dX4_readAssignment_16 rfl ?_
    refine lp_geti dX4_readAssignment_17 fp_RX4_9.FL rfl rfl ?_
    refine pw_top (nI p) hat ?_
    refine pw_iconst (v := 1) dX4_readAssignment_20 rfl ?_
    refine pw_iadd dX4_readAssignment_21 ?_
    refine pw_top (nI (p + 1)) (nI_1 p) ?_
    refine lp_puti dX4_readAssignment_22 fp_RX4_9 rfl rfl rfl rfl ?_
    refine pw_aload_n dX4_readAssignment_25 rfl ?_
    refine pw_bipush (v := 61) dX4_readAssignment_26 rfl ?_
    refine lp_cV1 (mi' := mX4_take) (As := [_]) (q := (RX4, TX4, 6)) dX4_readAssignment_28 lk_RX4_65 mk_X4_take mi_X4_take me_X4_take ⟨by decide, by decide⟩ rfl rfl (Nat.le_of_ble_eq_true rfl) rfl rfl ⟨rfl, rfl⟩ ⟨Nat.zero_le _, Nat.zero_le _⟩ ht ?_
    refine pw_if_ne 35 dX4_readAssignment_31 (by decide) (fun c_31 => absurd c_31 (fun z => z rfl)) (fun c_31 => ?_)
    exact pw_vret rfl dX4_readAssignment_34 (Nat.zero_le _) (Nat.zero_le _) ⟨_, rfl, _, rfl⟩
end XZ
