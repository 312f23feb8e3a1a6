/-! THE CLASS: reading a text, whole; parse -/
def cntP (σ : St) (r d : Nat) (R : Nat × Option Int32) (τ : St) : Prop := match R.2 with
  | none => ∃ x, τ = sI (sI σ 10 2 x) 10 3 (nI R.1)
  | some n => τ = sI (addS (sA (sI σ 10 2 (nI R.1)) 11 (upd (σ.2.2.1 11) d (nI r))) r 4 n (-1) (-1) (nI d)) 10 4 (nI (d + 1))
theorem rdAsg_k {t : Nat → Int32} {tl p q : Nat} {k v f s : Int32} (hl : isLet (ch t tl p) = true) (h : rdAsg t tl p = (q, some (k, v, f, s))) : (k = 0 ∨ k = 1 ∨ k = 2 ∨ k = 3) ∧ (∃ w, w < 8 ∧ v = nI w) ∧ okOp f ∧ (¬ k = 0 → okOp s) := by
  have okd : ∀ p', ¬ (rdOpd t tl p').2 = -1 → okOp (rdOpd t tl p').2 := by
    intro p' hn
    rcases hq : opR t tl p' with ⟨q1, _ | f1⟩
    · rw [opR_rd, hq] at hn; exact absurd rfl hn
    · rcases opR_c hq with e | ⟨e, -⟩
      · rw [e]; exact (opR_ok hq).1
      · rw [e] at hn; exact absurd rfl hn
  have hkd : kindC (ch t tl (rdOpd t tl (p + 2)).1) = 0 ∨ kindC (ch t tl (rdOpd t tl (p + 2)).1) = 1 ∨ kindC (ch t tl (rdOpd t tl (p + 2)).1) = 2 ∨ kindC (ch t tl (rdOpd t tl (p + 2)).1) = 3 := by
    unfold kindC
    split
    · exact Or.inr (Or.inl rfl)
    · split
      · exact Or.inr (Or.inr (Or.inl rfl))
      · split
        · exact Or.inr (Or.inr (Or.inr rfl))
        · exact Or.inl rfl
  unfold rdAsg at h
  by_cases c1 : ch t tl (p + 1) = 61
  · rw [if_pos c1] at h
    by_cases c2 : (rdOpd t tl (p + 2)).2 = -1
    · rw [if_pos c2] at h; injection h with _ h; cases h
    · rw [if_neg c2] at h
      by_cases c3 : kindC (ch t tl (rdOpd t tl (p + 2)).1) = 0
      · rw [if_pos c3] at h
        by_cases c4 : ch t tl (rdOpd t tl (p + 2)).1 = 59
        · rw [if_pos c4] at h
          injection h with _ h
          injection h with h
          injection h with h1 h
          injection h with h2 h
          injection h with h3 h4
          subst h1; subst h2; subst h3; subst h4
          exact ⟨Or.inl rfl, let_var hl, okd _ c2, fun q => absurd rfl q⟩
        · rw [if_neg c4] at h; injection h with _ h; cases h
      · rw [if_neg c3] at h
        by_cases c5 : (rdOpd t tl ((rdOpd t tl (p + 2)).1 + 1)).2 = -1
        · rw [if_pos c5] at h; injection h with _ h; cases h
        · rw [if_neg c5] at h
          by_cases c4 : ch t tl (rdOpd t tl ((rdOpd t tl (p + 2)).1 + 1)).1 = 59
          · rw [if_pos c4] at h
            injection h with _ h
            injection h with h
            injection h with h1 h
            injection h with h2 h
            injection h with h3 h4
            subst h1; subst h2; subst h3; subst h4
            exact ⟨hkd, let_var hl, okd _ c2, fun _ => okd _ c5⟩
          · rw [if_neg c4] at h; injection h with _ h; cases h
  · rw [if_neg c1] at h; injection h with _ h; cases h
theorem rdCnt_k {t : Nat → Int32} {tl p q : Nat} {n : Int32} (h : rdCnt t tl p = (q, some n)) : ∃ c, 1 ≤ c ∧ c ≤ 40 ∧ n = nI c := by
  unfold rdCnt at h
  split at h
  · injection h with _ h; cases h
  · split at h
    · injection h with _ h; cases h
    · rename_i hc
      split at h
      · injection h with _ h
        injection h with h
        have hc := Decidable.of_not_not hc
        rw [h] at hc
        have h1 := Int32.le_iff_toInt_le.mp hc.1
        have h2 := Int32.le_iff_toInt_le.mp hc.2
        rw [show (1 : Int32).toInt = 1 from by decide] at h1
        rw [show (40 : Int32).toInt = 40 from by decide] at h2
        obtain ⟨j, j1, j2⟩ := nI_of2 (x := n) (M := 40) (n := 40) (by decide) (by rw [Int32.lt_iff_toInt_lt, show (0 : Int32).toInt = 0 from by decide]; omega) hc.2
        rw [j2, nI_toInt (by omega)] at h1
        exact ⟨j, by omega, j1, j2⟩
      · injection h with _ h; cases h
section XPP
variable {l : Launch} {G : cxG} {adr : Nat → Nat} {Lf Rt : va_W} {σ : St} {tl : Nat}
theorem x_readBegin (hT : σ.1 1 1 = nI tl) (htl : tl ≤ 200) (r d p : Nat) (hr : r < 30) (hd : d < 2) (hp : p < 200) (hat : σ.1 10 2 = nI p) (hdep : σ.1 10 4 = nI d) (hcnt : σ.1 3 0 = nI r) : SpR0 l G mX4_readLoopBegin [.ref (adr 10)] adr LX Lf Rt σ (cntP σ r d (rdCnt (σ.2.2.1 2) tl p)) := by
  refine spec_of (by decide) (Nat.le_of_ble_eq_true rfl) (fun sz => ?_)
  have hrn := x_readNumber (l := l) (G := G) (adr := adr) (Lf := Lf) (Rt := Rt) (σ := σ) hT htl 2 (by decide) p (by omega) hat
  have hm := rdNum_m (t := σ.2.2.1 2) (tl := tl) 2 p 0
  unfold rdCnt
  generalize rdNum (σ.2.2.1 2) tl 2 p 0 = R at hrn hm
  obtain ⟨q, n⟩ := R
  dsimp only at hrn hm ⊢
  have ha := x_Tat (l := l) (G := G) (adr := adr) (Lf := Lf) (Rt := Rt) (σ := sI σ 10 2 (nI q)) hT htl q (by omega)
  have ha : SpecD l G mX9_at [.ref (adr 1), .int (nI q)] (wp G adr LX Lf Rt (sI σ 10 2 (nI q))) (some (.int (ch (σ.2.2.1 2) tl q))) (wp G adr LX Lf Rt (sI σ 10 2 (nI q))) := ha
  have ht := x_take (l := l) (G := G) (adr := adr) (Lf := Lf) (Rt := Rt) (σ := sI σ 10 2 (nI q)) hT htl q (by omega) gI 123
  cases hf : isFig (ch (σ.2.2.1 2) tl q)
  · rw [if_neg (by decide)]
    by_cases hn : 1 ≤ n ∧ n ≤ 40
    · rw [if_neg (fun z => z hn)]
      by_cases hc : ch (σ.2.2.1 2) tl q = 123
      · rw [if_pos hc]
        have hc' : ch ((sI σ 10 2 (nI q)).2.2.1 2) tl q = 123 := hc
        rw [decide_eq_true hc', if_pos hc', sI_sI] at ht
        have bd : vp_in (nI d) 2 := vp_in_nI hd (by decide)
        have ed : (nI d).toNatClampNeg = d := nI_clamp (by omega)
        have hadd := x_addP (l := l) (G := G) (adr := adr) (Lf := Lf) (Rt := Rt) (σ := sA (sI σ 10 2 (nI (q + 1))) 11 (upd (σ.2.2.1 11) d (nI r))) r hr hcnt 4 n (-1) (-1) (nI d)
        refine pw_aload_n dX4_readLoopBegin_0 rfl ?_
        refine lp_geti dX4_readLoopBegin_1 fp_RX4_9.FL rfl rfl ?_
        refine pw_top (nI p) hat ?_
        refine pw_istore_n dX4_readLoopBegin_4 (by decide) ?_
        refine pw_aload_n dX4_readLoopBegin_5 rfl ?_
        refine pw_iconst (v := 2) dX4_readLoopBegin_6 rfl ?_
        refine lp_cV1 (mi' := mX4_readNumber) (As := [_]) (q := (RX4, TX4, 6)) dX4_readLoopBegin_7 lk_RX4_80 mk_X4_readNumber mi_X4_readNumber me_X4_readNumber ⟨by decide, by decide⟩ rfl rfl (Nat.le_of_ble_eq_true rfl) rfl rfl ⟨rfl, rfl⟩ ⟨Nat.zero_le _, Nat.zero_le _⟩ hrn ?_
        refine pw_istore_n dX4_readLoopBegin_10 (by decide) ?_
        refine pw_aload_n dX4_readLoopBegin_11 rfl ?_
        refine lp_getr 1 dX4_readLoopBegin_12 fp_RX4_25.FL rfl rfl rfl ?_
        refine pw_aload_n dX4_readLoopBegin_15 rfl ?_
        refine lp_geti dX4_readLoopBegin_16 fp_RX4_9.FL rfl rfl ?_
        refine pw_top (nI q) rfl ?_
        refine lp_cV1 (mi' := mX9_at) (As := [_]) (q := (RX9, TX9, 2)) dX4_readLoopBegin_19 lk_RX4_46 mk_X9_at mi_X9_at me_X9_at ⟨by decide, by decide⟩ rfl rfl (Nat.le_of_ble_eq_true rfl) rfl rfl ⟨rfl, rfl⟩ ⟨Nat.zero_le _, Nat.zero_le _⟩ ha ?_
        refine lp_cS1 (mi' := mX4_isDigit) (As := [_]) dX4_readLoopBegin_22 lk_RX4_56 mk_X4_isDigit ms_X4_isDigit ⟨by decide, by decide⟩ rfl rfl (Nat.le_of_ble_eq_true rfl) ⟨rfl, rfl⟩ ⟨Nat.zero_le _, Nat.zero_le _⟩ (x_isFig _ _) ?_
        rw [hf]
        refine pw_if_eq 39 dX4_readLoopBegin_25 (by decide) (fun c_25 => ?_) (fun c_25 => absurd rfl c_25)
        refine pw_iload_n dX4_readLoopBegin_39 rfl ?_
        refine pw_iconst (v := 1) dX4_readLoopBegin_40 rfl ?_
        refine pw_icmp_lt 50 dX4_readLoopBegin_41 (by decide) (fun c_41 => absurd c_41 (Int32.not_lt.mpr hn.1)) (fun c_41 => ?_)
        refine pw_iload_n dX4_readLoopBegin_44 rfl ?_
        refine pw_bipush (v := 40) dX4_readLoopBegin_45 rfl ?_
        refine pw_icmp_le 58 dX4_readLoopBegin_47 (by decide) (fun c_47 => ?_) (fun c_47 => absurd hn.2 c_47)
        refine pw_aload_n dX4_readLoopBegin_58 rfl ?_
        refine pw_bipush (v := 123) dX4_readLoopBegin_59 rfl ?_
        refine lp_cV1 (mi' := mX4_take) (As := [_]) (q := (RX4, TX4, 6)) dX4_readLoopBegin_61 lk_RX4_65 mk_X4_take mi_X4_take me_X4_take ⟨by decide, by decide⟩ rfl rfl (Nat.le_of_ble_eq_true rfl) rfl rfl ⟨rfl, rfl⟩ ⟨Nat.zero_le _, Nat.zero_le _⟩ ht ?_
        refine pw_if_eq 116 dX4_readLoopBegin_64 (by decide) (fun c_64 => absurd (show (1 : Int32) = 0 from c_64) (by decide)) (fun c_64 => ?_)
        refine pw_aload_n dX4_readLoopBegin_67 rfl ?_
        refine lp_geti dX4_readLoopBegin_68 fp_RX4_18.FL rfl rfl ?_
        refine pw_top (nI d) hdep ?_
        refine pw_iconst (v := 2) dX4_readLoopBegin_71 rfl ?_
        refine pw_icmp_ge 116 dX4_readLoopBegin_72 (by decide) (fun c_72 => absurd c_72 (nI_ge (a := d) (b := 2) hd (by decide))) (fun c_72 => ?_)
        refine pw_aload_n dX4_readLoopBegin_75 rfl ?_
        refine lp_getr 11 dX4_readLoopBegin_76 fp_RX4_21.FL rfl rfl rfl ?_
        refine pw_aload_n dX4_readLoopBegin_79 rfl ?_
        refine lp_geti dX4_readLoopBegin_80 fp_RX4_18.FL rfl rfl ?_
        refine pw_top (nI d) hdep ?_
        refine pw_aload_n dX4_readLoopBegin_83 rfl ?_
        refine lp_getr 3 dX4_readLoopBegin_84 fp_RX4_29.FL rfl rfl rfl ?_
        refine lp_geti dX4_readLoopBegin_87 fp_RX4_33.FL rfl rfl ?_
        refine pw_top (nI r) hcnt ?_
        refine lp_iast dX4_readLoopBegin_90 rfl bd ?_
        rw [ed]
        refine pw_aload_n dX4_readLoopBegin_91 rfl ?_
        refine lp_getr 3 dX4_readLoopBegin_92 fp_RX4_29.FL rfl rfl rfl ?_
        refine pw_iconst (v := 4) dX4_readLoopBegin_95 rfl ?_
        refine pw_iload_n dX4_readLoopBegin_96 rfl ?_
        refine pw_iconst (v := -1) dX4_readLoopBegin_97 rfl ?_
        refine pw_iconst (v := -1) dX4_readLoopBegin_98 rfl ?_
        refine pw_aload_n dX4_readLoopBegin_99 rfl ?_
        refine lp_geti dX4_readLoopBegin_100 fp_RX4_18.FL rfl rfl ?_
        refine pw_top (nI d) hdep ?_
        refine lp_cV0 (mi' := mX6_add) (As := [_, _, _, _, _]) (q := (RX6, TX6, 7)) dX4_readLoopBegin_103 lk_RX4_76 mk_X6_add mi_X6_add me_X6_add ⟨by decide, by decide⟩ rfl rfl (Nat.le_of_ble_eq_true rfl) rfl rfl ⟨rfl, rfl⟩ ⟨Nat.zero_le _, Nat.zero_le _⟩ hadd ?_
        refine pw_aload_n dX4_readLoopBegin_106 rfl ?_
        refine pw_dup dX4_readLoopBegin_107 rfl ?_
        refine lp_geti dX4_readLoopBegin_108 fp_RX4_18.FL rfl rfl ?_
        refine pw_top (nI d) hdep ?_
        refine pw_iconst (v := 1) dX4_readLoopBegin_111 rfl ?_
        refine pw_iadd dX4_readLoopBegin_112 ?_
        refine pw_top (nI (d + 1)) (nI_1 d) ?_
        refine lp_puti dX4_readLoopBegin_113 fp_RX4_18 rfl rfl rfl rfl ?_
        exact pw_vret rfl dX4_readLoopBegin_116 (Nat.zero_le _) (Nat.zero_le _) ⟨_, rfl, rfl⟩
      · rw [if_neg hc]
        have hc' : ¬ ch ((sI σ 10 2 (nI q)).2.2.1 2) tl q = 123 := hc
        rw [decide_eq_false hc', if_neg hc'] at ht
        refine pw_aload_n dX4_readLoopBegin_0 rfl ?_
        refine lp_geti dX4_readLoopBegin_1 fp_RX4_9.FL rfl rfl ?_
        refine pw_top (nI p) hat ?_
        refine pw_istore_n dX4_readLoopBegin_4 (by decide) ?_
        refine pw_aload_n dX4_readLoopBegin_5 rfl ?_
        refine pw_iconst (v := 2) dX4_readLoopBegin_6 rfl ?_
        refine lp_cV1 (mi' := mX4_readNumber) (As := [_]) (q := (RX4, TX4, 6)) dX4_readLoopBegin_7 lk_RX4_80 mk_X4_readNumber mi_X4_readNumber me_X4_readNumber ⟨by decide, by decide⟩ rfl rfl (Nat.le_of_ble_eq_true rfl) rfl rfl ⟨rfl, rfl⟩ ⟨Nat.zero_le _, Nat.zero_le _⟩ hrn ?_
        refine pw_istore_n dX4_readLoopBegin_10 (by decide) ?_
        refine pw_aload_n dX4_readLoopBegin_11 rfl ?_
        refine lp_getr 1 dX4_readLoopBegin_12 fp_RX4_25.FL rfl rfl rfl ?_
        refine pw_aload_n dX4_readLoopBegin_15 rfl ?_
        refine lp_geti dX4_readLoopBegin_16 fp_RX4_9.FL rfl rfl ?_
        refine pw_top (nI q) rfl ?_
        refine lp_cV1 (mi' := mX9_at) (As := [_]) (q := (RX9, TX9, 2)) dX4_readLoopBegin_19 lk_RX4_46 mk_X9_at mi_X9_at me_X9_at ⟨by decide, by decide⟩ rfl rfl (Nat.le_of_ble_eq_true rfl) rfl rfl ⟨rfl, rfl⟩ ⟨Nat.zero_le _, Nat.zero_le _⟩ ha ?_
        refine lp_cS1 (mi' := mX4_isDigit) (As := [_]) dX4_readLoopBegin_22 lk_RX4_56 mk_X4_isDigit ms_X4_isDigit ⟨by decide, by decide⟩ rfl rfl (Nat.le_of_ble_eq_true rfl) ⟨rfl, rfl⟩ ⟨Nat.zero_le _, Nat.zero_le _⟩ (x_isFig _ _) ?_
        rw [hf]
        refine pw_if_eq 39 dX4_readLoopBegin_25 (by decide) (fun c_25 => ?_) (fun c_25 => absurd rfl c_25)
        refine pw_iload_n dX4_readLoopBegin_39 rfl ?_
        refine pw_iconst (v := 1) dX4_readLoopBegin_40 rfl ?_
        refine pw_icmp_lt 50 dX4_readLoopBegin_41 (by decide) (fun c_41 => absurd c_41 (Int32.not_lt.mpr hn.1)) (fun c_41 => ?_)
        refine pw_iload_n dX4_readLoopBegin_44 rfl ?_
        refine pw_bipush (v := 40) dX4_readLoopBegin_45 rfl ?_
        refine pw_icmp_le 58 dX4_readLoopBegin_47 (by decide) (fun c_47 => ?_) (fun c_47 => absurd hn.2 c_47)
        refine pw_aload_n dX4_readLoopBegin_58 rfl ?_
        refine pw_bipush (v := 123) dX4_readLoopBegin_59 rfl ?_
        refine lp_cV1 (mi' := mX4_take) (As := [_]) (q := (RX4, TX4, 6)) dX4_readLoopBegin_61 lk_RX4_65 mk_X4_take mi_X4_take me_X4_take ⟨by decide, by decide⟩ rfl rfl (Nat.le_of_ble_eq_true rfl) rfl rfl ⟨rfl, rfl⟩ ⟨Nat.zero_le _, Nat.zero_le _⟩ ht ?_
        refine pw_if_eq 116 dX4_readLoopBegin_64 (by decide) (fun c_64 => ?_) (fun c_64 => absurd rfl c_64)
        exact pw_vret rfl dX4_readLoopBegin_116 (Nat.zero_le _) (Nat.zero_le _) ⟨_, rfl, _, rfl⟩
    · rw [if_pos hn]
      by_cases h1 : n < 1
      · refine pw_aload_n dX4_readLoopBegin_0 rfl ?_
        refine lp_geti dX4_readLoopBegin_1 fp_RX4_9.FL rfl rfl ?_
        refine pw_top (nI p) hat ?_
        refine pw_istore_n dX4_readLoopBegin_4 (by decide) ?_
        refine pw_aload_n dX4_readLoopBegin_5 rfl ?_
        refine pw_iconst (v := 2) dX4_readLoopBegin_6 rfl ?_
        refine lp_cV1 (mi' := mX4_readNumber) (As := [_]) (q := (RX4, TX4, 6)) dX4_readLoopBegin_7 lk_RX4_80 mk_X4_readNumber mi_X4_readNumber me_X4_readNumber ⟨by decide, by decide⟩ rfl rfl (Nat.le_of_ble_eq_true rfl) rfl rfl ⟨rfl, rfl⟩ ⟨Nat.zero_le _, Nat.zero_le _⟩ hrn ?_
        refine pw_istore_n dX4_readLoopBegin_10 (by decide) ?_
        refine pw_aload_n dX4_readLoopBegin_11 rfl ?_
        refine lp_getr 1 dX4_readLoopBegin_12 fp_RX4_25.FL rfl rfl rfl ?_
        refine pw_aload_n dX4_readLoopBegin_15 rfl ?_
        refine lp_geti dX4_readLoopBegin_16 fp_RX4_9.FL rfl rfl ?_
        refine pw_top (nI q) rfl ?_
        refine lp_cV1 (mi' := mX9_at) (As := [_]) (q := (RX9, TX9, 2)) dX4_readLoopBegin_19 lk_RX4_46 mk_X9_at mi_X9_at me_X9_at ⟨by decide, by decide⟩ rfl rfl (Nat.le_of_ble_eq_true rfl) rfl rfl ⟨rfl, rfl⟩ ⟨Nat.zero_le _, Nat.zero_le _⟩ ha ?_
        refine lp_cS1 (mi' := mX4_isDigit) (As := [_]) dX4_readLoopBegin_22 lk_RX4_56 mk_X4_isDigit ms_X4_isDigit ⟨by decide, by decide⟩ rfl rfl (Nat.le_of_ble_eq_true rfl) ⟨rfl, rfl⟩ ⟨Nat.zero_le _, Nat.zero_le _⟩ (x_isFig _ _) ?_
        rw [hf]
        refine pw_if_eq 39 dX4_readLoopBegin_25 (by decide) (fun c_25 => ?_) (fun c_25 => absurd rfl c_25)
        refine pw_iload_n dX4_readLoopBegin_39 rfl ?_
        refine pw_iconst (v := 1) dX4_readLoopBegin_40 rfl ?_
        refine pw_icmp_lt 50 dX4_readLoopBegin_41 (by decide) (fun c_41 => ?_) (fun c_41 => absurd h1 c_41)
        refine pw_aload_n dX4_readLoopBegin_50 rfl ?_
        refine pw_iload_n dX4_readLoopBegin_51 rfl ?_
        refine lp_puti dX4_readLoopBegin_52 fp_RX4_15 rfl rfl rfl rfl ?_
        refine pw_goto (tgt := 116) dX4_readLoopBegin_55 (by decide) ?_
        exact pw_vret rfl dX4_readLoopBegin_116 (Nat.zero_le _) (Nat.zero_le _) ⟨_, rfl, _, rfl⟩
      · refine pw_aload_n dX4_readLoopBegin_0 rfl ?_
        refine lp_geti dX4_readLoopBegin_1 fp_RX4_9.FL rfl rfl ?_
        refine pw_top (nI p) hat ?_
        refine pw_istore_n dX4_readLoopBegin_4 (by decide) ?_
        refine pw_aload_n dX4_readLoopBegin_5 rfl ?_
        refine pw_iconst (v := 2) dX4_readLoopBegin_6 rfl ?_
        refine lp_cV1 (mi' := mX4_readNumber) (As := [_]) (q := (RX4, TX4, 6)) dX4_readLoopBegin_7 lk_RX4_80 mk_X4_readNumber mi_X4_readNumber me_X4_readNumber ⟨by decide, by decide⟩ rfl rfl (Nat.le_of_ble_eq_true rfl) rfl rfl ⟨rfl, rfl⟩ ⟨Nat.zero_le _, Nat.zero_le _⟩ hrn ?_
        refine pw_istore_n dX4_readLoopBegin_10 (by decide) ?_
        refine pw_aload_n dX4_readLoopBegin_11 rfl ?_
        refine lp_getr 1 dX4_readLoopBegin_12 fp_RX4_25.FL rfl rfl rfl ?_
        refine pw_aload_n dX4_readLoopBegin_15 rfl ?_
        refine lp_geti dX4_readLoopBegin_16 fp_RX4_9.FL rfl rfl ?_
        refine pw_top (nI q) rfl ?_
        refine lp_cV1 (mi' := mX9_at) (As := [_]) (q := (RX9, TX9, 2)) dX4_readLoopBegin_19 lk_RX4_46 mk_X9_at mi_X9_at me_X9_at ⟨by decide, by decide⟩ rfl rfl (Nat.le_of_ble_eq_true rfl) rfl rfl ⟨rfl, rfl⟩ ⟨Nat.zero_le _, Nat.zero_le _⟩ ha ?_
        refine lp_cS1 (mi' := mX4_isDigit) (As := [_]) dX4_readLoopBegin_22 lk_RX4_56 mk_X4_isDigit ms_X4_isDigit ⟨by decide, by decide⟩ rfl rfl (Nat.le_of_ble_eq_true rfl) ⟨rfl, rfl⟩ ⟨Nat.zero_le _, Nat.zero_le _⟩ (x_isFig _ _) ?_
        rw [hf]
        refine pw_if_eq 39 dX4_readLoopBegin_25 (by decide) (fun c_25 => ?_) (fun c_25 => absurd rfl c_25)
        refine pw_iload_n dX4_readLoopBegin_39 rfl ?_
        refine pw_iconst (v := 1) dX4_readLoopBegin_40 rfl ?_
        refine pw_icmp_lt 50 dX4_readLoopBegin_41 (by decide) (fun c_41 => absurd c_41 h1) (fun c_41 => ?_)
        refine pw_iload_n dX4_readLoopBegin_44 rfl ?_
        refine pw_bipush (v := 40) dX4_readLoopBegin_45 rfl ?_
        refine pw_icmp_le 58 dX4_readLoopBegin_47 (by decide) (fun c_47 => absurd c_47 (fun q => hn ⟨Int32.not_lt.mp h1, q⟩)) (fun c_47 => ?_)
        refine pw_aload_n dX4_readLoopBegin_50 rfl ?_
        refine pw_iload_n dX4_readLoopBegin_51 rfl ?_
        refine lp_puti dX4_readLoopBegin_52 fp_RX4_15 rfl rfl rfl rfl ?_
        refine pw_goto (tgt := 116) dX4_readLoopBegin_55 (by decide) ?_
        exact pw_vret rfl dX4_readLoopBegin_116 (Nat.zero_le _) (Nat.zero_le _) ⟨_, rfl, _, rfl⟩
  · rw [if_pos rfl]
    refine pw_aload_n dX4_readLoopBegin_0 rfl ?_
    refine lp_geti dX4_readLoopBegin_1 fp_RX4_9.FL rfl rfl ?_
    refine pw_top (nI p) hat ?_
    refine pw_istore_n dX4_readLoopBegin_4 (by decide) ?_
    refine pw_aload_n dX4_readLoopBegin_5 rfl ?_
    refine pw_iconst (v := 2) dX4_readLoopBegin_6 rfl ?_
    refine lp_cV1 (mi' := mX4_readNumber) (As := [_]) (q := (RX4, TX4, 6)) dX4_readLoopBegin_7 lk_RX4_80 mk_X4_readNumber mi_X4_readNumber me_X4_readNumber ⟨by decide, by decide⟩ rfl rfl (Nat.le_of_ble_eq_true rfl) rfl rfl ⟨rfl, rfl⟩ ⟨Nat.zero_le _, Nat.zero_le _⟩ hrn ?_
    refine pw_istore_n dX4_readLoopBegin_10 (by decide) ?_
    refine pw_aload_n dX4_readLoopBegin_11 rfl ?_
    refine lp_getr 1 dX4_readLoopBegin_12 fp_RX4_25.FL rfl rfl rfl ?_
    refine pw_aload_n dX4_readLoopBegin_15 rfl ?_
    refine lp_geti dX4_readLoopBegin_16 fp_RX4_9.FL rfl rfl ?_
    refine pw_top (nI q) rfl ?_
    refine lp_cV1 (mi' := mX9_at) (As := [_]) (q := (RX9, TX9, 2)) dX4_readLoopBegin_19 lk_RX4_46 mk_X9_at mi_X9_at me_X9_at ⟨by decide, by decide⟩ rfl rfl (Nat.le_of_ble_eq_true rfl) rfl rfl ⟨rfl, rfl⟩ ⟨Nat.zero_le _, Nat.zero_le _⟩ ha ?_
    refine lp_cS1 (mi' := mX4_isDigit) (As := [_]) dX4_readLoopBegin_22 lk_RX4_56 mk_X4_isDigit ms_X4_isDigit ⟨by decide, by decide⟩ rfl rfl (Nat.le_of_ble_eq_true rfl) ⟨rfl, rfl⟩ ⟨Nat.zero_le _, Nat.zero_le _⟩ (x_isFig _ _) ?_
    rw [hf]
    refine pw_if_eq 39 dX4_readLoopBegin_25 (by decide) (fun c_25 => absurd (show (1 : Int32) = 0 from c_25) (by decide)) (fun c_25 => ?_)
    refine pw_aload_n dX4_readLoopBegin_28 rfl ?_
    refine pw_aload_n dX4_readLoopBegin_29 rfl ?_
    refine lp_geti dX4_readLoopBegin_30 fp_RX4_9.FL rfl rfl ?_
    refine pw_top (nI q) rfl ?_
    refine lp_puti dX4_readLoopBegin_33 fp_RX4_15 rfl rfl rfl rfl ?_
    refine pw_goto (tgt := 116) dX4_readLoopBegin_36 (by decide) ?_
    exact pw_vret rfl dX4_readLoopBegin_116 (Nat.zero_le _) (Nat.zero_le _) ⟨_, rfl, _, rfl⟩
theorem x_readEnd (r d p b : Nat) (hr : r < 30) (hd : 0 < d) (hd2 : d ≤ 2) (hp : p < 200) (hat : σ.1 10 2 = nI p) (hdep : σ.1 10 4 = nI d) (hcnt : σ.1 3 0 = nI r) (hb : b < 30) (hop : σ.2.2.1 11 (d - 1) = nI b) : SpecD l G mX4_readLoopEnd [.ref (adr 10)] (wp G adr LX Lf Rt σ) none (wp G adr LX Lf Rt (sA (addS (sI (sI σ 10 2 (nI (p + 1))) 10 4 (nI (d - 1))) r 5 (-1) (-1) (-1) (nI (d - 1))) 9 (upd (upd (upd (σ.2.2.1 9) r (-1)) b (nI r)) r (nI b)))) := by
  refine spec_of (by decide) (Nat.le_of_ble_eq_true rfl) (fun sz => ?_)
  have bd : vp_in (nI (d - 1)) 2 := vp_in_nI (by omega) (by decide)
  have ed : (nI (d - 1)).toNatClampNeg = d - 1 := nI_clamp (by omega)
  have hadd := x_addP (l := l) (G := G) (adr := adr) (Lf := Lf) (Rt := Rt) (σ := sI (sI σ 10 2 (nI (p + 1))) 10 4 (nI (d - 1))) r hr hcnt 5 (-1) (-1) (-1) (nI (d - 1))
  have hpr := x_pairP (l := l) (G := G) (adr := adr) (Lf := Lf) (Rt := Rt) (σ := addS (sI (sI σ 10 2 (nI (p + 1))) 10 4 (nI (d - 1))) r 5 (-1) (-1) (-1) (nI (d - 1))) b r hb hr
  refine pw_aload_n dX4_readLoopEnd_0 rfl ?_
  refine pw_dup dX4_readLoopEnd_1 rfl ?_
  refine lp_geti dX4_readLoopEnd_2 fp_RX4_9.FL rfl rfl ?_
  refine pw_top (nI p) hat ?_
  refine pw_iconst (v := 1) dX4_readLoopEnd_5 rfl ?_
  refine pw_iadd dX4_readLoopEnd_6 ?_
  refine pw_top (nI (p + 1)) (nI_1 p) ?_
  refine lp_puti dX4_readLoopEnd_7 fp_RX4_9 rfl rfl rfl rfl ?_
  refine pw_aload_n dX4_readLoopEnd_10 rfl ?_
  refine pw_dup dX4_readLoopEnd_11 rfl ?_
  refine lp_geti dX4_readLoopEnd_12 fp_RX4_18.FL rfl rfl ?_
  refine pw_top (nI d) hdep ?_
  refine pw_iconst (v := 1) dX4_readLoopEnd_15 rfl ?_
  refine pw_isub dX4_readLoopEnd_16 ?_
  refine pw_top (nI (d - 1)) (nI_m1 hd) ?_
  refine lp_puti dX4_readLoopEnd_17 fp_RX4_18 rfl rfl rfl rfl ?_
  refine pw_aload_n dX4_readLoopEnd_20 rfl ?_
  refine lp_getr 3 dX4_readLoopEnd_21 fp_RX4_29.FL rfl rfl rfl ?_
  refine lp_geti dX4_readLoopEnd_24 fp_RX4_33.FL rfl rfl ?_
  refine pw_top (nI r) hcnt ?_
  refine pw_istore_n dX4_readLoopEnd_27 (by decide) ?_
  refine pw_aload_n dX4_readLoopEnd_28 rfl ?_
  refine lp_getr 3 dX4_readLoopEnd_29 fp_RX4_29.FL rfl rfl rfl ?_
  refine pw_iconst (v := 5) dX4_readLoopEnd_32 rfl ?_
  refine pw_iconst (v := -1) dX4_readLoopEnd_33 rfl ?_
  refine pw_iconst (v := -1) dX4_readLoopEnd_34 rfl ?_
  refine pw_iconst (v := -1) dX4_readLoopEnd_35 rfl ?_
  refine pw_aload_n dX4_readLoopEnd_36 rfl ?_
  refine lp_geti dX4_readLoopEnd_37 fp_RX4_18.FL rfl rfl ?_
  refine pw_top (nI (d - 1)) rfl ?_
  refine lp_cV0 (mi' := mX6_add) (As := [_, _, _, _, _]) (q := (RX6, TX6, 7)) dX4_readLoopEnd_40 lk_RX4_76 mk_X6_add mi_X6_add me_X6_add ⟨by decide, by decide⟩ rfl rfl (Nat.le_of_ble_eq_true rfl) rfl rfl ⟨rfl, rfl⟩ ⟨Nat.zero_le _, Nat.zero_le _⟩ hadd ?_
  refine pw_aload_n dX4_readLoopEnd_43 rfl ?_
  refine lp_getr 3 dX4_readLoopEnd_44 fp_RX4_29.FL rfl rfl rfl ?_
  refine pw_aload_n dX4_readLoopEnd_47 rfl ?_
  refine lp_getr 11 dX4_readLoopEnd_48 fp_RX4_21.FL rfl rfl rfl ?_
  refine pw_aload_n dX4_readLoopEnd_51 rfl ?_
  refine lp_geti dX4_readLoopEnd_52 fp_RX4_18.FL rfl rfl ?_
  refine pw_top (nI (d - 1)) rfl ?_
  refine lp_iald dX4_readLoopEnd_55 rfl bd ?_
  refine pw_top (nI b) (by rw [ed]; exact hop) ?_
  refine pw_iload_n dX4_readLoopEnd_56 rfl ?_
  refine lp_cV0 (mi' := mX6_pair) (As := [_, _]) (q := (RX6, TX6, 7)) dX4_readLoopEnd_57 lk_RX4_83 mk_X6_pair mi_X6_pair me_X6_pair ⟨by decide, by decide⟩ rfl rfl (Nat.le_of_ble_eq_true rfl) rfl rfl ⟨rfl, rfl⟩ ⟨Nat.zero_le _, Nat.zero_le _⟩ hpr ?_
  exact pw_vret rfl dX4_readLoopEnd_60 (Nat.zero_le _) (Nat.zero_le _) rfl
/-- the parser on its way -/
def PaI (σ : St) (p d : Nat) (L : List Quad) : Prop := σ.1 10 2 = nI p ∧ σ.1 10 3 = -1 ∧ σ.1 10 4 = nI d ∧ PrR σ L d
def nxtP (σ : St) (L : List Quad) (R : Nat × Option (Quad × Nat)) (τ : St) : Prop := Fr 3 12 σ τ ∧ match R.2 with
  | none => τ.1 10 3 = nI R.1
  | some (q, d') => PaI τ R.1 d' (L ++ [q])
theorem addS_fr {σ : St} {r : Nat} {k t f s d : Int32} : Fr 3 10 σ (addS σ r k t f s d) := by
  unfold addS
  refine Fr.I (Fr.A (Fr.A (Fr.A (Fr.A (Fr.A (Fr.A Fr.rf ?_ ?_) ?_ ?_) ?_ ?_) ?_ ?_) ?_ ?_) ?_ ?_) ?_ ?_ <;> omega
theorem x_readSt (hT : σ.1 1 1 = nI tl) (htl : tl ≤ 200) (p d : Nat) (L : List Quad) (hp : p < tl) (hI : PaI σ p d L) : SpR0 l G mX4_readStatement [.ref (adr 10)] adr LX Lf Rt σ (nxtP σ L (rdNext (σ.2.2.1 2) tl p L.length d)) := by
  refine spec_of (by decide) (Nat.le_of_ble_eq_true rfl) (fun sz => ?_)
  obtain ⟨hat, herr, hdep, hPr⟩ := hI
  have hL := hPr.1
  have hcnt := hPr.2.1
  have hdd : (lsc (alP L) L.length).1 = d := hPr.2.2.2.1
  have hin := lsc_in hPr.2.2.1.1 L.length (Nat.le_refl _)
  have ha := x_Tat (l := l) (G := G) (adr := adr) (Lf := Lf) (Rt := Rt) (σ := σ) hT htl p (by omega)
  have hfr1 : ∀ x y, Fr 3 12 σ (sI (sI σ 10 2 x) 10 3 y) := fun x y => Fr.I (Fr.I Fr.rf (by omega) (by omega)) (by omega) (by omega)
  have herrS : ∀ w0, PW l G mX4_readStatement w0 sz (fun o => ∃ σ', o = .inl (none, wp G adr LX Lf Rt σ') ∧ nxtP σ L (p, none) σ') 91 [(0, .ref (adr 10))] [] 0 0 (wp G adr LX Lf Rt σ) := by
    intro w0
    refine pw_aload_n dX4_readStatement_91 rfl ?_
    refine pw_aload_n dX4_readStatement_92 rfl ?_
    refine lp_geti dX4_readStatement_93 fp_RX4_9.FL rfl rfl ?_
    refine pw_top (nI p) hat ?_
    refine lp_puti dX4_readStatement_96 fp_RX4_15 rfl rfl rfl rfl ?_
    exact pw_vret rfl dX4_readStatement_99 (Nat.zero_le _) (Nat.zero_le _) ⟨_, rfl, Fr.I Fr.rf (by omega) (by omega), gI⟩
  unfold rdNext
  by_cases h30 : L.length = 30
  · rw [if_pos h30]
    refine pw_aload_n dX4_readStatement_0 rfl ?_
    refine lp_getr 1 dX4_readStatement_1 fp_RX4_25.FL rfl rfl rfl ?_
    refine pw_aload_n dX4_readStatement_4 rfl ?_
    refine lp_geti dX4_readStatement_5 fp_RX4_9.FL rfl rfl ?_
    refine pw_top (nI p) hat ?_
    refine lp_cV1 (mi' := mX9_at) (As := [_]) (q := (RX9, TX9, 2)) dX4_readStatement_8 lk_RX4_46 mk_X9_at mi_X9_at me_X9_at ⟨by decide, by decide⟩ rfl rfl (Nat.le_of_ble_eq_true rfl) rfl rfl ⟨rfl, rfl⟩ ⟨Nat.zero_le _, Nat.zero_le _⟩ ha ?_
    refine pw_istore_n dX4_readStatement_11 (by decide) ?_
    refine pw_aload_n dX4_readStatement_12 rfl ?_
    refine lp_getr 3 dX4_readStatement_13 fp_RX4_29.FL rfl rfl rfl ?_
    refine lp_geti dX4_readStatement_16 fp_RX4_33.FL rfl rfl ?_
    refine pw_top (nI 30) (by rw [← h30]; exact hcnt) ?_
    refine pw_bipush (v := 30) dX4_readStatement_19 rfl ?_
    refine pw_icmp_lt 35 dX4_readStatement_21 (by decide) (fun c_21 => absurd c_21 (by decide)) (fun c_21 => ?_)
    refine pw_aload_n dX4_readStatement_24 rfl ?_
    refine pw_aload_n dX4_readStatement_25 rfl ?_
    refine lp_geti dX4_readStatement_26 fp_RX4_9.FL rfl rfl ?_
    refine pw_top (nI p) hat ?_
    refine lp_puti dX4_readStatement_29 fp_RX4_15 rfl rfl rfl rfl ?_
    refine pw_goto (tgt := 99) dX4_readStatement_32 (by decide) ?_
    exact pw_vret rfl dX4_readStatement_99 (Nat.zero_le _) (Nat.zero_le _) ⟨_, rfl, Fr.I Fr.rf (by omega) (by omega), gI⟩
  · rw [if_neg h30]
    have hr : L.length < 30 := by omega
    have c21 : nI L.length < 30 := nI_lt (b := 30) hr (by decide)
    cases hl : isLet (ch (σ.2.2.1 2) tl p)
    · rw [if_neg (by decide)]
      cases hf : isFig (ch (σ.2.2.1 2) tl p)
      · rw [if_neg (by decide)]
        by_cases h125 : ch (σ.2.2.1 2) tl p = 125
        · by_cases hd0 : d = 0
          · rw [if_neg (fun z => z.2 hd0)]
            refine pw_aload_n dX4_readStatement_0 rfl ?_
            refine lp_getr 1 dX4_readStatement_1 fp_RX4_25.FL rfl rfl rfl ?_
            refine pw_aload_n dX4_readStatement_4 rfl ?_
            refine lp_geti dX4_readStatement_5 fp_RX4_9.FL rfl rfl ?_
            refine pw_top (nI p) hat ?_
            refine lp_cV1 (mi' := mX9_at) (As := [_]) (q := (RX9, TX9, 2)) dX4_readStatement_8 lk_RX4_46 mk_X9_at mi_X9_at me_X9_at ⟨by decide, by decide⟩ rfl rfl (Nat.le_of_ble_eq_true rfl) rfl rfl ⟨rfl, rfl⟩ ⟨Nat.zero_le _, Nat.zero_le _⟩ ha ?_
            refine pw_istore_n dX4_readStatement_11 (by decide) ?_
            refine pw_aload_n dX4_readStatement_12 rfl ?_
            refine lp_getr 3 dX4_readStatement_13 fp_RX4_29.FL rfl rfl rfl ?_
            refine lp_geti dX4_readStatement_16 fp_RX4_33.FL rfl rfl ?_
            refine pw_top (nI L.length) hcnt ?_
            refine pw_bipush (v := 30) dX4_readStatement_19 rfl ?_
            refine pw_icmp_lt 35 dX4_readStatement_21 (by decide) (fun c_21 => ?_) (fun c_21 => absurd c21 c_21)
            refine pw_iload_n dX4_readStatement_35 rfl ?_
            refine lp_cS1 (mi' := mX4_isLetter) (As := [_]) dX4_readStatement_36 lk_RX4_49 mk_X4_isLetter ms_X4_isLetter ⟨by decide, by decide⟩ rfl rfl (Nat.le_of_ble_eq_true rfl) ⟨rfl, rfl⟩ ⟨Nat.zero_le _, Nat.zero_le _⟩ (x_isLet _ _) ?_
            rw [hl]
            refine pw_if_eq 49 dX4_readStatement_39 (by decide) (fun c_39 => ?_) (fun c_39 => absurd rfl c_39)
            refine pw_iload_n dX4_readStatement_49 rfl ?_
            refine lp_cS1 (mi' := mX4_isDigit) (As := [_]) dX4_readStatement_50 lk_RX4_56 mk_X4_isDigit ms_X4_isDigit ⟨by decide, by decide⟩ rfl rfl (Nat.le_of_ble_eq_true rfl) ⟨rfl, rfl⟩ ⟨Nat.zero_le _, Nat.zero_le _⟩ (x_isFig _ _) ?_
            rw [hf]
            refine pw_if_eq 71 dX4_readStatement_53 (by decide) (fun c_53 => ?_) (fun c_53 => absurd rfl c_53)
            refine pw_iload_n dX4_readStatement_71 rfl ?_
            refine pw_bipush (v := 125) dX4_readStatement_72 rfl ?_
            refine pw_icmp_ne 91 dX4_readStatement_74 (by decide) (fun c_74 => absurd c_74 (fun z => z h125)) (fun c_74 => ?_)
            refine pw_aload_n dX4_readStatement_77 rfl ?_
            refine lp_geti dX4_readStatement_78 fp_RX4_18.FL rfl rfl ?_
            refine pw_top 0 (by rw [hdep, hd0]; rfl) ?_
            refine pw_if_le 91 dX4_readStatement_81 (by decide) (fun c_81 => ?_) (fun c_81 => absurd (by decide) c_81)
            exact pw_lk [(0, .ref (adr 10))] ⟨rfl, trivial⟩ (herrS _)
          · rw [if_pos ⟨h125, hd0⟩]
            have hd2 : d ≤ 2 := by rw [← hdd]; exact hin.1
            obtain ⟨b, b1, b2⟩ := hin.2.1 (by omega)
            have hop : σ.2.2.1 11 (d - 1) = nI b := by
              rw [← b2]
              rcases (show d = 1 ∨ d = 2 by omega) with e | e
              · rw [show d - 1 = 0 by omega]; exact hPr.2.2.2.2.2.1 e
              · rw [show d - 1 = 1 by omega]; exact (hPr.2.2.2.2.2.2 e).1
            have hre := x_readEnd (l := l) (G := G) (adr := adr) (Lf := Lf) (Rt := Rt) (σ := σ) L.length d p b hr (by omega) hd2 (by omega) hat hdep hcnt (by omega) hop
            refine pw_aload_n dX4_readStatement_0 rfl ?_
            refine lp_getr 1 dX4_readStatement_1 fp_RX4_25.FL rfl rfl rfl ?_
            refine pw_aload_n dX4_readStatement_4 rfl ?_
            refine lp_geti dX4_readStatement_5 fp_RX4_9.FL rfl rfl ?_
            refine pw_top (nI p) hat ?_
            refine lp_cV1 (mi' := mX9_at) (As := [_]) (q := (RX9, TX9, 2)) dX4_readStatement_8 lk_RX4_46 mk_X9_at mi_X9_at me_X9_at ⟨by decide, by decide⟩ rfl rfl (Nat.le_of_ble_eq_true rfl) rfl rfl ⟨rfl, rfl⟩ ⟨Nat.zero_le _, Nat.zero_le _⟩ ha ?_
            refine pw_istore_n dX4_readStatement_11 (by decide) ?_
            refine pw_aload_n dX4_readStatement_12 rfl ?_
            refine lp_getr 3 dX4_readStatement_13 fp_RX4_29.FL rfl rfl rfl ?_
            refine lp_geti dX4_readStatement_16 fp_RX4_33.FL rfl rfl ?_
            refine pw_top (nI L.length) hcnt ?_
            refine pw_bipush (v := 30) dX4_readStatement_19 rfl ?_
            refine pw_icmp_lt 35 dX4_readStatement_21 (by decide) (fun c_21 => ?_) (fun c_21 => absurd c21 c_21)
            refine pw_iload_n dX4_readStatement_35 rfl ?_
            refine lp_cS1 (mi' := mX4_isLetter) (As := [_]) dX4_readStatement_36 lk_RX4_49 mk_X4_isLetter ms_X4_isLetter ⟨by decide, by decide⟩ rfl rfl (Nat.le_of_ble_eq_true rfl) ⟨rfl, rfl⟩ ⟨Nat.zero_le _, Nat.zero_le _⟩ (x_isLet _ _) ?_
            rw [hl]
            refine pw_if_eq 49 dX4_readStatement_39 (by decide) (fun c_39 => ?_) (fun c_39 => absurd rfl c_39)
            refine pw_iload_n dX4_readStatement_49 rfl ?_
            refine lp_cS1 (mi' := mX4_isDigit) (As := [_]) dX4_readStatement_50 lk_RX4_56 mk_X4_isDigit ms_X4_isDigit ⟨by decide, by decide⟩ rfl rfl (Nat.le_of_ble_eq_true rfl) ⟨rfl, rfl⟩ ⟨Nat.zero_le _, Nat.zero_le _⟩ (x_isFig _ _) ?_
            rw [hf]
            refine pw_if_eq 71 dX4_readStatement_53 (by decide) (fun c_53 => ?_) (fun c_53 => absurd rfl c_53)
            refine pw_iload_n dX4_readStatement_71 rfl ?_
            refine pw_bipush (v := 125) dX4_readStatement_72 rfl ?_
            refine pw_icmp_ne 91 dX4_readStatement_74 (by decide) (fun c_74 => absurd c_74 (fun z => z h125)) (fun c_74 => ?_)
            refine pw_aload_n dX4_readStatement_77 rfl ?_
            refine lp_geti dX4_readStatement_78 fp_RX4_18.FL rfl rfl ?_
            refine pw_top (nI d) hdep ?_
            refine pw_if_le 91 dX4_readStatement_81 (by decide) (fun c_81 => absurd c_81 (nI_nle (by omega) (by omega))) (fun c_81 => ?_)
            refine pw_aload_n dX4_readStatement_84 rfl ?_
            refine lp_cV0 (mi' := mX4_readLoopEnd) (As := []) (q := (RX4, TX4, 6)) dX4_readStatement_85 lk_RX4_62 mk_X4_readLoopEnd mi_X4_readLoopEnd me_X4_readLoopEnd ⟨by decide, by decide⟩ rfl rfl (Nat.le_of_ble_eq_true rfl) rfl rfl ⟨rfl, rfl⟩ ⟨Nat.zero_le _, Nat.zero_le _⟩ hre ?_
            refine pw_goto (tgt := 99) dX4_readStatement_88 (by decide) ?_
            exact pw_vret rfl dX4_readStatement_99 (Nat.zero_le _) (Nat.zero_le _) ⟨_, rfl, Fr.A (((Fr.I (Fr.I Fr.rf (by omega) (by omega)) (by omega) (by omega)).tr (addS_fr.mono (by omega) (by omega)))) (by omega) (by omega), rfl, herr, rfl, pr_end hPr hr (by omega) b1 b2⟩
        · rw [if_neg (fun z => h125 z.1)]
          refine pw_aload_n dX4_readStatement_0 rfl ?_
          refine lp_getr 1 dX4_readStatement_1 fp_RX4_25.FL rfl rfl rfl ?_
          refine pw_aload_n dX4_readStatement_4 rfl ?_
          refine lp_geti dX4_readStatement_5 fp_RX4_9.FL rfl rfl ?_
          refine pw_top (nI p) hat ?_
          refine lp_cV1 (mi' := mX9_at) (As := [_]) (q := (RX9, TX9, 2)) dX4_readStatement_8 lk_RX4_46 mk_X9_at mi_X9_at me_X9_at ⟨by decide, by decide⟩ rfl rfl (Nat.le_of_ble_eq_true rfl) rfl rfl ⟨rfl, rfl⟩ ⟨Nat.zero_le _, Nat.zero_le _⟩ ha ?_
          refine pw_istore_n dX4_readStatement_11 (by decide) ?_
          refine pw_aload_n dX4_readStatement_12 rfl ?_
          refine lp_getr 3 dX4_readStatement_13 fp_RX4_29.FL rfl rfl rfl ?_
          refine lp_geti dX4_readStatement_16 fp_RX4_33.FL rfl rfl ?_
          refine pw_top (nI L.length) hcnt ?_
          refine pw_bipush (v := 30) dX4_readStatement_19 rfl ?_
          refine pw_icmp_lt 35 dX4_readStatement_21 (by decide) (fun c_21 => ?_) (fun c_21 => absurd c21 c_21)
          refine pw_iload_n dX4_readStatement_35 rfl ?_
          refine lp_cS1 (mi' := mX4_isLetter) (As := [_]) dX4_readStatement_36 lk_RX4_49 mk_X4_isLetter ms_X4_isLetter ⟨by decide, by decide⟩ rfl rfl (Nat.le_of_ble_eq_true rfl) ⟨rfl, rfl⟩ ⟨Nat.zero_le _, Nat.zero_le _⟩ (x_isLet _ _) ?_
          rw [hl]
          refine pw_if_eq 49 dX4_readStatement_39 (by decide) (fun c_39 => ?_) (fun c_39 => absurd rfl c_39)
          refine pw_iload_n dX4_readStatement_49 rfl ?_
          refine lp_cS1 (mi' := mX4_isDigit) (As := [_]) dX4_readStatement_50 lk_RX4_56 mk_X4_isDigit ms_X4_isDigit ⟨by decide, by decide⟩ rfl rfl (Nat.le_of_ble_eq_true rfl) ⟨rfl, rfl⟩ ⟨Nat.zero_le _, Nat.zero_le _⟩ (x_isFig _ _) ?_
          rw [hf]
          refine pw_if_eq 71 dX4_readStatement_53 (by decide) (fun c_53 => ?_) (fun c_53 => absurd rfl c_53)
          refine pw_iload_n dX4_readStatement_71 rfl ?_
          refine pw_bipush (v := 125) dX4_readStatement_72 rfl ?_
          refine pw_icmp_ne 91 dX4_readStatement_74 (by decide) (fun c_74 => ?_) (fun c_74 => absurd c_74 h125)
          exact pw_lk [(0, .ref (adr 10))] ⟨rfl, trivial⟩ (herrS _)
      · rw [if_pos rfl]
        have h125 : ¬ ch (σ.2.2.1 2) tl p = 125 := fun q => by rw [q] at hf; exact absurd hf (by decide)
        by_cases hd : d < 2
        · rw [if_pos hd]
          have hrb := x_readBegin (l := l) (G := G) (adr := adr) (Lf := Lf) (Rt := Rt) (σ := σ) hT htl L.length d p hr hd (by omega) hat hdep hcnt
          refine pw_aload_n dX4_readStatement_0 rfl ?_
          refine lp_getr 1 dX4_readStatement_1 fp_RX4_25.FL rfl rfl rfl ?_
          refine pw_aload_n dX4_readStatement_4 rfl ?_
          refine lp_geti dX4_readStatement_5 fp_RX4_9.FL rfl rfl ?_
          refine pw_top (nI p) hat ?_
          refine lp_cV1 (mi' := mX9_at) (As := [_]) (q := (RX9, TX9, 2)) dX4_readStatement_8 lk_RX4_46 mk_X9_at mi_X9_at me_X9_at ⟨by decide, by decide⟩ rfl rfl (Nat.le_of_ble_eq_true rfl) rfl rfl ⟨rfl, rfl⟩ ⟨Nat.zero_le _, Nat.zero_le _⟩ ha ?_
          refine pw_istore_n dX4_readStatement_11 (by decide) ?_
          refine pw_aload_n dX4_readStatement_12 rfl ?_
          refine lp_getr 3 dX4_readStatement_13 fp_RX4_29.FL rfl rfl rfl ?_
          refine lp_geti dX4_readStatement_16 fp_RX4_33.FL rfl rfl ?_
          refine pw_top (nI L.length) hcnt ?_
          refine pw_bipush (v := 30) dX4_readStatement_19 rfl ?_
          refine pw_icmp_lt 35 dX4_readStatement_21 (by decide) (fun c_21 => ?_) (fun c_21 => absurd c21 c_21)
          refine pw_iload_n dX4_readStatement_35 rfl ?_
          refine lp_cS1 (mi' := mX4_isLetter) (As := [_]) dX4_readStatement_36 lk_RX4_49 mk_X4_isLetter ms_X4_isLetter ⟨by decide, by decide⟩ rfl rfl (Nat.le_of_ble_eq_true rfl) ⟨rfl, rfl⟩ ⟨Nat.zero_le _, Nat.zero_le _⟩ (x_isLet _ _) ?_
          rw [hl]
          refine pw_if_eq 49 dX4_readStatement_39 (by decide) (fun c_39 => ?_) (fun c_39 => absurd rfl c_39)
          refine pw_iload_n dX4_readStatement_49 rfl ?_
          refine lp_cS1 (mi' := mX4_isDigit) (As := [_]) dX4_readStatement_50 lk_RX4_56 mk_X4_isDigit ms_X4_isDigit ⟨by decide, by decide⟩ rfl rfl (Nat.le_of_ble_eq_true rfl) ⟨rfl, rfl⟩ ⟨Nat.zero_le _, Nat.zero_le _⟩ (x_isFig _ _) ?_
          rw [hf]
          refine pw_if_eq 71 dX4_readStatement_53 (by decide) (fun c_53 => absurd (show (1 : Int32) = 0 from c_53) (by decide)) (fun c_53 => ?_)
          refine pw_aload_n dX4_readStatement_56 rfl ?_
          refine lp_geti dX4_readStatement_57 fp_RX4_18.FL rfl rfl ?_
          refine pw_top (nI d) hdep ?_
          refine pw_iconst (v := 2) dX4_readStatement_60 rfl ?_
          refine pw_icmp_ge 71 dX4_readStatement_61 (by decide) (fun c_61 => absurd c_61 (nI_ge (a := d) (b := 2) hd (by decide))) (fun c_61 => ?_)
          refine pw_aload_n dX4_readStatement_64 rfl ?_
          refine lp_rV0 (mi' := mX4_readLoopBegin) (As := []) (q := (RX4, TX4, 6)) dX4_readStatement_65 lk_RX4_59 mk_X4_readLoopBegin mi_X4_readLoopBegin me_X4_readLoopBegin ⟨by decide, by decide⟩ rfl rfl (Nat.le_of_ble_eq_true rfl) rfl rfl ⟨rfl, rfl⟩ ⟨Nat.zero_le _, Nat.zero_le _⟩ hrb (fun τ hQ => ?_)
          refine pw_goto (tgt := 99) dX4_readStatement_68 (by decide) ?_
          refine pw_vret rfl dX4_readStatement_99 (Nat.zero_le _) (Nat.zero_le _) ⟨τ, rfl, ?_⟩
          rcases hR : rdCnt (σ.2.2.1 2) tl p with ⟨q, _ | n⟩
          · rw [hR] at hQ
            obtain ⟨x, hQ⟩ := hQ
            rw [hQ]
            exact ⟨hfr1 _ _, gI⟩
          · rw [hR] at hQ
            have hQ : τ = sI (addS (sA (sI σ 10 2 (nI q)) 11 (upd (σ.2.2.1 11) d (nI L.length))) L.length 4 n (-1) (-1) (nI d)) 10 4 (nI (d + 1)) := hQ
            rw [hQ]
            exact ⟨Fr.I ((Fr.A (Fr.I Fr.rf (by omega) (by omega)) (by omega) (by omega)).tr (addS_fr.mono (by omega) (by omega))) (by omega) (by omega), rfl, herr, gI, pr_begin hPr hr hd (rdCnt_k hR)⟩
        · rw [if_neg hd]
          refine pw_aload_n dX4_readStatement_0 rfl ?_
          refine lp_getr 1 dX4_readStatement_1 fp_RX4_25.FL rfl rfl rfl ?_
          refine pw_aload_n dX4_readStatement_4 rfl ?_
          refine lp_geti dX4_readStatement_5 fp_RX4_9.FL rfl rfl ?_
          refine pw_top (nI p) hat ?_
          refine lp_cV1 (mi' := mX9_at) (As := [_]) (q := (RX9, TX9, 2)) dX4_readStatement_8 lk_RX4_46 mk_X9_at mi_X9_at me_X9_at ⟨by decide, by decide⟩ rfl rfl (Nat.le_of_ble_eq_true rfl) rfl rfl ⟨rfl, rfl⟩ ⟨Nat.zero_le _, Nat.zero_le _⟩ ha ?_
          refine pw_istore_n dX4_readStatement_11 (by decide) ?_
          refine pw_aload_n dX4_readStatement_12 rfl ?_
          refine lp_getr 3 dX4_readStatement_13 fp_RX4_29.FL rfl rfl rfl ?_
          refine lp_geti dX4_readStatement_16 fp_RX4_33.FL rfl rfl ?_
          refine pw_top (nI L.length) hcnt ?_
          refine pw_bipush (v := 30) dX4_readStatement_19 rfl ?_
          refine pw_icmp_lt 35 dX4_readStatement_21 (by decide) (fun c_21 => ?_) (fun c_21 => absurd c21 c_21)
          refine pw_iload_n dX4_readStatement_35 rfl ?_
          refine lp_cS1 (mi' := mX4_isLetter) (As := [_]) dX4_readStatement_36 lk_RX4_49 mk_X4_isLetter ms_X4_isLetter ⟨by decide, by decide⟩ rfl rfl (Nat.le_of_ble_eq_true rfl) ⟨rfl, rfl⟩ ⟨Nat.zero_le _, Nat.zero_le _⟩ (x_isLet _ _) ?_
          rw [hl]
          refine pw_if_eq 49 dX4_readStatement_39 (by decide) (fun c_39 => ?_) (fun c_39 => absurd rfl c_39)
          refine pw_iload_n dX4_readStatement_49 rfl ?_
          refine lp_cS1 (mi' := mX4_isDigit) (As := [_]) dX4_readStatement_50 lk_RX4_56 mk_X4_isDigit ms_X4_isDigit ⟨by decide, by decide⟩ rfl rfl (Nat.le_of_ble_eq_true rfl) ⟨rfl, rfl⟩ ⟨Nat.zero_le _, Nat.zero_le _⟩ (x_isFig _ _) ?_
          rw [hf]
          refine pw_if_eq 71 dX4_readStatement_53 (by decide) (fun c_53 => absurd (show (1 : Int32) = 0 from c_53) (by decide)) (fun c_53 => ?_)
          refine pw_aload_n dX4_readStatement_56 rfl ?_
          refine lp_geti dX4_readStatement_57 fp_RX4_18.FL rfl rfl ?_
          refine pw_top (nI d) hdep ?_
          refine pw_iconst (v := 2) dX4_readStatement_60 rfl ?_
          refine pw_icmp_ge 71 dX4_readStatement_61 (by decide) (fun c_61 => ?_) (fun c_61 => absurd (nI_le (a := 2) (b := d) (by omega) (by have := hin.1; omega)) c_61)
          refine pw_iload_n dX4_readStatement_71 rfl ?_
          refine pw_bipush (v := 125) dX4_readStatement_72 rfl ?_
          refine pw_icmp_ne 91 dX4_readStatement_74 (by decide) (fun c_74 => ?_) (fun c_74 => absurd c_74 h125)
          exact pw_lk [(0, .ref (adr 10))] ⟨rfl, trivial⟩ (herrS _)
    · rw [if_pos rfl]
      have hra := x_readAsg (l := l) (G := G) (adr := adr) (Lf := Lf) (Rt := Rt) (σ := σ) hT htl L.length d p hr (by omega) hat herr hdep hcnt
      refine pw_aload_n dX4_readStatement_0 rfl ?_
      refine lp_getr 1 dX4_readStatement_1 fp_RX4_25.FL rfl rfl rfl ?_
      refine pw_aload_n dX4_readStatement_4 rfl ?_
      refine lp_geti dX4_readStatement_5 fp_RX4_9.FL rfl rfl ?_
      refine pw_top (nI p) hat ?_
      refine lp_cV1 (mi' := mX9_at) (As := [_]) (q := (RX9, TX9, 2)) dX4_readStatement_8 lk_RX4_46 mk_X9_at mi_X9_at me_X9_at ⟨by decide, by decide⟩ rfl rfl (Nat.le_of_ble_eq_true rfl) rfl rfl ⟨rfl, rfl⟩ ⟨Nat.zero_le _, Nat.zero_le _⟩ ha ?_
      refine pw_istore_n dX4_readStatement_11 (by decide) ?_
      refine pw_aload_n dX4_readStatement_12 rfl ?_
      refine lp_getr 3 dX4_readStatement_13 fp_RX4_29.FL rfl rfl rfl ?_
      refine lp_geti dX4_readStatement_16 fp_RX4_33.FL rfl rfl ?_
      refine pw_top (nI L.length) hcnt ?_
      refine pw_bipush (v := 30) dX4_readStatement_19 rfl ?_
      refine pw_icmp_lt 35 dX4_readStatement_21 (by decide) (fun c_21 => ?_) (fun c_21 => absurd c21 c_21)
      refine pw_iload_n dX4_readStatement_35 rfl ?_
      refine lp_cS1 (mi' := mX4_isLetter) (As := [_]) dX4_readStatement_36 lk_RX4_49 mk_X4_isLetter ms_X4_isLetter ⟨by decide, by decide⟩ rfl rfl (Nat.le_of_ble_eq_true rfl) ⟨rfl, rfl⟩ ⟨Nat.zero_le _, Nat.zero_le _⟩ (x_isLet _ _) ?_
      rw [hl]
      refine pw_if_eq 49 dX4_readStatement_39 (by decide) (fun c_39 => absurd (show (1 : Int32) = 0 from c_39) (by decide)) (fun c_39 => ?_)
      refine pw_aload_n dX4_readStatement_42 rfl ?_
      refine lp_rV0 (mi' := mX4_readAssignment) (As := []) (q := (RX4, TX4, 6)) dX4_readStatement_43 lk_RX4_53 mk_X4_readAssignment mi_X4_readAssignment me_X4_readAssignment ⟨by decide, by decide⟩ rfl rfl (Nat.le_of_ble_eq_true rfl) rfl rfl ⟨rfl, rfl⟩ ⟨Nat.zero_le _, Nat.zero_le _⟩ hra (fun τ hQ => ?_)
      refine pw_goto (tgt := 99) dX4_readStatement_46 (by decide) ?_
      refine pw_vret rfl dX4_readStatement_99 (Nat.zero_le _) (Nat.zero_le _) ⟨τ, rfl, ?_⟩
      rcases hR : rdAsg (σ.2.2.1 2) tl p with ⟨q, _ | ⟨k, v, f, s⟩⟩
      · rw [hR] at hQ
        obtain ⟨x, hQ⟩ := hQ
        rw [hQ]
        exact ⟨hfr1 _ _, gI⟩
      · rw [hR] at hQ
        have hQ : τ = addS (sI σ 10 2 (nI q)) L.length k v f s (nI d) := hQ
        obtain ⟨a1, a2, a3, a4⟩ := rdAsg_k hl hR
        rw [hQ]
        exact ⟨(Fr.I Fr.rf (by omega) (by omega)).tr (addS_fr.mono (by omega) (by omega)), rfl, herr, hdep, pr_asg hPr hr a1 a2 a3 a4⟩
end XPP
