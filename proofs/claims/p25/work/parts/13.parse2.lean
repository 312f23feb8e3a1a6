theorem sI_comm (σ : St) (id j j' : Nat) (x y : Int32) (h : j ≠ j') : sI (sI σ id j x) id j' y = sI (sI σ id j' y) id j x := by
  unfold sI
  congr 1
  funext a b
  dsimp only
  by_cases h1 : a = id ∧ b = j
  · have h2 : ¬ (a = id ∧ b = j') := fun q => h (h1.2.symm.trans q.2)
    rw [if_neg h2, if_pos h1, if_pos h1]
  · by_cases h2 : a = id ∧ b = j'
    · rw [if_pos h2, if_neg h1, if_pos h2]
    · rw [if_neg h2, if_neg h1, if_neg h1, if_neg h2]
def mTakes (σ : St) (r : Nat) (a b c d : Int32) : St := sI (sA σ 4 (upd (upd (upd (upd (σ.2.2.1 4) (4 * r) a) (4 * r + 1) b) (4 * r + 2) c) (4 * r + 3) d)) 0 8 (nI (r + 1))
theorem takes_pl (σ : St) (r p : Nat) (a b c d : Int32) : mTakes (sI σ 0 6 (nI p)) r a b c d = sI (mTakes σ r a b c d) 0 6 (nI p) := by
  unfold mTakes
  rw [sA_sI, sI_comm _ 0 6 8 _ _ (by decide)]
  rfl
def kindC (c : Int32) : Int32 := if c = 43 then 1 else if c = 45 then 2 else if c = 42 then 3 else 0
def rdAsg (t : Nat → Int32) (tl p : Nat) : Nat × Option (Int32 × Int32 × Int32 × Int32) :=
  if ch t tl (p + 1) = 61 then
    if (rdOpd t tl (p + 2)).2 = -1 then ((rdOpd t tl (p + 2)).1, none) else
    if kindC (ch t tl (rdOpd t tl (p + 2)).1) = 0 then
      if ch t tl (rdOpd t tl (p + 2)).1 = 59 then ((rdOpd t tl (p + 2)).1 + 1, some (0, ch t tl p - 97, (rdOpd t tl (p + 2)).2, -1)) else ((rdOpd t tl (p + 2)).1, none)
    else
      if (rdOpd t tl ((rdOpd t tl (p + 2)).1 + 1)).2 = -1 then ((rdOpd t tl ((rdOpd t tl (p + 2)).1 + 1)).1, none) else
      if ch t tl (rdOpd t tl ((rdOpd t tl (p + 2)).1 + 1)).1 = 59 then ((rdOpd t tl ((rdOpd t tl (p + 2)).1 + 1)).1 + 1, some (kindC (ch t tl (rdOpd t tl (p + 2)).1), ch t tl p - 97, (rdOpd t tl (p + 2)).2, (rdOpd t tl ((rdOpd t tl (p + 2)).1 + 1)).2)) else ((rdOpd t tl ((rdOpd t tl (p + 2)).1 + 1)).1, none)
  else (p + 1, none)
def rdCnt (t : Nat → Int32) (tl p : Nat) : Nat × Option Int32 :=
  if isFig (ch t tl (rdNum t tl 2 p 0).1) = true then ((rdNum t tl 2 p 0).1, none) else
  if ¬ (1 ≤ (rdNum t tl 2 p 0).2 ∧ (rdNum t tl 2 p 0).2 ≤ 40) then (p, none) else
  if ch t tl (rdNum t tl 2 p 0).1 = 123 then ((rdNum t tl 2 p 0).1 + 1, some (rdNum t tl 2 p 0).2) else ((rdNum t tl 2 p 0).1, none)
theorem rdOpd_le {t : Nat → Int32} {tl p : Nat} : p ≤ (rdOpd t tl p).1 ∧ (rdOpd t tl p).1 ≤ p + 5 := by
  unfold rdOpd
  have h := rdNum_le (t := t) (tl := tl) 4 (if ch t tl p = 95 then p + 1 else p) 0
  have h2 : p ≤ (if ch t tl p = 95 then p + 1 else p) ∧ (if ch t tl p = 95 then p + 1 else p) ≤ p + 1 := by split <;> omega
  generalize (if ch t tl p = 95 then p + 1 else p) = p1 at h h2 ⊢
  generalize rdNum t tl 4 p1 0 = q at h ⊢
  by_cases h1 : isLet (ch t tl p) = true
  · rw [if_pos h1]; exact ⟨by simp, by simp⟩
  · rw [if_neg h1]
    by_cases h3 : q.1 = p1 ∨ isFig (ch t tl q.1) = true
    · rw [if_pos h3]; exact ⟨by dsimp only; omega, by dsimp only; omega⟩
    · rw [if_neg h3]; exact ⟨by dsimp only; omega, by dsimp only; omega⟩
section P2
variable {l : Launch} {G : cxG} {adr : Nat → Nat} {Lf Rt : va_W} {σ : St}
theorem r_takes (r : Nat) (a b c d : Int32) (hr : r < 30) (h : σ.1 0 8 = nI r) : SpecD l G mX11_takes [.ref (adr 0), .int a, .int b, .int c, .int d] (wp G adr LM Lf Rt σ) none (wp G adr LM Lf Rt (mTakes σ r a b c d)) := by
  refine spec_of (by decide) (Nat.le_of_ble_eq_true rfl) (fun sz => ?_)
  have e0 : (4 : Int32) * nI r = nI (4 * r) := by rw [show (4 : Int32) = nI 4 from rfl, pk_mul]
  have b0 : vp_in (4 * nI r) 120 ∧ (4 * nI r).toNatClampNeg = 4 * r := by rw [e0]; exact ⟨vp_in_nI (by omega) (by decide), nI_clamp (by omega)⟩
  have b1 : vp_in (4 * nI r + 1) 120 ∧ (4 * nI r + 1).toNatClampNeg = 4 * r + 1 := by rw [e0, nI_1]; exact ⟨vp_in_nI (by omega) (by decide), nI_clamp (by omega)⟩
  have b2 : vp_in (4 * nI r + 2) 120 ∧ (4 * nI r + 2).toNatClampNeg = 4 * r + 2 := by rw [e0, show (2 : Int32) = nI 2 from rfl, nI_add]; exact ⟨vp_in_nI (by omega) (by decide), nI_clamp (by omega)⟩
  have b3 : vp_in (4 * nI r + 3) 120 ∧ (4 * nI r + 3).toNatClampNeg = 4 * r + 3 := by rw [e0, show (3 : Int32) = nI 3 from rfl, nI_add]; exact ⟨vp_in_nI (by omega) (by decide), nI_clamp (by omega)⟩
  refine pw_aload_n dX11_takes_0 rfl ?_
  refine lp_getr 4 dX11_takes_1 fp_RX11_19.FL rfl rfl rfl ?_
  refine pw_iconst (v := 4) dX11_takes_4 rfl ?_
  refine pw_aload_n dX11_takes_5 rfl ?_
  refine lp_geti dX11_takes_6 fp_RX11_120.FL rfl rfl ?_
  refine pw_top (nI r) h ?_
  refine pw_imul dX11_takes_9 ?_
  refine pw_iload_n dX11_takes_10 rfl ?_
  refine lp_iast dX11_takes_11 rfl b0.1 ?_
  rw [b0.2]
  refine pw_aload_n dX11_takes_12 rfl ?_
  refine lp_getr 4 dX11_takes_13 fp_RX11_19.FL rfl rfl rfl ?_
  refine pw_iconst (v := 4) dX11_takes_16 rfl ?_
  refine pw_aload_n dX11_takes_17 rfl ?_
  refine lp_geti dX11_takes_18 fp_RX11_120.FL rfl rfl ?_
  refine pw_top (nI r) h ?_
  refine pw_imul dX11_takes_21 ?_
  refine pw_iconst (v := 1) dX11_takes_22 rfl ?_
  refine pw_iadd dX11_takes_23 ?_
  refine pw_iload_n dX11_takes_24 rfl ?_
  refine lp_iast dX11_takes_25 rfl b1.1 ?_
  rw [b1.2, sA_sA]
  refine pw_aload_n dX11_takes_26 rfl ?_
  refine lp_getr 4 dX11_takes_27 fp_RX11_19.FL rfl rfl rfl ?_
  refine pw_iconst (v := 4) dX11_takes_30 rfl ?_
  refine pw_aload_n dX11_takes_31 rfl ?_
  refine lp_geti dX11_takes_32 fp_RX11_120.FL rfl rfl ?_
  refine pw_top (nI r) h ?_
  refine pw_imul dX11_takes_35 ?_
  refine pw_iconst (v := 2) dX11_takes_36 rfl ?_
  refine pw_iadd dX11_takes_37 ?_
  refine pw_iload_n dX11_takes_38 rfl ?_
  refine lp_iast dX11_takes_39 rfl b2.1 ?_
  rw [b2.2, sA_sA]
  refine pw_aload_n dX11_takes_40 rfl ?_
  refine lp_getr 4 dX11_takes_41 fp_RX11_19.FL rfl rfl rfl ?_
  refine pw_iconst (v := 4) dX11_takes_44 rfl ?_
  refine pw_aload_n dX11_takes_45 rfl ?_
  refine lp_geti dX11_takes_46 fp_RX11_120.FL rfl rfl ?_
  refine pw_top (nI r) h ?_
  refine pw_imul dX11_takes_49 ?_
  refine pw_iconst (v := 3) dX11_takes_50 rfl ?_
  refine pw_iadd dX11_takes_51 ?_
  refine pw_iload dX11_takes_52 rfl ?_
  refine lp_iast dX11_takes_54 rfl b3.1 ?_
  rw [b3.2, sA_sA]
  refine pw_aload_n dX11_takes_55 rfl ?_
  refine pw_dup dX11_takes_56 rfl ?_
  refine lp_geti dX11_takes_57 fp_RX11_120.FL rfl rfl ?_
  refine pw_top (nI r) h ?_
  refine pw_iconst (v := 1) dX11_takes_60 rfl ?_
  refine pw_iadd dX11_takes_61 ?_
  rw [nI_1]
  refine lp_puti dX11_takes_62 fp_RX11_120 rfl rfl rfl rfl ?_
  exact pw_vret rfl dX11_takes_65 (Nat.zero_le _) (Nat.zero_le _) rfl
theorem r_operandRead {tl p : Nat} (h5 : σ.1 0 5 = nI tl) (ht : tl ≤ 200) (hp : p ≤ 250) : SpecD l G mX11_operandRead [.ref (adr 0)] (wp G adr LM Lf Rt (sI σ 0 6 (nI p))) (some (.int (rdOpd (σ.2.2.1 3) tl p).2)) (wp G adr LM Lf Rt (sI σ 0 6 (nI (rdOpd (σ.2.2.1 3) tl p).1))) := by
  refine spec_of (by decide) (Nat.le_of_ble_eq_true rfl) (fun sz => ?_)
  by_cases hL : isLet (ch (σ.2.2.1 3) tl p) = true
  · have hlt := isLet_lt hL
    have er : rdOpd (σ.2.2.1 3) tl p = (p + 1, σ.2.2.1 3 p - 97) := by rw [rdOpd, if_pos hL]
    rw [er]
    have e1 : nI (p + 1) - 1 = nI p := nI_pred p
    refine pw_aload_n dX11_operandRead_0 rfl ?_
    refine lp_cV1 (mi' := mX11_isLetter) (As := []) (q := (RX11, TX11, 33)) dX11_operandRead_1 lk_RX11_123 mk_X11_isLetter mi_X11_isLetter me_X11_isLetter ⟨by decide, by decide⟩ rfl rfl (Nat.le_of_ble_eq_true rfl) rfl rfl ⟨rfl, rfl⟩ ⟨Nat.zero_le _, Nat.zero_le _⟩ (p_isLetter h5 ht (by omega)) ?_
    refine pw_if_eq 32 dX11_operandRead_4 (by decide) (fun c_4 => absurd c_4 (by rw [bI_1 hL]; decide)) (fun c_4 => ?_)
    refine pw_aload_n dX11_operandRead_7 rfl ?_
    refine pw_dup dX11_operandRead_8 rfl ?_
    refine lp_geti dX11_operandRead_9 fp_RX11_105.FL rfl rfl ?_
    refine pw_iconst (v := 1) dX11_operandRead_12 rfl ?_
    refine pw_iadd dX11_operandRead_13 ?_
    refine lp_puti dX11_operandRead_14 fp_RX11_105 rfl rfl rfl rfl ?_
    rw [pl_step]
    refine pw_aload_n dX11_operandRead_17 rfl ?_
    refine lp_getr 3 dX11_operandRead_18 fp_RX11_16.FL rfl rfl rfl ?_
    refine pw_aload_n dX11_operandRead_21 rfl ?_
    refine lp_geti dX11_operandRead_22 fp_RX11_105.FL rfl rfl ?_
    refine pw_iconst (v := 1) dX11_operandRead_25 rfl ?_
    refine pw_isub dX11_operandRead_26 ?_
    refine pw_top (nI p) e1 ?_
    refine lp_iald dX11_operandRead_27 rfl (vp_in_nI (by omega) (by decide)) ?_
    rw [nI_clamp (show p < 2 ^ 31 by omega)]
    refine pw_bipush (v := 97) dX11_operandRead_28 rfl ?_
    refine pw_isub dX11_operandRead_30 ?_
    exact pw_iret rfl rfl dX11_operandRead_31 (Nat.zero_le _) (Nat.zero_le _) rfl
  · have hLF : isLet (ch (σ.2.2.1 3) tl p) = false := Bool.not_eq_true _ ▸ hL
    have tail : ∀ (z : Bool) (p1 : Nat), p1 ≤ 251 → (if ch (σ.2.2.1 3) tl p = 95 then p + 1 else p) = p1 → decide (ch (σ.2.2.1 3) tl p = 95) = z →
        PW l G mX11_operandRead (wp G adr LM Lf Rt (sI σ 0 6 (nI p))) sz (fun o => o = .inl (some (.int (rdOpd (σ.2.2.1 3) tl p).2), wp G adr LM Lf Rt (sI σ 0 6 (nI (rdOpd (σ.2.2.1 3) tl p).1)))) 69 [(0, .ref (adr 0)), (1, .int (bI z)), (2, .int (nI 0)), (3, .int 0)] [] 0 0 (wp G adr LM Lf Rt (sI σ 0 6 (nI p1))) := by
      intro z p1 hp1 e1 ez
      refine opd_loop h5 ht z p1 4 0 p1 0 rfl rfl (by omega) ?_
      intro f' hf'
      have hle := rdNum_le (t := σ.2.2.1 3) (tl := tl) 4 p1 0
      unfold rdOpd
      rw [if_neg hL, e1]
      generalize rdNum (σ.2.2.1 3) tl 4 p1 0 = q at hf' hle ⊢
      by_cases hf0 : f' = 0
      · subst hf0
        rw [if_pos (Or.inl (by omega))]
        refine pw_iload_n dX11_operandRead_115 rfl ?_
        refine pw_if_eq 126 dX11_operandRead_116 (by decide) (fun c_116 => ?_) (fun c_116 => absurd rfl c_116)
        refine pw_iconst (v := -1) dX11_operandRead_126 rfl ?_
        refine pw_goto (tgt := 144) dX11_operandRead_127 (by decide) ?_
        exact pw_iret rfl rfl dX11_operandRead_144 (Nat.zero_le _) (Nat.zero_le _) rfl
      · by_cases hd : isFig (ch (σ.2.2.1 3) tl q.1) = true
        · rw [if_pos (Or.inr hd)]
          refine pw_iload_n dX11_operandRead_115 rfl ?_
          refine pw_if_eq 126 dX11_operandRead_116 (by decide) (fun c_116 => absurd c_116 (nI_ne0 (by omega) (by omega))) (fun c_116 => ?_)
          refine pw_aload_n dX11_operandRead_119 rfl ?_
          refine lp_cV1 (mi' := mX11_isFigure) (As := []) (q := (RX11, TX11, 33)) dX11_operandRead_120 lk_RX11_127 mk_X11_isFigure mi_X11_isFigure me_X11_isFigure ⟨by decide, by decide⟩ rfl rfl (Nat.le_of_ble_eq_true rfl) rfl rfl ⟨rfl, rfl⟩ ⟨Nat.zero_le _, Nat.zero_le _⟩ (p_isFigure h5 ht (by omega)) ?_
          refine pw_if_eq 130 dX11_operandRead_123 (by decide) (fun c_123 => absurd c_123 (by rw [bI_1 hd]; decide)) (fun c_123 => ?_)
          refine pw_iconst (v := -1) dX11_operandRead_126 rfl ?_
          refine pw_goto (tgt := 144) dX11_operandRead_127 (by decide) ?_
          exact pw_iret rfl rfl dX11_operandRead_144 (Nat.zero_le _) (Nat.zero_le _) rfl
        · rw [if_neg (by rintro (h | h); omega; exact hd h)]
          have hdF : isFig (ch (σ.2.2.1 3) tl q.1) = false := Bool.not_eq_true _ ▸ hd
          cases z
          · rw [if_neg (of_decide_eq_false ez)]
            refine pw_iload_n dX11_operandRead_115 rfl ?_
            refine pw_if_eq 126 dX11_operandRead_116 (by decide) (fun c_116 => absurd c_116 (nI_ne0 (by omega) (by omega))) (fun c_116 => ?_)
            refine pw_aload_n dX11_operandRead_119 rfl ?_
            refine lp_cV1 (mi' := mX11_isFigure) (As := []) (q := (RX11, TX11, 33)) dX11_operandRead_120 lk_RX11_127 mk_X11_isFigure mi_X11_isFigure me_X11_isFigure ⟨by decide, by decide⟩ rfl rfl (Nat.le_of_ble_eq_true rfl) rfl rfl ⟨rfl, rfl⟩ ⟨Nat.zero_le _, Nat.zero_le _⟩ (p_isFigure h5 ht (by omega)) ?_
            refine pw_if_eq 130 dX11_operandRead_123 (by decide) (fun c_123 => ?_) (fun c_123 => absurd (bI_f hdF) c_123)
            refine pw_sipush (v := 20000) dX11_operandRead_130 rfl ?_
            refine pw_iload_n dX11_operandRead_133 rfl ?_
            refine pw_if_eq 142 dX11_operandRead_134 (by decide) (fun c_134 => ?_) (fun c_134 => absurd rfl c_134)
            refine pw_iload_n dX11_operandRead_142 rfl ?_
            refine pw_iadd dX11_operandRead_143 ?_
            exact pw_iret rfl rfl dX11_operandRead_144 (Nat.zero_le _) (Nat.zero_le _) rfl
          · rw [if_pos (of_decide_eq_true ez)]
            refine pw_iload_n dX11_operandRead_115 rfl ?_
            refine pw_if_eq 126 dX11_operandRead_116 (by decide) (fun c_116 => absurd c_116 (nI_ne0 (by omega) (by omega))) (fun c_116 => ?_)
            refine pw_aload_n dX11_operandRead_119 rfl ?_
            refine lp_cV1 (mi' := mX11_isFigure) (As := []) (q := (RX11, TX11, 33)) dX11_operandRead_120 lk_RX11_127 mk_X11_isFigure mi_X11_isFigure me_X11_isFigure ⟨by decide, by decide⟩ rfl rfl (Nat.le_of_ble_eq_true rfl) rfl rfl ⟨rfl, rfl⟩ ⟨Nat.zero_le _, Nat.zero_le _⟩ (p_isFigure h5 ht (by omega)) ?_
            refine pw_if_eq 130 dX11_operandRead_123 (by decide) (fun c_123 => ?_) (fun c_123 => absurd (bI_f hdF) c_123)
            refine pw_sipush (v := 20000) dX11_operandRead_130 rfl ?_
            refine pw_iload_n dX11_operandRead_133 rfl ?_
            refine pw_if_eq 142 dX11_operandRead_134 (by decide) (fun c_134 => absurd (show (1 : Int32) = 0 from c_134) (by decide)) (fun c_134 => ?_)
            refine pw_iload_n dX11_operandRead_137 rfl ?_
            refine pw_ineg dX11_operandRead_138 ?_
            refine pw_goto (tgt := 143) dX11_operandRead_139 (by decide) ?_
            refine pw_iadd dX11_operandRead_143 ?_
            exact pw_iret rfl rfl dX11_operandRead_144 (Nat.zero_le _) (Nat.zero_le _) rfl
    by_cases hz : ch (σ.2.2.1 3) tl p = 95
    · refine pw_aload_n dX11_operandRead_0 rfl ?_
      refine lp_cV1 (mi' := mX11_isLetter) (As := []) (q := (RX11, TX11, 33)) dX11_operandRead_1 lk_RX11_123 mk_X11_isLetter mi_X11_isLetter me_X11_isLetter ⟨by decide, by decide⟩ rfl rfl (Nat.le_of_ble_eq_true rfl) rfl rfl ⟨rfl, rfl⟩ ⟨Nat.zero_le _, Nat.zero_le _⟩ (p_isLetter h5 ht (by omega)) ?_
      refine pw_if_eq 32 dX11_operandRead_4 (by decide) (fun c_4 => ?_) (fun c_4 => absurd (bI_f hLF) c_4)
      refine pw_aload_n dX11_operandRead_32 rfl ?_
      refine lp_cV1 (mi' := mX11_here) (As := []) (q := (RX11, TX11, 33)) dX11_operandRead_33 lk_RX11_108 mk_X11_here mi_X11_here me_X11_here ⟨by decide, by decide⟩ rfl rfl (Nat.le_of_ble_eq_true rfl) rfl rfl ⟨rfl, rfl⟩ ⟨Nat.zero_le _, Nat.zero_le _⟩ (p_here h5 ht (by omega)) ?_
      refine pw_bipush (v := 95) dX11_operandRead_36 rfl ?_
      refine pw_icmp_ne 45 dX11_operandRead_38 (by decide) (fun c_38 => absurd hz c_38) (fun c_38 => ?_)
      refine pw_iconst (v := 1) dX11_operandRead_41 rfl ?_
      refine pw_goto (tgt := 46) dX11_operandRead_42 (by decide) ?_
      refine pw_istore_n dX11_operandRead_46 (by decide) ?_
      refine pw_aload_n dX11_operandRead_47 rfl ?_
      refine pw_dup dX11_operandRead_48 rfl ?_
      refine lp_geti dX11_operandRead_49 fp_RX11_105.FL rfl rfl ?_
      refine pw_iload_n dX11_operandRead_52 rfl ?_
      refine pw_if_eq 60 dX11_operandRead_53 (by decide) (fun c_53 => absurd (show (1 : Int32) = 0 from c_53) (by decide)) (fun c_53 => ?_)
      refine pw_iconst (v := 1) dX11_operandRead_56 rfl ?_
      refine pw_goto (tgt := 61) dX11_operandRead_57 (by decide) ?_
      refine pw_iadd dX11_operandRead_61 ?_
      refine lp_puti dX11_operandRead_62 fp_RX11_105 rfl rfl rfl rfl ?_
      rw [pl_step]
      refine pw_iconst (v := 0) dX11_operandRead_65 rfl ?_
      refine pw_istore_n dX11_operandRead_66 (by decide) ?_
      refine pw_iconst (v := 0) dX11_operandRead_67 rfl ?_
      refine pw_istore_n dX11_operandRead_68 (by decide) ?_
      exact pw_lk [(0, .ref (adr 0)), (1, .int (bI true)), (2, .int (nI 0)), (3, .int 0)] ⟨rfl, rfl, rfl, rfl, trivial⟩ (tail true (p + 1) (by omega) (if_pos hz) (decide_eq_true hz))
    · refine pw_aload_n dX11_operandRead_0 rfl ?_
      refine lp_cV1 (mi' := mX11_isLetter) (As := []) (q := (RX11, TX11, 33)) dX11_operandRead_1 lk_RX11_123 mk_X11_isLetter mi_X11_isLetter me_X11_isLetter ⟨by decide, by decide⟩ rfl rfl (Nat.le_of_ble_eq_true rfl) rfl rfl ⟨rfl, rfl⟩ ⟨Nat.zero_le _, Nat.zero_le _⟩ (p_isLetter h5 ht (by omega)) ?_
      refine pw_if_eq 32 dX11_operandRead_4 (by decide) (fun c_4 => ?_) (fun c_4 => absurd (bI_f hLF) c_4)
      refine pw_aload_n dX11_operandRead_32 rfl ?_
      refine lp_cV1 (mi' := mX11_here) (As := []) (q := (RX11, TX11, 33)) dX11_operandRead_33 lk_RX11_108 mk_X11_here mi_X11_here me_X11_here ⟨by decide, by decide⟩ rfl rfl (Nat.le_of_ble_eq_true rfl) rfl rfl ⟨rfl, rfl⟩ ⟨Nat.zero_le _, Nat.zero_le _⟩ (p_here h5 ht (by omega)) ?_
      refine pw_bipush (v := 95) dX11_operandRead_36 rfl ?_
      refine pw_icmp_ne 45 dX11_operandRead_38 (by decide) (fun c_38 => ?_) (fun c_38 => absurd c_38 hz)
      refine pw_iconst (v := 0) dX11_operandRead_45 rfl ?_
      refine pw_istore_n dX11_operandRead_46 (by decide) ?_
      refine pw_aload_n dX11_operandRead_47 rfl ?_
      refine pw_dup dX11_operandRead_48 rfl ?_
      refine lp_geti dX11_operandRead_49 fp_RX11_105.FL rfl rfl ?_
      refine pw_iload_n dX11_operandRead_52 rfl ?_
      refine pw_if_eq 60 dX11_operandRead_53 (by decide) (fun c_53 => ?_) (fun c_53 => absurd rfl c_53)
      refine pw_iconst (v := 0) dX11_operandRead_60 rfl ?_
      refine pw_iadd dX11_operandRead_61 ?_
      refine lp_puti dX11_operandRead_62 fp_RX11_105 rfl rfl rfl rfl ?_
      refine pw_iconst (v := 0) dX11_operandRead_65 rfl ?_
      refine pw_istore_n dX11_operandRead_66 (by decide) ?_
      refine pw_iconst (v := 0) dX11_operandRead_67 rfl ?_
      refine pw_istore_n dX11_operandRead_68 (by decide) ?_
      exact pw_lk [(0, .ref (adr 0)), (1, .int (bI false)), (2, .int (nI 0)), (3, .int 0)] ⟨rfl, rfl, rfl, rfl, trivial⟩ (pw_st (by show sI (sI σ 0 6 (nI p)) 0 6 (nI p + 0) = _; rw [sI_sI, Int32.add_zero]) (tail false p (by omega) (if_neg hz) (decide_eq_false hz)))
end P2
