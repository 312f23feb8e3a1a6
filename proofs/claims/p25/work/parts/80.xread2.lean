/-! THE CLASS: Parser.read, parse -/
theorem rdNext_b {t : Nat → Int32} {tl p r d : Nat} : (rdNext t tl p r d).1 ≤ p + 20 := by
  unfold rdNext
  split
  · dsimp only; omega
  · split
    · dsimp only
      have h1 := (rdOpd_le (t := t) (tl := tl) (p := p + 2)).2
      have h2 := (rdOpd_le (t := t) (tl := tl) (p := (rdOpd t tl (p + 2)).1 + 1)).2
      unfold rdAsg
      split
      · split
        · dsimp only; omega
        · split
          · split <;> (dsimp only; omega)
          · split
            · dsimp only; omega
            · split <;> (dsimp only; omega)
      · dsimp only; omega
    · split
      · split
        · dsimp only
          have h1 := (rdNum_m (t := t) (tl := tl) 2 p 0).2
          unfold rdCnt
          split
          · dsimp only; omega
          · split
            · dsimp only; omega
            · split <;> (dsimp only; omega)
        · dsimp only; omega
      · split <;> (dsimp only; omega)
section RDC
variable {t t' : Nat → Int32} {tl : Nat}
theorem ch_eq (h : ∀ j, j < tl → t j = t' j) (p : Nat) : ch t tl p = ch t' tl p := by
  unfold ch
  by_cases hp : p < tl
  · rw [if_pos hp, if_pos hp]; exact h p hp
  · rw [if_neg hp, if_neg hp]
theorem rdNum_eq (h : ∀ j, j < tl → t j = t' j) : ∀ (k p : Nat) (v : Int32), rdNum t tl k p v = rdNum t' tl k p v := by
  intro k
  induction k with
  | zero => intro p v; rfl
  | succ k ih =>
    intro p v
    rw [rdNum, rdNum, ch_eq h p]
    by_cases hf : isFig (ch t' tl p) = true
    · rw [if_pos hf, if_pos hf, ih, h p (ch_fig hf).1]
    · rw [if_neg hf, if_neg hf]
theorem rdOpd_eq (h : ∀ j, j < tl → t j = t' j) (p : Nat) : rdOpd t tl p = rdOpd t' tl p := by
  unfold rdOpd
  rw [ch_eq h p]
  by_cases hl : isLet (ch t' tl p) = true
  · rw [if_pos hl, if_pos hl, h p (ch_let hl).1]
  · rw [if_neg hl, if_neg hl]
    simp only [rdNum_eq h, ch_eq h]
theorem rdAsg_eq (h : ∀ j, j < tl → t j = t' j) (p : Nat) : rdAsg t tl p = rdAsg t' tl p := by
  unfold rdAsg
  simp only [rdOpd_eq h, ch_eq h]
theorem rdCnt_eq (h : ∀ j, j < tl → t j = t' j) (p : Nat) : rdCnt t tl p = rdCnt t' tl p := by
  unfold rdCnt
  simp only [rdNum_eq h, ch_eq h]
theorem rdNext_eq (h : ∀ j, j < tl → t j = t' j) (p r d : Nat) : rdNext t tl p r d = rdNext t' tl p r d := by
  unfold rdNext
  simp only [rdAsg_eq h, rdCnt_eq h, ch_eq h]
theorem rdAll_eq (h : ∀ j, j < tl → t j = t' j) : ∀ (n p : Nat) (L : List Quad) (d : Nat), rdAll t tl n p L d = rdAll t' tl n p L d := by
  intro n
  induction n with
  | zero => intro p L d; rfl
  | succ n ih =>
    intro p L d
    rw [rdAll, rdAll, rdNext_eq h]
    by_cases hp : p < tl
    · rw [if_pos hp, if_pos hp]
      rcases rdNext t' tl p L.length d with ⟨q, _ | ⟨a, b⟩⟩
      · rfl
      · exact ih _ _ _
    · rw [if_neg hp, if_neg hp]
end RDC
def rdP (σ : St) (R : Nat ⊕ List Quad) (v : Value) (τ : St) : Prop := Fr 3 12 σ τ ∧ match R with
  | .inl e => v = .int (nI e) ∧ e < 1000
  | .inr L => v = .int (-1) ∧ PrR τ L 0
theorem XI.par {σ τ : St} {m tl N : Nat} {al sv tx : Nat → Int32} (h : XI σ m tl N al sv tx) (hF : Fr 3 12 σ τ) : XI τ m tl N al sv tx := by
  obtain ⟨h1, h2, h3, h4, h5⟩ := h
  have e9 : τ.1 0 9 = σ.1 0 9 := congrFun (hF 0 (by omega)).1 9
  have e10 : τ.1 0 10 = σ.1 0 10 := congrFun (hF 0 (by omega)).1 10
  refine ⟨h1.fr hF (by omega), h2.fr hF (by omega), h3.fr hF (by omega), ?_, ?_⟩
  · rcases h4 with h | ⟨h, q⟩
    · exact Or.inl (e9.trans h)
    · exact Or.inr ⟨e9.trans h, q.fr hF (by omega)⟩
  · rcases h5 with h | ⟨h, q, q2, q3⟩
    · exact Or.inl (e10.trans h)
    · exact Or.inr ⟨e10.trans h, e9.trans q, q2.fr hF (by omega), q3.fr hF (by omega)⟩
section XRD
variable {l : Launch} {G : cxG} {adr : Nat → Nat} {Lf Rt : va_W} {σ : St} {al sv tx : Nat → Int32} {N m tl : Nat}
theorem rd_err {sz : Nat} {w0 : va_W} {fin : OC → Prop} {c q : Nat} (hq : q < 1000) (he : σ.1 10 3 = nI q) (hf : fin (.inl (some (.int (nI q)), wp G adr LX Lf Rt σ))) : PW l G mX4_read w0 sz fin 25 [(0, .ref (adr 10)), (1, .int (nI c))] [] 0 0 (wp G adr LX Lf Rt σ) := by
  refine pw_iload_n dX4_read_25 rfl ?_
  refine pw_sipush (v := 200) dX4_read_26 rfl ?_
  refine pw_icmp_ge 64 dX4_read_29 (by decide) (fun c_29 => ?_) (fun c_29 => ?_)
  · refine pw_aload_n dX4_read_64 rfl ?_
    refine lp_geti dX4_read_65 fp_RX4_15.FL rfl rfl ?_
    refine pw_top (nI q) he ?_
    refine pw_iconst (v := -1) dX4_read_68 rfl ?_
    refine pw_icmp_ne 90 dX4_read_69 (by decide) (fun c_69 => ?_) (fun c_69 => absurd c_69 (fun z => nI_nm1 hq z.symm))
    refine pw_aload_n dX4_read_90 rfl ?_
    refine lp_geti dX4_read_91 fp_RX4_15.FL rfl rfl ?_
    refine pw_top (nI q) he ?_
    exact pw_iret rfl rfl dX4_read_94 (Nat.zero_le _) (Nat.zero_le _) hf
  · refine pw_aload_n dX4_read_32 rfl ?_
    refine lp_geti dX4_read_33 fp_RX4_15.FL rfl rfl ?_
    refine pw_top (nI q) he ?_
    refine pw_iconst (v := -1) dX4_read_36 rfl ?_
    refine pw_icmp_ne 64 dX4_read_37 (by decide) (fun c_37 => ?_) (fun c_37 => absurd c_37 (fun z => nI_nm1 hq z.symm))
    refine pw_aload_n dX4_read_64 rfl ?_
    refine lp_geti dX4_read_65 fp_RX4_15.FL rfl rfl ?_
    refine pw_top (nI q) he ?_
    refine pw_iconst (v := -1) dX4_read_68 rfl ?_
    refine pw_icmp_ne 90 dX4_read_69 (by decide) (fun c_69 => ?_) (fun c_69 => absurd c_69 (fun z => nI_nm1 hq z.symm))
    refine pw_aload_n dX4_read_90 rfl ?_
    refine lp_geti dX4_read_91 fp_RX4_15.FL rfl rfl ?_
    refine pw_top (nI q) he ?_
    exact pw_iret rfl rfl dX4_read_94 (Nat.zero_le _) (Nat.zero_le _) hf
theorem rd_loop {sz : Nat} {w0 : va_W} {fin : OC → Prop} {σ0 : St} (hT : σ0.1 1 1 = nI tl) (htl : tl ≤ 200) (R : Nat ⊕ List Quad) (kk : ∀ v τ, rdP σ0 R v τ → fin (.inl (some v, wp G adr LX Lf Rt τ))) :
    ∀ (n p d : Nat) (L : List Quad) (c : Nat) (τ : St), tl < p + n → p ≤ tl → c ≤ p → Fr 3 12 σ0 τ → PaI τ p d L → rdAll (σ0.2.2.1 2) tl n p L d = R → PW l G mX4_read w0 sz fin 25 [(0, .ref (adr 10)), (1, .int (nI c))] [] 0 0 (wp G adr LX Lf Rt τ) := by
  intro n
  induction n with
  | zero => intro p d L c τ h1 h2; omega
  | succ n ih =>
    intro p d L c τ h1 h2 h3 hF hI hR
    have hI' := hI
    obtain ⟨hat, herr, hdep, hPr⟩ := hI
    have hT1 : τ.1 1 1 = nI tl := (congrFun (hF 1 (by omega)).1 1).trans hT
    have ht1 : τ.2.2.1 2 = σ0.2.2.1 2 := (hF 2 (by omega)).2.2.1
    have hd2 : d ≤ 2 := by have := (lsc_in hPr.2.2.1.1 L.length (Nat.le_refl _)).1; rw [hPr.2.2.2.1] at this; exact this
    rw [rdAll] at hR
    by_cases hp : p < tl
    · rw [if_pos hp] at hR
      have hst := x_readSt (l := l) (G := G) (adr := adr) (Lf := Lf) (Rt := Rt) (σ := τ) hT1 htl p d L hp hI'
      rw [ht1] at hst
      have hb := rdNext_b (t := σ0.2.2.1 2) (tl := tl) (p := p) (r := L.length) (d := d)
      refine pw_iload_n dX4_read_25 rfl ?_
      refine pw_sipush (v := 200) dX4_read_26 rfl ?_
      refine pw_icmp_ge 64 dX4_read_29 (by decide) (fun c_29 => absurd c_29 (nI_ge (a := c) (b := 200) (by omega) (by decide))) (fun c_29 => ?_)
      refine pw_aload_n dX4_read_32 rfl ?_
      refine lp_geti dX4_read_33 fp_RX4_15.FL rfl rfl ?_
      refine pw_top (-1) herr ?_
      refine pw_iconst (v := -1) dX4_read_36 rfl ?_
      refine pw_icmp_ne 64 dX4_read_37 (by decide) (fun c_37 => absurd c_37 (fun z => z rfl)) (fun c_37 => ?_)
      refine pw_aload_n dX4_read_40 rfl ?_
      refine lp_geti dX4_read_41 fp_RX4_9.FL rfl rfl ?_
      refine pw_top (nI p) hat ?_
      refine pw_aload_n dX4_read_44 rfl ?_
      refine lp_getr 1 dX4_read_45 fp_RX4_25.FL rfl rfl rfl ?_
      refine lp_geti dX4_read_48 fp_RX4_38.FL rfl rfl ?_
      refine pw_top (nI tl) hT1 ?_
      refine pw_icmp_ge 64 dX4_read_51 (by decide) (fun c_51 => absurd c_51 (nI_ge hp (by omega))) (fun c_51 => ?_)
      refine pw_aload_n dX4_read_54 rfl ?_
      refine lp_rV0 (mi' := mX4_readStatement) (As := []) (q := (RX4, TX4, 6)) dX4_read_55 lk_RX4_43 mk_X4_readStatement mi_X4_readStatement me_X4_readStatement ⟨by decide, by decide⟩ rfl rfl (Nat.le_of_ble_eq_true rfl) rfl rfl ⟨rfl, rfl⟩ ⟨Nat.zero_le _, Nat.zero_le _⟩ hst (fun ρ hQ => ?_)
      refine pw_iinc dX4_read_58 rfl (by decide) ?_
      refine pw_goto (tgt := 25) dX4_read_61 (by decide) ?_
      refine pw_lk [(0, .ref (adr 10)), (1, .int (nI (c + 1)))] ⟨rfl, congrArg (fun x => some (Value.int x)) (nI_1 c), trivial⟩ ?_
      obtain ⟨q1, q2⟩ := hQ
      rcases hN : rdNext (σ0.2.2.1 2) tl p L.length d with ⟨q, _ | ⟨a, d'⟩⟩
      · rw [hN] at hR q2 hb
        dsimp only at hR q2 hb
        exact rd_err (show q < 1000 by omega) q2 (kk _ _ (by rw [← hR]; exact ⟨hF.tr q1, rfl, by omega⟩))
      · rw [hN] at hR q2
        dsimp only at hR q2
        obtain ⟨o1, o2, o3, o4⟩ := rdNext_ok hN hPr.1 hd2
        exact ih q d' (L ++ [a]) (c + 1) ρ (by omega) o2 (by omega) (hF.tr q1) q2 hR
    · rw [if_neg hp] at hR
      have hpt : p = tl := by omega
      by_cases hd : 0 < d
      · rw [if_pos hd] at hR
        have kk1 := kk (.int (nI tl)) (sI τ 10 3 (nI tl)) (by rw [← hR]; exact ⟨Fr.I hF (by omega) (by omega), rfl, by omega⟩)
        refine pw_iload_n dX4_read_25 rfl ?_
        refine pw_sipush (v := 200) dX4_read_26 rfl ?_
        refine pw_icmp_ge 64 dX4_read_29 (by decide) (fun c_29 => ?_) (fun c_29 => ?_)
        · refine pw_aload_n dX4_read_64 rfl ?_
          refine lp_geti dX4_read_65 fp_RX4_15.FL rfl rfl ?_
          refine pw_top (-1) herr ?_
          refine pw_iconst (v := -1) dX4_read_68 rfl ?_
          refine pw_icmp_ne 90 dX4_read_69 (by decide) (fun c_69 => absurd c_69 (fun z => z rfl)) (fun c_69 => ?_)
          refine pw_aload_n dX4_read_72 rfl ?_
          refine lp_geti dX4_read_73 fp_RX4_18.FL rfl rfl ?_
          refine pw_top (nI d) hdep ?_
          refine pw_if_le 90 dX4_read_76 (by decide) (fun c_76 => absurd c_76 (nI_nle hd (by omega))) (fun c_76 => ?_)
          refine pw_aload_n dX4_read_79 rfl ?_
          refine pw_aload_n dX4_read_80 rfl ?_
          refine lp_getr 1 dX4_read_81 fp_RX4_25.FL rfl rfl rfl ?_
          refine lp_geti dX4_read_84 fp_RX4_38.FL rfl rfl ?_
          refine pw_top (nI tl) hT1 ?_
          refine lp_puti dX4_read_87 fp_RX4_15 rfl rfl rfl rfl ?_
          refine pw_aload_n dX4_read_90 rfl ?_
          refine lp_geti dX4_read_91 fp_RX4_15.FL rfl rfl ?_
          refine pw_top (nI tl) gI ?_
          exact pw_iret rfl rfl dX4_read_94 (Nat.zero_le _) (Nat.zero_le _) kk1
        · refine pw_aload_n dX4_read_32 rfl ?_
          refine lp_geti dX4_read_33 fp_RX4_15.FL rfl rfl ?_
          refine pw_top (-1) herr ?_
          refine pw_iconst (v := -1) dX4_read_36 rfl ?_
          refine pw_icmp_ne 64 dX4_read_37 (by decide) (fun c_37 => absurd c_37 (fun z => z rfl)) (fun c_37 => ?_)
          refine pw_aload_n dX4_read_40 rfl ?_
          refine lp_geti dX4_read_41 fp_RX4_9.FL rfl rfl ?_
          refine pw_top (nI p) hat ?_
          refine pw_aload_n dX4_read_44 rfl ?_
          refine lp_getr 1 dX4_read_45 fp_RX4_25.FL rfl rfl rfl ?_
          refine lp_geti dX4_read_48 fp_RX4_38.FL rfl rfl ?_
          refine pw_top (nI tl) hT1 ?_
          refine pw_icmp_ge 64 dX4_read_51 (by decide) (fun c_51 => ?_) (fun c_51 => absurd (nI_le (by omega) (by omega)) c_51)
          refine pw_aload_n dX4_read_64 rfl ?_
          refine lp_geti dX4_read_65 fp_RX4_15.FL rfl rfl ?_
          refine pw_top (-1) herr ?_
          refine pw_iconst (v := -1) dX4_read_68 rfl ?_
          refine pw_icmp_ne 90 dX4_read_69 (by decide) (fun c_69 => absurd c_69 (fun z => z rfl)) (fun c_69 => ?_)
          refine pw_aload_n dX4_read_72 rfl ?_
          refine lp_geti dX4_read_73 fp_RX4_18.FL rfl rfl ?_
          refine pw_top (nI d) hdep ?_
          refine pw_if_le 90 dX4_read_76 (by decide) (fun c_76 => absurd c_76 (nI_nle hd (by omega))) (fun c_76 => ?_)
          refine pw_aload_n dX4_read_79 rfl ?_
          refine pw_aload_n dX4_read_80 rfl ?_
          refine lp_getr 1 dX4_read_81 fp_RX4_25.FL rfl rfl rfl ?_
          refine lp_geti dX4_read_84 fp_RX4_38.FL rfl rfl ?_
          refine pw_top (nI tl) hT1 ?_
          refine lp_puti dX4_read_87 fp_RX4_15 rfl rfl rfl rfl ?_
          refine pw_aload_n dX4_read_90 rfl ?_
          refine lp_geti dX4_read_91 fp_RX4_15.FL rfl rfl ?_
          refine pw_top (nI tl) gI ?_
          exact pw_iret rfl rfl dX4_read_94 (Nat.zero_le _) (Nat.zero_le _) kk1
      · rw [if_neg hd] at hR
        have hd0 : d = 0 := by omega
        subst hd0
        have kk1 := kk (.int (-1)) τ (by rw [← hR]; exact ⟨hF, rfl, hPr⟩)
        refine pw_iload_n dX4_read_25 rfl ?_
        refine pw_sipush (v := 200) dX4_read_26 rfl ?_
        refine pw_icmp_ge 64 dX4_read_29 (by decide) (fun c_29 => ?_) (fun c_29 => ?_)
        · refine pw_aload_n dX4_read_64 rfl ?_
          refine lp_geti dX4_read_65 fp_RX4_15.FL rfl rfl ?_
          refine pw_top (-1) herr ?_
          refine pw_iconst (v := -1) dX4_read_68 rfl ?_
          refine pw_icmp_ne 90 dX4_read_69 (by decide) (fun c_69 => absurd c_69 (fun z => z rfl)) (fun c_69 => ?_)
          refine pw_aload_n dX4_read_72 rfl ?_
          refine lp_geti dX4_read_73 fp_RX4_18.FL rfl rfl ?_
          refine pw_top (nI 0) hdep ?_
          refine pw_if_le 90 dX4_read_76 (by decide) (fun c_76 => ?_) (fun c_76 => absurd (by decide) c_76)
          refine pw_aload_n dX4_read_90 rfl ?_
          refine lp_geti dX4_read_91 fp_RX4_15.FL rfl rfl ?_
          refine pw_top (-1) herr ?_
          exact pw_iret rfl rfl dX4_read_94 (Nat.zero_le _) (Nat.zero_le _) kk1
        · refine pw_aload_n dX4_read_32 rfl ?_
          refine lp_geti dX4_read_33 fp_RX4_15.FL rfl rfl ?_
          refine pw_top (-1) herr ?_
          refine pw_iconst (v := -1) dX4_read_36 rfl ?_
          refine pw_icmp_ne 64 dX4_read_37 (by decide) (fun c_37 => absurd c_37 (fun z => z rfl)) (fun c_37 => ?_)
          refine pw_aload_n dX4_read_40 rfl ?_
          refine lp_geti dX4_read_41 fp_RX4_9.FL rfl rfl ?_
          refine pw_top (nI p) hat ?_
          refine pw_aload_n dX4_read_44 rfl ?_
          refine lp_getr 1 dX4_read_45 fp_RX4_25.FL rfl rfl rfl ?_
          refine lp_geti dX4_read_48 fp_RX4_38.FL rfl rfl ?_
          refine pw_top (nI tl) hT1 ?_
          refine pw_icmp_ge 64 dX4_read_51 (by decide) (fun c_51 => ?_) (fun c_51 => absurd (nI_le (by omega) (by omega)) c_51)
          refine pw_aload_n dX4_read_64 rfl ?_
          refine lp_geti dX4_read_65 fp_RX4_15.FL rfl rfl ?_
          refine pw_top (-1) herr ?_
          refine pw_iconst (v := -1) dX4_read_68 rfl ?_
          refine pw_icmp_ne 90 dX4_read_69 (by decide) (fun c_69 => absurd c_69 (fun z => z rfl)) (fun c_69 => ?_)
          refine pw_aload_n dX4_read_72 rfl ?_
          refine lp_geti dX4_read_73 fp_RX4_18.FL rfl rfl ?_
          refine pw_top (nI 0) hdep ?_
          refine pw_if_le 90 dX4_read_76 (by decide) (fun c_76 => ?_) (fun c_76 => absurd (by decide) c_76)
          refine pw_aload_n dX4_read_90 rfl ?_
          refine lp_geti dX4_read_91 fp_RX4_15.FL rfl rfl ?_
          refine pw_top (-1) herr ?_
          exact pw_iret rfl rfl dX4_read_94 (Nat.zero_le _) (Nat.zero_le _) kk1
theorem pr_0 {τ : St} (h : τ.1 3 0 = 0) : PrR τ [] 0 := by
  refine ⟨by decide, h, ⟨fun i hi => absurd hi (Nat.not_lt_zero i), fun i hi => absurd hi (Nat.not_lt_zero i), fun i hi => absurd hi (Nat.not_lt_zero i), fun i hi => absurd hi (Nat.not_lt_zero i)⟩, rfl, fun j hj => absurd hj (Nat.not_lt_zero j), fun q => absurd q (by decide), fun q => absurd q (by decide)⟩
theorem x_readP (hT : σ.1 1 1 = nI tl) (htl : tl ≤ 200) : SpR1 l G mX4_read [.ref (adr 10)] adr LX Lf Rt σ (rdP σ (rdAll (σ.2.2.1 2) tl (tl + 1) 0 [] 0)) := by
  refine spec_of (by decide) (Nat.le_of_ble_eq_true rfl) (fun sz => ?_)
  refine pw_aload_n dX4_read_0 rfl ?_
  refine lp_getr 3 dX4_read_1 fp_RX4_29.FL rfl rfl rfl ?_
  refine pw_iconst (v := 0) dX4_read_4 rfl ?_
  refine lp_puti dX4_read_5 fp_RX4_33 rfl rfl rfl rfl ?_
  refine pw_aload_n dX4_read_8 rfl ?_
  refine pw_iconst (v := 0) dX4_read_9 rfl ?_
  refine lp_puti dX4_read_10 fp_RX4_9 rfl rfl rfl rfl ?_
  refine pw_aload_n dX4_read_13 rfl ?_
  refine pw_iconst (v := -1) dX4_read_14 rfl ?_
  refine lp_puti dX4_read_15 fp_RX4_15 rfl rfl rfl rfl ?_
  refine pw_aload_n dX4_read_18 rfl ?_
  refine pw_iconst (v := 0) dX4_read_19 rfl ?_
  refine lp_puti dX4_read_20 fp_RX4_18 rfl rfl rfl rfl ?_
  refine pw_iconst (v := 0) dX4_read_23 rfl ?_
  refine pw_istore_n dX4_read_24 (by decide) ?_
  exact pw_lk [(0, .ref (adr 10)), (1, .int (nI 0))] ⟨rfl, rfl, trivial⟩ (rd_loop (σ0 := σ) hT htl _ (fun v τ h => ⟨v, τ, rfl, h⟩) (tl + 1) 0 0 [] 0 _ (by omega) (by omega) (Nat.le_refl _) (Fr.I (Fr.I (Fr.I (Fr.I Fr.rf (by omega) (by omega)) (by omega) (by omega)) (by omega) (by omega)) (by omega) (by omega)) ⟨rfl, rfl, rfl, pr_0 rfl⟩ rfl)
/-- a program that was read is as it must be -/
theorem pr_done {τ : St} {L : List Quad} (h : PrR τ L 0) (al : Nat → Int32) : wfP (alParse al L) L.length ∧ PgR τ 3 (alParse al L) L.length := by
  obtain ⟨h1, h2, h3, h4, h5, -, -⟩ := h
  have he : ∀ i, i < L.length → ∀ c, c < 4 → alP L (1 + 4 * i + c) = alParse al L (1 + 4 * i + c) := fun i hi c hc => by
    unfold alP
    rw [alParse_at hi hc, alParse_at hi hc]
  have hk : ∀ i, i < L.length → kdA (alP L) i = kdA (alParse al L) i := fun i hi => he i hi 0 (by decide)
  obtain ⟨w1, w2, w3, w4⟩ := h3.congr he
  refine ⟨⟨h1, by unfold alParse; rw [if_pos rfl], ⟨w1, by rw [← lsc_pre hk _ (Nat.le_refl _)]; exact h4⟩, w2, w3, w4⟩, h2, fun j hj => ?_⟩
  obtain ⟨r1, r2, r3, r4, r5, r6⟩ := h5 j hj
  refine ⟨r1.trans (hk j hj), r2.trans (he j hj 1 (by decide)), r3.trans (he j hj 2 (by decide)), r4.trans (he j hj 3 (by decide)), r5.trans ?_, r6.trans ?_⟩
  · rw [lmd_pre hk hj]
  · unfold cPt; rw [lpt_pre hk _ (Nat.le_refl _)]
def prsP (σ : St) (m tl N : Nat) (al sv tx : Nat → Int32) (R : Nat ⊕ List Quad) (v : Value) (τ : St) : Prop := v = .int (parseRes R) ∧ match R with
  | .inl _ => XI τ m tl N al sv tx
  | .inr L => XI τ (mSaveM m + 1) tl L.length (alParse al L) (mSaveF al sv m) tx
theorem x_parseG (hX : XI σ m tl N al sv tx) : SpR1 l G mX10_parse [.ref (adr 0)] adr LX Lf Rt σ (prsP σ m tl N al sv tx (rdAll tx tl (tl + 1) 0 [] 0)) := by
  refine spec_of (by decide) (Nat.le_of_ble_eq_true rfl) (fun sz => ?_)
  have hrd := x_readP (l := l) (G := G) (adr := adr) (Lf := Lf) (Rt := Rt) (σ := σ) hX.1.1 hX.1.2.1
  rw [rdAll_eq hX.1.2.2] at hrd
  rcases hR : rdAll tx tl (tl + 1) 0 [] 0 with e | L
  · rw [hR] at hrd
    refine pw_aload_n dX10_parse_0 rfl ?_
    refine lp_getr 10 dX10_parse_1 fp_RX10_28.FL rfl rfl rfl ?_
    refine lp_rV1 (mi' := mX4_read) (As := []) (q := (RX4, TX4, 6)) dX10_parse_4 lk_RX10_110 mk_X4_read mi_X4_read me_X4_read ⟨by decide, by decide⟩ rfl rfl (Nat.le_of_ble_eq_true rfl) rfl rfl ⟨rfl, rfl⟩ ⟨Nat.zero_le _, Nat.zero_le _⟩ hrd (fun v τ hQ => ?_)
    obtain ⟨q1, rfl, q3⟩ := hQ
    refine pw_istore_n dX10_parse_7 (by decide) ?_
    refine pw_iload_n dX10_parse_8 rfl ?_
    refine pw_iconst (v := -1) dX10_parse_9 rfl ?_
    refine pw_icmp_eq 18 dX10_parse_10 (by decide) (fun c_10 => absurd (show nI e = -1 from c_10).symm (nI_nm1 q3)) (fun c_10 => ?_)
    refine pw_bipush (v := -10) dX10_parse_13 rfl ?_
    refine pw_iload_n dX10_parse_15 rfl ?_
    refine pw_isub dX10_parse_16 ?_
    exact pw_iret rfl rfl dX10_parse_17 (Nat.zero_le _) (Nat.zero_le _) ⟨_, _, rfl, rfl, hX.par q1⟩
  · rw [hR] at hrd
    refine pw_aload_n dX10_parse_0 rfl ?_
    refine lp_getr 10 dX10_parse_1 fp_RX10_28.FL rfl rfl rfl ?_
    refine lp_rV1 (mi' := mX4_read) (As := []) (q := (RX4, TX4, 6)) dX10_parse_4 lk_RX10_110 mk_X4_read mi_X4_read me_X4_read ⟨by decide, by decide⟩ rfl rfl (Nat.le_of_ble_eq_true rfl) rfl rfl ⟨rfl, rfl⟩ ⟨Nat.zero_le _, Nat.zero_le _⟩ hrd (fun v τ hQ => ?_)
    obtain ⟨q1, rfl, q3⟩ := hQ
    have hX1 := hX.par q1
    refine pw_istore_n dX10_parse_7 (by decide) ?_
    refine pw_iload_n dX10_parse_8 rfl ?_
    refine pw_iconst (v := -1) dX10_parse_9 rfl ?_
    refine pw_icmp_eq 18 dX10_parse_10 (by decide) (fun c_10 => ?_) (fun c_10 => absurd rfl c_10)
    refine pw_aload_n dX10_parse_18 rfl ?_
    refine lp_rV0 (mi' := mX10_saveForUndo) (As := []) (q := (RX10, TX10, 14)) dX10_parse_19 lk_RX10_114 mk_X10_saveForUndo mi_X10_saveForUndo me_X10_saveForUndo ⟨by decide, by decide⟩ rfl rfl (Nat.le_of_ble_eq_true rfl) rfl rfl ⟨rfl, rfl⟩ ⟨Nat.zero_le _, Nat.zero_le _⟩ (x_saveU hX1.2.1 hX1.2.2.1) (fun ρ1 hS => ?_)
    obtain ⟨ρ, f1, f2, hρ1⟩ := hS
    have hF0 : Fr 24 74 τ ρ := f1
    have hPg : PgR ρ1 3 (alParse al L) L.length := by
      rw [hρ1]; exact ((((pr_done q3 al).2.fr f1 (by omega)).fr Fr.I0 (by omega)).fr Fr.I0 (by omega))
    have hc3 : ρ1.1 3 0 = nI L.length := hPg.1
    refine pw_aload_n dX10_parse_22 rfl ?_
    refine lp_getr 12 dX10_parse_23 fp_RX10_35.FL rfl rfl rfl ?_
    refine lp_getr 13 dX10_parse_26 fp_RX10_117.FL rfl rfl rfl ?_
    refine pw_aload_n dX10_parse_29 rfl ?_
    refine lp_getr 3 dX10_parse_30 fp_RX10_19.FL rfl rfl rfl ?_
    refine lp_rV0 (mi' := mX6_copyFrom) (As := [_]) (q := (RX6, TX6, 7)) dX10_parse_33 lk_RX10_120 mk_X6_copyFrom mi_X6_copyFrom me_X6_copyFrom ⟨by decide, by decide⟩ rfl rfl (Nat.le_of_ble_eq_true rfl) rfl rfl ⟨rfl, rfl⟩ ⟨Nat.zero_le _, Nat.zero_le _⟩ (x_Pcopy (σ := ρ1) (a := 3) (b := 13) (n := L.length) rfl rfl (by decide) q3.1 hc3) (fun ρ2 hC => ?_)
    refine pw_aload_n dX10_parse_36 rfl ?_
    refine lp_getr 3 dX10_parse_37 fp_RX10_19.FL rfl rfl rfl ?_
    refine lp_geti dX10_parse_40 fp_RX10_124.FL rfl rfl ?_
    have hW := (pr_done q3 al).1
    have hlt : ∀ k, 121 ≤ k → alParse al L k = al k := fun k hk => by
      have := q3.1
      unfold alParse
      rw [if_neg (by omega), if_neg (by omega)]
    have hPi : PI ρ1 al N := by rw [hρ1]; exact ((hX1.2.1.fr f1 (by omega)).fr Fr.I0 (by omega)).fr Fr.I0 (by omega)
    have hP2 : PI ρ2 (alParse al L) L.length := by
      refine ⟨hW, ⟨hC.2.1.trans hc3, fun j hj => ?_⟩, fun v hv => ?_, fun v hv => ?_, fun v hv => ?_⟩
      · obtain ⟨c1, c2, c3, c4, c5, c6⟩ := hC.2.2 j hj
        obtain ⟨r1, r2, r3, r4, r5, r6⟩ := hPg.2 j hj
        exact ⟨c1.trans r1, c2.trans r2, c3.trans r3, c4.trans r4, c5.trans r5, c6.trans r6⟩
      · rw [hlt _ (by omega), hlt _ (by omega)]; exact (hPi.2.2.1.fr hC.1 (by omega)) v hv
      · rw [hlt _ (by omega)]; exact (hPi.2.2.2.1.fr hC.1 (by omega)) v hv
      · rw [hlt _ (by omega), hlt _ (by omega)]; exact hPi.2.2.2.2 v hv
    refine pw_iret rfl rfl dX10_parse_43 (Nat.zero_le _) (Nat.zero_le _) ⟨_, _, rfl, congrArg Value.int ((congrFun (hC.1 3 (by omega)).1 0).trans hc3), xi_new hX1 f1 f2 (by rw [← hρ1]; exact hC.1.mono (by omega) (by omega)) hP2⟩
end XRD
