/-! READING A TEXT: pure -/
def ch (t : Nat → Int32) (tl p : Nat) : Int32 := if p < tl then t p else -1
def rdNum (t : Nat → Int32) (tl : Nat) : Nat → Nat → Int32 → Nat × Int32
  | 0, p, v => (p, v)
  | k + 1, p, v => if isFig (ch t tl p) = true then rdNum t tl k (p + 1) (10 * v + t p - 48) else (p, v)
def rdOpd (t : Nat → Int32) (tl p : Nat) : Nat × Int32 :=
  if isLet (ch t tl p) = true then (p + 1, t p - 97) else
    if (rdNum t tl 4 (if ch t tl p = 95 then p + 1 else p) 0).1 = (if ch t tl p = 95 then p + 1 else p) ∨ isFig (ch t tl (rdNum t tl 4 (if ch t tl p = 95 then p + 1 else p) 0).1) = true then ((rdNum t tl 4 (if ch t tl p = 95 then p + 1 else p) 0).1, -1)
    else ((rdNum t tl 4 (if ch t tl p = 95 then p + 1 else p) 0).1, 20000 + (if ch t tl p = 95 then -(rdNum t tl 4 (if ch t tl p = 95 then p + 1 else p) 0).2 else (rdNum t tl 4 (if ch t tl p = 95 then p + 1 else p) 0).2))
theorem isFig_lt {t : Nat → Int32} {tl p : Nat} (h : isFig (ch t tl p) = true) : p < tl := by
  by_cases hp : p < tl
  · exact hp
  · unfold ch at h; rw [if_neg hp] at h; exact absurd h (by decide)
theorem isLet_lt {t : Nat → Int32} {tl p : Nat} (h : isLet (ch t tl p) = true) : p < tl := by
  by_cases hp : p < tl
  · exact hp
  · unfold ch at h; rw [if_neg hp] at h; exact absurd h (by decide)
theorem ch_lt {t : Nat → Int32} {tl p : Nat} {c : Int32} (h : ch t tl p = c) (hc : c ≠ -1) : p < tl := by
  by_cases hp : p < tl
  · exact hp
  · unfold ch at h; rw [if_neg hp] at h; exact absurd h.symm hc
theorem rdNum_le {t : Nat → Int32} {tl : Nat} : ∀ (k p : Nat) (v : Int32), p ≤ (rdNum t tl k p v).1 ∧ ((rdNum t tl k p v).1 ≤ tl ∨ (rdNum t tl k p v).1 = p) ∧ (rdNum t tl k p v).1 ≤ p + k := by
  intro k
  induction k with
  | zero => intro p v; exact ⟨Nat.le_refl _, Or.inr rfl, Nat.le_refl _⟩
  | succ k ih =>
    intro p v
    unfold rdNum
    by_cases h : isFig (ch t tl p) = true
    · rw [if_pos h]
      obtain ⟨h1, h2, h3⟩ := ih (p + 1) (10 * v + t p - 48)
      have := isFig_lt h
      refine ⟨by omega, ?_, by omega⟩
      rcases h2 with h2 | h2
      · exact Or.inl h2
      · exact Or.inl (by omega)
    · rw [if_neg h]; exact ⟨Nat.le_refl _, Or.inr rfl, Nat.le_add_right _ _⟩
theorem hereP {σ : St} {tl p : Nat} (h5 : σ.1 0 5 = nI tl) (ht : tl ≤ 200) (hp : p < 1000) : okH (sI σ 0 6 (nI p)) ∧ mHere (sI σ 0 6 (nI p)) = ch (σ.2.2.1 3) tl p := by
  have e5 : (sI σ 0 6 (nI p)).1 0 5 = nI tl := h5
  have e6 : (sI σ 0 6 (nI p)).1 0 6 = nI p := rfl
  have e3 : (sI σ 0 6 (nI p)).2.2.1 3 = σ.2.2.1 3 := rfl
  refine ⟨?_, ?_⟩
  · unfold okH
    rw [e5, e6]
    intro h
    exact vp_in_nI (by have := (nI_ltI (by omega) (by omega)).mp h; omega) (by decide)
  · unfold mHere ch
    rw [e5, e6, e3, nI_clamp (by omega)]
    by_cases h : p < tl
    · rw [if_pos h, if_pos ((nI_ltI (by omega) (by omega)).mpr h)]
    · rw [if_neg h, if_neg (fun q => h ((nI_ltI (by omega) (by omega)).mp q))]
theorem pl_step (σ : St) (p : Nat) : sI (sI σ 0 6 (nI p)) 0 6 ((sI σ 0 6 (nI p)).1 0 6 + 1) = sI σ 0 6 (nI (p + 1)) := by
  show sI (sI σ 0 6 (nI p)) 0 6 (nI p + 1) = _
  rw [sI_sI, nI_1]
section P1
variable {l : Launch} {G : cxG} {adr : Nat → Nat} {Lf Rt : va_W} {σ : St}
theorem p_here {tl p : Nat} (h5 : σ.1 0 5 = nI tl) (ht : tl ≤ 200) (hp : p < 1000) : SpecD l G mX11_here [.ref (adr 0)] (wp G adr LM Lf Rt (sI σ 0 6 (nI p))) (some (.int (ch (σ.2.2.1 3) tl p))) (wp G adr LM Lf Rt (sI σ 0 6 (nI p))) := by
  rw [← (hereP h5 ht hp).2]; exact r_here (hereP h5 ht hp).1
theorem p_isFigure {tl p : Nat} (h5 : σ.1 0 5 = nI tl) (ht : tl ≤ 200) (hp : p < 1000) : SpecD l G mX11_isFigure [.ref (adr 0)] (wp G adr LM Lf Rt (sI σ 0 6 (nI p))) (some (.int (bI (isFig (ch (σ.2.2.1 3) tl p))))) (wp G adr LM Lf Rt (sI σ 0 6 (nI p))) := by
  rw [← (hereP h5 ht hp).2]; exact r_isFigure (hereP h5 ht hp).1
theorem p_isLetter {tl p : Nat} (h5 : σ.1 0 5 = nI tl) (ht : tl ≤ 200) (hp : p < 1000) : SpecD l G mX11_isLetter [.ref (adr 0)] (wp G adr LM Lf Rt (sI σ 0 6 (nI p))) (some (.int (bI (isLet (ch (σ.2.2.1 3) tl p))))) (wp G adr LM Lf Rt (sI σ 0 6 (nI p))) := by
  rw [← (hereP h5 ht hp).2]; exact r_isLetter (hereP h5 ht hp).1
theorem opd_loop {sz : Nat} {w0 : va_W} {fin : OC → Prop} {tl : Nat} (h5 : σ.1 0 5 = nI tl) (ht : tl ≤ 200) (z : Bool) (p0 : Nat) :
    ∀ (k f p : Nat) (v : Int32), f + k = 4 → p = p0 + f → p ≤ 300 + f →
      (∀ f', (rdNum (σ.2.2.1 3) tl k p v).1 = p0 + f' → PW l G mX11_operandRead w0 sz fin 115 [(0, .ref (adr 0)), (1, .int (bI z)), (2, .int (nI f')), (3, .int (rdNum (σ.2.2.1 3) tl k p v).2)] [] 0 0 (wp G adr LM Lf Rt (sI σ 0 6 (nI (rdNum (σ.2.2.1 3) tl k p v).1)))) →
      PW l G mX11_operandRead w0 sz fin 69 [(0, .ref (adr 0)), (1, .int (bI z)), (2, .int (nI f)), (3, .int v)] [] 0 0 (wp G adr LM Lf Rt (sI σ 0 6 (nI p))) := by
  intro k
  induction k with
  | zero =>
    intro f p v hf hp hp2 kk
    have hf4 : f = 4 := by omega
    subst hf4
    refine pw_aload_n dX11_operandRead_69 rfl ?_
    refine lp_cV1 (mi' := mX11_isFigure) (As := []) (q := (RX11, TX11, 33)) dX11_operandRead_70 lk_RX11_127 mk_X11_isFigure mi_X11_isFigure me_X11_isFigure ⟨by decide, by decide⟩ rfl rfl (Nat.le_of_ble_eq_true rfl) rfl rfl ⟨rfl, rfl⟩ ⟨Nat.zero_le _, Nat.zero_le _⟩ (p_isFigure h5 ht (by omega)) ?_
    refine pw_if_eq 115 dX11_operandRead_73 (by decide) (fun c_73 => ?_) (fun c_73 => ?_)
    · exact kk 4 hp
    · refine pw_iload_n dX11_operandRead_76 rfl ?_
      refine pw_iconst (v := 4) dX11_operandRead_77 rfl ?_
      refine pw_icmp_ge 115 dX11_operandRead_78 (by decide) (fun c_78 => ?_) (fun c_78 => absurd (nI_le (Nat.le_refl 4) (by decide)) c_78)
      exact kk 4 hp
  | succ k ih =>
    intro f p v hf hp hp2 kk
    by_cases hd : isFig (ch (σ.2.2.1 3) tl p) = true
    · have hlt := isFig_lt hd
      have er : rdNum (σ.2.2.1 3) tl (k + 1) p v = rdNum (σ.2.2.1 3) tl k (p + 1) (10 * v + σ.2.2.1 3 p - 48) := by rw [rdNum, if_pos hd]
      refine pw_aload_n dX11_operandRead_69 rfl ?_
      refine lp_cV1 (mi' := mX11_isFigure) (As := []) (q := (RX11, TX11, 33)) dX11_operandRead_70 lk_RX11_127 mk_X11_isFigure mi_X11_isFigure me_X11_isFigure ⟨by decide, by decide⟩ rfl rfl (Nat.le_of_ble_eq_true rfl) rfl rfl ⟨rfl, rfl⟩ ⟨Nat.zero_le _, Nat.zero_le _⟩ (p_isFigure h5 ht (by omega)) ?_
      refine pw_if_eq 115 dX11_operandRead_73 (by decide) (fun c_73 => absurd c_73 (by rw [bI_1 hd]; decide)) (fun c_73 => ?_)
      refine pw_iload_n dX11_operandRead_76 rfl ?_
      refine pw_iconst (v := 4) dX11_operandRead_77 rfl ?_
      refine pw_icmp_ge 115 dX11_operandRead_78 (by decide) (fun c_78 => absurd c_78 (nI_ge (a := f) (b := 4) (by omega) (by decide))) (fun c_78 => ?_)
      refine pw_bipush (v := 10) dX11_operandRead_81 rfl ?_
      refine pw_iload_n dX11_operandRead_83 rfl ?_
      refine pw_imul dX11_operandRead_84 ?_
      refine pw_aload_n dX11_operandRead_85 rfl ?_
      refine lp_getr 3 dX11_operandRead_86 fp_RX11_16.FL rfl rfl rfl ?_
      refine pw_aload_n dX11_operandRead_89 rfl ?_
      refine lp_geti dX11_operandRead_90 fp_RX11_105.FL rfl rfl ?_
      refine lp_iald dX11_operandRead_93 rfl (vp_in_nI (by omega) (by decide)) ?_
      refine pw_iadd dX11_operandRead_94 ?_
      refine pw_bipush (v := 48) dX11_operandRead_95 rfl ?_
      refine pw_isub dX11_operandRead_97 ?_
      refine pw_istore_n dX11_operandRead_98 (by decide) ?_
      refine pw_aload_n dX11_operandRead_99 rfl ?_
      refine pw_dup dX11_operandRead_100 rfl ?_
      refine lp_geti dX11_operandRead_101 fp_RX11_105.FL rfl rfl ?_
      refine pw_iconst (v := 1) dX11_operandRead_104 rfl ?_
      refine pw_iadd dX11_operandRead_105 ?_
      refine lp_puti dX11_operandRead_106 fp_RX11_105 rfl rfl rfl rfl ?_
      rw [pl_step]
      refine pw_iinc dX11_operandRead_109 rfl (by decide) ?_
      refine pw_goto (tgt := 69) dX11_operandRead_112 (by decide) ?_
      refine pw_lk [(0, .ref (adr 0)), (1, .int (bI z)), (2, .int (nI (f + 1))), (3, .int (10 * v + σ.2.2.1 3 p - 48))] ⟨rfl, rfl, congrArg (fun x => some (Value.int x)) (nI_1 f), ?_, trivial⟩ (ih (f + 1) (p + 1) _ (by omega) (by omega) (by omega) ?_)
      · show some (Value.int (10 * v + σ.2.2.1 3 (nI p).toNatClampNeg - 48)) = _
        rw [nI_clamp (by omega)]
      · rw [← er]; exact kk
    · have er : rdNum (σ.2.2.1 3) tl (k + 1) p v = (p, v) := by rw [rdNum, if_neg hd]
      rw [er] at kk
      refine pw_aload_n dX11_operandRead_69 rfl ?_
      refine lp_cV1 (mi' := mX11_isFigure) (As := []) (q := (RX11, TX11, 33)) dX11_operandRead_70 lk_RX11_127 mk_X11_isFigure mi_X11_isFigure me_X11_isFigure ⟨by decide, by decide⟩ rfl rfl (Nat.le_of_ble_eq_true rfl) rfl rfl ⟨rfl, rfl⟩ ⟨Nat.zero_le _, Nat.zero_le _⟩ (p_isFigure h5 ht (by omega)) ?_
      refine pw_if_eq 115 dX11_operandRead_73 (by decide) (fun c_73 => ?_) (fun c_73 => absurd (bI_f (Bool.not_eq_true _ ▸ hd)) c_73)
      exact kk f hp
end P1
