def rdAll (t : Nat → Int32) (tl : Nat) : Nat → Nat → List Quad → Nat → Nat ⊕ List Quad
  | 0, p, _, _ => .inl p
  | n + 1, p, L, d => if p < tl then
      (match (rdNext t tl p L.length d).2 with
      | none => .inl (rdNext t tl p L.length d).1
      | some (q, d') => rdAll t tl n (rdNext t tl p L.length d).1 (L ++ [q]) d')
    else if 0 < d then .inl tl else .inr L
def qF (q : Quad) (c : Nat) : Int32 := if c = 0 then q.1 else if c = 1 then q.2.1 else if c = 2 then q.2.2.1 else q.2.2.2
def qAt (L : List Quad) (j : Nat) : Int32 := qF (L.getD (j / 4) (0, 0, 0, 0)) (j % 4)
def alParse (al : Nat → Int32) (L : List Quad) : Nat → Int32 := fun k => if k = 0 then nI L.length else if k < 1 + 4 * L.length then qAt L (k - 1) else al k
/-- what lives on between calls of the reference -/
def pers (σ : St) : Int32 × Int32 × Int32 × (Nat → Int32) × (Nat → Int32) × (Nat → Int32) := (σ.1 0 2, σ.1 0 3, σ.1 0 5, σ.2.2.1 1, σ.2.2.1 2, σ.2.2.1 3)
def parseSt (σ : St) (m : Nat) (x : Nat ⊕ List Quad) : St := match x with
  | .inl _ => sI σ 0 3 0
  | .inr L => sA (mSave (sI σ 0 3 0) m) 1 (alParse (σ.2.2.1 1) L)
def parseRes (x : Nat ⊕ List Quad) : Int32 := match x with
  | .inl e => -10 - nI e
  | .inr L => nI L.length
theorem rdNext_ok {t : Nat → Int32} {tl p r d p' d' : Nat} {q : Quad} (h : rdNext t tl p r d = (p', some (q, d'))) (hr : r ≤ 30) (hd : d ≤ 2) : p < p' ∧ p' ≤ tl ∧ r < 30 ∧ d' ≤ 2 := by
  unfold rdNext at h
  by_cases h30 : r = 30
  · rw [if_pos h30] at h; simp at h
  rw [if_neg h30] at h
  by_cases hL : isLet (ch t tl p) = true
  · rw [if_pos hL] at h
    unfold rdAsg at h
    have hq := rdOpd_le (t := t) (tl := tl) (p := p + 2)
    have hq2 := rdOpd_le (t := t) (tl := tl) (p := (rdOpd t tl (p + 2)).1 + 1)
    generalize rdOpd t tl (p + 2) = q1 at h hq hq2
    generalize rdOpd t tl (q1.1 + 1) = q2 at h hq2
    by_cases h61 : ch t tl (p + 1) = 61
    · rw [if_pos h61] at h
      by_cases hn : q1.2 = -1
      · rw [if_pos hn] at h; simp at h
      rw [if_neg hn] at h
      by_cases hk : kindC (ch t tl q1.1) = 0
      · rw [if_pos hk] at h
        by_cases hs : ch t tl q1.1 = 59
        · rw [if_pos hs] at h
          have := ch_lt hs (by decide)
          simp at h
          omega
        · rw [if_neg hs] at h; simp at h
      · rw [if_neg hk] at h
        by_cases hn2 : q2.2 = -1
        · rw [if_pos hn2] at h; simp at h
        rw [if_neg hn2] at h
        by_cases hs : ch t tl q2.1 = 59
        · rw [if_pos hs] at h
          have := ch_lt hs (by decide)
          simp at h
          omega
        · rw [if_neg hs] at h; simp at h
    · rw [if_neg h61] at h; simp at h
  rw [if_neg hL] at h
  by_cases hF : isFig (ch t tl p) = true
  · rw [if_pos hF] at h
    by_cases h2 : d < 2
    · rw [if_pos h2] at h
      unfold rdCnt at h
      have hle := rdNum_le (t := t) (tl := tl) 2 p 0
      generalize rdNum t tl 2 p 0 = q1 at h hle
      by_cases h1 : isFig (ch t tl q1.1) = true
      · rw [if_pos h1] at h; simp at h
      rw [if_neg h1] at h
      by_cases h3 : ¬ (1 ≤ q1.2 ∧ q1.2 ≤ 40)
      · rw [if_pos h3] at h; simp at h
      rw [if_neg h3] at h
      by_cases hs : ch t tl q1.1 = 123
      · rw [if_pos hs] at h
        have := ch_lt hs (by decide)
        simp at h
        omega
      · rw [if_neg hs] at h; simp at h
    · rw [if_neg h2] at h; simp at h
  rw [if_neg hF] at h
  by_cases hb : ch t tl p = 125 ∧ d ≠ 0
  · rw [if_pos hb] at h
    have := ch_lt hb.1 (by decide)
    simp at h
    omega
  · rw [if_neg hb] at h; simp at h
theorem qAt_app {L : List Quad} {q : Quad} {j : Nat} : qAt (L ++ [q]) j = if j < 4 * L.length then qAt L j else if j < 4 * L.length + 4 then qF q (j - 4 * L.length) else qAt (L ++ [q]) j := by
  by_cases h1 : j < 4 * L.length
  · rw [if_pos h1]; unfold qAt; congr 1
    rw [List.getD_eq_getElem?_getD, List.getD_eq_getElem?_getD, List.getElem?_append_left (by omega)]
  · rw [if_neg h1]
    by_cases h2 : j < 4 * L.length + 4
    · rw [if_pos h2]; unfold qAt
      have e1 : j / 4 = L.length := by omega
      have e2 : j % 4 = j - 4 * L.length := by omega
      rw [e1, e2, List.getD_eq_getElem?_getD]
      simp
    · rw [if_neg h2]
theorem takes_rd {σ : St} {r : Nat} {a b c d : Int32} (j : Nat) : (mTakes σ r a b c d).2.2.1 4 j = if j < 4 * r then σ.2.2.1 4 j else if j < 4 * r + 4 then qF (a, b, c, d) (j - 4 * r) else σ.2.2.1 4 j := by
  show upd (upd (upd (upd (σ.2.2.1 4) (4 * r) a) (4 * r + 1) b) (4 * r + 2) c) (4 * r + 3) d j = _
  unfold upd qF
  by_cases h1 : j < 4 * r
  · rw [if_pos h1, if_neg (by omega), if_neg (by omega), if_neg (by omega), if_neg (by omega)]
  · rw [if_neg h1]
    by_cases h2 : j < 4 * r + 4
    · rw [if_pos h2]
      rcases (show j = 4 * r ∨ j = 4 * r + 1 ∨ j = 4 * r + 2 ∨ j = 4 * r + 3 by omega) with e | e | e | e
      · subst e; rw [if_neg (by omega), if_neg (by omega), if_neg (by omega), if_pos rfl, if_pos (by omega)]
      · subst e; rw [if_neg (by omega), if_neg (by omega), if_pos rfl, if_neg (by omega), if_pos (by omega)]
      · subst e; rw [if_neg (by omega), if_pos rfl, if_neg (by omega), if_neg (by omega), if_pos (by omega)]
      · subst e; rw [if_pos rfl, if_neg (by omega), if_neg (by omega), if_neg (by omega)]
    · rw [if_neg h2, if_neg (by omega), if_neg (by omega), if_neg (by omega), if_neg (by omega)]
section P5
variable {l : Launch} {G : cxG} {adr : Nat → Nat} {Lf Rt : va_W} {σ : St}
theorem parse_copy {sz : Nat} {w0 : va_W} {fin : OC → Prop} (τ : St) (L : List Quad) (hL : L.length ≤ 30) (h8 : τ.1 0 8 = nI L.length) (hrd : ∀ j, j < 4 * L.length → τ.2.2.1 4 j = qAt L j) (al : Nat → Int32) (hal : τ.2.2.1 1 = al)
    (hf : fin (.inl (some (.int (nI L.length)), wp G adr LM Lf Rt (sA τ 1 (alParse al L))))) :
    ∀ (r i : Nat), i + r = 4 * L.length → PW l G mX11_parse w0 sz fin 77 [(0, .ref (adr 0)), (1, .int (nI i))] [] 0 0 (wp G adr LM Lf Rt (sA τ 1 (fun k => if k = 0 then nI L.length else if k < 1 + i then qAt L (k - 1) else al k))) := by
  have e4 : (4 : Int32) * nI L.length = nI (4 * L.length) := by rw [show (4 : Int32) = nI 4 from rfl, pk_mul]
  intro r
  induction r with
  | zero =>
    intro i hi
    have hi : i = 4 * L.length := by omega
    subst hi
    refine pw_iload_n dX11_parse_77 rfl ?_
    refine pw_iconst (v := 4) dX11_parse_78 rfl ?_
    refine pw_aload_n dX11_parse_79 rfl ?_
    refine lp_geti dX11_parse_80 fp_RX11_120.FL rfl rfl ?_
    refine pw_top (nI L.length) h8 ?_
    refine pw_imul dX11_parse_83 ?_
    rw [e4]
    refine pw_icmp_ge 107 dX11_parse_84 (by decide) (fun c_84 => ?_) (fun c_84 => absurd (Int32.le_refl _) c_84)
    refine pw_aload_n dX11_parse_107 rfl ?_
    refine lp_geti dX11_parse_108 fp_RX11_120.FL rfl rfl ?_
    refine pw_top (nI L.length) h8 ?_
    exact pw_iret rfl rfl dX11_parse_111 (Nat.zero_le _) (Nat.zero_le _) hf
  | succ r ih =>
    intro i hi
    have e1 : (1 : Int32) + nI i = nI (1 + i) := by rw [show (1 : Int32) = nI 1 from rfl, nI_add]
    refine pw_iload_n dX11_parse_77 rfl ?_
    refine pw_iconst (v := 4) dX11_parse_78 rfl ?_
    refine pw_aload_n dX11_parse_79 rfl ?_
    refine lp_geti dX11_parse_80 fp_RX11_120.FL rfl rfl ?_
    refine pw_top (nI L.length) h8 ?_
    refine pw_imul dX11_parse_83 ?_
    rw [e4]
    refine pw_icmp_ge 107 dX11_parse_84 (by decide) (fun c_84 => absurd c_84 (nI_ge (by omega) (by omega))) (fun c_84 => ?_)
    refine pw_aload_n dX11_parse_87 rfl ?_
    refine lp_getr 1 dX11_parse_88 fp_RX11_7.FL rfl rfl rfl ?_
    refine pw_iconst (v := 1) dX11_parse_91 rfl ?_
    refine pw_iload_n dX11_parse_92 rfl ?_
    refine pw_iadd dX11_parse_93 ?_
    refine pw_aload_n dX11_parse_94 rfl ?_
    refine lp_getr 4 dX11_parse_95 fp_RX11_19.FL rfl rfl rfl ?_
    refine pw_iload_n dX11_parse_98 rfl ?_
    refine lp_iald dX11_parse_99 rfl (vp_in_nI (by omega) (by decide)) ?_
    refine pw_top (qAt L i) ?_ ?_
    · show τ.2.2.1 4 (nI i).toNatClampNeg = _
      rw [nI_clamp (by omega), hrd i (by omega)]
    refine lp_iast dX11_parse_100 rfl (by rw [e1]; exact vp_in_nI (by omega) (by decide)) ?_
    refine pw_iinc dX11_parse_101 rfl (by decide) ?_
    refine pw_goto (tgt := 77) dX11_parse_104 (by decide) ?_
    refine pw_lk [(0, .ref (adr 0)), (1, .int (nI (i + 1)))] ⟨rfl, congrArg (fun x => some (Value.int x)) (nI_1 i), trivial⟩ (pw_st ?_ (ih (i + 1) (by omega)))
    rw [sA_sA]
    congr 1
    funext q
    rw [e1, nI_clamp (show 1 + i < 2 ^ 31 by omega)]
    show upd (fun k => if k = 0 then nI L.length else if k < 1 + i then qAt L (k - 1) else al k) (1 + i) (qAt L i) q = _
    unfold upd
    by_cases hq : q = 1 + i
    · subst hq; rw [if_pos rfl, if_neg (by omega), if_pos (by omega), Nat.add_sub_cancel_left]
    · rw [if_neg hq]
      dsimp only
      by_cases h0 : q = 0
      · rw [if_pos h0, if_pos h0]
      · rw [if_neg h0, if_neg h0]
        by_cases h2 : q < 1 + i
        · rw [if_pos h2, if_pos (by omega)]
        · rw [if_neg h2, if_neg (by omega)]
theorem parse_loop {sz : Nat} {w0 : va_W} {tl m : Nat} (ht : tl ≤ 200) (hm : m ≤ 4) (t : Nat → Int32) :
    ∀ (n p d : Nat) (L : List Quad) (τ : St), tl < n + p → p ≤ tl → d ≤ 2 → L.length ≤ 30 → τ.1 0 5 = nI tl → τ.2.2.1 3 = t → τ.1 0 2 = nI m → τ.1 0 8 = nI L.length → τ.1 0 9 = nI d → (∀ j, j < 4 * L.length → τ.2.2.1 4 j = qAt L j) → pers τ = pers (sI σ 0 3 0) →
      PW l G mX11_parse w0 sz (fun o => ∃ σ', o = .inl (some (.int (parseRes (rdAll t tl n p L d))), wp G adr LM Lf Rt σ') ∧ pers σ' = pers (parseSt σ m (rdAll t tl n p L d))) 20 [(0, .ref (adr 0))] [] 0 0 (wp G adr LM Lf Rt (sI τ 0 6 (nI p))) := by
  intro n
  induction n with
  | zero => intro p d L τ h; omega
  | succ n ih =>
    intro p d L τ hn hp hd hL h5 h3 h2 h8 h9 hrd hpers
    subst h3
    unfold rdAll
    by_cases hlt : p < tl
    · rw [if_pos hlt]
      cases hx : rdNext (τ.2.2.1 3) tl p L.length d with
      | mk p' o =>
      cases o with
      | none =>
        have hs := r_readsNext (l := l) (G := G) (adr := adr) (Lf := Lf) (Rt := Rt) h5 ht h8 hL h9 hd (show p ≤ 200 by omega)
        rw [hx] at hs
        have e : nxtSt τ L.length (p', none) = sI τ 0 6 (nI p') := rfl
        rw [e] at hs
        refine pw_aload_n dX11_parse_20 rfl ?_
        refine lp_geti dX11_parse_21 fp_RX11_105.FL rfl rfl ?_
        refine pw_aload_n dX11_parse_24 rfl ?_
        refine lp_geti dX11_parse_25 fp_RX11_98.FL rfl rfl ?_
        refine pw_icmp_ge 46 dX11_parse_28 (by decide) (fun c_28 => absurd c_28 (by show ¬ (sI τ 0 6 (nI p)).1 0 5 ≤ nI p; show ¬ τ.1 0 5 ≤ nI p; rw [h5]; exact nI_ge hlt (by omega))) (fun c_28 => ?_)
        refine pw_aload_n dX11_parse_31 rfl ?_
        refine lp_cV1 (mi' := mX11_readsNext) (As := []) (q := (RX11, TX11, 33)) dX11_parse_32 lk_RX11_148 mk_X11_readsNext mi_X11_readsNext me_X11_readsNext ⟨by decide, by decide⟩ rfl rfl (Nat.le_of_ble_eq_true rfl) rfl rfl ⟨rfl, rfl⟩ ⟨Nat.zero_le _, Nat.zero_le _⟩ hs ?_
        refine pw_if_ne 20 dX11_parse_35 (by decide) (fun c_35 => absurd c_35 (fun z => z rfl)) (fun c_35 => ?_)
        refine pw_bipush (v := -10) dX11_parse_38 rfl ?_
        refine pw_aload_n dX11_parse_40 rfl ?_
        refine lp_geti dX11_parse_41 fp_RX11_105.FL rfl rfl ?_
        refine pw_isub dX11_parse_44 ?_
        exact pw_iret rfl rfl dX11_parse_45 (Nat.zero_le _) (Nat.zero_le _) ⟨_, rfl, hpers⟩
      | some x =>
        obtain ⟨⟨qa, qb, qc, qd⟩, d'⟩ := x
        have hok := rdNext_ok hx hL hd
        have hs := r_readsNext (l := l) (G := G) (adr := adr) (Lf := Lf) (Rt := Rt) h5 ht h8 hL h9 hd (show p ≤ 200 by omega)
        rw [hx] at hs
        have e : nxtSt τ L.length (p', some ((qa, qb, qc, qd), d')) = sI (sI (mTakes τ L.length qa qb qc qd) 0 9 (nI d')) 0 6 (nI p') := rfl
        rw [e] at hs
        dsimp only
        refine pw_aload_n dX11_parse_20 rfl ?_
        refine lp_geti dX11_parse_21 fp_RX11_105.FL rfl rfl ?_
        refine pw_aload_n dX11_parse_24 rfl ?_
        refine lp_geti dX11_parse_25 fp_RX11_98.FL rfl rfl ?_
        refine pw_icmp_ge 46 dX11_parse_28 (by decide) (fun c_28 => absurd c_28 (by show ¬ (sI τ 0 6 (nI p)).1 0 5 ≤ nI p; show ¬ τ.1 0 5 ≤ nI p; rw [h5]; exact nI_ge hlt (by omega))) (fun c_28 => ?_)
        refine pw_aload_n dX11_parse_31 rfl ?_
        refine lp_cV1 (mi' := mX11_readsNext) (As := []) (q := (RX11, TX11, 33)) dX11_parse_32 lk_RX11_148 mk_X11_readsNext mi_X11_readsNext me_X11_readsNext ⟨by decide, by decide⟩ rfl rfl (Nat.le_of_ble_eq_true rfl) rfl rfl ⟨rfl, rfl⟩ ⟨Nat.zero_le _, Nat.zero_le _⟩ hs ?_
        refine pw_if_ne 20 dX11_parse_35 (by decide) (fun c_35 => ?_) (fun c_35 => absurd (show (1 : Int32) = 0 from c_35) (by decide))
        refine ih p' d' (L ++ [(qa, qb, qc, qd)]) (sI (mTakes τ L.length qa qb qc qd) 0 9 (nI d')) (by omega) (by omega) (by omega) (by simp; omega) h5 rfl h2 (by simp; rfl) rfl ?_ hpers
        intro j hj
        rw [List.length_append, List.length_singleton] at hj
        show (mTakes τ L.length qa qb qc qd).2.2.1 4 j = _
        rw [takes_rd, qAt_app]
        by_cases h1 : j < 4 * L.length
        · rw [if_pos h1, if_pos h1]; exact hrd j h1
        · rw [if_neg h1, if_neg h1, if_pos (by omega), if_pos (by omega)]
    · rw [if_neg hlt]
      have hpt : p = tl := by omega
      subst hpt
      have c28 : (sI τ 0 6 (nI p)).1 0 5 ≤ nI p := by show τ.1 0 5 ≤ nI p; rw [h5]; exact Int32.le_refl _
      by_cases h0 : 0 < d
      · rw [if_pos h0]
        refine pw_aload_n dX11_parse_20 rfl ?_
        refine lp_geti dX11_parse_21 fp_RX11_105.FL rfl rfl ?_
        refine pw_aload_n dX11_parse_24 rfl ?_
        refine lp_geti dX11_parse_25 fp_RX11_98.FL rfl rfl ?_
        refine pw_icmp_ge 46 dX11_parse_28 (by decide) (fun c_28 => ?_) (fun c_28 => absurd c28 c_28)
        refine pw_aload_n dX11_parse_46 rfl ?_
        refine lp_geti dX11_parse_47 fp_RX11_139.FL rfl rfl ?_
        refine pw_if_le 61 dX11_parse_50 (by decide) (fun c_50 => absurd c_50 (by show ¬ τ.1 0 9 ≤ 0; rw [h9]; exact nI_nle h0 (by omega))) (fun c_50 => ?_)
        refine pw_bipush (v := -10) dX11_parse_53 rfl ?_
        refine pw_aload_n dX11_parse_55 rfl ?_
        refine lp_geti dX11_parse_56 fp_RX11_98.FL rfl rfl ?_
        refine pw_isub dX11_parse_59 ?_
        exact pw_iret rfl rfl dX11_parse_60 (Nat.zero_le _) (Nat.zero_le _) ⟨sI τ 0 6 (nI p), by show (Sum.inl (some (.int (-10 - τ.1 0 5)), _) : OC) = _; rw [h5]; rfl, hpers⟩
      · rw [if_neg h0]
        have hd0 : d = 0 := by omega
        subst hd0
        have h2Q : (sI τ 0 6 (nI p)).1 0 2 = nI m := h2
        refine pw_aload_n dX11_parse_20 rfl ?_
        refine lp_geti dX11_parse_21 fp_RX11_105.FL rfl rfl ?_
        refine pw_aload_n dX11_parse_24 rfl ?_
        refine lp_geti dX11_parse_25 fp_RX11_98.FL rfl rfl ?_
        refine pw_icmp_ge 46 dX11_parse_28 (by decide) (fun c_28 => ?_) (fun c_28 => absurd c28 c_28)
        refine pw_aload_n dX11_parse_46 rfl ?_
        refine lp_geti dX11_parse_47 fp_RX11_139.FL rfl rfl ?_
        refine pw_if_le 61 dX11_parse_50 (by decide) (fun c_50 => ?_) (fun c_50 => absurd (by show τ.1 0 9 ≤ 0; rw [h9]; exact Int32.le_refl _) c_50)
        refine pw_aload_n dX11_parse_61 rfl ?_
        refine lp_cV0 (mi' := mX11_save) (As := []) (q := (RX11, TX11, 33)) dX11_parse_62 lk_RX11_151 mk_X11_save mi_X11_save me_X11_save ⟨by decide, by decide⟩ rfl rfl (Nat.le_of_ble_eq_true rfl) rfl rfl ⟨rfl, rfl⟩ ⟨Nat.zero_le _, Nat.zero_le _⟩ (r_save m hm h2Q) ?_
        refine pw_aload_n dX11_parse_65 rfl ?_
        refine lp_getr 1 dX11_parse_66 fp_RX11_7.FL rfl rfl rfl ?_
        refine pw_iconst (v := 0) dX11_parse_69 rfl ?_
        refine pw_aload_n dX11_parse_70 rfl ?_
        refine lp_geti dX11_parse_71 fp_RX11_120.FL rfl rfl ?_
        refine pw_top (nI L.length) h8 ?_
        refine lp_iast dX11_parse_74 rfl (vp_in_nI (n := 0) (by decide) (by decide)) ?_
        refine pw_iconst (v := 0) dX11_parse_75 rfl ?_
        refine pw_istore_n dX11_parse_76 (by decide) ?_
        refine pw_lk [(0, .ref (adr 0)), (1, .int (nI 0))] ⟨rfl, rfl, trivial⟩ (pw_st ?_ (parse_copy (mSave (sI τ 0 6 (nI p)) m) L hL h8 hrd (τ.2.2.1 1) rfl ?_ (4 * L.length) 0 (by omega)))
        · congr 1
          funext k
          show upd (τ.2.2.1 1) 0 (nI L.length) k = _
          unfold upd
          by_cases hk : k = 0
          · rw [if_pos hk, if_pos hk]
          · rw [if_neg hk, if_neg hk, if_neg (by omega)]
        · refine ⟨_, rfl, ?_⟩
          have p1 : τ.1 0 3 = 0 := congrArg (fun x => x.2.1) hpers
          have p2 : τ.1 0 5 = σ.1 0 5 := congrArg (fun x => x.2.2.1) hpers
          have p3 : τ.2.2.1 1 = σ.2.2.1 1 := congrArg (fun x => x.2.2.2.1) hpers
          have p4 : τ.2.2.1 2 = σ.2.2.1 2 := congrArg (fun x => x.2.2.2.2.1) hpers
          have p5 : τ.2.2.1 3 = σ.2.2.1 3 := congrArg (fun x => x.2.2.2.2.2) hpers
          show (nI (mSaveM m + 1), τ.1 0 3, τ.1 0 5, alParse (τ.2.2.1 1) L, mSaveF (τ.2.2.1 1) (τ.2.2.1 2) m, τ.2.2.1 3) = (nI (mSaveM m + 1), 0, σ.1 0 5, alParse (σ.2.2.1 1) L, mSaveF (σ.2.2.1 1) (σ.2.2.1 2) m, σ.2.2.1 3)
          rw [p1, p2, p3, p4, p5]
theorem r_parse {tl m : Nat} (ht : tl ≤ 200) (hm : m ≤ 4) (h5 : σ.1 0 5 = nI tl) (h2 : σ.1 0 2 = nI m) : SpR1 l G mX11_parse [.ref (adr 0)] adr LM Lf Rt σ (fun v σ' => v = .int (parseRes (rdAll (σ.2.2.1 3) tl (tl + 1) 0 [] 0)) ∧ pers σ' = pers (parseSt σ m (rdAll (σ.2.2.1 3) tl (tl + 1) 0 [] 0))) := by
  have hfin : ∀ sz, PW l G mX11_parse (wp G adr LM Lf Rt σ) sz (fun o => ∃ σ', o = .inl (some (.int (parseRes (rdAll (σ.2.2.1 3) tl (tl + 1) 0 [] 0))), wp G adr LM Lf Rt σ') ∧ pers σ' = pers (parseSt σ m (rdAll (σ.2.2.1 3) tl (tl + 1) 0 [] 0))) 0 (lv_args 0 [.ref (adr 0)]) [] 0 0 (wp G adr LM Lf Rt σ) := by
    intro sz
    refine pw_aload_n dX11_parse_0 rfl ?_
    refine pw_iconst (v := 0) dX11_parse_1 rfl ?_
    refine lp_puti dX11_parse_2 fp_RX11_75 rfl rfl rfl rfl ?_
    refine pw_aload_n dX11_parse_5 rfl ?_
    refine pw_iconst (v := 0) dX11_parse_6 rfl ?_
    refine lp_puti dX11_parse_7 fp_RX11_105 rfl rfl rfl rfl ?_
    refine pw_aload_n dX11_parse_10 rfl ?_
    refine pw_iconst (v := 0) dX11_parse_11 rfl ?_
    refine lp_puti dX11_parse_12 fp_RX11_120 rfl rfl rfl rfl ?_
    refine pw_aload_n dX11_parse_15 rfl ?_
    refine pw_iconst (v := 0) dX11_parse_16 rfl ?_
    refine lp_puti dX11_parse_17 fp_RX11_139 rfl rfl rfl rfl ?_
    refine pw_lk [(0, .ref (adr 0))] ⟨rfl, trivial⟩ (pw_st ?_ (parse_loop (σ := σ) ht hm (σ.2.2.1 3) (tl + 1) 0 0 [] (sI (sI (sI σ 0 3 0) 0 8 0) 0 9 0) (by omega) (by omega) (by omega) (by simp) h5 rfl h2 rfl rfl (fun j hj => absurd hj (by simp)) rfl))
    rw [sI_comm _ 0 6 8 _ _ (by decide), sI_comm _ 0 6 9 _ _ (by decide)]
    rfl
  have hs : Spec l G mX11_parse [.ref (adr 0)] (wp G adr LM Lf Rt σ) (fun o => ∃ σ', o = .inl (some (.int (parseRes (rdAll (σ.2.2.1 3) tl (tl + 1) 0 [] 0))), wp G adr LM Lf Rt σ') ∧ pers σ' = pers (parseSt σ m (rdAll (σ.2.2.1 3) tl (tl + 1) 0 [] 0))) := spec_of (by decide) (Nat.le_of_ble_eq_true rfl) hfin
  have e : (fun o : OC => ∃ σ', o = .inl (some (.int (parseRes (rdAll (σ.2.2.1 3) tl (tl + 1) 0 [] 0))), wp G adr LM Lf Rt σ') ∧ pers σ' = pers (parseSt σ m (rdAll (σ.2.2.1 3) tl (tl + 1) 0 [] 0))) = (fun o => ∃ v σ', o = .inl (some v, wp G adr LM Lf Rt σ') ∧ (v = .int (parseRes (rdAll (σ.2.2.1 3) tl (tl + 1) 0 [] 0)) ∧ pers σ' = pers (parseSt σ m (rdAll (σ.2.2.1 3) tl (tl + 1) 0 [] 0)))) := by
    funext o
    apply propext
    constructor
    · rintro ⟨σ', h1, h2⟩; exact ⟨_, σ', h1, rfl, h2⟩
    · rintro ⟨v, σ', h1, h2, h3⟩; subst h2; exact ⟨σ', h1, h3⟩
  unfold SpR1
  rw [← e]
  exact hs
end P5
