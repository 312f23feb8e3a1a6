/-! WALKING A PROGRAM: pure -/
abbrev WS : Type := Nat × Nat × (Nat → Int32)
def wnext (al pt : Nat → Int32) (s : WS) : WS :=
  if kdA al s.1 = 4 then (s.1 + 1, s.2.1 + 1, upd s.2.2 s.2.1 (al (1 + 4 * s.1 + 1))) else
  if kdA al s.1 = 5 then (if 0 < s.2.2 (s.2.1 - 1) - 1 then ((pt s.1).toNatClampNeg + 1, s.2.1, upd s.2.2 (s.2.1 - 1) (s.2.2 (s.2.1 - 1) - 1)) else (s.1 + 1, s.2.1 - 1, upd s.2.2 (s.2.1 - 1) (s.2.2 (s.2.1 - 1) - 1)))
  else (s.1 + 1, s.2.1, s.2.2)
/-- the counts of the loops -/
def wfC (al : Nat → Int32) (N : Nat) : Prop := ∀ i, i < N → kdA al i = 4 → ∃ c, 1 ≤ c ∧ c ≤ 40 ∧ al (1 + 4 * i + 1) = nI c
def cnt40 (x : Int32) : Prop := ∃ c, 1 ≤ c ∧ c ≤ 40 ∧ x = nI c
def WInv (al : Nat → Int32) (N : Nat) (s : WS) : Prop := s.1 ≤ N ∧ s.2.1 = (lsc al s.1).1 ∧ (0 < (lsc al s.1).1 → cnt40 (s.2.2 0)) ∧ ((lsc al s.1).1 = 2 → cnt40 (s.2.2 1))
def tN (x : Int32) : Nat := x.toNatClampNeg
/-- how far it is to the end, at most -/
def wmu (al pt : Nat → Int32) (N : Nat) (s : WS) : Nat :=
  if (lsc al s.1).1 = 0 then 1600 * (N - s.1) else
  if (lsc al s.1).1 = 1 then 1600 * (N - tN (pt (tN (lsc al s.1).2.2)) - 1) + 40 * ((tN (s.2.2 0) - 1) * (tN (pt (tN (lsc al s.1).2.2)) - tN (lsc al s.1).2.2) + (tN (pt (tN (lsc al s.1).2.2)) - s.1) + 1)
  else 1600 * (N - tN (pt (tN (lsc al s.1).2.1)) - 1) + 40 * ((tN (s.2.2 0) - 1) * (tN (pt (tN (lsc al s.1).2.1)) - tN (lsc al s.1).2.1) + (tN (pt (tN (lsc al s.1).2.1)) - tN (pt (tN (lsc al s.1).2.2)) - 1) + 1) + ((tN (s.2.2 1) - 1) * (tN (pt (tN (lsc al s.1).2.2)) - tN (lsc al s.1).2.2) + (tN (pt (tN (lsc al s.1).2.2)) - s.1) + 1)
theorem mul40 {c L : Nat} (h : c ≤ 40) : c * L ≤ 40 * L := Nat.mul_le_mul_right L h
theorem mulp {c L : Nat} (h : 1 ≤ c) : (c - 1) * L + L = c * L := by
  obtain ⟨d, rfl⟩ : ∃ d, c = d + 1 := ⟨c - 1, by omega⟩
  rw [Nat.add_sub_cancel, Nat.add_mul, Nat.one_mul]
theorem lsc_4 {al : Nat → Int32} {i : Nat} (k4 : kdA al i = 4) : lsc al (i + 1) = ((lsc al i).1 + 1, (lsc al i).2.2, nI i) := by
  have k5 : ¬ kdA al i = 5 := by rw [k4]; decide
  show lend al i (lmid al i (lsc al i)) = _
  unfold lend lmid
  rw [if_pos k4, if_neg k5]
theorem lsc_5 {al : Nat → Int32} {i : Nat} (k5 : kdA al i = 5) : lsc al (i + 1) = ((lsc al i).1 - 1, -1, if (lsc al i).1 = 2 then (lsc al i).2.1 else -1) := by
  have k4 : ¬ kdA al i = 4 := by rw [k5]; decide
  show lend al i (lmid al i (lsc al i)) = _
  unfold lend lmid
  rw [if_neg k4, if_pos k5]
theorem lsc_p {al : Nat → Int32} {i : Nat} (k4 : ¬ kdA al i = 4) (k5 : ¬ kdA al i = 5) : lsc al (i + 1) = lsc al i := by
  show lend al i (lmid al i (lsc al i)) = _
  unfold lend lmid
  rw [if_neg k4, if_neg k5]
theorem cnt40_t {c : Nat} (h : c ≤ 40) : tN (nI c) = c := nI_clamp (by omega)
theorem nI_m1 {c : Nat} (h : 1 ≤ c) : nI c - 1 = nI (c - 1) := by
  have := nI_pred (c - 1)
  rw [show c - 1 + 1 = c by omega] at this
  exact this
theorem nI_p1 {c : Nat} (h : c < 1000) : (0 : Int32) < nI c ↔ 0 < c := by
  rw [show (0 : Int32) = nI 0 from rfl]; exact nI_ltI (by decide) (by omega)
theorem upd_s {f : Nat → Int32} {k : Nat} {x : Int32} : upd f k x k = x := by unfold upd; rw [if_pos rfl]
theorem upd_n {f : Nat → Int32} {k j : Nat} {x : Int32} (h : j ≠ k) : upd f k x j = f j := by unfold upd; rw [if_neg h]
section WK
variable {al f0 : Nat → Int32} {N : Nat}
theorem wnext_ok (h : wfL al N) (hN : N ≤ 30) (hc : wfC al N) {s : WS} (hI : WInv al N s) (hs : s.1 < N) : WInv al N (wnext al (lpt al f0 N) s) ∧ wmu al (lpt al f0 N) N (wnext al (lpt al f0 N) s) < wmu al (lpt al f0 N) N s := by
  obtain ⟨w, op, lf⟩ := s
  obtain ⟨i1, i2, i3, i4⟩ := hI
  dsimp only at i1 i2 i3 i4 hs
  have hinv := lsc_inv h w (by omega)
  generalize hpt : lpt al f0 N = pt
  by_cases k4 : kdA al w = 4
  · have hd := (h.1 w hs).1 k4
    obtain ⟨c, c1, c2, c3⟩ := hc w hs k4
    have en : wnext al pt (w, op, lf) = (w + 1, op + 1, upd lf op (nI c)) := by unfold wnext; dsimp only; rw [if_pos k4, c3]
    have e1 := lsc_4 k4
    have hd1 : 0 < (lsc al (w + 1)).1 := by rw [e1]; simp
    obtain ⟨b, e, s1, s2, s3, s4, s5, s6, s7, s8, s9, s10, s11, s12⟩ := lsc_span h hN f0 (show w + 1 ≤ N by omega) hd1
    rw [e1] at s4 s9 s10 s12
    have hbw : b = w := (nI_inj (by omega) (by omega) s4).symm
    subst hbw
    rw [hpt] at s7 s8 s12
    rw [en]
    rcases (show (lsc al b).1 = 0 ∨ (lsc al b).1 = 1 by omega) with q | q
    · refine ⟨⟨by dsimp only; omega, by dsimp only; rw [e1, i2], fun _ => ?_, fun z => ?_⟩, ?_⟩
      · dsimp only; rw [i2, q, upd_s]; exact ⟨c, c1, c2, rfl⟩
      · dsimp only at z; rw [e1, q] at z; simp at z
      · unfold wmu
        dsimp only
        rw [e1, q, i2, q, if_neg (by simp), if_pos rfl, if_pos rfl, upd_s, cnt40_t c2]
        dsimp only
        rw [show tN (nI b) = b from nI_clamp (by omega), s7, show tN (nI e) = e from nI_clamp (by omega)]
        have m1 := mul40 (L := e - b) c2
        have m2 := mulp (L := e - b) c1
        omega
    · obtain ⟨a, z, t1, t2, t3, t4, t5, t6, t7, t8, t9, t10, t11⟩ := s12 (by simp; exact q)
      dsimp only at t4
      have i30 := i3 (by omega)
      refine ⟨⟨by dsimp only; omega, by dsimp only; rw [e1, i2], fun _ => ?_, fun z => ?_⟩, ?_⟩
      · dsimp only; rw [i2, q, upd_n (by decide)]; exact i30
      · dsimp only; rw [i2, q, upd_s]; exact ⟨c, c1, c2, rfl⟩
      · unfold wmu
        dsimp only
        rw [e1, q, i2, q, if_neg (by simp), if_neg (by simp), if_neg (by simp), if_pos rfl, upd_s, upd_n (by decide), cnt40_t c2]
        dsimp only
        rw [t4, show tN (nI a) = a from nI_clamp (by omega), t9, show tN (nI z) = z from nI_clamp (by omega), show tN (nI b) = b from nI_clamp (by omega), s7, show tN (nI e) = e from nI_clamp (by omega)]
        have m1 := mul40 (L := e - b) c2
        have m2 := mulp (L := e - b) c1
        generalize (tN (lf 0) - 1) * (z - a) = K
        omega
  · by_cases k5 : kdA al w = 5
    · have hd := (h.1 w hs).2 k5
      obtain ⟨b, e, s1, s2, s3, s4, s5, s6, s7, s8, s9, s10, s11, s12⟩ := lsc_span h hN f0 (show w ≤ N by omega) hd
      have hp := lpt_end h hN f0 N (Nat.le_refl _) w hs k5 b s1 s4
      have hew : e = w := nI_inj (by omega) (by omega) (s7.symm.trans hp.2)
      subst hew
      rw [hpt] at s7 s8 s12
      have eb1 := lsc_4 s5
      have e1 := lsc_5 k5
      rcases (show (lsc al e).1 = 1 ∨ (lsc al e).1 = 2 by omega) with q | q
      · obtain ⟨c, c1, c2, c3⟩ := i3 (by omega)
        have hop : op - 1 = 0 := by omega
        by_cases hc2 : 2 ≤ c
        · have en : wnext al pt (e, op, lf) = (b + 1, op, upd lf 0 (nI (c - 1))) := by
            unfold wnext
            dsimp only
            rw [if_neg k4, if_pos k5, hop, if_pos (by rw [c3, nI_m1 c1]; exact (nI_p1 (by omega)).mpr (by omega)), c3, nI_m1 c1, s8, nI_clamp (by omega)]
          rw [en]
          have hb0 : (lsc al b).1 = 0 := by omega
          refine ⟨⟨by dsimp only; omega, by dsimp only; rw [eb1, i2, q, hb0], fun _ => ?_, fun z => ?_⟩, ?_⟩
          · dsimp only; rw [upd_s]; exact ⟨c - 1, by omega, by omega, rfl⟩
          · dsimp only at z; rw [eb1, hb0] at z; simp at z
          · unfold wmu
            dsimp only
            rw [eb1, hb0, q, if_neg (by simp), if_pos rfl, if_neg (by simp), if_pos rfl, upd_s, c3, cnt40_t c2, cnt40_t (show c - 1 ≤ 40 by omega)]
            dsimp only
            rw [show tN (nI b) = b from nI_clamp (by omega), s4, show tN (nI b) = b from nI_clamp (by omega), s7, show tN (nI e) = e from nI_clamp (by omega)]
            have m2 := mulp (c := c - 1) (L := e - b) (by omega)
            omega
        · have hc1 : c = 1 := by omega
          subst hc1
          have en : wnext al pt (e, op, lf) = (e + 1, 0, upd lf 0 (nI 0)) := by
            unfold wnext
            dsimp only
            rw [if_neg k4, if_pos k5, hop, if_neg (by rw [c3, nI_m1 (by omega), nI_p1 (by omega)]; omega), c3, nI_m1 (by omega)]
          rw [en]
          have ed : (lsc al (e + 1)).1 = 0 := by rw [e1, q]
          refine ⟨⟨by dsimp only; omega, ed.symm, fun z => ?_, fun z => ?_⟩, ?_⟩
          · dsimp only at z; omega
          · dsimp only at z; omega
          · unfold wmu
            dsimp only
            rw [ed, if_pos rfl, q, if_neg (by simp), if_pos rfl, s4, show tN (nI b) = b from nI_clamp (by omega), s7, show tN (nI e) = e from nI_clamp (by omega)]
            generalize (tN (lf 0) - 1) * (e - b) = K
            omega
      · obtain ⟨a, z, t1, t2, t3, t4, t5, t6, t7, t8, t9, t10, t11⟩ := s12 q
        obtain ⟨c, c1, c2, c3⟩ := i4 q
        have i30 := i3 (by omega)
        have hop : op - 1 = 1 := by omega
        by_cases hc2 : 2 ≤ c
        · have en : wnext al pt (e, op, lf) = (b + 1, op, upd lf 1 (nI (c - 1))) := by
            unfold wnext
            dsimp only
            rw [if_neg k4, if_pos k5, hop, if_pos (by rw [c3, nI_m1 c1]; exact (nI_p1 (by omega)).mpr (by omega)), c3, nI_m1 c1, s8, nI_clamp (by omega)]
          rw [en]
          have hb0 : (lsc al b).1 = 1 := by omega
          refine ⟨⟨by dsimp only; omega, by dsimp only; rw [eb1, i2, q, hb0], fun _ => ?_, fun z => ?_⟩, ?_⟩
          · dsimp only; rw [upd_n (by decide)]; exact i30
          · dsimp only; rw [upd_s]; exact ⟨c - 1, by omega, by omega, rfl⟩
          · unfold wmu
            dsimp only
            rw [eb1, hb0, q, if_neg (by simp), if_neg (by simp), if_neg (by simp), if_neg (by simp), upd_s, upd_n (by decide), c3, cnt40_t c2, cnt40_t (show c - 1 ≤ 40 by omega)]
            dsimp only
            rw [t5, t4, show tN (nI a) = a from nI_clamp (by omega), t9, show tN (nI z) = z from nI_clamp (by omega), show tN (nI b) = b from nI_clamp (by omega), s4, show tN (nI b) = b from nI_clamp (by omega), s7, show tN (nI e) = e from nI_clamp (by omega)]
            have m2 := mulp (c := c - 1) (L := e - b) (by omega)
            generalize (tN (lf 0) - 1) * (z - a) = K
            omega
        · have hc1 : c = 1 := by omega
          subst hc1
          have en : wnext al pt (e, op, lf) = (e + 1, 1, upd lf 1 (nI 0)) := by
            unfold wnext
            dsimp only
            rw [if_neg k4, if_pos k5, hop, if_neg (by rw [c3, nI_m1 (by omega), nI_p1 (by omega)]; omega), c3, nI_m1 (by omega)]
          rw [en]
          have ed : lsc al (e + 1) = (1, -1, nI a) := by rw [e1, q, if_pos rfl, t4]
          refine ⟨⟨by dsimp only; omega, by dsimp only; rw [ed], fun _ => ?_, fun z => ?_⟩, ?_⟩
          · dsimp only; rw [upd_n (by decide)]; exact i30
          · dsimp only at z; rw [ed] at z; simp at z
          · unfold wmu
            dsimp only
            rw [ed, q, if_neg (by simp), if_pos rfl, if_neg (by simp), if_neg (by simp), upd_n (by decide), s4, t4, show tN (nI a) = a from nI_clamp (by omega), t9, show tN (nI z) = z from nI_clamp (by omega), show tN (nI b) = b from nI_clamp (by omega), s7, show tN (nI e) = e from nI_clamp (by omega)]
            generalize (tN (lf 0) - 1) * (z - a) = K
            generalize (tN (lf 1) - 1) * (e - b) = K2
            omega
    · have en : wnext al pt (w, op, lf) = (w + 1, op, lf) := by unfold wnext; dsimp only; rw [if_neg k4, if_neg k5]
      rw [en]
      have e1 := lsc_p k4 k5
      refine ⟨⟨by dsimp only; omega, by dsimp only; rw [e1]; exact i2, by dsimp only; rw [e1]; exact i3, by dsimp only; rw [e1]; exact i4⟩, ?_⟩
      by_cases hd : (lsc al w).1 = 0
      · unfold wmu
        dsimp only
        rw [e1, if_pos hd, if_pos hd]
        omega
      · obtain ⟨b, e, s1, s2, s3, s4, s5, s6, s7, s8, s9, s10, s11, s12⟩ := lsc_span h hN f0 (show w ≤ N by omega) (by omega)
        rw [hpt] at s7 s8 s12
        have hwe : w < e := by
          rcases Nat.lt_or_ge w e with q | q
          · exact q
          · exact absurd (show kdA al w = 5 by rw [show w = e by omega]; exact s6) k5
        unfold wmu
        dsimp only
        rw [e1, if_neg hd, if_neg hd]
        by_cases hd1 : (lsc al w).1 = 1
        · rw [if_pos hd1, if_pos hd1, s4, show tN (nI b) = b from nI_clamp (by omega), s7, show tN (nI e) = e from nI_clamp (by omega)]
          generalize (tN (lf 0) - 1) * (e - b) = K
          omega
        · rw [if_neg hd1, if_neg hd1, s4, show tN (nI b) = b from nI_clamp (by omega), s7, show tN (nI e) = e from nI_clamp (by omega)]
          generalize (tN (lf 1) - 1) * (e - b) = K2
          generalize 1600 * (N - tN (pt (tN (lsc al w).2.1)) - 1) + 40 * ((tN (lf 0) - 1) * (tN (pt (tN (lsc al w).2.1)) - tN (lsc al w).2.1) + (tN (pt (tN (lsc al w).2.1)) - e - 1) + 1) = K3
          omega
end WK
