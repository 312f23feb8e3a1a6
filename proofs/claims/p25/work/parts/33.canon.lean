/-! WHAT IS LEFT OVER DOESN'T MATTER -/
theorem lpt_any {al : Nat → Int32} {N : Nat} (h : wfL al N) (hN : N ≤ 30) (f0 f1 : Nat → Int32) : ∀ n, n ≤ N → ∀ i, i < n → lpt al f0 n i = lpt al f1 n i := by
  intro n
  induction n with
  | zero => intro _ i hi; omega
  | succ n ih =>
    intro hn i hi
    by_cases k5 : kdA al n = 5
    · have e0 : lpt al f0 (n + 1) = upd (upd (upd (lpt al f0 n) n (-1)) n (lsc al n).2.2) (lsc al n).2.2.toNatClampNeg (nI n) := by rw [lpt, if_pos k5]
      have e1 : lpt al f1 (n + 1) = upd (upd (upd (lpt al f1 n) n (-1)) n (lsc al n).2.2) (lsc al n).2.2.toNatClampNeg (nI n) := by rw [lpt, if_pos k5]
      rw [e0, e1]
      unfold upd
      by_cases h1 : i = (lsc al n).2.2.toNatClampNeg
      · rw [if_pos h1, if_pos h1]
      · rw [if_neg h1, if_neg h1]
        by_cases h2 : i = n
        · rw [if_pos h2, if_pos h2]
        · rw [if_neg h2, if_neg h2, if_neg h2, if_neg h2]
          exact ih (by omega) i (by omega)
    · have e0 : lpt al f0 (n + 1) = upd (lpt al f0 n) n (-1) := by rw [lpt, if_neg k5]
      have e1 : lpt al f1 (n + 1) = upd (lpt al f1 n) n (-1) := by rw [lpt, if_neg k5]
      rw [e0, e1]
      unfold upd
      by_cases h2 : i = n
      · rw [if_pos h2, if_pos h2]
      · rw [if_neg h2, if_neg h2]
        exact ih (by omega) i (by omega)
def RelW (s s' : WS) : Prop := s.1 = s'.1 ∧ s.2.1 = s'.2.1 ∧ ∀ j, j < s.2.1 → s.2.2 j = s'.2.2 j
theorem relW_next {al pt pt' : Nat → Int32} {N : Nat} (hpt : ∀ i, i < N → pt i = pt' i) {s s' : WS} (h : RelW s s') (hs : s.1 < N) (hop : kdA al s.1 = 5 → 0 < s.2.1) : RelW (wnext al pt s) (wnext al pt' s') := by
  obtain ⟨w, op, lf⟩ := s
  obtain ⟨w', op', lf'⟩ := s'
  obtain ⟨h1, h2, h3⟩ := h
  dsimp only at h1 h2 h3 hs hop
  subst h1; subst h2
  unfold wnext
  dsimp only
  by_cases k4 : kdA al w = 4
  · rw [if_pos k4, if_pos k4]
    refine ⟨rfl, rfl, fun j hj => ?_⟩
    dsimp only at hj ⊢
    unfold upd
    by_cases hjo : j = op
    · rw [if_pos hjo, if_pos hjo]
    · rw [if_neg hjo, if_neg hjo]; exact h3 j (by omega)
  · rw [if_neg k4, if_neg k4]
    by_cases k5 : kdA al w = 5
    · rw [if_pos k5, if_pos k5]
      have ho := hop k5
      have e1 := h3 (op - 1) (by omega)
      have e2 := hpt w hs
      simp only [e1, e2]
      split
      · refine ⟨rfl, rfl, fun j hj => ?_⟩
        dsimp only at hj ⊢
        unfold upd
        by_cases hjo : j = op - 1
        · rw [if_pos hjo, if_pos hjo]
        · rw [if_neg hjo, if_neg hjo]; exact h3 j hj
      · refine ⟨rfl, rfl, fun j hj => ?_⟩
        dsimp only at hj ⊢
        unfold upd
        rw [if_neg (by omega), if_neg (by omega)]
        exact h3 j (by omega)
    · rw [if_neg k5, if_neg k5]
      exact ⟨rfl, rfl, h3⟩
theorem vOf_eq {v v' : Nat → Int64} (h : ∀ j, j < 8 → v j = v' j) {x : Int32} (hx : okOp x) : vOf v x = vOf v' x := by
  unfold vOf
  by_cases h8 : x < 8
  · rw [if_pos h8, if_pos h8]
    rcases hx with ⟨w, h1, h2⟩ | h2
    · rw [h2, show tN (nI w) = w from nI_clamp (by omega)]; exact h w h1
    · exact absurd h8 h2
  · rw [if_neg h8, if_neg h8]
def RelN (x y : AN) : Prop := RelW x.1 y.1 ∧ (∀ j, j < 8 → x.2.1 j = y.2.1 j) ∧ (∀ j, j < 8 → x.2.2.1 j = y.2.2.1 j) ∧ (∀ i, i < 30 → x.2.2.2.1 i = y.2.2.2.1 i) ∧ (∀ i, i < 30 → x.2.2.2.2.1 i = y.2.2.2.2.1 i) ∧ (∀ i, i < 30 → ¬ x.2.2.2.1 i = 0 → x.2.2.2.2.2.1 i = y.2.2.2.2.2.1 i ∧ x.2.2.2.2.2.2.1 i = y.2.2.2.2.2.2.1 i ∧ x.2.2.2.2.2.2.2.1 i = y.2.2.2.2.2.2.2.1 i ∧ x.2.2.2.2.2.2.2.2.1 i = y.2.2.2.2.2.2.2.2.1 i) ∧ x.2.2.2.2.2.2.2.2.2 = y.2.2.2.2.2.2.2.2.2 ∧ (∀ i, i < 30 → ¬ x.2.2.2.2.1 i = 0 → ¬ x.2.2.2.1 i = 0)
theorem rngS_rel {al : Nat → Int32} {i : Nat} (hi : i < 30) {x y : AN} (h : RelN x y) (h2 : okOp (al (1 + 4 * i + 2))) (h3 : ¬ kdA al i = 0 → okOp (al (1 + 4 * i + 3))) : (rngS al i x).1 = (rngS al i y).1 ∧ RelN (rngS al i x).2 (rngS al i y).2 := by
  obtain ⟨s, lo, hi', rc, fa, nf, ns, le, gr, cp⟩ := x
  obtain ⟨s2, lo2, hi2, rc2, fa2, nf2, ns2, le2, gr2, cp2⟩ := y
  obtain ⟨r1, r2, r3, r4, r5, r6, r7, r8⟩ := h
  dsimp only at r1 r2 r3 r4 r5 r6 r7 r8
  have ea := vOf_eq r2 h2
  have eb := vOf_eq r3 h2
  have ec : rgC al lo i = rgC al lo2 i := by
    unfold rgC
    by_cases k0 : kdA al i = 0
    · rw [if_pos k0, if_pos k0]
    · rw [if_neg k0, if_neg k0]; exact vOf_eq r2 (h3 k0)
  have ed : rgC al hi' i = rgC al hi2 i := by
    unfold rgC
    by_cases k0 : kdA al i = 0
    · rw [if_pos k0, if_pos k0]
    · rw [if_neg k0, if_neg k0]; exact vOf_eq r3 (h3 k0)
  have eF : rgF al lo hi' i = rgF al lo2 hi2 i := by unfold rgF; rw [ea, eb, ec, ed]
  have eT : rgT al lo hi' i = rgT al lo2 hi2 i := by unfold rgT; rw [ea, eb, ec, ed]
  unfold rngS
  dsimp only
  rw [eF, eT, ea, ec]
  generalize rgF al lo2 hi2 i = F
  generalize rgT al lo2 hi2 i = T
  generalize vOf lo2 (al (1 + 4 * i + 2)) = A
  generalize rgC al lo2 i = C
  refine ⟨rfl, r1, ?_, ?_, ?_, ?_, ?_, r7, ?_⟩
  · intro j hj
    dsimp only
    split
    · unfold vp_updL; split
      · rfl
      · exact r2 j hj
    · exact r2 j hj
  · intro j hj
    dsimp only
    split
    · unfold vp_updL; split
      · rfl
      · exact r3 j hj
    · exact r3 j hj
  · intro j hj
    dsimp only
    unfold upd; split
    · rfl
    · exact r4 j hj
  · intro j hj
    dsimp only
    unfold upd; split
    · rename_i hji; subst hji; simp only [r4 j hj, r5 j hj]
    · exact r5 j hj
  · intro j hj hn
    dsimp only at hn ⊢
    unfold upd vp_updL
    unfold upd at hn
    by_cases hji : j = i
    · subst hji
      rw [if_pos rfl, if_pos rfl, if_pos rfl, if_pos rfl, if_pos rfl, if_pos rfl, if_pos rfl, if_pos rfl]
      by_cases hr : rc j = 0
      · have hr2 : rc2 j = 0 := by rw [← r4 j hj]; exact hr
        refine ⟨by simp [hr, hr2], by simp [hr, hr2], by rw [if_pos hr, if_pos hr2], by rw [if_pos hr, if_pos hr2]⟩
      · have hr2 : ¬ rc2 j = 0 := by rw [← r4 j hj]; exact hr
        obtain ⟨g1, g2, g3, g4⟩ := r6 j hj hr
        refine ⟨by simp [hr, hr2, g1], by simp [hr, hr2, g2], by rw [if_neg hr, if_neg hr2, g3], by rw [if_neg hr, if_neg hr2, g4]⟩
    · rw [if_neg hji] at hn
      rw [if_neg hji, if_neg hji, if_neg hji, if_neg hji, if_neg hji, if_neg hji, if_neg hji, if_neg hji]
      exact r6 j hj hn
  · intro j hj hn
    dsimp only at hn ⊢
    unfold upd at hn ⊢
    by_cases hji : j = i
    · rw [if_pos hji]; decide
    · rw [if_neg hji] at hn ⊢; exact r8 j hj hn
theorem aIter_rel {al pt pt' : Nat → Int32} {N : Nat} (hP : wfP al N) (hpt : ∀ i, i < N → pt i = pt' i) {f0 : Nat → Int32} (hp0 : pt = lpt al f0 N) : ∀ (n : Nat) (x y : AN), WInv al N x.1 → RelN x y → RelN (aIter al pt N n x) (aIter al pt' N n y) := by
  intro n
  induction n with
  | zero => intro x y _ h; exact h
  | succ n ih =>
    intro x y hI h
    unfold aIter
    have h1 := h.1.1
    have h7 := h.2.2.2.2.2.2.1
    by_cases hc : x.1.1 < N ∧ ¬ x.2.2.2.2.2.2.2.2.2 = 0
    · rw [if_pos hc, if_pos (by rw [← h1, ← h7]; exact hc)]
      have hnx := (wnext_ok (f0 := f0) hP.2.2.1 hP.1 hP.2.2.2.1 hI hc.1).1
      rw [← hp0] at hnx
      refine ih _ _ hnx ?_
      have hw := relW_next (al := al) hpt h.1 hc.1 (fun k5 => by rw [hI.2.1]; exact (hP.2.2.1.1 x.1.1 hc.1).2 k5)
      have hw30 : x.1.1 < 30 := by have := hP.1; omega
      unfold aStep aMid
      rw [← h1]
      by_cases hl : 4 ≤ kdA al x.1.1
      · rw [if_pos hl, if_pos hl]
        exact ⟨hw, h.2.1, h.2.2.1, h.2.2.2.1, h.2.2.2.2.1, h.2.2.2.2.2.1, rfl, h.2.2.2.2.2.2.2⟩
      · rw [if_neg hl, if_neg hl]
        obtain ⟨-, g3, g4⟩ := hP.2.2.2.2.1 x.1.1 hc.1 hl
        obtain ⟨e1, e2⟩ := rngS_rel hw30 h g3 g4
        exact ⟨hw, e2.2.1, e2.2.2.1, e2.2.2.2.1, e2.2.2.2.2.1, e2.2.2.2.2.2.1, by dsimp only; rw [e1], e2.2.2.2.2.2.2.2⟩
    · rw [if_neg hc, if_neg (by rw [← h1, ← h7]; exact hc)]
      exact h
/-- the analysis of a program with its ranges, by themselves -/
def cPt (al : Nat → Int32) (N : Nat) : Nat → Int32 := lpt al (fun _ => -1) N
def cIni (al : Nat → Int32) : AN := ((0, 0, fun _ => 0), inL al, inH al, fun _ => 0, fun _ => 0, fun _ => 0, fun _ => 0, fun _ => 0, fun _ => 0, 1)
def cAna (al : Nat → Int32) (N : Nat) : AN := aIter al (cPt al N) N (1600 * N + 1) (cIni al)
theorem aFin_c {σ : St} {N : Nat} (hP : wfP (σ.2.2.1 1) N) : RelN (aFin σ N) (cAna (σ.2.2.1 1) N) := by
  refine aIter_rel hP (fun i hi => lpt_any hP.2.2.1 hP.1 _ _ N (Nat.le_refl _) i hi) rfl (1600 * N + 1) _ _ ⟨Nat.zero_le _, rfl, fun q => absurd q (Nat.lt_irrefl 0), fun q => absurd q (show ¬ (0 : Nat) = 2 by decide)⟩ ?_
  refine ⟨⟨rfl, rfl, fun j hj => absurd hj (Nat.not_lt_zero j)⟩, ?_, ?_, ?_, ?_, ?_, rfl, ?_⟩
  · intro j hj; show pfxL 8 _ _ j = _; unfold pfxL; rw [if_pos hj]; rfl
  · intro j hj; show pfxL 8 _ _ j = _; unfold pfxL; rw [if_pos hj]; rfl
  · intro j hj; show pfx 30 (fun _ => (0 : Int32)) (σ.2.2.1 11) j = 0; unfold pfx; rw [if_pos hj]
  · intro j hj; show pfx 30 (fun _ => (0 : Int32)) (σ.2.2.1 12) j = 0; unfold pfx; rw [if_pos hj]
  · intro j hj hn; exact absurd (show pfx 30 (fun _ => (0 : Int32)) (σ.2.2.1 11) j = 0 by unfold pfx; rw [if_pos hj]) hn
  · intro j hj hn; exact absurd (show pfx 30 (fun _ => (0 : Int32)) (σ.2.2.1 12) j = 0 by unfold pfx; rw [if_pos hj]) hn
