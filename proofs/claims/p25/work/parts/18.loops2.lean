theorem nI_inj {a b : Nat} (ha : a < 2 ^ 31) (hb : b < 2 ^ 31) (h : nI a = nI b) : a = b := (nI_eq ha hb).mp h
theorem nI_nm1 {a : Nat} (ha : a < 1000) : ¬ (-1 : Int32) = nI a := by
  intro h
  have h1 := congrArg Int32.toInt h
  rw [nI_toInt (by omega)] at h1
  have h2 : (-1 : Int32).toInt = -1 := by decide
  omega
section L2
variable {al : Nat → Int32} {N : Nat}
/-- a loop that has ended isn't open any more -/
theorem lsc_closed (h : wfL al N) (hN : N ≤ 30) {e b : Nat} (he : e < N) (k5 : kdA al e = 5) (hb : b < e) (hw : (lsc al e).2.2 = nI b) : ∀ j, e < j → j ≤ N → ¬ (lsc al j).2.2 = nI b ∧ ¬ (lsc al j).2.1 = nI b := by
  intro j
  induction j with
  | zero => intro hj; omega
  | succ j ih =>
    intro hj hjN
    have es : lsc al (j + 1) = lend al j (lmid al j (lsc al j)) := rfl
    rw [es]
    have nm : ¬ (-1 : Int32) = nI b := nI_nm1 (by omega)
    by_cases hje : j = e
    · subst hje
      have k4 : ¬ kdA al j = 4 := by rw [k5]; decide
      unfold lend lmid
      rw [if_neg k4, if_pos k5]
      refine ⟨?_, nm⟩
      dsimp only
      by_cases hd2 : (lsc al j).1 = 2
      · rw [if_pos hd2]
        obtain ⟨a, b', g1, g2, g3, g4, _⟩ := (lsc_inv h j (by omega)).2.2.2 hd2
        have : b' = b := nI_inj (by omega) (by omega) (g4.symm.trans hw)
        rw [g3]
        intro q
        have := nI_inj (by omega) (by omega) q
        omega
      · rw [if_neg hd2]; exact nm
    · obtain ⟨i1, i2⟩ := ih (by omega) (by omega)
      by_cases k4 : kdA al j = 4
      · have k5 : ¬ kdA al j = 5 := by rw [k4]; decide
        unfold lend lmid
        rw [if_pos k4, if_neg k5]
        refine ⟨fun q => ?_, i1⟩
        have := nI_inj (by omega) (by omega) q
        omega
      · by_cases k5 : kdA al j = 5
        · unfold lend lmid
          rw [if_neg k4, if_pos k5]
          refine ⟨?_, nm⟩
          dsimp only
          by_cases hd2 : (lsc al j).1 = 2
          · rw [if_pos hd2]; exact i2
          · rw [if_neg hd2]; exact nm
        · unfold lend lmid
          rw [if_neg k4, if_neg k5]
          exact ⟨i1, i2⟩
/-- what stands inside: the begin of the innermost loop that is open -/
theorem lsc_within (h : wfL al N) {i : Nat} (hi : i ≤ N) (hd : 0 < (lsc al i).1) : ∃ b, b < i ∧ (lsc al i).2.2 = nI b ∧ kdA al b = 4 ∧ (lsc al b).1 + 1 = (lsc al i).1 := by
  obtain ⟨h1, -, h3, h4⟩ := lsc_inv h i hi
  rcases (show (lsc al i).1 = 1 ∨ (lsc al i).1 = 2 by omega) with q | q
  · obtain ⟨-, b, g1, g2, g3, g4⟩ := h3 q
    exact ⟨b, g1, g2, g3, by omega⟩
  · obtain ⟨a, b, g1, g2, g3, g4, g5, g6, g7, g8, -⟩ := h4 q
    exact ⟨b, g2, g4, g6, by omega⟩
/-- the places of the ends and of their begins -/
theorem lpt_end (h : wfL al N) (hN : N ≤ 30) (f0 : Nat → Int32) : ∀ n, n ≤ N → ∀ e, e < n → kdA al e = 5 → ∀ b, b < e → (lsc al e).2.2 = nI b → lpt al f0 n e = nI b ∧ lpt al f0 n b = nI e := by
  intro n
  induction n with
  | zero => intro _ e he; omega
  | succ n ih =>
    intro hn e he k5 b hb hw
    by_cases hen : e = n
    · subst hen
      have ep : lpt al f0 (e + 1) = upd (upd (upd (lpt al f0 e) e (-1)) e (lsc al e).2.2) (lsc al e).2.2.toNatClampNeg (nI e) := by rw [lpt, if_pos k5]
      rw [ep, hw, nI_clamp (by omega)]
      unfold upd
      refine ⟨?_, by rw [if_pos rfl]⟩
      rw [if_neg (by omega), if_pos rfl]
    · obtain ⟨i1, i2⟩ := ih (by omega) e (by omega) k5 b hb hw
      by_cases kn : kdA al n = 5
      · have ep : lpt al f0 (n + 1) = upd (upd (upd (lpt al f0 n) n (-1)) n (lsc al n).2.2) (lsc al n).2.2.toNatClampNeg (nI n) := by rw [lpt, if_pos kn]
        have hd := (h.1 n (by omega)).2 kn
        obtain ⟨b', g1, g2, g3, -⟩ := lsc_within h (by omega) hd
        have hcl := (lsc_closed h hN (by omega) k5 hb hw n (by omega) (by omega)).1
        have hbb : ¬ b' = b := fun q => hcl (by rw [g2, q])
        have hbe : ¬ b' = e := fun q => by rw [q, k5] at g3; exact absurd g3 (by decide)
        rw [ep, g2, nI_clamp (by omega)]
        unfold upd
        rw [if_neg (fun q => hbe q.symm), if_neg (by omega), if_neg (by omega), if_neg (fun q => hbb q.symm), if_neg (by omega), if_neg (by omega)]
        exact ⟨i1, i2⟩
      · have ep : lpt al f0 (n + 1) = upd (lpt al f0 n) n (-1) := by rw [lpt, if_neg kn]
        rw [ep]
        unfold upd
        rw [if_neg (by omega), if_neg (by omega)]
        exact ⟨i1, i2⟩
/-- an open loop ends -/
theorem lsc_ends (h : wfL al N) : ∀ r i, i + r = N → (0 < (lsc al i).1 → ∃ e, i ≤ e ∧ e < N ∧ kdA al e = 5 ∧ (lsc al e).2.2 = (lsc al i).2.2 ∧ (lsc al e).1 = (lsc al i).1 ∧ ((lsc al i).1 = 2 → ∃ e0, e < e0 ∧ e0 < N ∧ kdA al e0 = 5 ∧ (lsc al e0).2.2 = (lsc al i).2.1 ∧ (lsc al e0).1 = 1)) := by
  intro r
  induction r with
  | zero => intro i hi hd; rw [show i = N by omega, h.2] at hd; omega
  | succ r ih =>
    intro i hi hd
    have ih1 := ih (i + 1) (by omega)
    have es : lsc al (i + 1) = lend al i (lmid al i (lsc al i)) := rfl
    rw [es] at ih1
    by_cases k5 : kdA al i = 5
    · have k4 : ¬ kdA al i = 4 := by rw [k5]; decide
      refine ⟨i, Nat.le_refl _, by omega, k5, rfl, rfl, fun hd2 => ?_⟩
      unfold lend lmid at ih1
      rw [if_neg k4, if_pos k5, hd2, if_pos rfl] at ih1
      obtain ⟨e, g1, g2, g3, g4, g5, -⟩ := ih1 (by simp)
      exact ⟨e, by omega, g2, g3, g4, g5⟩
    · by_cases k4 : kdA al i = 4
      · have hd1 := (h.1 i (by omega)).1 k4
        have hd1 : (lsc al i).1 = 1 := by omega
        unfold lend lmid at ih1
        rw [if_pos k4, if_neg k5, hd1] at ih1
        obtain ⟨e, g1, g2, g3, g4, g5, g6⟩ := ih1 (by simp)
        obtain ⟨e0, f1, f2, f3, f4, f5⟩ := g6 (by simp)
        exact ⟨e0, by omega, f2, f3, f4, by rw [f5, hd1], fun q => by omega⟩
      · unfold lend lmid at ih1
        rw [if_neg k4, if_neg k5] at ih1
        obtain ⟨e, g1, g2, g3, g4, g5, g6⟩ := ih1 hd
        exact ⟨e, by omega, g2, g3, g4, g5, g6⟩
/-- where the loops around a place begin and end -/
theorem lsc_span (h : wfL al N) (hN : N ≤ 30) (f0 : Nat → Int32) {i : Nat} (hi : i ≤ N) (hd : 0 < (lsc al i).1) : ∃ b e, b < i ∧ i ≤ e ∧ e < N ∧ (lsc al i).2.2 = nI b ∧ kdA al b = 4 ∧ kdA al e = 5 ∧ lpt al f0 N b = nI e ∧ lpt al f0 N e = nI b ∧ (lsc al b).1 + 1 = (lsc al i).1 ∧ (lsc al e).1 = (lsc al i).1 ∧ (lsc al e).2.2 = nI b ∧ ((lsc al i).1 = 2 → ∃ a c, a < b ∧ e < c ∧ c < N ∧ (lsc al i).2.1 = nI a ∧ (lsc al b).2.2 = nI a ∧ kdA al a = 4 ∧ (lsc al a).1 = 0 ∧ kdA al c = 5 ∧ lpt al f0 N a = nI c ∧ (lsc al c).1 = 1 ∧ (lsc al c).2.2 = nI a) := by
  obtain ⟨b, b1, b2, b3, b4⟩ := lsc_within h hi hd
  obtain ⟨e, e1, e2, e3, e4, e5, e6⟩ := lsc_ends h (N - i) i (by omega) hd
  have hp := lpt_end h hN f0 N (Nat.le_refl _) e e2 e3 b (by omega) (e4.trans b2)
  refine ⟨b, e, b1, e1, e2, b2, b3, e3, hp.2, hp.1, b4, e5, e4.trans b2, fun hd2 => ?_⟩
  obtain ⟨c, c1, c2, c3, c4, c5⟩ := e6 hd2
  obtain ⟨a, b', g1, g2, g3, g4, g5, g6, g7, g8, g9⟩ := (lsc_inv h i hi).2.2.2 hd2
  have hbb : b' = b := nI_inj (by omega) (by omega) (g4.symm.trans b2)
  subst hbb
  have hp2 := lpt_end h hN f0 N (Nat.le_refl _) c c2 c3 a (by omega) (c4.trans g3)
  exact ⟨a, c, g1, c1, c2, g3, g9, g5, g7, c3, hp2.2, c5, c4.trans g3⟩
end L2
