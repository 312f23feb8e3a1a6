/-! A PROGRAM WITHOUT ONE INSTRUCTION: pure -/
theorem lpt_none {al : Nat → Int32} {N : Nat} (h : wfL al N) (hN : N ≤ 30) (f0 : Nat → Int32) {i : Nat} (k4 : ¬ kdA al i = 4) (k5 : ¬ kdA al i = 5) : ∀ n, n ≤ N → i < n → lpt al f0 n i = -1 := by
  intro n
  induction n with
  | zero => intro _ hi; omega
  | succ n ih =>
    intro hn hi
    by_cases kn : kdA al n = 5
    · have hd := (h.1 n (by omega)).2 kn
      obtain ⟨b', g1, g2, g3, -⟩ := lsc_within h (by omega) hd
      have hbi : ¬ i = b' := fun q => k4 (by rw [q]; exact g3)
      have hni : ¬ i = n := fun q => k5 (by rw [q]; exact kn)
      rw [lpt, if_pos kn, g2, nI_clamp (by omega)]
      unfold upd
      rw [if_neg hbi, if_neg hni, if_neg hni]
      exact ih (by omega) (by omega)
    · rw [lpt, if_neg kn]
      unfold upd
      by_cases hni : i = n
      · rw [if_pos hni]
      · rw [if_neg hni]; exact ih (by omega) (by omega)
/-- positions behind i come one down -/
def shN (i b : Nat) : Nat := if i < b then b - 1 else b
def shI (i : Nat) (x : Int32) : Int32 := if nI i < x then x - 1 else x
theorem shI_n {i b : Nat} (hi : i < 1000) (hb : b < 1000) : shI i (nI b) = nI (shN i b) := by
  unfold shI shN
  by_cases h : i < b
  · rw [if_pos (nI_lt h (by omega)), if_pos h, nI_m1 (by omega)]
  · rw [if_neg (nI_nlt (by omega) (by omega)), if_neg h]
theorem shI_m {i : Nat} (hi : i < 1000) : shI i (-1) = -1 := by
  unfold shI
  rw [if_neg]
  rw [Int32.lt_iff_toInt_lt, nI_toInt (by omega), show (-1 : Int32).toInt = -1 from by decide]
  omega
def srcN (i j : Nat) : Nat := if j < i then j else j + 1
def alR (al : Nat → Int32) (i N : Nat) : Nat → Int32 := upd (alRem al i) 0 (nI (N - 1))
section RM
variable {al : Nat → Int32} {i N : Nat}
theorem alR_at (hi : i < N) (hN : N ≤ 30) {j c : Nat} (hj : j < N - 1) (hc : c < 4) : alR al i N (1 + 4 * j + c) = al (1 + 4 * srcN i j + c) := by
  unfold alR upd srcN
  rw [if_neg (by omega)]
  show (if 1 + 4 * i ≤ 1 + 4 * j + c ∧ 1 + 4 * j + c < 117 then al (1 + 4 * j + c + 4) else al (1 + 4 * j + c)) = _
  by_cases h : j < i
  · rw [if_pos h, if_neg (by omega)]
  · rw [if_neg h, if_pos ⟨by omega, by omega⟩]
    exact congrArg al (by omega)
theorem kdR (hi : i < N) (hN : N ≤ 30) {j : Nat} (hj : j < N - 1) : kdA (alR al i N) j = kdA al (srcN i j) := alR_at hi hN hj (show 0 < 4 by decide)
theorem lscR (h : wfL al N) (hi : i < N) (hN : N ≤ 30) (hl : ¬ 4 ≤ kdA al i) : ∀ j, j ≤ N - 1 → (j ≤ i → lsc (alR al i N) j = lsc al j) ∧ (i ≤ j → lsc (alR al i N) j = ((lsc al (j + 1)).1, shI i (lsc al (j + 1)).2.1, shI i (lsc al (j + 1)).2.2)) := by
  have k4i : ¬ kdA al i = 4 := fun q => hl (by rw [q]; decide)
  have k5i : ¬ kdA al i = 5 := fun q => hl (by rw [q]; decide)
  have hlow : ∀ j, j ≤ i → (shI i (lsc al j).2.1 = (lsc al j).2.1) ∧ (shI i (lsc al j).2.2 = (lsc al j).2.2) := by
    intro j hj
    obtain ⟨q1, q2, q3, q4⟩ := lsc_inv h j (by omega)
    rcases (show (lsc al j).1 = 0 ∨ (lsc al j).1 = 1 ∨ (lsc al j).1 = 2 by omega) with e | e | e
    · rw [(q2 e).1, (q2 e).2]; exact ⟨shI_m (by omega), shI_m (by omega)⟩
    · obtain ⟨a, b, b1, b2, -⟩ := q3 e
      rw [a, b2, shI_n (by omega) (by omega)]
      exact ⟨shI_m (by omega), by unfold shN; rw [if_neg (by omega)]⟩
    · obtain ⟨a, b, b1, b2, b3, b4, -⟩ := q4 e
      rw [b3, b4, shI_n (by omega) (by omega), shI_n (by omega) (by omega)]
      unfold shN
      rw [if_neg (by omega), if_neg (by omega)]
      exact ⟨rfl, rfl⟩
  intro j
  induction j with
  | zero =>
    intro _
    refine ⟨fun _ => rfl, fun h0 => ?_⟩
    have e0 : i = 0 := by omega
    subst e0
    rw [lsc_p k4i k5i]
    obtain ⟨a, b⟩ := hlow 0 (by omega)
    rw [a, b]; rfl
  | succ j ih =>
    intro hj
    obtain ⟨ih1, ih2⟩ := ih (by omega)
    have hk := kdR (al := al) hi hN (show j < N - 1 by omega)
    by_cases hji : j < i
    · have hs : srcN i j = j := by unfold srcN; rw [if_pos hji]
      rw [hs] at hk
      have e1 : lsc (alR al i N) (j + 1) = lsc al (j + 1) := by
        show lend _ j (lmid _ j (lsc _ j)) = lend _ j (lmid _ j (lsc _ j))
        unfold lend lmid
        rw [hk, ih1 (by omega)]
      refine ⟨fun _ => e1, fun hij => ?_⟩
      have e2 : j + 1 = i := by omega
      rw [e1, e2, lsc_p k4i k5i]
      obtain ⟨a, b⟩ := hlow i (by omega)
      rw [a, b]
    · have hs : srcN i j = j + 1 := by unfold srcN; rw [if_neg hji]
      rw [hs] at hk
      refine ⟨fun q => by omega, fun _ => ?_⟩
      have e1 := ih2 (by omega)
      show lend _ j (lmid _ j (lsc _ j)) = _
      have e2 : lsc al (j + 1 + 1) = lend al (j + 1) (lmid al (j + 1) (lsc al (j + 1))) := rfl
      rw [e2, e1]
      unfold lend lmid
      rw [hk]
      by_cases k5 : kdA al (j + 1) = 5
      · have k4 : ¬ kdA al (j + 1) = 4 := by rw [k5]; decide
        simp only [if_pos k5, if_neg k4]
        by_cases hd : (lsc al (j + 1)).1 = 2
        · simp only [if_pos hd, shI_m (show i < 1000 by omega)]
        · simp only [if_neg hd, shI_m (show i < 1000 by omega)]
      · by_cases k4 : kdA al (j + 1) = 4
        · simp only [if_neg k5, if_pos k4]
          rw [shI_n (by omega) (by omega)]
          unfold shN
          rw [if_pos (by omega)]
          rfl
        · simp only [if_neg k5, if_neg k4]
theorem lscR1 (h : wfL al N) (hi : i < N) (hN : N ≤ 30) (hl : ¬ 4 ≤ kdA al i) {j : Nat} (hj : j < N - 1) : (lsc (alR al i N) j).1 = (lsc al (srcN i j)).1 ∧ (lsc (alR al i N) j).2.2 = shI i (lsc al (srcN i j)).2.2 := by
  obtain ⟨a, b⟩ := lscR h hi hN hl j (by omega)
  unfold srcN
  by_cases hji : j < i
  · rw [if_pos hji, a (by omega)]
    refine ⟨rfl, ?_⟩
    obtain ⟨q1, q2, q3, q4⟩ := lsc_inv h j (by omega)
    rcases (show (lsc al j).1 = 0 ∨ (lsc al j).1 = 1 ∨ (lsc al j).1 = 2 by omega) with e | e | e
    · rw [(q2 e).2]; exact (shI_m (by omega)).symm
    · obtain ⟨-, b, b1, b2, -⟩ := q3 e
      rw [b2, shI_n (by omega) (by omega)]; unfold shN; rw [if_neg (by omega)]
    · obtain ⟨a, b, b1, b2, b3, b4, -⟩ := q4 e
      rw [b4, shI_n (by omega) (by omega)]; unfold shN; rw [if_neg (by omega)]
  · rw [if_neg hji, b (by omega)]
    exact ⟨rfl, rfl⟩
theorem wfR (h : wfP al N) (hi : i < N) (hl : ¬ 4 ≤ kdA al i) : wfP (alR al i N) (N - 1) := by
  obtain ⟨hN, h0, hL, hC, hO, hK⟩ := h
  have hs : ∀ j, j < N - 1 → srcN i j < N := fun j hj => by unfold srcN; split <;> omega
  refine ⟨by omega, by unfold alR; rw [upd_s], ⟨fun j hj => ?_, ?_⟩, fun j hj k4 => ?_, fun j hj k => ?_, fun j hj => ?_⟩
  · rw [kdR hi hN hj, (lscR1 hL hi hN hl hj).1]
    exact hL.1 _ (hs j hj)
  · rw [(lscR hL hi hN hl (N - 1) (Nat.le_refl _)).2 (by omega), show N - 1 + 1 = N by omega]
    exact hL.2
  · rw [kdR hi hN hj] at k4
    rw [alR_at hi hN hj (show 1 < 4 by decide)]
    exact hC _ (hs j hj) k4
  · rw [kdR hi hN hj] at k ⊢
    rw [alR_at hi hN hj (show 1 < 4 by decide), alR_at hi hN hj (show 2 < 4 by decide), alR_at hi hN hj (show 3 < 4 by decide)]
    exact hO _ (hs j hj) k
  · rw [kdR hi hN hj]
    exact hK _ (hs j hj)
theorem shN_src {b : Nat} (hb : b ≠ i) : srcN i (shN i b) = b := by
  unfold srcN shN
  by_cases h : i < b
  · rw [if_pos h, if_neg (by omega)]; omega
  · rw [if_neg h, if_pos (by omega)]
theorem src_sh {j : Nat} : shN i (srcN i j) = j := by
  unfold srcN shN
  by_cases h : j < i
  · rw [if_pos h, if_neg (by omega)]
  · rw [if_neg h, if_pos (by omega)]; omega
theorem cPtR (h : wfP al N) (hi : i < N) (hl : ¬ 4 ≤ kdA al i) {j : Nat} (hj : j < N - 1) : cPt (alR al i N) (N - 1) j = shI i (cPt al N (srcN i j)) := by
  have hN := h.1
  have hW := wfR h hi hl
  have k4i : ¬ kdA al i = 4 := fun q => hl (by rw [q]; decide)
  have k5i : ¬ kdA al i = 5 := fun q => hl (by rw [q]; decide)
  have hs : srcN i j < N := by unfold srcN; split <;> omega
  have hkj := kdR (al := al) hi hN hj
  -- of an end and its begin
  have hend : ∀ e b, e < N → kdA al e = 5 → b < e → (lsc al e).2.2 = nI b → kdA al b = 4 → cPt (alR al i N) (N - 1) (shN i e) = nI (shN i b) ∧ cPt (alR al i N) (N - 1) (shN i b) = nI (shN i e) := by
    intro e b he k5 hb hw kb
    have hei : e ≠ i := fun q => k5i (by rw [← q]; exact k5)
    have hbi : b ≠ i := fun q => k4i (by rw [← q]; exact kb)
    have he' : shN i e < N - 1 := by unfold shN; split <;> omega
    have hbe : shN i b < shN i e := by unfold shN; split <;> split <;> omega
    refine lpt_end hW.2.2.1 hW.1 _ (N - 1) (Nat.le_refl _) (shN i e) he' ?_ (shN i b) hbe ?_
    · rw [kdR hi hN he', shN_src hei]; exact k5
    · rw [(lscR1 h.2.2.1 hi hN hl he').2, shN_src hei, hw, shI_n (by omega) (by omega)]
  by_cases k5 : kdA al (srcN i j) = 5
  · obtain ⟨b, b1, b2, b3, b4⟩ := lsc_within h.2.2.1 (Nat.le_of_lt hs) ((h.2.2.1.1 _ hs).2 k5)
    have e1 := (lpt_end h.2.2.1 hN (fun _ => -1) N (Nat.le_refl _) _ hs k5 b b1 b2).1
    have e2 := (hend _ b hs k5 b1 b2 b3).1
    rw [src_sh] at e2
    rw [e2, show cPt al N (srcN i j) = nI b from e1, shI_n (by omega) (by omega)]
  · by_cases k4 : kdA al (srcN i j) = 4
    · have hd1 : 0 < (lsc al (srcN i j + 1)).1 := by rw [lsc_4 k4]; simp
      obtain ⟨b, e, s1, s2, s3, s4, s5, s6, s7, s8, s9, s10, s11, s12⟩ := lsc_span h.2.2.1 hN (fun _ => -1) (show srcN i j + 1 ≤ N by omega) hd1
      rw [lsc_4 k4] at s4
      have hbw : b = srcN i j := (nI_inj (by omega) (by omega) s4).symm
      subst hbw
      have e2 := (hend e _ s3 s6 (by omega) s11 k4).2
      rw [src_sh] at e2
      rw [e2, show cPt al N (srcN i j) = nI e from s7, shI_n (by omega) (by omega)]
    · rw [show cPt al N (srcN i j) = -1 from lpt_none h.2.2.1 hN _ k4 k5 N (Nat.le_refl _) hs, shI_m (by omega)]
      exact lpt_none hW.2.2.1 hW.1 _ (by rw [hkj]; exact k4) (by rw [hkj]; exact k5) (N - 1) (Nat.le_refl _) hj
end RM
