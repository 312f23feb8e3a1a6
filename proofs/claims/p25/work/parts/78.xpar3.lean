/-! A PROGRAM THAT IS BEING READ: pure -/
def alP (L : List Quad) : Nat → Int32 := alParse (fun _ => 0) L
theorem alParse_at {al : Nat → Int32} {L : List Quad} {j c : Nat} (hj : j < L.length) (hc : c < 4) : alParse al L (1 + 4 * j + c) = qF (L.getD j (0, 0, 0, 0)) c := by
  unfold alParse qAt
  rw [if_neg (by omega), if_pos (by omega), show (1 + 4 * j + c - 1) / 4 = j by omega, show (1 + 4 * j + c - 1) % 4 = c by omega]
theorem alP_old {L : List Quad} {q : Quad} {j c : Nat} (hj : j < L.length) (hc : c < 4) : alP (L ++ [q]) (1 + 4 * j + c) = alP L (1 + 4 * j + c) := by
  unfold alP
  rw [alParse_at (by rw [List.length_append]; omega) hc, alParse_at hj hc]
  congr 1
  rw [List.getD_eq_getElem?_getD, List.getD_eq_getElem?_getD, List.getElem?_append_left hj]
theorem alP_new {L : List Quad} {q : Quad} {c : Nat} (hc : c < 4) : alP (L ++ [q]) (1 + 4 * L.length + c) = qF q c := by
  unfold alP
  rw [alParse_at (by rw [List.length_append, List.length_singleton]; omega) hc]
  congr 1
  rw [List.getD_eq_getElem?_getD, List.getElem?_append_right (Nat.le_refl _)]
  simp
theorem lsc_pre {al al' : Nat → Int32} {n : Nat} (h : ∀ i, i < n → kdA al i = kdA al' i) : ∀ j, j ≤ n → lsc al j = lsc al' j := by
  intro j
  induction j with
  | zero => intro _; rfl
  | succ j ih =>
    intro hj
    show lend al j (lmid al j (lsc al j)) = lend al' j (lmid al' j (lsc al' j))
    unfold lend lmid
    rw [ih (by omega), h j (by omega)]
theorem lpt_pre {al al' f0 : Nat → Int32} {n : Nat} (h : ∀ i, i < n → kdA al i = kdA al' i) : ∀ j, j ≤ n → lpt al f0 j = lpt al' f0 j := by
  intro j
  induction j with
  | zero => intro _; rfl
  | succ j ih =>
    intro hj
    rw [lpt, lpt, ih (by omega), h j (by omega), lsc_pre h j (by omega)]
theorem lmd_pre {al al' : Nat → Int32} {n : Nat} (h : ∀ i, i < n → kdA al i = kdA al' i) {j : Nat} (hj : j < n) : lmd al j = lmd al' j := by
  unfold lmd lmid
  rw [h j hj, lsc_pre h j (by omega)]
def wfPre (al : Nat → Int32) (r : Nat) : Prop := (∀ i, i < r → (kdA al i = 4 → (lsc al i).1 < 2) ∧ (kdA al i = 5 → 0 < (lsc al i).1)) ∧ wfC al r ∧ wfO al r ∧ ∀ i, i < r → ∃ k, k ≤ 5 ∧ kdA al i = nI k
theorem wfPre.congr {al al' : Nat → Int32} {r : Nat} (h : wfPre al r) (he : ∀ i, i < r → ∀ c, c < 4 → al (1 + 4 * i + c) = al' (1 + 4 * i + c)) : wfPre al' r := by
  have hk : ∀ i, i < r → kdA al i = kdA al' i := fun i hi => he i hi 0 (by decide)
  obtain ⟨h1, h2, h3, h4⟩ := h
  refine ⟨fun i hi => ?_, fun i hi k => ?_, fun i hi k => ?_, fun i hi => ?_⟩
  · rw [← hk i hi, ← lsc_pre hk i (by omega)]; exact h1 i hi
  · rw [← he i hi 1 (by decide)]; exact h2 i hi (by rw [hk i hi]; exact k)
  · rw [← hk i hi] at k ⊢
    rw [← he i hi 1 (by decide), ← he i hi 2 (by decide), ← he i hi 3 (by decide)]
    exact h3 i hi k
  · rw [← hk i hi]; exact h4 i hi
theorem wfPre.one {al : Nat → Int32} {r : Nat} (h : wfPre al r) (a : (kdA al r = 4 → (lsc al r).1 < 2) ∧ (kdA al r = 5 → 0 < (lsc al r).1)) (b : kdA al r = 4 → ∃ c, 1 ≤ c ∧ c ≤ 40 ∧ al (1 + 4 * r + 1) = nI c) (c : ¬ 4 ≤ kdA al r → (∃ v, v < 8 ∧ al (1 + 4 * r + 1) = nI v) ∧ okOp (al (1 + 4 * r + 2)) ∧ (¬ kdA al r = 0 → okOp (al (1 + 4 * r + 3)))) (d : ∃ k, k ≤ 5 ∧ kdA al r = nI k) : wfPre al (r + 1) := by
  obtain ⟨h1, h2, h3, h4⟩ := h
  refine ⟨fun i hi => ?_, fun i hi k => ?_, fun i hi k => ?_, fun i hi => ?_⟩
  · by_cases e : i = r
    · rw [e]; exact a
    · exact h1 i (by omega)
  · by_cases e : i = r
    · rw [e] at k ⊢; exact b k
    · exact h2 i (by omega) k
  · by_cases e : i = r
    · rw [e] at k ⊢; exact c k
    · exact h3 i (by omega) k
  · by_cases e : i = r
    · rw [e]; exact d
    · exact h4 i (by omega)
/-- the innermost open loop of a program that is being read -/
theorem lsc_in {al : Nat → Int32} {N : Nat} (h : ∀ i, i < N → (kdA al i = 4 → (lsc al i).1 < 2) ∧ (kdA al i = 5 → 0 < (lsc al i).1)) : ∀ i, i ≤ N → (lsc al i).1 ≤ 2 ∧ (0 < (lsc al i).1 → ∃ b, b < i ∧ (lsc al i).2.2 = nI b) ∧ ((lsc al i).1 = 2 → ∃ a, a < i ∧ (lsc al i).2.1 = nI a) := by
  intro i
  induction i with
  | zero => intro _; exact ⟨by simp [lsc], fun h => by simp [lsc] at h, fun h => by simp [lsc] at h⟩
  | succ i ih =>
    intro hi
    obtain ⟨h1, h2, h3⟩ := ih (by omega)
    obtain ⟨w4, w5⟩ := h i (by omega)
    by_cases k4 : kdA al i = 4
    · have hd := w4 k4
      rw [lsc_4 k4]
      refine ⟨by dsimp only; omega, fun _ => ⟨i, by omega, rfl⟩, fun q => ?_⟩
      dsimp only at q ⊢
      obtain ⟨b, b1, b2⟩ := h2 (by omega)
      exact ⟨b, by omega, b2⟩
    · by_cases k5 : kdA al i = 5
      · have hd := w5 k5
        rw [lsc_5 k5]
        refine ⟨by dsimp only; omega, fun q => ?_, fun q => by dsimp only at q; omega⟩
        dsimp only at q ⊢
        have e2 : (lsc al i).1 = 2 := by omega
        rw [if_pos e2]
        obtain ⟨a, a1, a2⟩ := h3 e2
        exact ⟨a, by omega, a2⟩
      · rw [lsc_p k4 k5]
        refine ⟨h1, fun q => ?_, fun q => ?_⟩
        · obtain ⟨b, b1, b2⟩ := h2 q; exact ⟨b, by omega, b2⟩
        · obtain ⟨b, b1, b2⟩ := h3 q; exact ⟨b, by omega, b2⟩
/-- what the class has read so far -/
def PrR (σ : St) (L : List Quad) (d : Nat) : Prop := L.length ≤ 30 ∧ σ.1 3 0 = nI L.length ∧ wfPre (alP L) L.length ∧ (lsc (alP L) L.length).1 = d ∧
  (∀ j, j < L.length → σ.2.2.1 4 j = kdA (alP L) j ∧ σ.2.2.1 5 j = alP L (1 + 4 * j + 1) ∧ σ.2.2.1 6 j = alP L (1 + 4 * j + 2) ∧ σ.2.2.1 7 j = alP L (1 + 4 * j + 3) ∧ σ.2.2.1 8 j = nI (lmd (alP L) j).1 ∧ σ.2.2.1 9 j = lpt (alP L) (fun _ => -1) L.length j) ∧
  (d = 1 → σ.2.2.1 11 0 = (lsc (alP L) L.length).2.2) ∧ (d = 2 → σ.2.2.1 11 1 = (lsc (alP L) L.length).2.2 ∧ σ.2.2.1 11 0 = (lsc (alP L) L.length).2.1)
/-- the rows of an instruction more -/
theorem pr_rows {σ τ : St} {L : List Quad} {q : Quad} {dd : Nat} (h : PrR σ L dd) (hr : L.length < 30) (r4 : τ.2.2.1 4 = upd (σ.2.2.1 4) L.length q.1) (r5 : τ.2.2.1 5 = upd (σ.2.2.1 5) L.length q.2.1) (r6 : τ.2.2.1 6 = upd (σ.2.2.1 6) L.length q.2.2.1) (r7 : τ.2.2.1 7 = upd (σ.2.2.1 7) L.length q.2.2.2)
    (r8 : τ.2.2.1 8 = upd (σ.2.2.1 8) L.length (nI (lmd (alP (L ++ [q])) L.length).1)) (r9 : ∀ j, j < L.length + 1 → τ.2.2.1 9 j = lpt (alP (L ++ [q])) (fun _ => -1) (L.length + 1) j) :
    ∀ j, j < (L ++ [q]).length → τ.2.2.1 4 j = kdA (alP (L ++ [q])) j ∧ τ.2.2.1 5 j = alP (L ++ [q]) (1 + 4 * j + 1) ∧ τ.2.2.1 6 j = alP (L ++ [q]) (1 + 4 * j + 2) ∧ τ.2.2.1 7 j = alP (L ++ [q]) (1 + 4 * j + 3) ∧ τ.2.2.1 8 j = nI (lmd (alP (L ++ [q])) j).1 ∧ τ.2.2.1 9 j = lpt (alP (L ++ [q])) (fun _ => -1) (L ++ [q]).length j := by
  intro j hj
  have hl : (L ++ [q]).length = L.length + 1 := by simp
  rw [hl] at hj ⊢
  have hk : ∀ i, i < L.length → kdA (alP (L ++ [q])) i = kdA (alP L) i := fun i hi => alP_old (c := 0) hi (by decide)
  refine ⟨?_, ?_, ?_, ?_, ?_, r9 j hj⟩
  · rw [r4]; unfold upd
    by_cases e : j = L.length
    · rw [if_pos e, e]; exact (alP_new (L := L) (q := q) (c := 0) (by decide)).symm
    · rw [if_neg e, hk j (by omega)]; exact (h.2.2.2.2.1 j (by omega)).1
  · rw [r5]; unfold upd
    by_cases e : j = L.length
    · rw [if_pos e, e]; exact (alP_new (L := L) (q := q) (c := 1) (by decide)).symm
    · rw [if_neg e, alP_old (c := 1) (by omega) (by decide)]; exact (h.2.2.2.2.1 j (by omega)).2.1
  · rw [r6]; unfold upd
    by_cases e : j = L.length
    · rw [if_pos e, e]; exact (alP_new (L := L) (q := q) (c := 2) (by decide)).symm
    · rw [if_neg e, alP_old (c := 2) (by omega) (by decide)]; exact (h.2.2.2.2.1 j (by omega)).2.2.1
  · rw [r7]; unfold upd
    by_cases e : j = L.length
    · rw [if_pos e, e]; exact (alP_new (L := L) (q := q) (c := 3) (by decide)).symm
    · rw [if_neg e, alP_old (c := 3) (by omega) (by decide)]; exact (h.2.2.2.2.1 j (by omega)).2.2.2.1
  · rw [r8]; unfold upd
    by_cases e : j = L.length
    · rw [if_pos e, e]
    · rw [if_neg e, lmd_pre hk (by omega)]; exact (h.2.2.2.2.1 j (by omega)).2.2.2.2.1
theorem pr_new {L : List Quad} {q : Quad} : kdA (alP (L ++ [q])) L.length = q.1 ∧ alP (L ++ [q]) (1 + 4 * L.length + 1) = q.2.1 ∧ alP (L ++ [q]) (1 + 4 * L.length + 2) = q.2.2.1 ∧ alP (L ++ [q]) (1 + 4 * L.length + 3) = q.2.2.2 ∧ lsc (alP (L ++ [q])) L.length = lsc (alP L) L.length ∧ lpt (alP (L ++ [q])) (fun _ => -1) L.length = lpt (alP L) (fun _ => -1) L.length :=
  ⟨alP_new (c := 0) (by decide), alP_new (c := 1) (by decide), alP_new (c := 2) (by decide), alP_new (c := 3) (by decide), lsc_pre (fun i hi => alP_old (c := 0) hi (by decide)) _ (Nat.le_refl _), lpt_pre (fun i hi => alP_old (c := 0) hi (by decide)) _ (Nat.le_refl _)⟩
theorem pr_wf {L : List Quad} {q : Quad} (h : wfPre (alP L) L.length) : wfPre (alP (L ++ [q])) L.length := h.congr (fun i hi c hc => (alP_old hi hc).symm)
/-- partner's row behind an instruction that is no loop end -/
theorem pr_9 {f : Nat → Int32} {L : List Quad} {q : Quad} (h9 : ∀ j, j < L.length → f j = lpt (alP L) (fun _ => -1) L.length j) (k5 : ¬ q.1 = 5) : ∀ j, j < L.length + 1 → upd f L.length (-1) j = lpt (alP (L ++ [q])) (fun _ => -1) (L.length + 1) j := by
  intro j hj
  obtain ⟨n1, -, -, -, -, n6⟩ := pr_new (L := L) (q := q)
  rw [lpt, if_neg (by rw [n1]; exact k5), n6]
  unfold upd
  by_cases e : j = L.length
  · rw [if_pos e, if_pos e]
  · rw [if_neg e, if_neg e]; exact h9 j (by omega)
theorem pr_asg {σ : St} {L : List Quad} {d : Nat} {x : Int32} {k v f s : Int32} (h : PrR σ L d) (hr : L.length < 30) (hk : k = 0 ∨ k = 1 ∨ k = 2 ∨ k = 3) (hv : ∃ w, w < 8 ∧ v = nI w) (hf : okOp f) (hs : ¬ k = 0 → okOp s) : PrR (addS (sI σ 10 2 x) L.length k v f s (nI d)) (L ++ [(k, v, f, s)]) d := by
  obtain ⟨n1, n2, n3, n4, n5, n6⟩ := pr_new (L := L) (q := (k, v, f, s))
  have h' := h
  obtain ⟨h1, h2, h3, h4, h5, h6, h7⟩ := h
  have k4 : ¬ kdA (alP (L ++ [(k, v, f, s)])) L.length = 4 := by rw [n1]; dsimp only; rcases hk with e | e | e | e <;> rw [e] <;> decide
  have k5 : ¬ kdA (alP (L ++ [(k, v, f, s)])) L.length = 5 := by rw [n1]; dsimp only; rcases hk with e | e | e | e <;> rw [e] <;> decide
  have hl : (L ++ [(k, v, f, s)]).length = L.length + 1 := by simp
  have el : lsc (alP (L ++ [(k, v, f, s)])) (L.length + 1) = lsc (alP L) L.length := by rw [lsc_p k4 k5, n5]
  have em : (lmd (alP (L ++ [(k, v, f, s)])) L.length).1 = d := by unfold lmd lmid; rw [if_neg k5, n5]; exact h4
  have k5q : ¬ ((k, v, f, s) : Quad).1 = 5 := by rw [← n1]; exact k5
  refine ⟨by rw [hl]; omega, by rw [hl]; exact gI, ?_, by rw [hl, el]; exact h4, ?_, ?_, ?_⟩
  · rw [hl]
    refine wfPre.one (pr_wf h3) ⟨fun q => absurd q k4, fun q => absurd q k5⟩ (fun q => absurd q k4) (fun _ => ?_) ?_
    · rw [n1, n2, n3, n4]; exact ⟨hv, hf, hs⟩
    · rw [n1]; dsimp only
      rcases hk with e | e | e | e
      · exact ⟨0, by decide, e⟩
      · exact ⟨1, by decide, e⟩
      · exact ⟨2, by decide, e⟩
      · exact ⟨3, by decide, e⟩
  · refine pr_rows h' hr rfl rfl rfl rfl ?_ ?_
    · rw [em]; rfl
    · exact pr_9 (f := σ.2.2.1 9) (fun j hj => (h5 j hj).2.2.2.2.2) k5q
  · intro q; rw [hl, el]; exact h6 q
  · intro q; rw [hl, el]; exact h7 q
theorem pr_begin {σ : St} {L : List Quad} {d : Nat} {x n : Int32} (h : PrR σ L d) (hr : L.length < 30) (hd : d < 2) (hn : ∃ c, 1 ≤ c ∧ c ≤ 40 ∧ n = nI c) : PrR (sI (addS (sA (sI σ 10 2 x) 11 (upd (σ.2.2.1 11) d (nI L.length))) L.length 4 n (-1) (-1) (nI d)) 10 4 (nI (d + 1))) (L ++ [(4, n, -1, -1)]) (d + 1) := by
  obtain ⟨n1, n2, n3, n4, n5, n6⟩ := pr_new (L := L) (q := (4, n, -1, -1))
  have h' := h
  obtain ⟨h1, h2, h3, h4, h5, h6, h7⟩ := h
  have k4 : kdA (alP (L ++ [(4, n, -1, -1)])) L.length = 4 := n1
  have k5 : ¬ kdA (alP (L ++ [(4, n, -1, -1)])) L.length = 5 := by rw [n1]; exact (by decide : ¬ (4 : Int32) = 5)
  have hl : (L ++ [((4, n, -1, -1) : Quad)]).length = L.length + 1 := by simp
  have el : lsc (alP (L ++ [(4, n, -1, -1)])) (L.length + 1) = ((lsc (alP L) L.length).1 + 1, (lsc (alP L) L.length).2.2, nI L.length) := by rw [lsc_4 k4, n5]
  have em : (lmd (alP (L ++ [(4, n, -1, -1)])) L.length).1 = d := by unfold lmd lmid; rw [if_neg k5, n5]; exact h4
  refine ⟨by rw [hl]; omega, by rw [hl]; rfl, ?_, by rw [hl, el]; dsimp only; rw [h4], ?_, ?_, ?_⟩
  · rw [hl]
    refine wfPre.one (pr_wf h3) ⟨fun _ => by rw [n5, h4]; exact hd, fun q => absurd q k5⟩ (fun _ => by rw [n2]; exact hn) (fun q => absurd (by rw [k4]; decide) q) ⟨4, by decide, k4⟩
  · refine pr_rows h' hr rfl rfl rfl rfl ?_ ?_
    · rw [em]; rfl
    · exact pr_9 (f := σ.2.2.1 9) (fun j hj => (h5 j hj).2.2.2.2.2) (show ¬ (4 : Int32) = 5 by decide)
  · intro q
    rw [hl, el]
    show upd (σ.2.2.1 11) d (nI L.length) 0 = _
    rw [show d = 0 by omega, upd_s]
  · intro q
    have e1 : d = 1 := by omega
    rw [hl, el]
    show upd (σ.2.2.1 11) d (nI L.length) 1 = nI L.length ∧ upd (σ.2.2.1 11) d (nI L.length) 0 = (lsc (alP L) L.length).2.2
    rw [e1, upd_s, upd_n (by decide)]
    exact ⟨rfl, h6 e1⟩
theorem pr_end {σ : St} {L : List Quad} {d b : Nat} {x : Int32} (h : PrR σ L d) (hr : L.length < 30) (hd : 0 < d) (hb : b < L.length) (hw : (lsc (alP L) L.length).2.2 = nI b) : PrR (sA (addS (sI (sI σ 10 2 x) 10 4 (nI (d - 1))) L.length 5 (-1) (-1) (-1) (nI (d - 1))) 9 (upd (upd (upd (σ.2.2.1 9) L.length (-1)) b (nI L.length)) L.length (nI b))) (L ++ [(5, -1, -1, -1)]) (d - 1) := by
  obtain ⟨n1, n2, n3, n4, n5, n6⟩ := pr_new (L := L) (q := (5, -1, -1, -1))
  have h' := h
  obtain ⟨h1, h2, h3, h4, h5, h6, h7⟩ := h
  have k5 : kdA (alP (L ++ [(5, -1, -1, -1)])) L.length = 5 := n1
  have k4 : ¬ kdA (alP (L ++ [(5, -1, -1, -1)])) L.length = 4 := by rw [n1]; decide
  have hl : (L ++ [((5, -1, -1, -1) : Quad)]).length = L.length + 1 := by simp
  have hd2 := (lsc_in h3.1 L.length (Nat.le_refl _)).1
  have el : lsc (alP (L ++ [(5, -1, -1, -1)])) (L.length + 1) = ((lsc (alP L) L.length).1 - 1, -1, if (lsc (alP L) L.length).1 = 2 then (lsc (alP L) L.length).2.1 else -1) := by rw [lsc_5 k5, n5]
  have em : (lmd (alP (L ++ [(5, -1, -1, -1)])) L.length).1 = d - 1 := by unfold lmd lmid; rw [if_pos k5, n5]; dsimp only; rw [h4]
  refine ⟨by rw [hl]; omega, by rw [hl]; rfl, ?_, by rw [hl, el]; dsimp only; rw [h4], ?_, ?_, ?_⟩
  · rw [hl]
    refine wfPre.one (pr_wf h3) ⟨fun q => absurd q k4, fun _ => by rw [n5, h4]; exact hd⟩ (fun q => absurd q k4) (fun q => absurd (by rw [k5]; decide) q) ⟨5, by decide, k5⟩
  · refine pr_rows h' hr rfl rfl rfl rfl ?_ ?_
    · rw [em]; rfl
    · intro j hj
      show upd (upd (upd (σ.2.2.1 9) L.length (-1)) b (nI L.length)) L.length (nI b) j = _
      rw [lpt, if_pos k5, n5, n6, hw, nI_clamp (by omega)]
      unfold upd
      by_cases e : j = L.length
      · rw [if_pos e, if_neg (by omega), if_pos e]
      · rw [if_neg e]
        by_cases e2 : j = b
        · rw [if_pos e2, if_pos e2]
        · rw [if_neg e2, if_neg e, if_neg e2, if_neg e, if_neg e]; exact (h5 j (by omega)).2.2.2.2.2
  · intro q
    have e2 : d = 2 := by omega
    rw [hl, el, h4, if_pos e2]
    exact (h7 e2).2
  · intro q; omega
