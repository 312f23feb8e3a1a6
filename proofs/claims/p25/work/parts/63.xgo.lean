/-! THE CLASS: Analysis.execute, Analysis.go -/
def failB (x : AN) (i : Nat) (F T : Int64) : Bool := decide ((¬ x.2.2.2.1 i = 0 ∧ ¬ x.2.2.2.2.1 i = 0) ∨ F < -2147483648 ∨ 2147483647 < T)
theorem AnD_step {σ τ3 τ : St} {b w : Nat} {al : Nat → Int32} {x : AN} {F T : Int64} (hi : x.1.1 < 30) (hl : ¬ 4 ≤ kdA al x.1.1) (hD : AnD σ b x) (E : Ex3 σ b x.1.1 F T τ3) (hF : F = rgF al x.2.1 x.2.2.1 x.1.1) (hT : T = rgT al x.2.1 x.2.2.1 x.1.1) (hw : tN (al (1 + 4 * x.1.1 + 1)) = w)
    (t3 : τ.2.2.2.1 (b + 3) = if gtr F (-2147483648) ≤ lsr T 2147483647 then vp_updL (τ3.2.2.2.1 (b + 3)) w (gtr F (-2147483648)) else τ3.2.2.2.1 (b + 3)) (t4 : τ.2.2.2.1 (b + 4) = if gtr F (-2147483648) ≤ lsr T 2147483647 then vp_updL (τ3.2.2.2.1 (b + 4)) w (lsr T 2147483647) else τ3.2.2.2.1 (b + 4))
    (t5 : τ.2.2.1 (b + 5) = τ3.2.2.1 (b + 5)) (t7 : τ.2.2.2.1 (b + 7) = τ3.2.2.2.1 (b + 7)) (t8 : τ.2.2.2.1 (b + 8) = τ3.2.2.2.1 (b + 8)) (t6 : ∀ j, j < 30 → τ.2.2.1 (b + 6) j = upd x.2.2.2.2.1 x.1.1 (bI (failB x x.1.1 F T)) j) (t1 : τ.1 b 1 = if gtr F (-2147483648) ≤ lsr T 2147483647 then 0 else 1) (t2 : τ.1 b 2 = nI (cntF (upd x.2.2.2.2.1 x.1.1 (bI (failB x x.1.1 F T))) 30)) : AnD τ b (aMid al x) := by
  obtain ⟨s, lo, hi', rc, fa, nf, ns, le, gr, cp⟩ := x
  obtain ⟨d1, d2, d3, d4⟩ := hD
  obtain ⟨-, -, -, -, -, e5, -, e7, e8, e3, e4, -, -⟩ := E
  dsimp only at hi hl hF hT hw t3 t4 t5 t6 t7 t8 t1 t2 d1 d2 d3 d4 e5 e7 e8 e3 e4
  obtain ⟨q5, q6, q7, q8⟩ := d2 s.1 hi
  unfold aMid
  rw [if_neg hl]
  unfold rngS
  dsimp only
  rw [← hF, ← hT, hw]
  refine ⟨fun v hv => ?_, fun j hj => ⟨?_, t6 j hj, ?_, ?_⟩, ?_, t2⟩
  · obtain ⟨v1, v2⟩ := d1 v hv
    dsimp only
    rw [t3, t4, e3, e4]
    by_cases h : gtr F (-2147483648) ≤ lsr T 2147483647
    · rw [if_pos h, if_pos h, if_pos h, if_pos h]
      unfold vp_updL
      by_cases e : v = w
      · rw [if_pos e, if_pos e, if_pos e, if_pos e]; exact ⟨rfl, rfl⟩
      · rw [if_neg e, if_neg e, if_neg e, if_neg e]; exact ⟨v1, v2⟩
    · rw [if_neg h, if_neg h, if_neg h, if_neg h]; exact ⟨v1, v2⟩
  · dsimp only
    rw [t5, e5]
    unfold upd
    by_cases e : j = s.1
    · rw [if_pos e, if_pos e]
    · rw [if_neg e, if_neg e]; exact (d2 j hj).1
  · dsimp only
    rw [t7, e7]
    unfold upd vp_updL
    by_cases e : j = s.1
    · subst e
      simp +decide only [if_true, if_false, q5, q7]
      by_cases hr : rc s.1 = 0
      · simp only [if_pos hr]
      · simp only [if_neg hr]
    · simp only [if_neg e]; exact (d2 j hj).2.2.1
  · dsimp only
    rw [t8, e8]
    unfold upd vp_updL
    by_cases e : j = s.1
    · subst e
      simp +decide only [if_true, if_false, q5, q8]
      by_cases hr : rc s.1 = 0
      · simp only [if_pos hr]
      · simp only [if_neg hr]
    · simp only [if_neg e]; exact (d2 j hj).2.2.2
  · dsimp only
    rw [t1]
    by_cases h : gtr F (-2147483648) ≤ lsr T 2147483647
    · rw [if_pos h, decide_eq_true h, if_neg (by decide)]
    · rw [if_neg h, decide_eq_false h, if_pos (show bI false = 0 from rfl)]
theorem exO_ok {σ : St} {b i : Nat} {f : Nat → Int32} (hi : i < 30) (h6 : ∀ j, j < 30 → σ.2.2.1 (b + 6) j = f j) (h01 : f i = 0 ∨ f i = 1) (h2 : σ.1 b 2 = nI (cntF f 30)) : Fr b (b + 10) σ (exO σ b i) ∧ (exO σ b i).1 (b + 1) = σ.1 (b + 1) ∧ (exO σ b i).2.2.1 (b + 2) = σ.2.2.1 (b + 2) ∧ (exO σ b i).2.2.1 (b + 5) = σ.2.2.1 (b + 5) ∧ (exO σ b i).2.2.2.1 = σ.2.2.2.1 ∧ (exO σ b i).1 b 1 = σ.1 b 1 ∧ (∀ j, j < 30 → (exO σ b i).2.2.1 (b + 6) j = upd f i 1 j) ∧ (exO σ b i).1 b 2 = nI (cntF (upd f i 1) 30) ∧ ∀ p, p + 7 ≤ b ∨ b + 10 ≤ p → (exO σ b i).2.2.1 (p + 2) = σ.2.2.1 (p + 2) := by
  unfold exO
  by_cases h0 : σ.2.2.1 (b + 6) i = 0
  · rw [if_pos h0]
    have f0 : f i = 0 := (h6 i hi).symm.trans h0
    refine ⟨?_, ?_, ?_, ?_, rfl, ?_, ?_, ?_, ?_⟩
    · refine Fr.I (Fr.A Fr.rf ?_ ?_) ?_ ?_ <;> omega
    · funext q; rw [gI' (by omega)]; rfl
    · simp only [I3]; rw [gA' (by omega)]
    · simp only [I3]; rw [gA' (by omega)]
    · rw [gI' (by omega)]; rfl
    · intro j hj
      simp only [I3]
      rw [gA]
      unfold upd
      by_cases e : j = i
      · rw [if_pos e, if_pos e]
      · rw [if_neg e, if_neg e]; exact h6 j hj
    · rw [gI, h2, nI_1, cntF_up f0 30, if_pos hi]
    · intro p hp
      simp only [I3]
      rw [gA' (by omega)]
  · rw [if_neg h0]
    have f1 : f i = 1 := h01.resolve_left (fun q => h0 ((h6 i hi).trans q))
    rw [upd_same f1]
    exact ⟨Fr.rf, rfl, rfl, rfl, rfl, rfl, h6, h2, fun p _ => rfl⟩
theorem asS_ok {σ : St} {b w : Nat} {L H : Int64} {z : Int32} : Fr b (b + 10) σ (asS σ b w L H z) ∧ (asS σ b w L H z).1 (b + 1) = σ.1 (b + 1) ∧ (asS σ b w L H z).2.2.1 = σ.2.2.1 ∧ (asS σ b w L H z).2.2.2.1 (b + 3) = vp_updL (σ.2.2.2.1 (b + 3)) w L ∧ (asS σ b w L H z).2.2.2.1 (b + 4) = vp_updL (σ.2.2.2.1 (b + 4)) w H ∧ (asS σ b w L H z).2.2.2.1 (b + 7) = σ.2.2.2.1 (b + 7) ∧ (asS σ b w L H z).2.2.2.1 (b + 8) = σ.2.2.2.1 (b + 8) ∧ (asS σ b w L H z).1 b 1 = σ.1 b 1 ∧ (asS σ b w L H z).1 b 2 = σ.1 b 2 := by
  unfold asS
  refine ⟨?_, ?_, rfl, ?_, ?_, ?_, ?_, ?_, ?_⟩
  · refine Fr.I (Fr.L (Fr.L Fr.rf ?_ ?_) ?_ ?_) ?_ ?_ <;> omega
  · funext q; rw [gI' (by omega)]; rfl
  · simp only [I4]; rw [gL' (by omega), gL]
  · simp only [I4]; rw [gL]
  · simp only [I4]; rw [gL' (by omega), gL' (by omega)]
  · simp only [I4]; rw [gL' (by omega), gL' (by omega)]
  · rw [gI' (by omega)]; rfl
  · rw [gI' (by omega)]; rfl
theorem failB_in {al : Nat → Int32} {N : Nat} {x : AN} {F T : Int64} (hI : AInv al N x) (hi : x.1.1 < 30) (h : ¬ (F < -2147483648 ∨ 2147483647 < T)) : bI (failB x x.1.1 F T) = x.2.2.2.2.1 x.1.1 := by
  obtain ⟨-, j2, j3, -⟩ := hI.2.1 x.1.1 hi
  unfold failB
  by_cases h0 : x.2.2.2.2.1 x.1.1 = 0
  · rw [decide_eq_false (fun q => q.elim (fun z => z.2 h0) h), h0]; rfl
  · rw [decide_eq_true (Or.inl ⟨j3 h0, h0⟩), j2.resolve_left h0]; rfl
theorem failB_out {x : AN} {F T : Int64} (h : F < -2147483648 ∨ 2147483647 < T) : bI (failB x x.1.1 F T) = 1 := by
  unfold failB
  rw [decide_eq_true (Or.inr h)]; rfl
section XG
variable {l : Launch} {G : cxG} {adr : Nat → Nat} {Lf Rt : va_W} {σ : St}
theorem x_execA {b p N : Nat} {al : Nat → Int32} (hb : LX.1[b]? = some (.inl 0)) (hp : LX.1[p]? = some (.inl 6)) (hpb : p + 7 ≤ b ∨ b + 10 ≤ p) (hW : wfP al N) (hR : PgR σ p al N) (x : AN) (hx : x.1.1 < N) (hl : ¬ 4 ≤ kdA al x.1.1) (hD : AnD σ b x) (hI : AInv al N x) (hcp : ¬ x.2.2.2.2.2.2.2.2.2 = 0) : SpR0 l G mX0_execute [.ref (adr b), .ref (adr p), .int (nI x.1.1)] adr LX Lf Rt σ (fun τ => Fr b (b + 10) σ τ ∧ τ.1 (b + 1) = σ.1 (b + 1) ∧ τ.2.2.1 (b + 2) = σ.2.2.1 (b + 2) ∧ AnD τ b (aMid al x)) := by
  refine spec_of (by decide) (Nat.le_of_ble_eq_true rfl) (fun sz => ?_)
  have hN := hW.1
  have hi30 : x.1.1 < 30 := by omega
  obtain ⟨⟨w, hw, hres⟩, g2, g3⟩ := hW.2.2.2.2.1 x.1.1 hx hl
  have etw : tN (al (1 + 4 * x.1.1 + 1)) = w := by rw [hres]; exact nI_clamp (by omega)
  obtain ⟨q1, q2, q3, q4, -, -⟩ := hR.2 x.1.1 hx
  have bi : vp_in (nI x.1.1) 30 := vp_in_nI hi30 (by decide)
  have ei : (nI x.1.1).toNatClampNeg = x.1.1 := nI_clamp (by omega)
  have hle := rg_le hW hx hl hI.1
  have hlo : ∀ v, v < 8 → σ.2.2.2.1 (b + 3) v = x.2.1 v := fun v hv => (hD.1 v hv).1
  have hhi : ∀ v, v < 8 → σ.2.2.2.1 (b + 4) v = x.2.2.1 v := fun v hv => (hD.1 v hv).2
  have g3' : kdA al x.1.1 = 1 ∨ kdA al x.1.1 = 2 ∨ kdA al x.1.1 = 3 → okOp (al (1 + 4 * x.1.1 + 3)) := fun k => g3 (fun k0 => by rw [k0] at k; rcases k with k | k | k <;> exact absurd k (by decide))
  obtain ⟨eF0, eT0⟩ := rgF_cm (lo := x.2.1) (hi := x.2.2.1) hW hx hl
  have eF : rgF al x.2.1 x.2.2.1 x.1.1 = cmF (kdA al x.1.1) (vOf (σ.2.2.2.1 (b + 3)) (al (1 + 4 * x.1.1 + 2))) (vOf (σ.2.2.2.1 (b + 4)) (al (1 + 4 * x.1.1 + 2))) (vOf (σ.2.2.2.1 (b + 3)) (al (1 + 4 * x.1.1 + 3))) (vOf (σ.2.2.2.1 (b + 4)) (al (1 + 4 * x.1.1 + 3))) := by
    rw [eF0, vOf_eq hlo g2, vOf_eq hhi g2]
    by_cases k0 : kdA al x.1.1 = 0
    · rw [k0]; unfold cmF; simp +decide only [if_false]
    · rw [vOf_eq hlo (g3 k0), vOf_eq hhi (g3 k0)]
  have eT : rgT al x.2.1 x.2.2.1 x.1.1 = cmT (kdA al x.1.1) (vOf (σ.2.2.2.1 (b + 3)) (al (1 + 4 * x.1.1 + 2))) (vOf (σ.2.2.2.1 (b + 4)) (al (1 + 4 * x.1.1 + 2))) (vOf (σ.2.2.2.1 (b + 3)) (al (1 + 4 * x.1.1 + 3))) (vOf (σ.2.2.2.1 (b + 4)) (al (1 + 4 * x.1.1 + 3))) := by
    rw [eT0, vOf_eq hlo g2, vOf_eq hhi g2]
    by_cases k0 : kdA al x.1.1 = 0
    · rw [k0]; unfold cmT; simp +decide only [if_false]
    · rw [vOf_eq hlo (g3 k0), vOf_eq hhi (g3 k0)]
  obtain ⟨f9, hf9⟩ : ∃ f, f = upd (σ.2.2.1 (b + 9)) (nI x.1.1).toNatClampNeg (σ.2.2.1 (b + 9) (nI x.1.1).toNatClampNeg ||| σ.1 b 5) := ⟨_, rfl⟩
  have hcm : SpecD l G mX0_compute [.ref (adr b), .int (kdA al x.1.1), .int (al (1 + 4 * x.1.1 + 2)), .int (al (1 + 4 * x.1.1 + 3))] (wp G adr LX Lf Rt (sA σ (b + 9) f9)) none (wp G adr LX Lf Rt (nwS (sA σ (b + 9) f9) b (rgF al x.2.1 x.2.2.1 x.1.1) (rgT al x.2.1 x.2.2.1 x.1.1))) := by
    rw [eF, eT]
    exact x_compute (σ := sA σ (b + 9) f9) hb _ _ _ g2 g3'
  have hrc : (nwS (sA σ (b + 9) f9) b (rgF al x.2.1 x.2.2.1 x.1.1) (rgT al x.2.1 x.2.2.1 x.1.1)).2.2.1 (b + 5) x.1.1 = 0 ∨ (nwS (sA σ (b + 9) f9) b (rgF al x.2.1 x.2.2.1 x.1.1) (rgT al x.2.1 x.2.2.1 x.1.1)).2.2.1 (b + 5) x.1.1 = 1 := by
    show (sA σ (b + 9) f9).2.2.1 (b + 5) x.1.1 = 0 ∨ (sA σ (b + 9) f9).2.2.1 (b + 5) x.1.1 = 1
    rw [gA' (by omega), (hD.2.1 x.1.1 hi30).1]
    exact (hI.2.1 x.1.1 hi30).1
  have E := ex3_of (σ := σ) (b := b) (i := x.1.1) (F := rgF al x.2.1 x.2.2.1 x.1.1) (T := rgT al x.2.1 x.2.2.1 x.1.1) (f9 := f9)
  have hnt := x_note (l := l) (G := G) (adr := adr) (Lf := Lf) (Rt := Rt) hb x.1.1 hi30 hrc
  generalize hF : rgF al x.2.1 x.2.2.1 x.1.1 = F at hcm E hnt hle
  generalize hT : rgT al x.2.1 x.2.2.1 x.1.1 = T at hcm E hnt hle
  generalize hτ : noteS (nwS (sA σ (b + 9) f9) b F T) b x.1.1 = τ3 at E hnt
  have E' := E
  obtain ⟨r0, rc1, rc2, n1, n2, -, r6, -, -, -, -, o1, o2⟩ := E'
  have hend : σ.1 b 1 = 0 := by rw [hD.2.2.1, if_neg hcp]
  have ht : τ3.2.2.1 (p + 2) x.1.1 = nI w := by rw [(r0 (p + 2) (by omega)).2.2.1, q2, hres]
  have h6 : ∀ j, j < 30 → τ3.2.2.1 (b + 6) j = x.2.2.2.2.1 j := fun j hj => by rw [r6]; exact (hD.2.1 j hj).2.1
  have h2 : τ3.1 b 2 = nI (cntF x.2.2.2.2.1 30) := by rw [o2]; exact hD.2.2.2
  have htail : PW l G mX0_execute (wp G adr LX Lf Rt σ) sz (fun o => ∃ σ', o = .inl (none, wp G adr LX Lf Rt σ') ∧ (Fr b (b + 10) σ σ' ∧ σ'.1 (b + 1) = σ.1 (b + 1) ∧ σ'.2.2.1 (b + 2) = σ.2.2.1 (b + 2) ∧ AnD σ' b (aMid al x))) 40 [(0, .ref (adr b)), (1, .ref (adr p)), (2, .int (nI x.1.1))] [] 0 0 (wp G adr LX Lf Rt τ3) := by
    refine exA_mid hb hp hi30 F T n1 n2 (fun hin => ?_) (fun hout => ?_)
    · obtain ⟨cF, cT⟩ := cut_id hin.1 hin.2
      have hle2 : F ≤ T := Int64.le_iff_toInt_le.mpr hle
      have fB := failB_in hI hi30 ((rng_in hle).mp hin)
      refine exA_tail hb hp hi30 hw F T n1 n2 ht (fun _ z => ?_) (fun h => absurd hle2 h)
      obtain ⟨a0, a1, a2, a3, a4, a5, a6, a7, a8⟩ := asS_ok (σ := τ3) (b := b) (w := w) (L := F) (H := T) (z := z)
      refine ⟨_, rfl, r0.tr a0, a1.trans rc1, by rw [a2]; exact rc2, AnD_step hi30 hl hD E hF.symm hT.symm etw ?_ ?_ (by rw [a2]) a5 a6 ?_ ?_ ?_⟩
      · rw [cF, cT, if_pos hle2]; exact a3
      · rw [cF, cT, if_pos hle2]; exact a4
      · intro j hj
        rw [a2, fB, upd_same rfl]; exact h6 j hj
      · rw [cF, cT, if_pos hle2, a7, o1]; exact hend
      · rw [fB, upd_same rfl, a8]; exact h2
    · have ho : F < -2147483648 ∨ 2147483647 < T := Decidable.byContradiction (fun h => hout ((rng_in hle).mpr h))
      have fB := failB_out (x := x) ho
      obtain ⟨y0, y1, y2, y5, yL, yE, y6, yO, yP⟩ := exO_ok (b := b) hi30 h6 (hI.2.1 x.1.1 hi30).2.1 h2
      generalize exO τ3 b x.1.1 = ρ at y0 y1 y2 y5 yL yE y6 yO yP
      have z0 : Fr b (b + 10) ρ (nwS ρ b (gtr F (-2147483648)) (lsr T 2147483647)) := by
        unfold nwS
        refine Fr.J (Fr.J Fr.rf ?_ ?_) ?_ ?_ <;> omega
      refine exA_tail (σ := nwS ρ b (gtr F (-2147483648)) (lsr T 2147483647)) hb hp hi30 hw (gtr F (-2147483648)) (lsr T 2147483647) ?_ ?_ ?_ (fun hc z => ?_) (fun hc => ?_)
      · unfold nwS; rw [gJ' (by omega), gJ]
      · unfold nwS; rw [gJ]
      · show ρ.2.2.1 (p + 2) x.1.1 = _
        rw [yP p (by omega)]; exact ht
      · obtain ⟨a0, a1, a2, a3, a4, a5, a6, a7, a8⟩ := asS_ok (σ := nwS ρ b (gtr F (-2147483648)) (lsr T 2147483647)) (b := b) (w := w) (L := gtr F (-2147483648)) (H := lsr T 2147483647) (z := z)
        refine ⟨_, rfl, ((r0.tr y0).tr z0).tr a0, a1.trans (y1.trans rc1), ?_, AnD_step hi30 hl hD E hF.symm hT.symm etw ?_ ?_ ?_ ?_ ?_ ?_ ?_ ?_⟩
        · rw [a2]; show ρ.2.2.1 (b + 2) = _; rw [y2]; exact rc2
        · rw [if_pos hc, a3]; show vp_updL (ρ.2.2.2.1 (b + 3)) _ _ = _; rw [yL]
        · rw [if_pos hc, a4]; show vp_updL (ρ.2.2.2.1 (b + 4)) _ _ = _; rw [yL]
        · rw [a2]; exact y5
        · rw [a5]; show ρ.2.2.2.1 (b + 7) = _; rw [yL]
        · rw [a6]; show ρ.2.2.2.1 (b + 8) = _; rw [yL]
        · intro j hj
          rw [a2, fB]; exact y6 j hj
        · rw [if_pos hc, a7]; show ρ.1 b 1 = _; rw [yE, o1]; exact hend
        · rw [fB, a8]; exact yO
      · refine ⟨_, rfl, Fr.I ((r0.tr y0).tr z0) (by omega) (by omega), ?_, ?_, AnD_step hi30 hl hD E hF.symm hT.symm etw ?_ ?_ ?_ ?_ ?_ ?_ ?_ ?_⟩
        · funext q; rw [gI' (by omega)]; show ρ.1 (b + 1) q = _; rw [y1, rc1]
        · show ρ.2.2.1 (b + 2) = _; rw [y2]; exact rc2
        · rw [if_neg hc]; show ρ.2.2.2.1 (b + 3) = _; rw [yL]
        · rw [if_neg hc]; show ρ.2.2.2.1 (b + 4) = _; rw [yL]
        · show ρ.2.2.1 (b + 5) = _; exact y5
        · show ρ.2.2.2.1 (b + 7) = _; rw [yL]
        · show ρ.2.2.2.1 (b + 8) = _; rw [yL]
        · intro j hj
          rw [fB]; exact y6 j hj
        · rw [if_neg hc, gI]
        · rw [fB, gI' (by omega)]; exact yO
  refine pw_aload_n dX0_execute_0 rfl ?_
  refine lp_getr (b + 9) dX0_execute_1 fp_RX0_49.FL hb rfl (rX0_10 hb) ?_
  refine pw_iload_n dX0_execute_4 rfl ?_
  refine pw_dup2 dX0_execute_5 rfl rfl ?_
  refine lp_iald dX0_execute_6 (kX0_10 hb) bi ?_
  refine pw_aload_n dX0_execute_7 rfl ?_
  refine lp_geti dX0_execute_8 fp_RX0_33.FL hb rfl ?_
  refine pw_ior dX0_execute_11 ?_
  refine lp_iast dX0_execute_12 (kX0_10 hb) bi ?_
  rw [← hf9]
  refine pw_aload_n dX0_execute_13 rfl ?_
  refine pw_aload_n dX0_execute_14 rfl ?_
  refine lp_getr (p + 1) dX0_execute_15 fp_RX0_95.FL hp rfl (rX6_1 hp) ?_
  refine pw_iload_n dX0_execute_18 rfl ?_
  refine lp_iald dX0_execute_19 (kX6_1 hp) bi ?_
  refine pw_top (kdA al x.1.1) (by rw [gA' (by omega), ei]; exact q1) ?_
  refine pw_aload_n dX0_execute_20 rfl ?_
  refine lp_getr (p + 3) dX0_execute_21 fp_RX0_98.FL hp rfl (rX6_3 hp) ?_
  refine pw_iload_n dX0_execute_24 rfl ?_
  refine lp_iald dX0_execute_25 (kX6_3 hp) bi ?_
  refine pw_top (al (1 + 4 * x.1.1 + 2)) (by rw [gA' (by omega), ei]; exact q3) ?_
  refine pw_aload_n dX0_execute_26 rfl ?_
  refine lp_getr (p + 4) dX0_execute_27 fp_RX0_101.FL hp rfl (rX6_4 hp) ?_
  refine pw_iload_n dX0_execute_30 rfl ?_
  refine lp_iald dX0_execute_31 (kX6_4 hp) bi ?_
  refine pw_top (al (1 + 4 * x.1.1 + 3)) (by rw [gA' (by omega), ei]; exact q4) ?_
  refine lp_cV0 (mi' := mX0_compute) (As := [_, _, _]) (q := (RX0, TX0, 13)) dX0_execute_32 lk_RX0_104 mk_X0_compute mi_X0_compute me_X0_compute ⟨by decide, by decide⟩ rfl rfl (Nat.le_of_ble_eq_true rfl) hb rfl ⟨rfl, rfl⟩ ⟨Nat.zero_le _, Nat.zero_le _⟩ hcm ?_
  refine pw_aload_n dX0_execute_35 rfl ?_
  refine pw_iload_n dX0_execute_36 rfl ?_
  refine lp_cV0 (mi' := mX0_note) (As := [_]) (q := (RX0, TX0, 13)) dX0_execute_37 lk_RX0_108 mk_X0_note mi_X0_note me_X0_note ⟨by decide, by decide⟩ rfl rfl (Nat.le_of_ble_eq_true rfl) hb rfl ⟨rfl, rfl⟩ ⟨Nat.zero_le _, Nat.zero_le _⟩ hnt ?_
  exact pw_lk [(0, .ref (adr b)), (1, .ref (adr p)), (2, .int (nI x.1.1))] ⟨rfl, rfl, rfl, trivial⟩ htail
theorem kd_edge {al : Nat → Int32} {N i : Nat} (hW : wfP al N) (hi : i < N) : edgeB (kdA al i) = decide (4 ≤ kdA al i) := by
  unfold edgeB
  exact decide_eq_decide.mpr (kd_loop hW hi).symm
theorem go_loop {sz : Nat} {w0 : va_W} {fin : OC → Prop} {b p a N : Nat} {al : Nat → Int32} {σ0 : St} (hb : LX.1[b]? = some (.inl 0)) (hp : LX.1[p]? = some (.inl 6)) (hpb : p + 7 ≤ b ∨ b + 10 ≤ p) (hW : wfP al N) (hR : PgR σ0 p al N) :
    ∀ (n : Nat) (x : AN) (c : Nat) (τ : St), WInv al N x.1 → wmu al (cPt al N) N x.1 < n → c + n ≤ 60000 → Fr b (b + 10) σ0 τ → AnR τ b x → AInv al N x →
      (∀ ρ, Fr b (b + 10) σ0 ρ → AnR ρ b (aIter al (cPt al N) N n x) → AInv al N (aIter al (cPt al N) N n x) → fin (.inl (none, wp G adr LX Lf Rt ρ))) →
      PW l G mX0_go w0 sz fin 7 [(0, .ref (adr b)), (1, .ref (adr p)), (2, .ref (adr a)), (3, .int (nI c))] [] 0 0 (wp G adr LX Lf Rt τ) := by
  intro n
  induction n with
  | zero => intro x c τ _ h; omega
  | succ n ih =>
    intro x c τ hI hmu hc hF hA hV kk
    have hN := hW.1
    have hxN := hI.1
    have hR1 : PgR τ p al N := hR.fr hF (by omega)
    have e1M : (1000000 : Int32) = nI 1000000 := by decide
    have c10 : ¬ (1000000 : Int32) ≤ nI c := by rw [e1M]; exact nI_ge (by omega) (by decide)
    have ecnt : τ.1 p 0 = nI N := hR1.1
    have eat : τ.1 (b + 1) 0 = nI x.1.1 := hA.1.1
    unfold aIter at kk
    by_cases hlt : x.1.1 < N
    · by_cases hcp : x.2.2.2.2.2.2.2.2.2 = 0
      · rw [if_neg (fun z => z.2 hcp)] at kk
        have een : τ.1 b 1 = 1 := by rw [hA.2.2.2.1, if_pos hcp]
        refine pw_iload_n dX0_go_7 rfl ?_
        refine pw_ldc dX0_go_8 kc_RX0_64 ?_
        refine pw_icmp_ge 74 dX0_go_10 (by decide) (fun c_10 => absurd c_10 c10) (fun c_10 => ?_)
        refine pw_aload_n dX0_go_13 rfl ?_
        refine lp_getr (b + 1) dX0_go_14 fp_RX0_12.FL hb rfl (rX0_0 hb) ?_
        refine lp_geti dX0_go_17 fp_RX0_65.FL (kX0_0 hb) rfl ?_
        refine pw_top (nI x.1.1) eat ?_
        refine pw_aload_n dX0_go_20 rfl ?_
        refine lp_geti dX0_go_21 fp_RX0_68.FL hp rfl ?_
        refine pw_top (nI N) ecnt ?_
        refine pw_icmp_ge 74 dX0_go_24 (by decide) (fun c_24 => absurd c_24 (nI_ge hlt (by omega))) (fun c_24 => ?_)
        refine pw_aload_n dX0_go_27 rfl ?_
        refine lp_geti dX0_go_28 fp_RX0_18.FL hb rfl ?_
        refine pw_top 1 een ?_
        refine pw_if_ne 74 dX0_go_31 (by decide) (fun c_31 => ?_) (fun c_31 => absurd c_31 (by decide))
        exact pw_vret rfl dX0_go_74 (Nat.zero_le _) (Nat.zero_le _) (kk τ hF hA hV)
      · rw [if_pos ⟨hlt, hcp⟩] at kk
        have een : τ.1 b 1 = 0 := by rw [hA.2.2.2.1, if_neg hcp]
        have hnx : WInv al N (wnext al (cPt al N) x.1) ∧ wmu al (cPt al N) N (wnext al (cPt al N) x.1) < wmu al (cPt al N) N x.1 := wnext_ok (f0 := fun _ => -1) hW.2.2.1 hN hW.2.2.2.1 hI hlt
        have hed := x_isEdge (l := l) (G := G) (adr := adr) (Lf := Lf) (Rt := Rt) (σ := τ) hp x.1.1 (by omega)
        rw [(hR1.2 x.1.1 hlt).1, kd_edge hW hlt] at hed
        have hV' := AInv_mid hW hlt hV
        have hV2 : AInv al N (aStep al (cPt al N) x) := hV'
        have ih1 := fun (ρ : St) (h1 : Fr b (b + 10) σ0 ρ) (h2 : AnR ρ b (aStep al (cPt al N) x)) => ih (aStep al (cPt al N) x) (c + 1) ρ hnx.1 (by have := hnx.2; show wmu _ _ _ (wnext _ _ _) < n; omega) (by omega) h1 h2 hV2 kk
        have hadv : ∀ ρ : St, Fr b (b + 10) σ0 ρ → CuR ρ (b + 1) x.1 → AnD ρ b (aMid al x) → PW l G mX0_go w0 sz fin 60 [(0, .ref (adr b)), (1, .ref (adr p)), (2, .ref (adr a)), (3, .int (nI c))] [] 0 0 (wp G adr LX Lf Rt ρ) := by
          intro ρ h1 h2 h3
          have hR2 : PgR ρ p al N := hR.fr h1 (by omega)
          refine pw_aload_n dX0_go_60 rfl ?_
          refine lp_getr (b + 1) dX0_go_61 fp_RX0_12.FL hb rfl (rX0_0 hb) ?_
          refine pw_aload_n dX0_go_64 rfl ?_
          refine lp_rV0 (mi' := mX1_advance) (As := [_]) (q := (RX1, TX1, 2)) dX0_go_65 lk_RX0_81 mk_X1_advance mi_X1_advance me_X1_advance ⟨by decide, by decide⟩ rfl rfl (Nat.le_of_ble_eq_true rfl) (kX0_0 hb) rfl ⟨rfl, rfl⟩ ⟨Nat.zero_le _, Nat.zero_le _⟩ (x_advance (kX0_0 hb) hp (by omega) hW hR2 x.1 hI hlt h2) (fun ρ2 hQ => ?_)
          refine pw_iinc dX0_go_68 rfl (by decide) ?_
          refine pw_goto (tgt := 7) dX0_go_71 (by decide) ?_
          refine pw_lk [(0, .ref (adr b)), (1, .ref (adr p)), (2, .ref (adr a)), (3, .int (nI (c + 1)))] ⟨rfl, rfl, rfl, congrArg (fun x => some (Value.int x)) (nI_1 c), trivial⟩ (ih1 ρ2 (h1.tr (hQ.1.mono (by omega) (by omega))) ⟨hQ.2, ?_⟩)
          obtain ⟨d1, d2, d3, d4⟩ := h3
          refine ⟨fun v hv => ?_, fun i hi => ?_, (congrFun (hQ.1 b (by omega)).1 1).trans d3, (congrFun (hQ.1 b (by omega)).1 2).trans d4⟩
          · exact ⟨(congrFun (hQ.1 (b + 3) (by omega)).2.2.2.1 v).trans (d1 v hv).1, (congrFun (hQ.1 (b + 4) (by omega)).2.2.2.1 v).trans (d1 v hv).2⟩
          · obtain ⟨q1, q2, q3, q4⟩ := d2 i hi
            exact ⟨(congrFun (hQ.1 (b + 5) (by omega)).2.2.1 i).trans q1, (congrFun (hQ.1 (b + 6) (by omega)).2.2.1 i).trans q2, (congrFun (hQ.1 (b + 7) (by omega)).2.2.2.1 i).trans q3, (congrFun (hQ.1 (b + 8) (by omega)).2.2.2.1 i).trans q4⟩
        by_cases hl : 4 ≤ kdA al x.1.1
        · rw [decide_eq_true hl] at hed
          have e1 : aMid al x = (x.1, x.2.1, x.2.2.1, x.2.2.2.1, x.2.2.2.2.1, x.2.2.2.2.2.1, x.2.2.2.2.2.2.1, x.2.2.2.2.2.2.2.1, x.2.2.2.2.2.2.2.2.1, 1) := by unfold aMid; rw [if_pos hl]
          have hD1 : AnD τ b (aMid al x) := by
            rw [e1]
            obtain ⟨d1, d2, d3, d4⟩ := hA.2
            exact ⟨d1, d2, een, d4⟩
          refine pw_iload_n dX0_go_7 rfl ?_
          refine pw_ldc dX0_go_8 kc_RX0_64 ?_
          refine pw_icmp_ge 74 dX0_go_10 (by decide) (fun c_10 => absurd c_10 c10) (fun c_10 => ?_)
          refine pw_aload_n dX0_go_13 rfl ?_
          refine lp_getr (b + 1) dX0_go_14 fp_RX0_12.FL hb rfl (rX0_0 hb) ?_
          refine lp_geti dX0_go_17 fp_RX0_65.FL (kX0_0 hb) rfl ?_
          refine pw_top (nI x.1.1) eat ?_
          refine pw_aload_n dX0_go_20 rfl ?_
          refine lp_geti dX0_go_21 fp_RX0_68.FL hp rfl ?_
          refine pw_top (nI N) ecnt ?_
          refine pw_icmp_ge 74 dX0_go_24 (by decide) (fun c_24 => absurd c_24 (nI_ge hlt (by omega))) (fun c_24 => ?_)
          refine pw_aload_n dX0_go_27 rfl ?_
          refine lp_geti dX0_go_28 fp_RX0_18.FL hb rfl ?_
          refine pw_top 0 een ?_
          refine pw_if_ne 74 dX0_go_31 (by decide) (fun c_31 => absurd c_31 (fun z => z rfl)) (fun c_31 => ?_)
          refine pw_aload_n dX0_go_34 rfl ?_
          refine pw_aload_n dX0_go_35 rfl ?_
          refine lp_getr (b + 1) dX0_go_36 fp_RX0_12.FL hb rfl (rX0_0 hb) ?_
          refine lp_geti dX0_go_39 fp_RX0_65.FL (kX0_0 hb) rfl ?_
          refine pw_top (nI x.1.1) eat ?_
          refine lp_cV1 (mi' := mX6_isLoopEdge) (As := [_]) (q := (RX6, TX6, 7)) dX0_go_42 lk_RX0_73 mk_X6_isLoopEdge mi_X6_isLoopEdge me_X6_isLoopEdge ⟨by decide, by decide⟩ rfl rfl (Nat.le_of_ble_eq_true rfl) hp rfl ⟨rfl, rfl⟩ ⟨Nat.zero_le _, Nat.zero_le _⟩ hed ?_
          refine pw_if_ne 60 dX0_go_45 (by decide) (fun c_45 => ?_) (fun c_45 => absurd c_45 (by decide))
          exact pw_lk [(0, .ref (adr b)), (1, .ref (adr p)), (2, .ref (adr a)), (3, .int (nI c))] ⟨rfl, rfl, rfl, rfl, trivial⟩ (hadv τ hF hA.1 hD1)
        · rw [decide_eq_false hl] at hed
          refine pw_iload_n dX0_go_7 rfl ?_
          refine pw_ldc dX0_go_8 kc_RX0_64 ?_
          refine pw_icmp_ge 74 dX0_go_10 (by decide) (fun c_10 => absurd c_10 c10) (fun c_10 => ?_)
          refine pw_aload_n dX0_go_13 rfl ?_
          refine lp_getr (b + 1) dX0_go_14 fp_RX0_12.FL hb rfl (rX0_0 hb) ?_
          refine lp_geti dX0_go_17 fp_RX0_65.FL (kX0_0 hb) rfl ?_
          refine pw_top (nI x.1.1) eat ?_
          refine pw_aload_n dX0_go_20 rfl ?_
          refine lp_geti dX0_go_21 fp_RX0_68.FL hp rfl ?_
          refine pw_top (nI N) ecnt ?_
          refine pw_icmp_ge 74 dX0_go_24 (by decide) (fun c_24 => absurd c_24 (nI_ge hlt (by omega))) (fun c_24 => ?_)
          refine pw_aload_n dX0_go_27 rfl ?_
          refine lp_geti dX0_go_28 fp_RX0_18.FL hb rfl ?_
          refine pw_top 0 een ?_
          refine pw_if_ne 74 dX0_go_31 (by decide) (fun c_31 => absurd c_31 (fun z => z rfl)) (fun c_31 => ?_)
          refine pw_aload_n dX0_go_34 rfl ?_
          refine pw_aload_n dX0_go_35 rfl ?_
          refine lp_getr (b + 1) dX0_go_36 fp_RX0_12.FL hb rfl (rX0_0 hb) ?_
          refine lp_geti dX0_go_39 fp_RX0_65.FL (kX0_0 hb) rfl ?_
          refine pw_top (nI x.1.1) eat ?_
          refine lp_cV1 (mi' := mX6_isLoopEdge) (As := [_]) (q := (RX6, TX6, 7)) dX0_go_42 lk_RX0_73 mk_X6_isLoopEdge mi_X6_isLoopEdge me_X6_isLoopEdge ⟨by decide, by decide⟩ rfl rfl (Nat.le_of_ble_eq_true rfl) hp rfl ⟨rfl, rfl⟩ ⟨Nat.zero_le _, Nat.zero_le _⟩ hed ?_
          refine pw_if_ne 60 dX0_go_45 (by decide) (fun c_45 => absurd c_45 (fun z => z rfl)) (fun c_45 => ?_)
          refine pw_aload_n dX0_go_48 rfl ?_
          refine pw_aload_n dX0_go_49 rfl ?_
          refine pw_aload_n dX0_go_50 rfl ?_
          refine lp_getr (b + 1) dX0_go_51 fp_RX0_12.FL hb rfl (rX0_0 hb) ?_
          refine lp_geti dX0_go_54 fp_RX0_65.FL (kX0_0 hb) rfl ?_
          refine pw_top (nI x.1.1) eat ?_
          refine lp_rV0 (mi' := mX0_execute) (As := [_, _]) (q := (RX0, TX0, 13)) dX0_go_57 lk_RX0_77 mk_X0_execute mi_X0_execute me_X0_execute ⟨by decide, by decide⟩ rfl rfl (Nat.le_of_ble_eq_true rfl) hb rfl ⟨rfl, rfl⟩ ⟨Nat.zero_le _, Nat.zero_le _⟩ (x_execA hb hp hpb hW hR1 x hlt hl hA.2 hV hcp) (fun ρ hE => ?_)
          exact pw_lk [(0, .ref (adr b)), (1, .ref (adr p)), (2, .ref (adr a)), (3, .int (nI c))] ⟨rfl, rfl, rfl, rfl, trivial⟩ (hadv ρ (hF.tr hE.1) ⟨(congrFun hE.2.1 0).trans hA.1.1, fun j hj => (congrFun hE.2.2.1 j).trans (hA.1.2 j hj)⟩ hE.2.2.2)
    · rw [if_neg (fun z => hlt z.1)] at kk
      refine pw_iload_n dX0_go_7 rfl ?_
      refine pw_ldc dX0_go_8 kc_RX0_64 ?_
      refine pw_icmp_ge 74 dX0_go_10 (by decide) (fun c_10 => absurd c_10 c10) (fun c_10 => ?_)
      refine pw_aload_n dX0_go_13 rfl ?_
      refine lp_getr (b + 1) dX0_go_14 fp_RX0_12.FL hb rfl (rX0_0 hb) ?_
      refine lp_geti dX0_go_17 fp_RX0_65.FL (kX0_0 hb) rfl ?_
      refine pw_top (nI x.1.1) eat ?_
      refine pw_aload_n dX0_go_20 rfl ?_
      refine lp_geti dX0_go_21 fp_RX0_68.FL hp rfl ?_
      refine pw_top (nI N) ecnt ?_
      refine pw_icmp_ge 74 dX0_go_24 (by decide) (fun c_24 => ?_) (fun c_24 => absurd (nI_le (by omega) (by omega)) c_24)
      exact pw_vret rfl dX0_go_74 (Nat.zero_le _) (Nat.zero_le _) (kk τ hF hA hV)
/-- the inputs at a are al's -/
def InL (σ : St) (a : Nat) (al : Nat → Int32) : Prop := ∀ v, v < 8 → σ.2.2.1 (a + 1) v = al (121 + 3 * v) ∧ σ.2.2.1 (a + 2) v = al (121 + 3 * v + 1)
def inOK (al : Nat → Int32) : Prop := ∀ v, v < 8 → al (121 + 3 * v) ≤ al (121 + 3 * v + 1)
theorem AInv_ini {al : Nat → Int32} {N : Nat} (h : inOK al) : AInv al N (cIni al) := by
  refine ⟨fun v hv => ⟨iR_32 _, iR_32 _, ?_⟩, fun i hi => ⟨Or.inl rfl, Or.inl rfl, fun q => absurd rfl q, fun q => absurd rfl q⟩, Or.inr rfl⟩
  show (al (121 + 3 * v)).toInt64.toInt ≤ (al (121 + 3 * v + 1)).toInt64.toInt
  rw [Int32.toInt_toInt64, Int32.toInt_toInt64]
  exact Int32.le_iff_toInt_le.mp (h v hv)
theorem cntF_0 : ∀ n, cntF (fun _ => 0) n = 0 := by
  intro n
  induction n with
  | zero => rfl
  | succ n ih => show cntF _ n + _ = 0; rw [ih, if_pos rfl]
theorem wmu0 {al : Nat → Int32} {N : Nat} {f : Nat → Int32} : wmu al (cPt al N) N (0, 0, f) < 1600 * N + 1 := by
  unfold wmu
  dsimp only
  rw [show (lsc al 0).1 = 0 from rfl, if_pos rfl]
  omega
theorem x_go {b p a N : Nat} {al : Nat → Int32} (hb : LX.1[b]? = some (.inl 0)) (hp : LX.1[p]? = some (.inl 6)) (ha : LX.1[a]? = some (.inl 3)) (hpb : p + 7 ≤ b ∨ b + 10 ≤ p) (hab : a + 4 ≤ b ∨ b + 10 ≤ a) (hW : wfP al N) (hR : PgR σ p al N) (hL : InL σ a al) (hO : inOK al) : SpR0 l G mX0_go [.ref (adr b), .ref (adr p), .ref (adr a)] adr LX Lf Rt σ (fun τ => Fr b (b + 10) σ τ ∧ AnR τ b (cAna al N) ∧ AInv al N (cAna al N)) := by
  refine spec_of (by decide) (Nat.le_of_ble_eq_true rfl) (fun sz => ?_)
  have hN := hW.1
  refine pw_aload_n dX0_go_0 rfl ?_
  refine pw_aload_n dX0_go_1 rfl ?_
  refine lp_rV0 (mi' := mX0_begin) (As := [_]) (q := (RX0, TX0, 13)) dX0_go_2 lk_RX0_60 mk_X0_begin mi_X0_begin me_X0_begin ⟨by decide, by decide⟩ rfl rfl (Nat.le_of_ble_eq_true rfl) hb rfl ⟨rfl, rfl⟩ ⟨Nat.zero_le _, Nat.zero_le _⟩ (x_beginA hb ha hab) (fun τ hQ => ?_)
  refine pw_iconst (v := 0) dX0_go_5 rfl ?_
  refine pw_istore_n dX0_go_6 (by decide) ?_
  refine pw_lk [(0, .ref (adr b)), (1, .ref (adr p)), (2, .ref (adr a)), (3, .int (nI 0))] ⟨rfl, rfl, rfl, rfl, trivial⟩ (go_loop (σ0 := σ) hb hp hpb hW hR (1600 * N + 1) (cIni al) 0 τ ⟨Nat.zero_le _, rfl, fun q => absurd q (Nat.lt_irrefl 0), fun q => absurd q (show ¬ (0 : Nat) = 2 by decide)⟩ wmu0 (by omega) hQ.1.1 ⟨⟨hQ.1.2.1, fun j hj => absurd hj (Nat.not_lt_zero j)⟩, ?_⟩ (AInv_ini hO) (fun ρ h1 h2 h3 => ⟨ρ, rfl, h1, h2, h3⟩))
  refine ⟨fun v hv => ?_, fun i hi => ?_, hQ.1.2.2.1, hQ.1.2.2.2.1.trans ?_⟩
  · obtain ⟨q1, q2⟩ := hQ.1.2.2.2.2 v hv
    exact ⟨q1.trans (by rw [(hL v hv).1]; rfl), q2.trans (by rw [(hL v hv).2]; rfl)⟩
  · obtain ⟨q1, q2, q3, q4, q5⟩ := hQ.2 i hi
    exact ⟨q1, q2, q3, q4⟩
  · show (0 : Int32) = nI (cntF (fun _ => 0) 30)
    rw [cntF_0]; rfl
end XG
