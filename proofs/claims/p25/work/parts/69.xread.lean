/-! THE CLASS: freshening; the public methods that read -/
def PI (σ : St) (al : Nat → Int32) (N : Nat) : Prop := wfP al N ∧ PgR σ 13 al N ∧ InL σ 20 al ∧ InV σ 20 al ∧ inOK al
def ANok (σ : St) (al : Nat → Int32) (N : Nat) : Prop := AnR σ 74 (cAna al N) ∧ AInv al N (cAna al N) ∧ PlR σ 84 al N
def FrA (σ : St) (al : Nat → Int32) (N : Nat) : Prop := σ.1 0 9 = 0 ∨ (σ.1 0 9 = 1 ∧ ANok σ al N)
def FrR (σ : St) (al : Nat → Int32) (N : Nat) : Prop := σ.1 0 10 = 0 ∨ (σ.1 0 10 = 1 ∧ σ.1 0 9 = 1 ∧ ANok σ al N ∧ RunR σ 88 (cRun al N))
/-- only the answers' own things have changed -/
def EfA (σ τ : St) : Prop := ∃ ρ, Fr 74 98 σ ρ ∧ (τ = sI ρ 0 9 1 ∨ τ = sI (sI ρ 0 9 1) 0 10 1)
theorem PI.fr {lo hi N : Nat} {σ τ : St} {al : Nat → Int32} (h : PI σ al N) (hF : Fr lo hi σ τ) (hd : 24 ≤ lo ∨ hi ≤ 13) : PI τ al N := by
  obtain ⟨h1, h2, h3, h4, h5⟩ := h
  exact ⟨h1, h2.fr hF (by omega), fun v hv => ⟨(congrFun (hF 21 (by omega)).2.2.1 v).trans (h3 v hv).1, (congrFun (hF 22 (by omega)).2.2.1 v).trans (h3 v hv).2⟩, fun v hv => (congrFun (hF 23 (by omega)).2.2.1 v).trans (h4 v hv), h5⟩
theorem Fr.I0 {σ : St} {j : Nat} {x : Int32} : Fr 0 1 σ (sI σ 0 j x) := Fr.I Fr.rf (by omega) (by omega)
theorem ANok.fr {lo hi N : Nat} {σ τ : St} {al : Nat → Int32} (h : ANok σ al N) (hF : Fr lo hi σ τ) (hd : 88 ≤ lo ∨ hi ≤ 74) : ANok τ al N := ⟨h.1.fr hF (by omega), h.2.1, h.2.2.fr hF (by omega)⟩
theorem EfA.pi {σ τ : St} {al : Nat → Int32} {N : Nat} (h : EfA σ τ) (hP : PI σ al N) : PI τ al N := by
  obtain ⟨ρ, h1, h2⟩ := h
  have hρ := hP.fr h1 (by omega)
  rcases h2 with rfl | rfl
  · exact hρ.fr Fr.I0 (by omega)
  · exact (hρ.fr Fr.I0 (by omega)).fr Fr.I0 (by omega)
/-- what is neither an answer nor a flag stays -/
theorem EfA.at {σ τ : St} (h : EfA σ τ) {i : Nat} (h0 : i ≠ 0) (hi : i < 74) : τ.1 i = σ.1 i ∧ τ.2.2.1 i = σ.2.2.1 i ∧ τ.2.2.2.2 i = σ.2.2.2.2 i := by
  obtain ⟨ρ, h1, h2⟩ := h
  obtain ⟨a, b, c, d, e⟩ := h1 i (by omega)
  rcases h2 with rfl | rfl
  · refine ⟨?_, c, e⟩
    rw [← a]; funext q; rw [gI' (by omega)]
  · refine ⟨?_, c, e⟩
    rw [← a]; funext q; rw [gI' (by omega), gI' (by omega)]
section XV
variable {l : Launch} {G : cxG} {adr : Nat → Nat} {Lf Rt : va_W} {σ : St} {al : Nat → Int32} {N : Nat}
theorem x_freshA (hP : PI σ al N) (hA : FrA σ al N) : SpR0 l G mX10_freshenAnalysis [.ref (adr 0)] adr LX Lf Rt σ (fun τ => (∃ ρ, Fr 74 88 σ ρ ∧ τ = sI ρ 0 9 1) ∧ ANok τ al N) := by
  refine spec_of (by decide) (Nat.le_of_ble_eq_true rfl) (fun sz => ?_)
  obtain ⟨p1, p2, p3, p4, p5⟩ := hP
  rcases hA with h9 | ⟨h9, hA⟩
  · refine pw_aload_n dX10_freshenAnalysis_0 rfl ?_
    refine lp_geti dX10_freshenAnalysis_1 fp_RX10_70.FL rfl rfl ?_
    refine pw_top 0 h9 ?_
    refine pw_if_ne 51 dX10_freshenAnalysis_4 (by decide) (fun c_4 => absurd c_4 (fun z => z rfl)) (fun c_4 => ?_)
    refine pw_aload_n dX10_freshenAnalysis_7 rfl ?_
    refine lp_getr 74 dX10_freshenAnalysis_8 fp_RX10_49.FL rfl rfl rfl ?_
    refine pw_aload_n dX10_freshenAnalysis_11 rfl ?_
    refine lp_getr 12 dX10_freshenAnalysis_12 fp_RX10_35.FL rfl rfl rfl ?_
    refine lp_getr 13 dX10_freshenAnalysis_15 fp_RX10_117.FL rfl rfl rfl ?_
    refine pw_aload_n dX10_freshenAnalysis_18 rfl ?_
    refine lp_getr 12 dX10_freshenAnalysis_19 fp_RX10_35.FL rfl rfl rfl ?_
    refine lp_getr 20 dX10_freshenAnalysis_22 fp_RX10_134.FL rfl rfl rfl ?_
    refine lp_rV0 (mi' := mX0_go) (As := [_, _]) (q := (RX0, TX0, 13)) dX10_freshenAnalysis_25 lk_RX10_305 mk_X0_go mi_X0_go me_X0_go ⟨by decide, by decide⟩ rfl rfl (Nat.le_of_ble_eq_true rfl) rfl rfl ⟨rfl, rfl⟩ ⟨Nat.zero_le _, Nat.zero_le _⟩ (x_go (b := 74) (a := 20) (p := 13) rfl rfl rfl (by decide) (by decide) p1 p2 p3 p5) (fun τ hQ => ?_)
    obtain ⟨q1, q2, q3⟩ := hQ
    refine pw_aload_n dX10_freshenAnalysis_28 rfl ?_
    refine lp_getr 84 dX10_freshenAnalysis_29 fp_RX10_56.FL rfl rfl rfl ?_
    refine pw_aload_n dX10_freshenAnalysis_32 rfl ?_
    refine lp_getr 12 dX10_freshenAnalysis_33 fp_RX10_35.FL rfl rfl rfl ?_
    refine lp_getr 13 dX10_freshenAnalysis_36 fp_RX10_117.FL rfl rfl rfl ?_
    refine pw_aload_n dX10_freshenAnalysis_39 rfl ?_
    refine lp_getr 74 dX10_freshenAnalysis_40 fp_RX10_49.FL rfl rfl rfl ?_
    refine lp_rV0 (mi' := mX5_make) (As := [_, _]) (q := (RX5, TX5, 3)) dX10_freshenAnalysis_43 lk_RX10_309 mk_X5_make mi_X5_make me_X5_make ⟨by decide, by decide⟩ rfl rfl (Nat.le_of_ble_eq_true rfl) rfl rfl ⟨rfl, rfl⟩ ⟨Nat.zero_le _, Nat.zero_le _⟩ (x_make (σ := τ) (q := 84) (p := 13) (b := 74) rfl rfl rfl (by decide) p1 (p2.fr q1 (by omega))) (fun ρ hR => ?_)
    refine pw_aload_n dX10_freshenAnalysis_46 rfl ?_
    refine pw_iconst (v := 1) dX10_freshenAnalysis_47 rfl ?_
    refine lp_puti dX10_freshenAnalysis_48 fp_RX10_70 rfl rfl rfl rfl ?_
    exact pw_vret rfl dX10_freshenAnalysis_51 (Nat.zero_le _) (Nat.zero_le _) ⟨_, rfl, ⟨ρ, (q1.mono (by omega) (by omega)).tr (hR.1.mono (by omega) (by omega)), rfl⟩, (q2.fr hR.1 (by omega)).fr Fr.I0 (by omega), q3, hR.2.fr Fr.I0 (by omega)⟩
  · refine pw_aload_n dX10_freshenAnalysis_0 rfl ?_
    refine lp_geti dX10_freshenAnalysis_1 fp_RX10_70.FL rfl rfl ?_
    refine pw_top 1 h9 ?_
    refine pw_if_ne 51 dX10_freshenAnalysis_4 (by decide) (fun c_4 => ?_) (fun c_4 => absurd c_4 (by decide))
    exact pw_vret rfl dX10_freshenAnalysis_51 (Nat.zero_le _) (Nat.zero_le _) ⟨σ, rfl, ⟨σ, Fr.rf, by rw [← h9]; exact (sI_self σ 0 9).symm⟩, hA⟩
theorem x_freshR (hP : PI σ al N) (hA : FrA σ al N) (hR : FrR σ al N) : SpR0 l G mX10_freshenRuns [.ref (adr 0)] adr LX Lf Rt σ (fun τ => EfA σ τ ∧ τ.1 0 9 = 1 ∧ τ.1 0 10 = 1 ∧ ANok τ al N ∧ RunR τ 88 (cRun al N)) := by
  refine spec_of (by decide) (Nat.le_of_ble_eq_true rfl) (fun sz => ?_)
  rcases hR with h10 | ⟨h10, h9, hA1, hR1⟩
  · refine pw_aload_n dX10_freshenRuns_0 rfl ?_
    refine lp_geti dX10_freshenRuns_1 fp_RX10_74.FL rfl rfl ?_
    refine pw_top 0 h10 ?_
    refine pw_if_ne 62 dX10_freshenRuns_4 (by decide) (fun c_4 => absurd c_4 (fun z => z rfl)) (fun c_4 => ?_)
    refine pw_aload_n dX10_freshenRuns_7 rfl ?_
    refine lp_rV0 (mi' := mX10_freshenAnalysis) (As := []) (q := (RX10, TX10, 14)) dX10_freshenRuns_8 lk_RX10_184 mk_X10_freshenAnalysis mi_X10_freshenAnalysis me_X10_freshenAnalysis ⟨by decide, by decide⟩ rfl rfl (Nat.le_of_ble_eq_true rfl) rfl rfl ⟨rfl, rfl⟩ ⟨Nat.zero_le _, Nat.zero_le _⟩ (x_freshA hP hA) (fun τ hQ => ?_)
    obtain ⟨⟨ρ1, f1, hτ⟩, hN1⟩ := hQ
    have hP1 : PI τ al N := by rw [hτ]; exact (hP.fr f1 (by omega)).fr Fr.I0 (by omega)
    refine pw_aload_n dX10_freshenRuns_11 rfl ?_
    refine lp_getr 88 dX10_freshenRuns_12 fp_RX10_63.FL rfl rfl rfl ?_
    refine pw_aload_n dX10_freshenRuns_15 rfl ?_
    refine lp_getr 12 dX10_freshenRuns_16 fp_RX10_35.FL rfl rfl rfl ?_
    refine lp_getr 13 dX10_freshenRuns_19 fp_RX10_117.FL rfl rfl rfl ?_
    refine pw_aload_n dX10_freshenRuns_22 rfl ?_
    refine lp_getr 12 dX10_freshenRuns_23 fp_RX10_35.FL rfl rfl rfl ?_
    refine lp_getr 20 dX10_freshenRuns_26 fp_RX10_134.FL rfl rfl rfl ?_
    refine lp_rV0 (mi' := mX7_goPlain) (As := [_, _]) (q := (RX7, TX7, 6)) dX10_freshenRuns_29 lk_RX10_313 mk_X7_goPlain mi_X7_goPlain me_X7_goPlain ⟨by decide, by decide⟩ rfl rfl (Nat.le_of_ble_eq_true rfl) rfl rfl ⟨rfl, rfl⟩ ⟨Nat.zero_le _, Nat.zero_le _⟩ (x_goPlain (σ := τ) (b := 88) (a := 20) (p := 13) rfl rfl rfl (by decide) (by decide) hP1.1 hP1.2.1 hP1.2.2.2.1) (fun τ2 hQ2 => ?_)
    obtain ⟨g1, g2⟩ := hQ2
    refine pw_aload_n dX10_freshenRuns_32 rfl ?_
    refine lp_getr 93 dX10_freshenRuns_33 fp_RX10_67.FL rfl rfl rfl ?_
    refine pw_aload_n dX10_freshenRuns_36 rfl ?_
    refine lp_getr 12 dX10_freshenRuns_37 fp_RX10_35.FL rfl rfl rfl ?_
    refine lp_getr 13 dX10_freshenRuns_40 fp_RX10_117.FL rfl rfl rfl ?_
    refine pw_aload_n dX10_freshenRuns_43 rfl ?_
    refine lp_getr 12 dX10_freshenRuns_44 fp_RX10_35.FL rfl rfl rfl ?_
    refine lp_getr 20 dX10_freshenRuns_47 fp_RX10_134.FL rfl rfl rfl ?_
    refine pw_aload_n dX10_freshenRuns_50 rfl ?_
    refine lp_getr 84 dX10_freshenRuns_51 fp_RX10_56.FL rfl rfl rfl ?_
    refine lp_rV0 (mi' := mX7_goOptimized) (As := [_, _, _]) (q := (RX7, TX7, 6)) dX10_freshenRuns_54 lk_RX10_316 mk_X7_goOptimized mi_X7_goOptimized me_X7_goOptimized ⟨by decide, by decide⟩ rfl rfl (Nat.le_of_ble_eq_true rfl) rfl rfl ⟨rfl, rfl⟩ ⟨Nat.zero_le _, Nat.zero_le _⟩ (x_goOpt (σ := τ2) (b := 93) (a := 20) (p := 13) (q := 84) rfl rfl rfl rfl (by decide) (by decide) (by decide) hP1.1 (hP1.2.1.fr g1 (by omega)) (hN1.2.2.fr g1 (by omega))) (fun τ3 hQ3 => ?_)
    refine pw_aload_n dX10_freshenRuns_57 rfl ?_
    refine pw_iconst (v := 1) dX10_freshenRuns_58 rfl ?_
    refine lp_puti dX10_freshenRuns_59 fp_RX10_74 rfl rfl rfl rfl ?_
    have e9 : τ3.1 0 9 = 1 := by rw [congrFun (hQ3 0 (by omega)).1 9, congrFun (g1 0 (by omega)).1 9, hτ, gI]
    refine pw_vret rfl dX10_freshenRuns_62 (Nat.zero_le _) (Nat.zero_le _) ⟨_, rfl, ⟨sI τ3 0 9 (ρ1.1 0 9), ?_, Or.inr ?_⟩, by rw [gI' (by omega)]; exact e9, gI, ((hN1.fr g1 (by omega)).fr hQ3 (by omega)).fr Fr.I0 (by omega), (g2.fr hQ3 (by omega)).fr Fr.I0 (by omega)⟩
    · have h : Fr 74 98 ρ1 (sI τ3 0 9 (ρ1.1 0 9)) := by
        intro i hi
        obtain ⟨a1, a2, a3, a4, a5⟩ := g1 i (by omega)
        obtain ⟨b1, b2, b3, b4, b5⟩ := hQ3 i (by omega)
        refine ⟨?_, ?_, ?_, ?_, ?_⟩
        · funext j
          by_cases e : i = 0 ∧ j = 9
          · obtain ⟨rfl, rfl⟩ := e; rw [gI]
          · rw [gI' e, b1, a1, hτ, gI' e]
        · show τ3.2.1 i = _; rw [b2, a2, hτ]; rfl
        · show τ3.2.2.1 i = _; rw [b3, a3, hτ]; rfl
        · show τ3.2.2.2.1 i = _; rw [b4, a4, hτ]; rfl
        · show τ3.2.2.2.2 i = _; rw [b5, a5, hτ]; rfl
      exact (f1.mono (by omega) (by omega)).tr h
    · rw [sI_sI, show sI τ3 0 9 1 = τ3 from by rw [← e9]; exact sI_self τ3 0 9]
  · refine pw_aload_n dX10_freshenRuns_0 rfl ?_
    refine lp_geti dX10_freshenRuns_1 fp_RX10_74.FL rfl rfl ?_
    refine pw_top 1 h10 ?_
    refine pw_if_ne 62 dX10_freshenRuns_4 (by decide) (fun c_4 => ?_) (fun c_4 => absurd c_4 (by decide))
    exact pw_vret rfl dX10_freshenRuns_62 (Nat.zero_le _) (Nat.zero_le _) ⟨σ, rfl, ⟨σ, Fr.rf, Or.inl (by rw [← h9]; exact (sI_self σ 0 9).symm)⟩, h9, h10, hA1, hR1⟩
/-- behind a call that reads: the answers are as they must be -/
def AfA (σ τ : St) (al : Nat → Int32) (N : Nat) : Prop := EfA σ τ ∧ FrA τ al N ∧ FrR τ al N
theorem freshA_af {τ : St} (hA : FrA σ al N) (hR : FrR σ al N) (h : (∃ ρ, Fr 74 88 σ ρ ∧ τ = sI ρ 0 9 1) ∧ ANok τ al N) (hs : σ.1 0 9 = 1 → τ = σ) : AfA σ τ al N := by
  obtain ⟨⟨ρ, f1, hτ⟩, hN⟩ := h
  refine ⟨⟨ρ, f1.mono (by omega) (by omega), Or.inl hτ⟩, Or.inr ⟨by rw [hτ, gI], hN⟩, ?_⟩
  rcases hR with h10 | ⟨h10, h9, h1, h2⟩
  · left
    rw [hτ, gI' (by omega), congrFun (f1 0 (by omega)).1 10]; exact h10
  · rw [hs h9]
    exact Or.inr ⟨h10, h9, h1, h2⟩
/-- freshening the analysis, with what is known behind it -/
theorem x_freshA' (hP : PI σ al N) (hA : FrA σ al N) (hR : FrR σ al N) : SpR0 l G mX10_freshenAnalysis [.ref (adr 0)] adr LX Lf Rt σ (fun τ => AfA σ τ al N ∧ ANok τ al N) := by
  rcases hA with h9 | ⟨h9, hA1⟩
  · refine spec_mono (x_freshA hP (Or.inl h9)) (fun o ho => ?_)
    obtain ⟨τ, h1, h2⟩ := ho
    exact ⟨τ, h1, freshA_af (Or.inl h9) hR h2 (fun h => absurd (h9.symm.trans h) (by decide)), h2.2⟩
  · refine spec_of (by decide) (Nat.le_of_ble_eq_true rfl) (fun sz => ?_)
    have hself : σ = sI σ 0 9 1 := by rw [← h9]; exact (sI_self σ 0 9).symm
    refine pw_aload_n dX10_freshenAnalysis_0 rfl ?_
    refine lp_geti dX10_freshenAnalysis_1 fp_RX10_70.FL rfl rfl ?_
    refine pw_top 1 h9 ?_
    refine pw_if_ne 51 dX10_freshenAnalysis_4 (by decide) (fun c_4 => ?_) (fun c_4 => absurd c_4 (by decide))
    exact pw_vret rfl dX10_freshenAnalysis_51 (Nat.zero_le _) (Nat.zero_le _) ⟨σ, rfl, freshA_af (Or.inr ⟨h9, hA1⟩) hR ⟨⟨σ, Fr.rf, hself⟩, hA1⟩ (fun _ => rfl), hA1⟩
theorem x_freshR' (hP : PI σ al N) (hA : FrA σ al N) (hR : FrR σ al N) : SpR0 l G mX10_freshenRuns [.ref (adr 0)] adr LX Lf Rt σ (fun τ => AfA σ τ al N ∧ ANok τ al N ∧ RunR τ 88 (cRun al N)) := by
  refine spec_mono (x_freshR hP hA hR) (fun o ho => ?_)
  obtain ⟨τ, h1, h2, h3, h4, h5, h6⟩ := ho
  exact ⟨τ, h1, ⟨h2, Or.inr ⟨h3, h5⟩, Or.inr ⟨h4, h3, h5, h6⟩⟩, h5, h6⟩
theorem ixI {i : Nat} (hP : PI σ al N) (hi : i < N) : (0 : Int32) ≤ nI i ∧ nI i < σ.1 13 0 := by
  have hN := hP.1.1
  rw [hP.2.1.1]
  exact ⟨nI_pos' (by omega), nI_lt hi (by omega)⟩
theorem x_state (hP : PI σ al N) (hA : FrA σ al N) (hR : FrR σ al N) (i : Nat) (hi : i < N) : SpR1 l G mX10_state [.ref (adr 0), .int (nI i)] adr LX Lf Rt σ (fun v τ => (∃ x : Int32, v = .int x) ∧ AfA σ τ al N) := by
  refine spec_of (by decide) (Nat.le_of_ble_eq_true rfl) (fun sz => ?_)
  have bi : vp_in (nI i) 30 := vp_in_nI (by have := hP.1.1; omega) (by decide)
  refine pw_aload_n dX10_state_0 rfl ?_
  refine pw_iload_n dX10_state_1 rfl ?_
  refine lp_cV0 (mi' := mX10_requireInstruction0) (As := [_]) (q := (RX10, TX10, 14)) dX10_state_2 lk_RX10_155 mk_X10_requireInstruction mi_X10_requireInstruction me_X10_requireInstruction ⟨by decide, by decide⟩ rfl rfl (Nat.le_of_ble_eq_true rfl) rfl rfl ⟨rfl, rfl⟩ ⟨Nat.zero_le _, Nat.zero_le _⟩ (x_reqI (nI i) (ixI hP hi)) ?_
  refine pw_aload_n dX10_state_5 rfl ?_
  refine lp_rV0 (mi' := mX10_freshenAnalysis) (As := []) (q := (RX10, TX10, 14)) dX10_state_6 lk_RX10_184 mk_X10_freshenAnalysis mi_X10_freshenAnalysis me_X10_freshenAnalysis ⟨by decide, by decide⟩ rfl rfl (Nat.le_of_ble_eq_true rfl) rfl rfl ⟨rfl, rfl⟩ ⟨Nat.zero_le _, Nat.zero_le _⟩ (x_freshA' hP hA hR) (fun τ hQ => ?_)
  refine pw_aload_n dX10_state_9 rfl ?_
  refine lp_getr 84 dX10_state_10 fp_RX10_56.FL rfl rfl rfl ?_
  refine lp_getr 85 dX10_state_13 fp_RX10_187.FL rfl rfl rfl ?_
  refine pw_iload_n dX10_state_16 rfl ?_
  refine lp_iald dX10_state_17 rfl bi ?_
  exact pw_iret rfl rfl dX10_state_18 (Nat.zero_le _) (Nat.zero_le _) ⟨_, _, rfl, ⟨_, rfl⟩, hQ.1⟩
theorem x_coveredBy (hP : PI σ al N) (hA : FrA σ al N) (hR : FrR σ al N) (i : Nat) (hi : i < N) : SpR1 l G mX10_coveredBy [.ref (adr 0), .int (nI i)] adr LX Lf Rt σ (fun v τ => (∃ x : Int32, v = .int x) ∧ AfA σ τ al N) := by
  refine spec_of (by decide) (Nat.le_of_ble_eq_true rfl) (fun sz => ?_)
  have bi : vp_in (nI i) 30 := vp_in_nI (by have := hP.1.1; omega) (by decide)
  refine pw_aload_n dX10_coveredBy_0 rfl ?_
  refine pw_iload_n dX10_coveredBy_1 rfl ?_
  refine lp_cV0 (mi' := mX10_requireInstruction0) (As := [_]) (q := (RX10, TX10, 14)) dX10_coveredBy_2 lk_RX10_155 mk_X10_requireInstruction mi_X10_requireInstruction me_X10_requireInstruction ⟨by decide, by decide⟩ rfl rfl (Nat.le_of_ble_eq_true rfl) rfl rfl ⟨rfl, rfl⟩ ⟨Nat.zero_le _, Nat.zero_le _⟩ (x_reqI (nI i) (ixI hP hi)) ?_
  refine pw_aload_n dX10_coveredBy_5 rfl ?_
  refine lp_rV0 (mi' := mX10_freshenAnalysis) (As := []) (q := (RX10, TX10, 14)) dX10_coveredBy_6 lk_RX10_184 mk_X10_freshenAnalysis mi_X10_freshenAnalysis me_X10_freshenAnalysis ⟨by decide, by decide⟩ rfl rfl (Nat.le_of_ble_eq_true rfl) rfl rfl ⟨rfl, rfl⟩ ⟨Nat.zero_le _, Nat.zero_le _⟩ (x_freshA' hP hA hR) (fun τ hQ => ?_)
  refine pw_aload_n dX10_coveredBy_9 rfl ?_
  refine lp_getr 84 dX10_coveredBy_10 fp_RX10_56.FL rfl rfl rfl ?_
  refine lp_getr 86 dX10_coveredBy_13 fp_RX10_192.FL rfl rfl rfl ?_
  refine pw_iload_n dX10_coveredBy_16 rfl ?_
  refine lp_iald dX10_coveredBy_17 rfl bi ?_
  exact pw_iret rfl rfl dX10_coveredBy_18 (Nat.zero_le _) (Nat.zero_le _) ⟨_, _, rfl, ⟨_, rfl⟩, hQ.1⟩
theorem sts_loop {sz : Nat} {w0 : va_W} {fin : OC → Prop} (hN : N ≤ 30) (h0 : σ.1 13 0 = nI N) (a : Int32) (kk : ∀ x : Int32, fin (.inl (some (.int x), wp G adr LX Lf Rt σ))) :
    ∀ (r i : Nat), i + r = N → ∀ c : Int32, PW l G mX10_states w0 sz fin 27 [(0, .ref (adr 0)), (1, .int a), (2, .int c), (3, .int (nI i))] [] 0 0 (wp G adr LX Lf Rt σ) := by
  intro r
  induction r with
  | zero =>
    intro i hi c
    have hi : i = N := by omega
    subst hi
    refine pw_iload_n dX10_states_27 rfl ?_
    refine pw_aload_n dX10_states_28 rfl ?_
    refine lp_getr 12 dX10_states_29 fp_RX10_35.FL rfl rfl rfl ?_
    refine lp_getr 13 dX10_states_32 fp_RX10_117.FL rfl rfl rfl ?_
    refine lp_geti dX10_states_35 fp_RX10_124.FL rfl rfl ?_
    refine pw_top (nI i) h0 ?_
    refine pw_icmp_ge 63 dX10_states_38 (by decide) (fun c_38 => ?_) (fun c_38 => absurd (nI_le (Nat.le_refl i) (by omega)) c_38)
    refine pw_iload_n dX10_states_63 rfl ?_
    exact pw_iret rfl rfl dX10_states_64 (Nat.zero_le _) (Nat.zero_le _) (kk _)
  | succ r ih =>
    intro i hi c
    have bi : vp_in (nI i) 30 := vp_in_nI (by omega) (by decide)
    refine pw_iload_n dX10_states_27 rfl ?_
    refine pw_aload_n dX10_states_28 rfl ?_
    refine lp_getr 12 dX10_states_29 fp_RX10_35.FL rfl rfl rfl ?_
    refine lp_getr 13 dX10_states_32 fp_RX10_117.FL rfl rfl rfl ?_
    refine lp_geti dX10_states_35 fp_RX10_124.FL rfl rfl ?_
    refine pw_top (nI N) h0 ?_
    refine pw_icmp_ge 63 dX10_states_38 (by decide) (fun c_38 => absurd c_38 (nI_ge (by omega) (by omega))) (fun c_38 => ?_)
    refine pw_aload_n dX10_states_41 rfl ?_
    refine lp_getr 84 dX10_states_42 fp_RX10_56.FL rfl rfl rfl ?_
    refine lp_getr 85 dX10_states_45 fp_RX10_187.FL rfl rfl rfl ?_
    refine pw_iload_n dX10_states_48 rfl ?_
    refine lp_iald dX10_states_49 rfl bi ?_
    refine pw_iload_n dX10_states_50 rfl ?_
    refine pw_icmp_ne 57 dX10_states_51 (by decide) (fun c_51 => ?_) (fun c_51 => ?_)
    · refine pw_iinc dX10_states_57 rfl (by decide) ?_
      refine pw_goto (tgt := 27) dX10_states_60 (by decide) ?_
      first
        | exact pw_lk [(0, .ref (adr 0)), (1, .int a), (2, .int c), (3, .int (nI (i + 1)))] ⟨rfl, rfl, rfl, congrArg (fun x => some (Value.int x)) (nI_1 i), trivial⟩ (ih (i + 1) (by omega) c)
        | exact pw_lk [(0, .ref (adr 0)), (1, .int a), (2, .int (c + 1)), (3, .int (nI (i + 1)))] ⟨rfl, rfl, rfl, congrArg (fun x => some (Value.int x)) (nI_1 i), trivial⟩ (ih (i + 1) (by omega) (c + 1))
    · refine pw_iinc dX10_states_54 rfl (by decide) ?_
      refine pw_iinc dX10_states_57 rfl (by decide) ?_
      refine pw_goto (tgt := 27) dX10_states_60 (by decide) ?_
      first
        | exact pw_lk [(0, .ref (adr 0)), (1, .int a), (2, .int c), (3, .int (nI (i + 1)))] ⟨rfl, rfl, rfl, congrArg (fun x => some (Value.int x)) (nI_1 i), trivial⟩ (ih (i + 1) (by omega) c)
        | exact pw_lk [(0, .ref (adr 0)), (1, .int a), (2, .int (c + 1)), (3, .int (nI (i + 1)))] ⟨rfl, rfl, rfl, congrArg (fun x => some (Value.int x)) (nI_1 i), trivial⟩ (ih (i + 1) (by omega) (c + 1))
theorem x_states (hP : PI σ al N) (hA : FrA σ al N) (hR : FrR σ al N) (a : Int32) (ha : 0 ≤ a ∧ a ≤ 4) : SpR1 l G mX10_states [.ref (adr 0), .int a] adr LX Lf Rt σ (fun v τ => (∃ x : Int32, v = .int x) ∧ AfA σ τ al N) := by
  refine spec_of (by decide) (Nat.le_of_ble_eq_true rfl) (fun sz => ?_)
  refine pw_iload_n dX10_states_0 rfl ?_
  refine pw_if_lt 9 dX10_states_1 (by decide) (fun c_1 => absurd c_1 (Int32.not_lt.mpr ha.1)) (fun c_1 => ?_)
  refine pw_iload_n dX10_states_4 rfl ?_
  refine pw_iconst (v := 4) dX10_states_5 rfl ?_
  refine pw_icmp_le 19 dX10_states_6 (by decide) (fun c_6 => ?_) (fun c_6 => absurd ha.2 c_6)
  refine pw_aload_n dX10_states_19 rfl ?_
  refine lp_rV0 (mi' := mX10_freshenAnalysis) (As := []) (q := (RX10, TX10, 14)) dX10_states_20 lk_RX10_184 mk_X10_freshenAnalysis mi_X10_freshenAnalysis me_X10_freshenAnalysis ⟨by decide, by decide⟩ rfl rfl (Nat.le_of_ble_eq_true rfl) rfl rfl ⟨rfl, rfl⟩ ⟨Nat.zero_le _, Nat.zero_le _⟩ (x_freshA' hP hA hR) (fun τ hQ => ?_)
  refine pw_iconst (v := 0) dX10_states_23 rfl ?_
  refine pw_istore_n dX10_states_24 (by decide) ?_
  refine pw_iconst (v := 0) dX10_states_25 rfl ?_
  refine pw_istore_n dX10_states_26 (by decide) ?_
  exact pw_lk [(0, .ref (adr 0)), (1, .int a), (2, .int 0), (3, .int (nI 0))] ⟨rfl, rfl, rfl, rfl, trivial⟩ (sts_loop (σ := τ) hP.1.1 (hQ.1.1.pi hP).2.1.1 a (fun x => ⟨_, _, rfl, ⟨_, rfl⟩, hQ.1⟩) N 0 (by omega) 0)
theorem x_reqE (i : Nat) (hi : i < 30) (h : edgeB (σ.2.2.1 14 i) = false) : SpecD l G mX10_requireNoLoopEdge0 [.ref (adr 0), .int (nI i)] (wp G adr LX Lf Rt σ) none (wp G adr LX Lf Rt σ) := by
  refine spec_of (by decide) (Nat.le_of_ble_eq_true rfl) (fun sz => ?_)
  have he := x_isEdge (l := l) (G := G) (adr := adr) (Lf := Lf) (Rt := Rt) (σ := σ) (b := 13) rfl i hi
  rw [show 13 + 1 = 14 from rfl, h] at he
  refine pw_aload_n dX10_requireNoLoopEdge_0 rfl ?_
  refine lp_getr 12 dX10_requireNoLoopEdge_1 fp_RX10_35.FL rfl rfl rfl ?_
  refine lp_getr 13 dX10_requireNoLoopEdge_4 fp_RX10_117.FL rfl rfl rfl ?_
  refine pw_iload_n dX10_requireNoLoopEdge_7 rfl ?_
  refine lp_cV1 (mi' := mX6_isLoopEdge) (As := [_]) (q := (RX6, TX6, 7)) dX10_requireNoLoopEdge_8 lk_RX10_296 mk_X6_isLoopEdge mi_X6_isLoopEdge me_X6_isLoopEdge ⟨by decide, by decide⟩ rfl rfl (Nat.le_of_ble_eq_true rfl) rfl rfl ⟨rfl, rfl⟩ ⟨Nat.zero_le _, Nat.zero_le _⟩ he ?_
  refine pw_if_eq 25 dX10_requireNoLoopEdge_11 (by decide) (fun c_11 => ?_) (fun c_11 => absurd rfl c_11)
  exact pw_vret rfl dX10_requireNoLoopEdge_25 (Nat.zero_le _) (Nat.zero_le _) rfl
theorem x_reqE_t (hl : l.stackTraces = false) (i : Nat) (hi : i < 30) (h : edgeB (σ.2.2.1 14 i) = true) : SpecT l G mX10_requireNoLoopEdge [.ref (adr 0), .int (nI i)] (wp G adr LX Lf Rt σ) sISE (wp G adr LX Lf Rt σ) := by
  refine spec_of (by decide) (Nat.le_of_ble_eq_true rfl) (fun sz => ?_)
  have he := x_isEdge (l := l) (G := G) (adr := adr) (Lf := Lf) (Rt := Rt) (σ := σ) (b := 13) rfl i hi
  rw [show 13 + 1 = 14 from rfl, h] at he
  refine pw_aload_n dX10_requireNoLoopEdge_0 rfl ?_
  refine lp_getr 12 dX10_requireNoLoopEdge_1 fp_RX10_35.FL rfl rfl rfl ?_
  refine lp_getr 13 dX10_requireNoLoopEdge_4 fp_RX10_117.FL rfl rfl rfl ?_
  refine pw_iload_n dX10_requireNoLoopEdge_7 rfl ?_
  refine lp_cV1 (mi' := mX6_isLoopEdge) (As := [_]) (q := (RX6, TX6, 7)) dX10_requireNoLoopEdge_8 lk_RX10_296 mk_X6_isLoopEdge mi_X6_isLoopEdge me_X6_isLoopEdge ⟨by decide, by decide⟩ rfl rfl (Nat.le_of_ble_eq_true rfl) rfl rfl ⟨rfl, rfl⟩ ⟨Nat.zero_le _, Nat.zero_le _⟩ he ?_
  refine pw_if_eq 25 dX10_requireNoLoopEdge_11 (by decide) (fun c_11 => absurd (show (1 : Int32) = 0 from c_11) (by decide)) (fun c_11 => ?_)
  exact tx_RX10_ISE_300 hl dX10_requireNoLoopEdge_14 dX10_requireNoLoopEdge_17 dX10_requireNoLoopEdge_18 dX10_requireNoLoopEdge_21 dX10_requireNoLoopEdge_24 (by decide) (Nat.le_of_ble_eq_true rfl) (Nat.le_of_ble_eq_true rfl) (Nat.le_of_ble_eq_true rfl) rfl
theorem edge_pi {i : Nat} (hP : PI σ al N) (hi : i < N) : edgeB (σ.2.2.1 14 i) = decide (4 ≤ kdA al i) := by
  rw [show σ.2.2.1 14 i = kdA al i from (hP.2.1.2 i hi).1]; exact kd_edge hP.1 hi
theorem x_range (hP : PI σ al N) (hA : FrA σ al N) (hR : FrR σ al N) (i : Nat) (hi : i < N) (hl : ¬ 4 ≤ kdA al i) (z : Bool) : SpR1 l G mX10_range [.ref (adr 0), .int (nI i), .int (bI z)] adr LX Lf Rt σ (fun v τ => v = .long (if (cAna al N).2.2.2.1 i = 0 then 0 else if z = true then (cAna al N).2.2.2.2.2.2.2.2.1 i else (cAna al N).2.2.2.2.2.2.2.1 i) ∧ AfA σ τ al N) := by
  refine spec_of (by decide) (Nat.le_of_ble_eq_true rfl) (fun sz => ?_)
  have h30 : i < 30 := by have := hP.1.1; omega
  have bi : vp_in (nI i) 30 := vp_in_nI h30 (by decide)
  have ei : (nI i).toNatClampNeg = i := nI_clamp (by omega)
  have he : edgeB (σ.2.2.1 14 i) = false := by rw [edge_pi hP hi, decide_eq_false hl]
  cases z
  · refine pw_aload_n dX10_range_0 rfl ?_
    refine pw_iload_n dX10_range_1 rfl ?_
    refine lp_cV0 (mi' := mX10_requireInstruction0) (As := [_]) (q := (RX10, TX10, 14)) dX10_range_2 lk_RX10_155 mk_X10_requireInstruction mi_X10_requireInstruction me_X10_requireInstruction ⟨by decide, by decide⟩ rfl rfl (Nat.le_of_ble_eq_true rfl) rfl rfl ⟨rfl, rfl⟩ ⟨Nat.zero_le _, Nat.zero_le _⟩ (x_reqI (nI i) (ixI hP hi)) ?_
    refine pw_aload_n dX10_range_5 rfl ?_
    refine pw_iload_n dX10_range_6 rfl ?_
    refine lp_cV0 (mi' := mX10_requireNoLoopEdge0) (As := [_]) (q := (RX10, TX10, 14)) dX10_range_7 lk_RX10_158 mk_X10_requireNoLoopEdge mi_X10_requireNoLoopEdge me_X10_requireNoLoopEdge ⟨by decide, by decide⟩ rfl rfl (Nat.le_of_ble_eq_true rfl) rfl rfl ⟨rfl, rfl⟩ ⟨Nat.zero_le _, Nat.zero_le _⟩ (x_reqE i h30 he) ?_
    refine pw_aload_n dX10_range_10 rfl ?_
    refine lp_rV0 (mi' := mX10_freshenAnalysis) (As := []) (q := (RX10, TX10, 14)) dX10_range_11 lk_RX10_184 mk_X10_freshenAnalysis mi_X10_freshenAnalysis me_X10_freshenAnalysis ⟨by decide, by decide⟩ rfl rfl (Nat.le_of_ble_eq_true rfl) rfl rfl ⟨rfl, rfl⟩ ⟨Nat.zero_le _, Nat.zero_le _⟩ (x_freshA' hP hA hR) (fun τ hQ => ?_)
    refine pw_iload_n dX10_range_14 rfl ?_
    refine pw_if_eq 30 dX10_range_15 (by decide) (fun c_15 => ?_) (fun c_15 => absurd rfl c_15)
    refine pw_aload_n dX10_range_30 rfl ?_
    refine lp_getr 74 dX10_range_31 fp_RX10_49.FL rfl rfl rfl ?_
    refine lp_getr 81 dX10_range_34 fp_RX10_199.FL rfl rfl rfl ?_
    refine pw_iload_n dX10_range_37 rfl ?_
    refine lp_lald dX10_range_38 rfl bi ?_
    exact pw_lret rfl dX10_range_39 (Nat.zero_le _) (Nat.zero_le _) ⟨_, _, rfl, congrArg Value.long (by rw [ei]; refine (hQ.2.1.2.2.1 i h30).2.2.1.trans ?_; rw [if_neg (show ¬ false = true by decide)]), hQ.1⟩
  · refine pw_aload_n dX10_range_0 rfl ?_
    refine pw_iload_n dX10_range_1 rfl ?_
    refine lp_cV0 (mi' := mX10_requireInstruction0) (As := [_]) (q := (RX10, TX10, 14)) dX10_range_2 lk_RX10_155 mk_X10_requireInstruction mi_X10_requireInstruction me_X10_requireInstruction ⟨by decide, by decide⟩ rfl rfl (Nat.le_of_ble_eq_true rfl) rfl rfl ⟨rfl, rfl⟩ ⟨Nat.zero_le _, Nat.zero_le _⟩ (x_reqI (nI i) (ixI hP hi)) ?_
    refine pw_aload_n dX10_range_5 rfl ?_
    refine pw_iload_n dX10_range_6 rfl ?_
    refine lp_cV0 (mi' := mX10_requireNoLoopEdge0) (As := [_]) (q := (RX10, TX10, 14)) dX10_range_7 lk_RX10_158 mk_X10_requireNoLoopEdge mi_X10_requireNoLoopEdge me_X10_requireNoLoopEdge ⟨by decide, by decide⟩ rfl rfl (Nat.le_of_ble_eq_true rfl) rfl rfl ⟨rfl, rfl⟩ ⟨Nat.zero_le _, Nat.zero_le _⟩ (x_reqE i h30 he) ?_
    refine pw_aload_n dX10_range_10 rfl ?_
    refine lp_rV0 (mi' := mX10_freshenAnalysis) (As := []) (q := (RX10, TX10, 14)) dX10_range_11 lk_RX10_184 mk_X10_freshenAnalysis mi_X10_freshenAnalysis me_X10_freshenAnalysis ⟨by decide, by decide⟩ rfl rfl (Nat.le_of_ble_eq_true rfl) rfl rfl ⟨rfl, rfl⟩ ⟨Nat.zero_le _, Nat.zero_le _⟩ (x_freshA' hP hA hR) (fun τ hQ => ?_)
    refine pw_iload_n dX10_range_14 rfl ?_
    refine pw_if_eq 30 dX10_range_15 (by decide) (fun c_15 => absurd (show (1 : Int32) = 0 from c_15) (by decide)) (fun c_15 => ?_)
    refine pw_aload_n dX10_range_18 rfl ?_
    refine lp_getr 74 dX10_range_19 fp_RX10_49.FL rfl rfl rfl ?_
    refine lp_getr 82 dX10_range_22 fp_RX10_195.FL rfl rfl rfl ?_
    refine pw_iload_n dX10_range_25 rfl ?_
    refine lp_lald dX10_range_26 rfl bi ?_
    refine pw_goto (tgt := 39) dX10_range_27 (by decide) ?_
    exact pw_lret rfl dX10_range_39 (Nat.zero_le _) (Nat.zero_le _) ⟨_, _, rfl, congrArg Value.long (by rw [ei]; refine (hQ.2.1.2.2.1 i h30).2.2.2.trans ?_; rw [if_pos (show true = true from rfl)]), hQ.1⟩
theorem x_range_t2 (hl : l.stackTraces = false) (hP : PI σ al N) (i : Nat) (hi : i < N) (h4 : 4 ≤ kdA al i) (z : Int32) : SpecT l G mX10_range [.ref (adr 0), .int (nI i), .int z] (wp G adr LX Lf Rt σ) sISE (wp G adr LX Lf Rt σ) := by
  refine spec_of (by decide) (Nat.le_of_ble_eq_true rfl) (fun sz => ?_)
  have h30 : i < 30 := by have := hP.1.1; omega
  have he : edgeB (σ.2.2.1 14 i) = true := by rw [edge_pi hP hi, decide_eq_true h4]
  refine pw_aload_n dX10_range_0 rfl ?_
  refine pw_iload_n dX10_range_1 rfl ?_
  refine lp_cV0 (mi' := mX10_requireInstruction0) (As := [_]) (q := (RX10, TX10, 14)) dX10_range_2 lk_RX10_155 mk_X10_requireInstruction mi_X10_requireInstruction me_X10_requireInstruction ⟨by decide, by decide⟩ rfl rfl (Nat.le_of_ble_eq_true rfl) rfl rfl ⟨rfl, rfl⟩ ⟨Nat.zero_le _, Nat.zero_le _⟩ (x_reqI (nI i) (ixI hP hi)) ?_
  refine pw_aload_n dX10_range_5 rfl ?_
  refine pw_iload_n dX10_range_6 rfl ?_
  exact lp_tV (mi' := mX10_requireNoLoopEdge) (As := [_]) (q := (RX10, TX10, 14)) dX10_range_7 lk_RX10_158 mk_X10_requireNoLoopEdge mi_X10_requireNoLoopEdge me_X10_requireNoLoopEdge ⟨by decide, by decide⟩ rfl rfl (Nat.le_of_ble_eq_true rfl) rfl rfl ⟨Nat.le_of_ble_eq_true rfl, Nat.le_of_ble_eq_true rfl⟩ (x_reqE_t hl i h30 he) rfl
theorem x_finalRange (hP : PI σ al N) (hA : FrA σ al N) (hR : FrR σ al N) (v : Nat) (hv : v < 8) (z : Bool) : SpR1 l G mX10_finalRange [.ref (adr 0), .int (nI v), .int (bI z)] adr LX Lf Rt σ (fun r τ => r = .int (if (cAna al N).2.2.2.2.2.2.2.2.2 = 0 then 0 else if z = true then ((cAna al N).2.2.1 v).toInt32 else ((cAna al N).2.1 v).toInt32) ∧ AfA σ τ al N) := by
  refine spec_of (by decide) (Nat.le_of_ble_eq_true rfl) (fun sz => ?_)
  have hv1 : (0 : Int32) ≤ nI v ∧ nI v < 8 := ⟨nI_pos' (by omega), nI_lt (b := 8) hv (by decide)⟩
  cases z
  · refine pw_iload_n dX10_finalRange_0 rfl ?_
    refine lp_cS0 (mi' := mX10_requireVariable0) (As := [_]) dX10_finalRange_1 lk_RX10_127 mk_X10_requireVariable ms_X10_requireVariable ⟨by decide, by decide⟩ rfl rfl (Nat.le_of_ble_eq_true rfl) ⟨rfl, rfl⟩ ⟨Nat.zero_le _, Nat.zero_le _⟩ (x_reqV (nI v) hv1 _) ?_
    refine pw_aload_n dX10_finalRange_4 rfl ?_
    refine lp_rV0 (mi' := mX10_freshenAnalysis) (As := []) (q := (RX10, TX10, 14)) dX10_finalRange_5 lk_RX10_184 mk_X10_freshenAnalysis mi_X10_freshenAnalysis me_X10_freshenAnalysis ⟨by decide, by decide⟩ rfl rfl (Nat.le_of_ble_eq_true rfl) rfl rfl ⟨rfl, rfl⟩ ⟨Nat.zero_le _, Nat.zero_le _⟩ (x_freshA' hP hA hR) (fun τ hQ => ?_)
    refine pw_iload_n dX10_finalRange_8 rfl ?_
    refine pw_if_eq 23 dX10_finalRange_9 (by decide) (fun c_9 => ?_) (fun c_9 => absurd rfl c_9)
    refine pw_aload_n dX10_finalRange_23 rfl ?_
    refine lp_getr 74 dX10_finalRange_24 fp_RX10_49.FL rfl rfl rfl ?_
    refine pw_iload_n dX10_finalRange_27 rfl ?_
    refine lp_cV1 (mi' := mX0_finalLow) (As := [_]) (q := (RX0, TX0, 13)) dX10_finalRange_28 lk_RX10_206 mk_X0_finalLow mi_X0_finalLow me_X0_finalLow ⟨by decide, by decide⟩ rfl rfl (Nat.le_of_ble_eq_true rfl) rfl rfl ⟨rfl, rfl⟩ ⟨Nat.zero_le _, Nat.zero_le _⟩ (x_finalLow (b := 74) rfl v hv) ?_
    exact pw_iret rfl rfl dX10_finalRange_31 (Nat.zero_le _) (Nat.zero_le _) ⟨_, _, rfl, congrArg Value.int (by
      rw [hQ.2.1.2.2.2.1, (hQ.2.1.2.1 v hv).1]
      by_cases hc : (cAna al N).2.2.2.2.2.2.2.2.2 = 0
      · rw [if_pos hc, if_pos hc, if_neg (by decide)]
      · rw [if_neg hc, if_neg hc, if_pos rfl, if_neg (by decide)]), hQ.1⟩
  · refine pw_iload_n dX10_finalRange_0 rfl ?_
    refine lp_cS0 (mi' := mX10_requireVariable0) (As := [_]) dX10_finalRange_1 lk_RX10_127 mk_X10_requireVariable ms_X10_requireVariable ⟨by decide, by decide⟩ rfl rfl (Nat.le_of_ble_eq_true rfl) ⟨rfl, rfl⟩ ⟨Nat.zero_le _, Nat.zero_le _⟩ (x_reqV (nI v) hv1 _) ?_
    refine pw_aload_n dX10_finalRange_4 rfl ?_
    refine lp_rV0 (mi' := mX10_freshenAnalysis) (As := []) (q := (RX10, TX10, 14)) dX10_finalRange_5 lk_RX10_184 mk_X10_freshenAnalysis mi_X10_freshenAnalysis me_X10_freshenAnalysis ⟨by decide, by decide⟩ rfl rfl (Nat.le_of_ble_eq_true rfl) rfl rfl ⟨rfl, rfl⟩ ⟨Nat.zero_le _, Nat.zero_le _⟩ (x_freshA' hP hA hR) (fun τ hQ => ?_)
    refine pw_iload_n dX10_finalRange_8 rfl ?_
    refine pw_if_eq 23 dX10_finalRange_9 (by decide) (fun c_9 => absurd (show (1 : Int32) = 0 from c_9) (by decide)) (fun c_9 => ?_)
    refine pw_aload_n dX10_finalRange_12 rfl ?_
    refine lp_getr 74 dX10_finalRange_13 fp_RX10_49.FL rfl rfl rfl ?_
    refine pw_iload_n dX10_finalRange_16 rfl ?_
    refine lp_cV1 (mi' := mX0_finalHigh) (As := [_]) (q := (RX0, TX0, 13)) dX10_finalRange_17 lk_RX10_202 mk_X0_finalHigh mi_X0_finalHigh me_X0_finalHigh ⟨by decide, by decide⟩ rfl rfl (Nat.le_of_ble_eq_true rfl) rfl rfl ⟨rfl, rfl⟩ ⟨Nat.zero_le _, Nat.zero_le _⟩ (x_finalHigh (b := 74) rfl v hv) ?_
    refine pw_goto (tgt := 31) dX10_finalRange_20 (by decide) ?_
    exact pw_iret rfl rfl dX10_finalRange_31 (Nat.zero_le _) (Nat.zero_le _) ⟨_, _, rfl, congrArg Value.int (by
      rw [hQ.2.1.2.2.2.1, (hQ.2.1.2.1 v hv).2]
      by_cases hc : (cAna al N).2.2.2.2.2.2.2.2.2 = 0
      · rw [if_pos hc, if_pos hc, if_neg (by decide)]
      · rw [if_neg hc, if_neg hc, if_pos rfl, if_pos rfl]), hQ.1⟩
theorem x_completes (hP : PI σ al N) (hA : FrA σ al N) (hR : FrR σ al N) : SpR1 l G mX10_completes [.ref (adr 0)] adr LX Lf Rt σ (fun r τ => r = .int (cAna al N).2.2.2.2.2.2.2.2.2 ∧ AfA σ τ al N) := by
  refine spec_of (by decide) (Nat.le_of_ble_eq_true rfl) (fun sz => ?_)
  refine pw_aload_n dX10_completes_0 rfl ?_
  refine lp_rV0 (mi' := mX10_freshenAnalysis) (As := []) (q := (RX10, TX10, 14)) dX10_completes_1 lk_RX10_184 mk_X10_freshenAnalysis mi_X10_freshenAnalysis me_X10_freshenAnalysis ⟨by decide, by decide⟩ rfl rfl (Nat.le_of_ble_eq_true rfl) rfl rfl ⟨rfl, rfl⟩ ⟨Nat.zero_le _, Nat.zero_le _⟩ (x_freshA' hP hA hR) (fun τ hQ => ?_)
  refine pw_aload_n dX10_completes_4 rfl ?_
  refine lp_getr 74 dX10_completes_5 fp_RX10_49.FL rfl rfl rfl ?_
  refine lp_geti dX10_completes_8 fp_RX10_209.FL rfl rfl ?_
  refine pw_if_ne 18 dX10_completes_11 (by decide) (fun c_11 => ?_) (fun c_11 => ?_)
  · refine pw_iconst (v := 0) dX10_completes_18 rfl ?_
    have hen : τ.1 74 1 = _ := hQ.2.1.2.2.2.1
    rcases hQ.2.2.1.2.2 with hc | hc
    · rw [if_pos hc] at hen
      first
        | exact pw_iret rfl rfl dX10_completes_19 (Nat.zero_le _) (Nat.zero_le _) ⟨_, _, rfl, congrArg Value.int hc.symm, hQ.1⟩
        | exact absurd (hen.symm.trans c_11) (by decide)
    · rw [if_neg (by rw [hc]; decide)] at hen
      first
        | exact pw_iret rfl rfl dX10_completes_19 (Nat.zero_le _) (Nat.zero_le _) ⟨_, _, rfl, congrArg Value.int hc.symm, hQ.1⟩
        | exact absurd hen c_11
  · refine pw_iconst (v := 1) dX10_completes_14 rfl ?_
    refine pw_goto (tgt := 19) dX10_completes_15 (by decide) ?_
    have hen : τ.1 74 1 = _ := hQ.2.1.2.2.2.1
    rcases hQ.2.2.1.2.2 with hc | hc
    · rw [if_pos hc] at hen
      first
        | exact pw_iret rfl rfl dX10_completes_19 (Nat.zero_le _) (Nat.zero_le _) ⟨_, _, rfl, congrArg Value.int hc.symm, hQ.1⟩
        | exact absurd (hen.symm.trans c_11) (by decide)
    · rw [if_neg (by rw [hc]; decide)] at hen
      first
        | exact pw_iret rfl rfl dX10_completes_19 (Nat.zero_le _) (Nat.zero_le _) ⟨_, _, rfl, congrArg Value.int hc.symm, hQ.1⟩
        | exact absurd hen c_11
theorem x_failure (hP : PI σ al N) (hA : FrA σ al N) (hR : FrR σ al N) (z : Bool) : SpR1 l G mX10_failure [.ref (adr 0), .int (bI z)] adr LX Lf Rt σ (fun r τ => (∃ x : Int32, r = .int x) ∧ AfA σ τ al N) := by
  refine spec_of (by decide) (Nat.le_of_ble_eq_true rfl) (fun sz => ?_)
  have hk : ∀ {P : Prop} [Decidable P], LX.1[if P then 93 else 88]? = some (.inl 7) := fun {P} _ => by by_cases h : P <;> simp only [h, if_true, if_false] <;> rfl
  refine pw_aload_n dX10_failure_0 rfl ?_
  refine lp_rV0 (mi' := mX10_freshenRuns) (As := []) (q := (RX10, TX10, 14)) dX10_failure_1 lk_RX10_212 mk_X10_freshenRuns mi_X10_freshenRuns me_X10_freshenRuns ⟨by decide, by decide⟩ rfl rfl (Nat.le_of_ble_eq_true rfl) rfl rfl ⟨rfl, rfl⟩ ⟨Nat.zero_le _, Nat.zero_le _⟩ (x_freshR' hP hA hR) (fun τ hQ => ?_)
  refine pw_aload_n dX10_failure_4 rfl ?_
  refine pw_iload_n dX10_failure_5 rfl ?_
  refine lp_cV1 (mi' := mX10_outcomeOf) (As := [_]) (q := (RX10, TX10, 14)) dX10_failure_6 lk_RX10_215 mk_X10_outcomeOf mi_X10_outcomeOf me_X10_outcomeOf ⟨by decide, by decide⟩ rfl rfl (Nat.le_of_ble_eq_true rfl) rfl rfl ⟨rfl, rfl⟩ ⟨Nat.zero_le _, Nat.zero_le _⟩ (x_outcomeOf z) ?_
  refine lp_geti dX10_failure_9 fp_RX10_219.FL hk rfl ?_
  exact pw_iret rfl rfl dX10_failure_12 (Nat.zero_le _) (Nat.zero_le _) ⟨_, _, rfl, ⟨_, rfl⟩, hQ.1⟩
theorem x_result (hP : PI σ al N) (hA : FrA σ al N) (hR : FrR σ al N) (v : Nat) (hv : v < 8) (z : Bool) : SpR1 l G mX10_result [.ref (adr 0), .int (nI v), .int (bI z)] adr LX Lf Rt σ (fun r τ => (∃ x : Int32, r = .int x) ∧ AfA σ τ al N) := by
  refine spec_of (by decide) (Nat.le_of_ble_eq_true rfl) (fun sz => ?_)
  have hv1 : (0 : Int32) ≤ nI v ∧ nI v < 8 := ⟨nI_pos' (by omega), nI_lt (b := 8) hv (by decide)⟩
  have hv8 : vp_in (nI v) 8 := vp_in_nI hv (by decide)
  have hk : ∀ {P : Prop} [Decidable P], LX.1[if P then 93 else 88]? = some (.inl 7) := fun {P} _ => by by_cases h : P <;> simp only [h, if_true, if_false] <;> rfl
  refine pw_iload_n dX10_result_0 rfl ?_
  refine lp_cS0 (mi' := mX10_requireVariable0) (As := [_]) dX10_result_1 lk_RX10_127 mk_X10_requireVariable ms_X10_requireVariable ⟨by decide, by decide⟩ rfl rfl (Nat.le_of_ble_eq_true rfl) ⟨rfl, rfl⟩ ⟨Nat.zero_le _, Nat.zero_le _⟩ (x_reqV (nI v) hv1 _) ?_
  refine pw_aload_n dX10_result_4 rfl ?_
  refine lp_rV0 (mi' := mX10_freshenRuns) (As := []) (q := (RX10, TX10, 14)) dX10_result_5 lk_RX10_212 mk_X10_freshenRuns mi_X10_freshenRuns me_X10_freshenRuns ⟨by decide, by decide⟩ rfl rfl (Nat.le_of_ble_eq_true rfl) rfl rfl ⟨rfl, rfl⟩ ⟨Nat.zero_le _, Nat.zero_le _⟩ (x_freshR' hP hA hR) (fun τ hQ => ?_)
  refine pw_aload_n dX10_result_8 rfl ?_
  refine pw_iload_n dX10_result_9 rfl ?_
  refine lp_cV1 (mi' := mX10_outcomeOf) (As := [_]) (q := (RX10, TX10, 14)) dX10_result_10 lk_RX10_215 mk_X10_outcomeOf mi_X10_outcomeOf me_X10_outcomeOf ⟨by decide, by decide⟩ rfl rfl (Nat.le_of_ble_eq_true rfl) rfl rfl ⟨rfl, rfl⟩ ⟨Nat.zero_le _, Nat.zero_le _⟩ (x_outcomeOf z) ?_
  refine lp_getr (_ + 3) dX10_result_13 fp_RX10_222.FL hk rfl (rX7_1 hk) ?_
  refine pw_iload_n dX10_result_16 rfl ?_
  refine lp_lald dX10_result_17 (kX7_1 hk) hv8 ?_
  refine pw_l2i dX10_result_18 ?_
  exact pw_iret rfl rfl dX10_result_19 (Nat.zero_le _) (Nat.zero_le _) ⟨_, _, rfl, ⟨_, rfl⟩, hQ.1⟩
theorem x_checks (hP : PI σ al N) (hA : FrA σ al N) (hR : FrR σ al N) (z : Bool) : SpR1 l G mX10_checks [.ref (adr 0), .int (bI z)] adr LX Lf Rt σ (fun r τ => (∃ x : Int32, r = .int x) ∧ AfA σ τ al N) := by
  refine spec_of (by decide) (Nat.le_of_ble_eq_true rfl) (fun sz => ?_)
  refine pw_aload_n dX10_checks_0 rfl ?_
  refine lp_rV0 (mi' := mX10_freshenRuns) (As := []) (q := (RX10, TX10, 14)) dX10_checks_1 lk_RX10_212 mk_X10_freshenRuns mi_X10_freshenRuns me_X10_freshenRuns ⟨by decide, by decide⟩ rfl rfl (Nat.le_of_ble_eq_true rfl) rfl rfl ⟨rfl, rfl⟩ ⟨Nat.zero_le _, Nat.zero_le _⟩ (x_freshR' hP hA hR) (fun τ hQ => ?_)
  refine pw_iload_n dX10_checks_4 rfl ?_
  refine pw_if_eq 18 dX10_checks_5 (by decide) (fun c_5 => ?_) (fun c_5 => ?_)
  · refine pw_aload_n dX10_checks_18 rfl ?_
    refine lp_getr 88 dX10_checks_19 fp_RX10_63.FL rfl rfl rfl ?_
    refine lp_geti dX10_checks_22 fp_RX10_225.FL rfl rfl ?_
    exact pw_iret rfl rfl dX10_checks_25 (Nat.zero_le _) (Nat.zero_le _) ⟨_, _, rfl, ⟨_, rfl⟩, hQ.1⟩
  · refine pw_aload_n dX10_checks_8 rfl ?_
    refine lp_getr 93 dX10_checks_9 fp_RX10_67.FL rfl rfl rfl ?_
    refine lp_geti dX10_checks_12 fp_RX10_225.FL rfl rfl ?_
    refine pw_goto (tgt := 25) dX10_checks_15 (by decide) ?_
    exact pw_iret rfl rfl dX10_checks_25 (Nat.zero_le _) (Nat.zero_le _) ⟨_, _, rfl, ⟨_, rfl⟩, hQ.1⟩
theorem x_executed (hP : PI σ al N) (hA : FrA σ al N) (hR : FrR σ al N) : SpR1 l G mX10_executed [.ref (adr 0)] adr LX Lf Rt σ (fun r τ => r = .int (cRun al N).2.2.2.2.1 ∧ AfA σ τ al N) := by
  refine spec_of (by decide) (Nat.le_of_ble_eq_true rfl) (fun sz => ?_)
  refine pw_aload_n dX10_executed_0 rfl ?_
  refine lp_rV0 (mi' := mX10_freshenRuns) (As := []) (q := (RX10, TX10, 14)) dX10_executed_1 lk_RX10_212 mk_X10_freshenRuns mi_X10_freshenRuns me_X10_freshenRuns ⟨by decide, by decide⟩ rfl rfl (Nat.le_of_ble_eq_true rfl) rfl rfl ⟨rfl, rfl⟩ ⟨Nat.zero_le _, Nat.zero_le _⟩ (x_freshR' hP hA hR) (fun τ hQ => ?_)
  refine pw_aload_n dX10_executed_4 rfl ?_
  refine lp_getr 88 dX10_executed_5 fp_RX10_63.FL rfl rfl rfl ?_
  refine lp_geti dX10_executed_8 fp_RX10_228.FL rfl rfl ?_
  exact pw_iret rfl rfl dX10_executed_11 (Nat.zero_le _) (Nat.zero_le _) ⟨_, _, rfl, congrArg Value.int hQ.2.2.2.2.2.2, hQ.1⟩
end XV
