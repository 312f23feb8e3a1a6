def RelR (x y : AR) : Prop := RelW x.1 y.1 ∧ (∀ j, j < 8 → x.2.1 j = y.2.1 j) ∧ x.2.2.1 = y.2.2.1 ∧ x.2.2.2.1 = y.2.2.2.1 ∧ x.2.2.2.2.1 = y.2.2.2.2.1
theorem exV_eq {al : Nat → Int32} {v v' : Nat → Int64} {i : Nat} (h : ∀ j, j < 8 → v j = v' j) (h2 : okOp (al (1 + 4 * i + 2))) (h3 : ¬ kdA al i = 0 → okOp (al (1 + 4 * i + 3))) : exV al v i = exV al v' i := by
  unfold exV
  rw [vOf_eq h h2]
  by_cases k0 : kdA al i = 0
  · rw [if_pos k0, if_pos k0]
  · rw [if_neg k0, if_neg k0, vOf_eq h (h3 k0)]
theorem chkd_f {al stt fr : Nat → Int32} {i : Nat} : chkd al stt fr false i = !decide (kdA al i = 0) := by
  unfold chkd
  rw [Bool.not_false, Bool.true_or, Bool.true_or, Bool.and_true]
theorem rIter_rel {al pt pt' inr inr' stt stt' : Nat → Int32} {N : Nat} (hP : wfP al N) (hpt : ∀ i, i < N → pt i = pt' i) {f0 : Nat → Int32} (hp0 : pt = lpt al f0 N) : ∀ (n : Nat) (x y : AR), WInv al N x.1 → RelR x y → RelR (rIter al pt inr stt false N n x) (rIter al pt' inr' stt' false N n y) := by
  intro n
  induction n with
  | zero => intro x y _ h; exact h
  | succ n ih =>
    intro x y hI h
    unfold rIter
    obtain ⟨h1, h2, h3, h4, h5⟩ := h
    by_cases hc : x.1.1 < N ∧ x.2.2.1 = -1
    · rw [if_pos hc, if_pos (by rw [← h1.1, ← h3]; exact hc)]
      have hnx := (wnext_ok (f0 := f0) hP.2.2.1 hP.1 hP.2.2.2.1 hI hc.1).1
      rw [← hp0] at hnx
      refine ih _ _ hnx ?_
      have hw := relW_next (al := al) hpt h1 hc.1 (fun k5 => by rw [hI.2.1]; exact (hP.2.2.1.1 x.1.1 hc.1).2 k5)
      have ep : ∀ (z : AR) (p q r : Nat → Int32), rPre al p q r false z = z := by
        intro z p q r; unfold rPre; rw [if_neg (by simp)]
      unfold rStep
      rw [ep, ep]
      refine ⟨hw, ?_⟩
      unfold rMid
      rw [← h1.1]
      by_cases hl : 4 ≤ kdA al x.1.1
      · rw [if_pos hl, if_pos hl]
        exact ⟨h2, h3, h4, h5⟩
      · rw [if_neg hl, if_neg hl, chkd_f, chkd_f]
        obtain ⟨-, g3, g4⟩ := hP.2.2.2.2.1 x.1.1 hc.1 hl
        rw [exV_eq h2 g3 g4]
        split
        · exact ⟨h2, rfl, by dsimp only; rw [h4], h5⟩
        · refine ⟨?_, h3, by dsimp only; rw [h4], by dsimp only; rw [h5]⟩
          intro j hj
          dsimp only
          unfold vp_updL
          split
          · rfl
          · exact h2 j hj
    · rw [if_neg hc, if_neg (by rw [← h1.1, ← h3]; exact hc)]
      exact ⟨h1, h2, h3, h4, h5⟩
/-- the plain run of a program with its inputs, by itself -/
def cRun (al : Nat → Int32) (N : Nat) : AR := rIter al (cPt al N) (fun _ => 0) (fun _ => 0) false N (1600 * N + 1) ((0, 0, fun _ => 0), inV al, -1, 0, 0, fun _ => 0)
def rFin (σ : St) (opt : Bool) (N : Nat) : AR := rIter (σ.2.2.1 1) (lpt (σ.2.2.1 1) (σ.2.2.1 5) N) ((mLays σ N).2.2.1 7) (σ.2.2.1 19) opt N (1600 * N + 1) (rIni σ)
theorem rFin_c {σ : St} {N : Nat} (hP : wfP (σ.2.2.1 1) N) : RelR (rFin σ false N) (cRun (σ.2.2.1 1) N) := by
  refine rIter_rel hP (fun i hi => lpt_any hP.2.2.1 hP.1 _ _ N (Nat.le_refl _) i hi) rfl (1600 * N + 1) _ _ ⟨Nat.zero_le _, rfl, fun q => absurd q (Nat.lt_irrefl 0), fun q => absurd q (show ¬ (0 : Nat) = 2 by decide)⟩ ?_
  refine ⟨⟨rfl, rfl, fun j hj => absurd hj (Nat.not_lt_zero j)⟩, ?_, rfl, rfl, rfl⟩
  intro j hj; show pfxL 8 _ _ j = _; unfold pfxL; rw [if_pos hj]
theorem st3_ok {σ : St} {N : Nat} (hP : wfP (σ.2.2.1 1) N) : st3ok ((mAna σ N).2.2.1 1) ((mAna σ N).2.2.1 19) N := by
  intro i hi h3
  have h3 : pfx N (stF (σ.2.2.1 1) (aFin σ N).2.2.2.1 (aFin σ N).2.2.2.2.1 (aCov σ N) (csF (aCov σ N) (σ.2.2.1 18) N) ((mLays σ N).2.2.1 7) ((mLays σ N).2.2.1 5)) (σ.2.2.1 19) i = 3 := h3
  unfold pfx at h3
  rw [if_pos hi] at h3
  unfold stF at h3
  by_cases h1 : 4 ≤ kdA (σ.2.2.1 1) i ∨ kdA (σ.2.2.1 1) i = 0
  · rw [if_pos h1] at h3; exact absurd h3 (by decide)
  rw [if_neg h1] at h3
  split at h3
  · exact absurd h3 (by decide)
  split at h3
  · exact absurd h3 (by decide)
  split at h3
  · exact absurd h3 (by decide)
  split at h3
  · rename_i hho
    obtain ⟨g1, g2, g3⟩ := hP.2.2.2.2.1 i hi (fun q => h1 (Or.inl q))
    refine ⟨g1, ?_⟩
    have g3 := g3 (fun q => h1 (Or.inr q))
    show okOp (stepA (σ.2.2.1 1) i)
    unfold hoA at hho
    split at hho
    · exact absurd hho (by decide)
    · rename_i hn
      have hs : ¬ stepA (σ.2.2.1 1) i = -1 := fun q => hn (Or.inr (Or.inr (Or.inr q)))
      unfold stepA at hs ⊢
      split
      · rename_i hq; rw [if_pos hq] at hs; exact absurd rfl hs
      · split
        · exact g3
        · exact g2
  · exact absurd h3 (by decide)
/-- a run with its outcome -/
def mOut (σ : St) (opt : Bool) (N : Nat) : St := if opt = true then (if (mRuns (mAna σ N) true N).1 0 30 = -1 then mRuns (mAna σ N) true N else mRuns (mRuns (mAna σ N) true N) false N) else mRuns σ false N
def mOutC (σ : St) (opt : Bool) (N : Nat) : Int32 := if opt = true then (mRuns (mAna σ N) true N).1 0 31 else (mRuns σ false N).1 0 31
theorem mOut_pers (σ : St) (opt : Bool) (N : Nat) : pers (mOut σ opt N) = pers σ ∧ (mOut σ opt N).2.2.1 1 = σ.2.2.1 1 := by
  unfold mOut
  split
  · split <;> exact ⟨rfl, rfl⟩
  · exact ⟨rfl, rfl⟩
section V1
variable {l : Launch} {G : cxG} {adr : Nat → Nat} {Lf Rt : va_W} {σ : St}
theorem r_outcome {N : Nat} (hP : wfP (σ.2.2.1 1) N) (opt : Bool) : SpecD l G mX11_outcome [.ref (adr 0), .int (bI opt)] (wp G adr LM Lf Rt σ) (some (.int (mOutC σ opt N))) (wp G adr LM Lf Rt (mOut σ opt N)) := by
  refine spec_of (by decide) (Nat.le_of_ble_eq_true rfl) (fun sz => ?_)
  unfold mOutC mOut
  cases opt
  · rw [if_neg (by decide), if_neg (by decide)]
    refine pw_iload_n dX11_outcome_0 rfl ?_
    refine pw_if_eq 8 dX11_outcome_1 (by decide) (fun c_1 => ?_) (fun c_1 => absurd rfl c_1)
    refine pw_aload_n dX11_outcome_8 rfl ?_
    refine pw_iload_n dX11_outcome_9 rfl ?_
    refine lp_cV0 (mi' := mX11_runs) (As := [_]) (q := (RX11, TX11, 33)) dX11_outcome_10 lk_RX11_266 mk_X11_runs mi_X11_runs me_X11_runs ⟨by decide, by decide⟩ rfl rfl (Nat.le_of_ble_eq_true rfl) rfl rfl ⟨rfl, rfl⟩ ⟨Nat.zero_le _, Nat.zero_le _⟩ (r_runs hP false (fun q => absurd q (by decide))) ?_
    refine pw_aload_n dX11_outcome_13 rfl ?_
    refine lp_geti dX11_outcome_14 fp_RX11_242.FL rfl rfl ?_
    refine pw_istore_n dX11_outcome_17 (by decide) ?_
    refine pw_iload_n dX11_outcome_18 rfl ?_
    refine pw_if_eq 35 dX11_outcome_19 (by decide) (fun c_19 => ?_) (fun c_19 => absurd rfl c_19)
    refine pw_iload_n dX11_outcome_35 rfl ?_
    exact pw_iret rfl rfl dX11_outcome_36 (Nat.zero_le _) (Nat.zero_le _) rfl
  · rw [if_pos rfl, if_pos rfl]
    by_cases hf : (mRuns (mAna σ N) true N).1 0 30 = -1
    · rw [if_pos hf]
      refine pw_iload_n dX11_outcome_0 rfl ?_
      refine pw_if_eq 8 dX11_outcome_1 (by decide) (fun c_1 => absurd (show (1 : Int32) = 0 from c_1) (by decide)) (fun c_1 => ?_)
      refine pw_aload_n dX11_outcome_4 rfl ?_
      refine lp_cV0 (mi' := mX11_analyses) (As := []) (q := (RX11, TX11, 33)) dX11_outcome_5 lk_RX11_227 mk_X11_analyses mi_X11_analyses me_X11_analyses ⟨by decide, by decide⟩ rfl rfl (Nat.le_of_ble_eq_true rfl) rfl rfl ⟨rfl, rfl⟩ ⟨Nat.zero_le _, Nat.zero_le _⟩ (r_analyses hP) ?_
      refine pw_aload_n dX11_outcome_8 rfl ?_
      refine pw_iload_n dX11_outcome_9 rfl ?_
      refine lp_cV0 (mi' := mX11_runs) (As := [_]) (q := (RX11, TX11, 33)) dX11_outcome_10 lk_RX11_266 mk_X11_runs mi_X11_runs me_X11_runs ⟨by decide, by decide⟩ rfl rfl (Nat.le_of_ble_eq_true rfl) rfl rfl ⟨rfl, rfl⟩ ⟨Nat.zero_le _, Nat.zero_le _⟩ (r_runs (σ := mAna σ N) hP true (fun _ => st3_ok hP)) ?_
      refine pw_aload_n dX11_outcome_13 rfl ?_
      refine lp_geti dX11_outcome_14 fp_RX11_242.FL rfl rfl ?_
      refine pw_istore_n dX11_outcome_17 (by decide) ?_
      refine pw_iload_n dX11_outcome_18 rfl ?_
      refine pw_if_eq 35 dX11_outcome_19 (by decide) (fun c_19 => absurd (show (1 : Int32) = 0 from c_19) (by decide)) (fun c_19 => ?_)
      refine pw_aload_n dX11_outcome_22 rfl ?_
      refine lp_geti dX11_outcome_23 fp_RX11_249.FL rfl rfl ?_
      refine pw_iconst (v := -1) dX11_outcome_26 rfl ?_
      refine pw_icmp_eq 35 dX11_outcome_27 (by decide) (fun c_27 => ?_) (fun c_27 => absurd hf c_27)
      refine pw_iload_n dX11_outcome_35 rfl ?_
      exact pw_iret rfl rfl dX11_outcome_36 (Nat.zero_le _) (Nat.zero_le _) rfl
    · rw [if_neg hf]
      refine pw_iload_n dX11_outcome_0 rfl ?_
      refine pw_if_eq 8 dX11_outcome_1 (by decide) (fun c_1 => absurd (show (1 : Int32) = 0 from c_1) (by decide)) (fun c_1 => ?_)
      refine pw_aload_n dX11_outcome_4 rfl ?_
      refine lp_cV0 (mi' := mX11_analyses) (As := []) (q := (RX11, TX11, 33)) dX11_outcome_5 lk_RX11_227 mk_X11_analyses mi_X11_analyses me_X11_analyses ⟨by decide, by decide⟩ rfl rfl (Nat.le_of_ble_eq_true rfl) rfl rfl ⟨rfl, rfl⟩ ⟨Nat.zero_le _, Nat.zero_le _⟩ (r_analyses hP) ?_
      refine pw_aload_n dX11_outcome_8 rfl ?_
      refine pw_iload_n dX11_outcome_9 rfl ?_
      refine lp_cV0 (mi' := mX11_runs) (As := [_]) (q := (RX11, TX11, 33)) dX11_outcome_10 lk_RX11_266 mk_X11_runs mi_X11_runs me_X11_runs ⟨by decide, by decide⟩ rfl rfl (Nat.le_of_ble_eq_true rfl) rfl rfl ⟨rfl, rfl⟩ ⟨Nat.zero_le _, Nat.zero_le _⟩ (r_runs (σ := mAna σ N) hP true (fun _ => st3_ok hP)) ?_
      refine pw_aload_n dX11_outcome_13 rfl ?_
      refine lp_geti dX11_outcome_14 fp_RX11_242.FL rfl rfl ?_
      refine pw_istore_n dX11_outcome_17 (by decide) ?_
      refine pw_iload_n dX11_outcome_18 rfl ?_
      refine pw_if_eq 35 dX11_outcome_19 (by decide) (fun c_19 => absurd (show (1 : Int32) = 0 from c_19) (by decide)) (fun c_19 => ?_)
      refine pw_aload_n dX11_outcome_22 rfl ?_
      refine lp_geti dX11_outcome_23 fp_RX11_249.FL rfl rfl ?_
      refine pw_iconst (v := -1) dX11_outcome_26 rfl ?_
      refine pw_icmp_eq 35 dX11_outcome_27 (by decide) (fun c_27 => absurd c_27 hf) (fun c_27 => ?_)
      refine pw_aload_n dX11_outcome_30 rfl ?_
      refine pw_iconst (v := 0) dX11_outcome_31 rfl ?_
      refine lp_cV0 (mi' := mX11_runs) (As := [_]) (q := (RX11, TX11, 33)) dX11_outcome_32 lk_RX11_266 mk_X11_runs mi_X11_runs me_X11_runs ⟨by decide, by decide⟩ rfl rfl (Nat.le_of_ble_eq_true rfl) rfl rfl ⟨rfl, rfl⟩ ⟨Nat.zero_le _, Nat.zero_le _⟩ (r_runs (σ := mRuns (mAna σ N) true N) hP false (fun q => absurd q (by decide))) ?_
      refine pw_iload_n dX11_outcome_35 rfl ?_
      exact pw_iret rfl rfl dX11_outcome_36 (Nat.zero_le _) (Nat.zero_le _) rfl
theorem r_failure {N : Nat} (hP : wfP (σ.2.2.1 1) N) (opt : Bool) : SpecD l G mX11_failure [.ref (adr 0), .int (bI opt)] (wp G adr LM Lf Rt σ) (some (.int ((mOut (sI σ 0 3 0) opt N).1 0 30))) (wp G adr LM Lf Rt (mOut (sI σ 0 3 0) opt N)) := by
  refine spec_of (by decide) (Nat.le_of_ble_eq_true rfl) (fun sz => ?_)
  refine pw_aload_n dX11_failure_0 rfl ?_
  refine pw_iconst (v := 0) dX11_failure_1 rfl ?_
  refine lp_puti dX11_failure_2 fp_RX11_75 rfl rfl rfl rfl ?_
  refine pw_aload_n dX11_failure_5 rfl ?_
  refine pw_iload_n dX11_failure_6 rfl ?_
  refine lp_cV1 (mi' := mX11_outcome) (As := [_]) (q := (RX11, TX11, 33)) dX11_failure_7 lk_RX11_270 mk_X11_outcome mi_X11_outcome me_X11_outcome ⟨by decide, by decide⟩ rfl rfl (Nat.le_of_ble_eq_true rfl) rfl rfl ⟨rfl, rfl⟩ ⟨Nat.zero_le _, Nat.zero_le _⟩ (r_outcome (σ := sI σ 0 3 0) hP opt) ?_
  refine pw_istore_n dX11_failure_10 (by decide) ?_
  refine pw_aload_n dX11_failure_11 rfl ?_
  refine lp_geti dX11_failure_12 fp_RX11_249.FL rfl rfl ?_
  exact pw_iret rfl rfl dX11_failure_15 (Nat.zero_le _) (Nat.zero_le _) rfl
theorem r_checks {N : Nat} (hP : wfP (σ.2.2.1 1) N) (opt : Bool) : SpecD l G mX11_checks [.ref (adr 0), .int (bI opt)] (wp G adr LM Lf Rt σ) (some (.int (mOutC (sI σ 0 3 0) opt N))) (wp G adr LM Lf Rt (mOut (sI σ 0 3 0) opt N)) := by
  refine spec_of (by decide) (Nat.le_of_ble_eq_true rfl) (fun sz => ?_)
  refine pw_aload_n dX11_checks_0 rfl ?_
  refine pw_iconst (v := 0) dX11_checks_1 rfl ?_
  refine lp_puti dX11_checks_2 fp_RX11_75 rfl rfl rfl rfl ?_
  refine pw_aload_n dX11_checks_5 rfl ?_
  refine pw_iload_n dX11_checks_6 rfl ?_
  refine lp_cV1 (mi' := mX11_outcome) (As := [_]) (q := (RX11, TX11, 33)) dX11_checks_7 lk_RX11_270 mk_X11_outcome mi_X11_outcome me_X11_outcome ⟨by decide, by decide⟩ rfl rfl (Nat.le_of_ble_eq_true rfl) rfl rfl ⟨rfl, rfl⟩ ⟨Nat.zero_le _, Nat.zero_le _⟩ (r_outcome (σ := sI σ 0 3 0) hP opt) ?_
  exact pw_iret rfl rfl dX11_checks_10 (Nat.zero_le _) (Nat.zero_le _) rfl
theorem r_executed {N : Nat} (hP : wfP (σ.2.2.1 1) N) : SpecD l G mX11_executed [.ref (adr 0)] (wp G adr LM Lf Rt σ) (some (.int (cRun (σ.2.2.1 1) N).2.2.2.2.1)) (wp G adr LM Lf Rt (mRuns (sI σ 0 3 0) false N)) := by
  refine spec_of (by decide) (Nat.le_of_ble_eq_true rfl) (fun sz => ?_)
  have hc := (rFin_c (σ := sI σ 0 3 0) hP).2.2.2.2
  rw [show (cRun (σ.2.2.1 1) N).2.2.2.2.1 = (rFin (sI σ 0 3 0) false N).2.2.2.2.1 from hc.symm]
  refine pw_aload_n dX11_executed_0 rfl ?_
  refine pw_iconst (v := 0) dX11_executed_1 rfl ?_
  refine lp_puti dX11_executed_2 fp_RX11_75 rfl rfl rfl rfl ?_
  refine pw_aload_n dX11_executed_5 rfl ?_
  refine pw_iconst (v := 0) dX11_executed_6 rfl ?_
  refine lp_cV0 (mi' := mX11_runs) (As := [_]) (q := (RX11, TX11, 33)) dX11_executed_7 lk_RX11_266 mk_X11_runs mi_X11_runs me_X11_runs ⟨by decide, by decide⟩ rfl rfl (Nat.le_of_ble_eq_true rfl) rfl rfl ⟨rfl, rfl⟩ ⟨Nat.zero_le _, Nat.zero_le _⟩ (r_runs (σ := sI σ 0 3 0) hP false (fun q => absurd q (by decide))) ?_
  refine pw_aload_n dX11_executed_10 rfl ?_
  refine lp_geti dX11_executed_11 fp_RX11_252.FL rfl rfl ?_
  exact pw_iret rfl rfl dX11_executed_14 (Nat.zero_le _) (Nat.zero_le _) rfl
theorem r_result_ok {N : Nat} (hP : wfP (σ.2.2.1 1) N) (v : Nat) (hv : v < 8) (opt : Bool) : SpecD l G mX11_result [.ref (adr 0), .int (nI v), .int (bI opt)] (wp G adr LM Lf Rt σ) (some (.int ((mOut (sI σ 0 3 0) opt N).2.2.2.1 20 v).toInt32)) (wp G adr LM Lf Rt (mOut (sI σ 0 3 0) opt N)) := by
  refine spec_of (by decide) (Nat.le_of_ble_eq_true rfl) (fun sz => ?_)
  have n7 : (0 : Int32) ≤ nI v ∧ nI v ≤ 7 := nIr (show v ≤ 7 by omega) (by decide)
  refine pw_aload_n dX11_result_0 rfl ?_
  refine pw_iload_n dX11_result_1 rfl ?_
  refine lp_cS1 (mi' := mX11_isName) (As := [_]) dX11_result_2 lk_RX11_154 mk_X11_isName ms_X11_isName ⟨by decide, by decide⟩ rfl rfl (Nat.le_of_ble_eq_true rfl) ⟨rfl, rfl⟩ ⟨Nat.zero_le _, Nat.zero_le _⟩ (r_isName (nI v) _) ?_
  rw [decide_eq_true n7]
  refine pw_iconst (v := 1) dX11_result_5 rfl ?_
  refine lp_cV1 (mi' := mX11_goes) (As := [_, _]) (q := (RX11, TX11, 33)) dX11_result_6 lk_RX11_101 mk_X11_goes mi_X11_goes me_X11_goes ⟨by decide, by decide⟩ rfl rfl (Nat.le_of_ble_eq_true rfl) rfl rfl ⟨rfl, rfl⟩ ⟨Nat.zero_le _, Nat.zero_le _⟩ (r_goes true true) ?_
  refine pw_if_ne 14 dX11_result_9 (by decide) (fun c_9 => ?_) (fun c_9 => absurd (show (1 : Int32) = 0 from c_9) (by decide))
  refine pw_aload_n dX11_result_14 rfl ?_
  refine pw_iload_n dX11_result_15 rfl ?_
  refine lp_cV1 (mi' := mX11_outcome) (As := [_]) (q := (RX11, TX11, 33)) dX11_result_16 lk_RX11_270 mk_X11_outcome mi_X11_outcome me_X11_outcome ⟨by decide, by decide⟩ rfl rfl (Nat.le_of_ble_eq_true rfl) rfl rfl ⟨rfl, rfl⟩ ⟨Nat.zero_le _, Nat.zero_le _⟩ (r_outcome (σ := sI σ 0 3 0) hP opt) ?_
  refine pw_istore_n dX11_result_19 (by decide) ?_
  refine pw_aload_n dX11_result_20 rfl ?_
  refine lp_getr 20 dX11_result_21 fp_RX11_69.FL rfl rfl rfl ?_
  refine pw_iload_n dX11_result_24 rfl ?_
  refine lp_lald dX11_result_25 rfl (vp_in_nI hv (by decide)) ?_
  rw [nI_clamp (show v < 2 ^ 31 by omega)]
  refine pw_l2i dX11_result_26 ?_
  exact pw_iret rfl rfl dX11_result_27 (Nat.zero_le _) (Nat.zero_le _) rfl
theorem r_result_no (v : Int32) (z : Bool) (hv : ¬ (0 ≤ v ∧ v ≤ 7)) : SpecD l G mX11_result [.ref (adr 0), .int v, .int (bI z)] (wp G adr LM Lf Rt σ) (some (.int 0)) (wp G adr LM Lf Rt (sI σ 0 3 1)) := by
  refine spec_of (by decide) (Nat.le_of_ble_eq_true rfl) (fun sz => ?_)
  refine pw_aload_n dX11_result_0 rfl ?_
  refine pw_iload_n dX11_result_1 rfl ?_
  refine lp_cS1 (mi' := mX11_isName) (As := [_]) dX11_result_2 lk_RX11_154 mk_X11_isName ms_X11_isName ⟨by decide, by decide⟩ rfl rfl (Nat.le_of_ble_eq_true rfl) ⟨rfl, rfl⟩ ⟨Nat.zero_le _, Nat.zero_le _⟩ (r_isName v _) ?_
  rw [decide_eq_false hv]
  refine pw_iconst (v := 1) dX11_result_5 rfl ?_
  refine lp_cV1 (mi' := mX11_goes) (As := [_, _]) (q := (RX11, TX11, 33)) dX11_result_6 lk_RX11_101 mk_X11_goes mi_X11_goes me_X11_goes ⟨by decide, by decide⟩ rfl rfl (Nat.le_of_ble_eq_true rfl) rfl rfl ⟨rfl, rfl⟩ ⟨Nat.zero_le _, Nat.zero_le _⟩ (r_goes false true) ?_
  refine pw_if_ne 14 dX11_result_9 (by decide) (fun c_9 => absurd c_9 (fun z => z rfl)) (fun c_9 => ?_)
  refine pw_iconst (v := 0) dX11_result_12 rfl ?_
  exact pw_iret rfl rfl dX11_result_13 (Nat.zero_le _) (Nat.zero_le _) rfl
end V1
