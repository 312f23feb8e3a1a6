theorem aIter_cp {al pt : Nat → Int32} {N : Nat} : ∀ (n : Nat) (x : AN), (x.2.2.2.2.2.2.2.2.2 = 0 ∨ x.2.2.2.2.2.2.2.2.2 = 1) → ((aIter al pt N n x).2.2.2.2.2.2.2.2.2 = 0 ∨ (aIter al pt N n x).2.2.2.2.2.2.2.2.2 = 1) := by
  intro n
  induction n with
  | zero => intro x h; exact h
  | succ n ih =>
    intro x h
    unfold aIter
    split
    · refine ih _ ?_
      show (aMid al x).2.2.2.2.2.2.2.2.2 = 0 ∨ (aMid al x).2.2.2.2.2.2.2.2.2 = 1
      unfold aMid
      split
      · exact Or.inr rfl
      · cases (rngS al x.1.1 x).1
        · exact Or.inl rfl
        · exact Or.inr rfl
    · exact h
def cntS (f : Nat → Int32) (a b : Int32) : Nat → Nat → Int32 → Int32
  | 0, _, n => n
  | r + 1, i, n => cntS f a b r (i + 1) (n + bI (decide (a ≤ f i ∧ f i ≤ b)))
section U1
variable {l : Launch} {G : cxG} {adr : Nat → Nat} {Lf Rt : va_W} {σ : St}
theorem r_instruction_ok (i c N : Nat) (hP : wfP (σ.2.2.1 1) N) (hi : i < N) (hc : c < 4) : SpecD l G mX11_instruction [.ref (adr 0), .int (nI i), .int (nI c)] (wp G adr LM Lf Rt σ) (some (.int (if c = 0 then σ.2.2.1 1 (1 + 4 * i) else if c = 1 then σ.2.2.1 1 (1 + 4 * i + 1) else if c = 2 then nI (lmd (σ.2.2.1 1) i).1 else lpt (σ.2.2.1 1) (σ.2.2.1 5) N i))) (wp G adr LM Lf Rt (mLays (sI σ 0 3 0) N)) := by
  refine spec_of (by decide) (Nat.le_of_ble_eq_true rfl) (fun sz => ?_)
  have h1 := one_of hP.2.1 hi hP.1
  have hc3 : (0 : Int32) ≤ nI c ∧ nI c ≤ 3 := nIr (show c ≤ 3 by omega) (by decide)
  have hi30 : i < 30 := by have := hP.1; omega
  have htl := r_told (l := l) (G := G) (adr := adr) (Lf := Lf) (Rt := Rt) (σ := mLays (sI σ 0 3 0) N) i c hi30 hc
  have e6 : (mLays (sI σ 0 3 0) N).2.2.1 6 i = nI (lmd (σ.2.2.1 1) i).1 := by
    show pfx N (fun j => nI (lmd (σ.2.2.1 1) j).1) (σ.2.2.1 6) i = _
    unfold pfx; rw [if_pos hi]
  rw [e6] at htl
  refine pw_aload_n dX11_instruction_0 rfl ?_
  refine pw_aload_n dX11_instruction_1 rfl ?_
  refine pw_iload_n dX11_instruction_2 rfl ?_
  refine lp_cV1 (mi' := mX11_isOne) (As := [_]) (q := (RX11, TX11, 33)) dX11_instruction_3 lk_RX11_160 mk_X11_isOne mi_X11_isOne me_X11_isOne ⟨by decide, by decide⟩ rfl rfl (Nat.le_of_ble_eq_true rfl) rfl rfl ⟨rfl, rfl⟩ ⟨Nat.zero_le _, Nat.zero_le _⟩ (r_isOne (nI i)) ?_
  rw [decide_eq_true h1]
  refine pw_iload_n dX11_instruction_6 rfl ?_
  refine pw_i2l dX11_instruction_7 ?_
  refine pw_lconst (v := 0) dX11_instruction_8 rfl ?_
  refine pw_ldc2 dX11_instruction_9 kc_RX11_166 ?_
  refine lp_cS1 (mi' := mX11_in) (As := [_, _, _]) dX11_instruction_12 lk_RX11_90 mk_X11_in ms_X11_in ⟨by decide, by decide⟩ rfl rfl (Nat.le_of_ble_eq_true rfl) ⟨rfl, rfl⟩ ⟨Nat.zero_le _, Nat.zero_le _⟩ (r_in32 (nI c) 0 3 _) ?_
  rw [decide_eq_true hc3]
  refine lp_cV1 (mi' := mX11_goes) (As := [_, _]) (q := (RX11, TX11, 33)) dX11_instruction_15 lk_RX11_101 mk_X11_goes mi_X11_goes me_X11_goes ⟨by decide, by decide⟩ rfl rfl (Nat.le_of_ble_eq_true rfl) rfl rfl ⟨rfl, rfl⟩ ⟨Nat.zero_le _, Nat.zero_le _⟩ (r_goes true true) ?_
  refine pw_if_ne 23 dX11_instruction_18 (by decide) (fun c_18 => ?_) (fun c_18 => absurd (show (1 : Int32) = 0 from c_18) (by decide))
  refine pw_aload_n dX11_instruction_23 rfl ?_
  refine lp_cV0 (mi' := mX11_laysLoops) (As := []) (q := (RX11, TX11, 33)) dX11_instruction_24 lk_RX11_168 mk_X11_laysLoops mi_X11_laysLoops me_X11_laysLoops ⟨by decide, by decide⟩ rfl rfl (Nat.le_of_ble_eq_true rfl) rfl rfl ⟨rfl, rfl⟩ ⟨Nat.zero_le _, Nat.zero_le _⟩ (r_laysLoops (σ := sI σ 0 3 0) hP.1 hP.2.1 hP.2.2.1) ?_
  refine pw_aload_n dX11_instruction_27 rfl ?_
  refine pw_iload_n dX11_instruction_28 rfl ?_
  refine pw_iload_n dX11_instruction_29 rfl ?_
  refine lp_cV1 (mi' := mX11_told) (As := [_, _]) (q := (RX11, TX11, 33)) dX11_instruction_30 lk_RX11_171 mk_X11_told mi_X11_told me_X11_told ⟨by decide, by decide⟩ rfl rfl (Nat.le_of_ble_eq_true rfl) rfl rfl ⟨rfl, rfl⟩ ⟨Nat.zero_le _, Nat.zero_le _⟩ htl ?_
  exact pw_iret rfl rfl dX11_instruction_33 (Nat.zero_le _) (Nat.zero_le _) rfl
theorem r_instruction_no (i c : Int32) (h : ¬ ((0 ≤ i ∧ i ≤ σ.2.2.1 1 0 - 1) ∧ (0 ≤ c ∧ c ≤ 3))) : SpecD l G mX11_instruction [.ref (adr 0), .int i, .int c] (wp G adr LM Lf Rt σ) (some (.int 0)) (wp G adr LM Lf Rt (mGoes σ (decide (0 ≤ i ∧ i ≤ σ.2.2.1 1 0 - 1)) (decide (0 ≤ c ∧ c ≤ 3)))) := by
  refine spec_of (by decide) (Nat.le_of_ble_eq_true rfl) (fun sz => ?_)
  have hc : bI (decide (0 ≤ i ∧ i ≤ σ.2.2.1 1 0 - 1) && decide (0 ≤ c ∧ c ≤ 3)) = 0 := bI_f (by rw [← Bool.decide_and]; exact decide_eq_false h)
  refine pw_aload_n dX11_instruction_0 rfl ?_
  refine pw_aload_n dX11_instruction_1 rfl ?_
  refine pw_iload_n dX11_instruction_2 rfl ?_
  refine lp_cV1 (mi' := mX11_isOne) (As := [_]) (q := (RX11, TX11, 33)) dX11_instruction_3 lk_RX11_160 mk_X11_isOne mi_X11_isOne me_X11_isOne ⟨by decide, by decide⟩ rfl rfl (Nat.le_of_ble_eq_true rfl) rfl rfl ⟨rfl, rfl⟩ ⟨Nat.zero_le _, Nat.zero_le _⟩ (r_isOne i) ?_
  refine pw_iload_n dX11_instruction_6 rfl ?_
  refine pw_i2l dX11_instruction_7 ?_
  refine pw_lconst (v := 0) dX11_instruction_8 rfl ?_
  refine pw_ldc2 dX11_instruction_9 kc_RX11_166 ?_
  refine lp_cS1 (mi' := mX11_in) (As := [_, _, _]) dX11_instruction_12 lk_RX11_90 mk_X11_in ms_X11_in ⟨by decide, by decide⟩ rfl rfl (Nat.le_of_ble_eq_true rfl) ⟨rfl, rfl⟩ ⟨Nat.zero_le _, Nat.zero_le _⟩ (r_in32 c 0 3 _) ?_
  refine lp_cV1 (mi' := mX11_goes) (As := [_, _]) (q := (RX11, TX11, 33)) dX11_instruction_15 lk_RX11_101 mk_X11_goes mi_X11_goes me_X11_goes ⟨by decide, by decide⟩ rfl rfl (Nat.le_of_ble_eq_true rfl) rfl rfl ⟨rfl, rfl⟩ ⟨Nat.zero_le _, Nat.zero_le _⟩ (r_goes _ _) ?_
  refine pw_if_ne 23 dX11_instruction_18 (by decide) (fun c_18 => absurd c_18 (fun z => z hc)) (fun c_18 => ?_)
  refine pw_iconst (v := 0) dX11_instruction_21 rfl ?_
  exact pw_iret rfl rfl dX11_instruction_22 (Nat.zero_le _) (Nat.zero_le _) rfl
theorem r_state_ok (i N : Nat) (hP : wfP (σ.2.2.1 1) N) (hi : i < N) : SpecD l G mX11_state [.ref (adr 0), .int (nI i)] (wp G adr LM Lf Rt σ) (some (.int ((mAna (sI σ 0 3 0) N).2.2.1 19 i))) (wp G adr LM Lf Rt (mAna (sI σ 0 3 0) N)) := by
  refine spec_of (by decide) (Nat.le_of_ble_eq_true rfl) (fun sz => ?_)
  have h1 := one_of hP.2.1 hi hP.1
  have hi30 : i < 30 := by have := hP.1; omega
  refine pw_aload_n dX11_state_0 rfl ?_
  refine pw_aload_n dX11_state_1 rfl ?_
  refine pw_iload_n dX11_state_2 rfl ?_
  refine lp_cV1 (mi' := mX11_isOne) (As := [_]) (q := (RX11, TX11, 33)) dX11_state_3 lk_RX11_160 mk_X11_isOne mi_X11_isOne me_X11_isOne ⟨by decide, by decide⟩ rfl rfl (Nat.le_of_ble_eq_true rfl) rfl rfl ⟨rfl, rfl⟩ ⟨Nat.zero_le _, Nat.zero_le _⟩ (r_isOne (nI i)) ?_
  rw [decide_eq_true h1]
  refine pw_iconst (v := 1) dX11_state_6 rfl ?_
  refine lp_cV1 (mi' := mX11_goes) (As := [_, _]) (q := (RX11, TX11, 33)) dX11_state_7 lk_RX11_101 mk_X11_goes mi_X11_goes me_X11_goes ⟨by decide, by decide⟩ rfl rfl (Nat.le_of_ble_eq_true rfl) rfl rfl ⟨rfl, rfl⟩ ⟨Nat.zero_le _, Nat.zero_le _⟩ (r_goes true true) ?_
  refine pw_if_ne 15 dX11_state_10 (by decide) (fun c_10 => ?_) (fun c_10 => absurd (show (1 : Int32) = 0 from c_10) (by decide))
  refine pw_aload_n dX11_state_15 rfl ?_
  refine lp_cV0 (mi' := mX11_analyses) (As := []) (q := (RX11, TX11, 33)) dX11_state_16 lk_RX11_227 mk_X11_analyses mi_X11_analyses me_X11_analyses ⟨by decide, by decide⟩ rfl rfl (Nat.le_of_ble_eq_true rfl) rfl rfl ⟨rfl, rfl⟩ ⟨Nat.zero_le _, Nat.zero_le _⟩ (r_analyses (σ := sI σ 0 3 0) hP) ?_
  refine pw_aload_n dX11_state_19 rfl ?_
  refine lp_getr 19 dX11_state_20 fp_RX11_66.FL rfl rfl rfl ?_
  refine pw_iload_n dX11_state_23 rfl ?_
  refine lp_iald dX11_state_24 rfl (vp_in_nI hi30 (by decide)) ?_
  rw [nI_clamp (show i < 2 ^ 31 by omega)]
  exact pw_iret rfl rfl dX11_state_25 (Nat.zero_le _) (Nat.zero_le _) rfl
theorem r_state_no (i : Int32) (h : ¬ ((0 : Int32) ≤ i ∧ i ≤ σ.2.2.1 1 0 - 1)) : SpecD l G mX11_state [.ref (adr 0), .int i] (wp G adr LM Lf Rt σ) (some (.int 0)) (wp G adr LM Lf Rt (sI σ 0 3 1)) := by
  refine spec_of (by decide) (Nat.le_of_ble_eq_true rfl) (fun sz => ?_)
  refine pw_aload_n dX11_state_0 rfl ?_
  refine pw_aload_n dX11_state_1 rfl ?_
  refine pw_iload_n dX11_state_2 rfl ?_
  refine lp_cV1 (mi' := mX11_isOne) (As := [_]) (q := (RX11, TX11, 33)) dX11_state_3 lk_RX11_160 mk_X11_isOne mi_X11_isOne me_X11_isOne ⟨by decide, by decide⟩ rfl rfl (Nat.le_of_ble_eq_true rfl) rfl rfl ⟨rfl, rfl⟩ ⟨Nat.zero_le _, Nat.zero_le _⟩ (r_isOne i) ?_
  rw [decide_eq_false h]
  refine pw_iconst (v := 1) dX11_state_6 rfl ?_
  refine lp_cV1 (mi' := mX11_goes) (As := [_, _]) (q := (RX11, TX11, 33)) dX11_state_7 lk_RX11_101 mk_X11_goes mi_X11_goes me_X11_goes ⟨by decide, by decide⟩ rfl rfl (Nat.le_of_ble_eq_true rfl) rfl rfl ⟨rfl, rfl⟩ ⟨Nat.zero_le _, Nat.zero_le _⟩ (r_goes false true) ?_
  refine pw_if_ne 15 dX11_state_10 (by decide) (fun c_10 => absurd c_10 (fun z => z rfl)) (fun c_10 => ?_)
  refine pw_iconst (v := 0) dX11_state_13 rfl ?_
  exact pw_iret rfl rfl dX11_state_14 (Nat.zero_le _) (Nat.zero_le _) rfl
theorem r_coveredBy_ok (i N : Nat) (hP : wfP (σ.2.2.1 1) N) (hi : i < N) : SpecD l G mX11_coveredBy [.ref (adr 0), .int (nI i)] (wp G adr LM Lf Rt σ) (some (.int ((mAna (sI σ 0 3 0) N).2.2.1 17 i))) (wp G adr LM Lf Rt (mAna (sI σ 0 3 0) N)) := by
  refine spec_of (by decide) (Nat.le_of_ble_eq_true rfl) (fun sz => ?_)
  have h1 := one_of hP.2.1 hi hP.1
  have hi30 : i < 30 := by have := hP.1; omega
  refine pw_aload_n dX11_coveredBy_0 rfl ?_
  refine pw_aload_n dX11_coveredBy_1 rfl ?_
  refine pw_iload_n dX11_coveredBy_2 rfl ?_
  refine lp_cV1 (mi' := mX11_isOne) (As := [_]) (q := (RX11, TX11, 33)) dX11_coveredBy_3 lk_RX11_160 mk_X11_isOne mi_X11_isOne me_X11_isOne ⟨by decide, by decide⟩ rfl rfl (Nat.le_of_ble_eq_true rfl) rfl rfl ⟨rfl, rfl⟩ ⟨Nat.zero_le _, Nat.zero_le _⟩ (r_isOne (nI i)) ?_
  rw [decide_eq_true h1]
  refine pw_iconst (v := 1) dX11_coveredBy_6 rfl ?_
  refine lp_cV1 (mi' := mX11_goes) (As := [_, _]) (q := (RX11, TX11, 33)) dX11_coveredBy_7 lk_RX11_101 mk_X11_goes mi_X11_goes me_X11_goes ⟨by decide, by decide⟩ rfl rfl (Nat.le_of_ble_eq_true rfl) rfl rfl ⟨rfl, rfl⟩ ⟨Nat.zero_le _, Nat.zero_le _⟩ (r_goes true true) ?_
  refine pw_if_ne 15 dX11_coveredBy_10 (by decide) (fun c_10 => ?_) (fun c_10 => absurd (show (1 : Int32) = 0 from c_10) (by decide))
  refine pw_aload_n dX11_coveredBy_15 rfl ?_
  refine lp_cV0 (mi' := mX11_analyses) (As := []) (q := (RX11, TX11, 33)) dX11_coveredBy_16 lk_RX11_227 mk_X11_analyses mi_X11_analyses me_X11_analyses ⟨by decide, by decide⟩ rfl rfl (Nat.le_of_ble_eq_true rfl) rfl rfl ⟨rfl, rfl⟩ ⟨Nat.zero_le _, Nat.zero_le _⟩ (r_analyses (σ := sI σ 0 3 0) hP) ?_
  refine pw_aload_n dX11_coveredBy_19 rfl ?_
  refine lp_getr 17 dX11_coveredBy_20 fp_RX11_60.FL rfl rfl rfl ?_
  refine pw_iload_n dX11_coveredBy_23 rfl ?_
  refine lp_iald dX11_coveredBy_24 rfl (vp_in_nI hi30 (by decide)) ?_
  rw [nI_clamp (show i < 2 ^ 31 by omega)]
  exact pw_iret rfl rfl dX11_coveredBy_25 (Nat.zero_le _) (Nat.zero_le _) rfl
theorem r_coveredBy_no (i : Int32) (h : ¬ ((0 : Int32) ≤ i ∧ i ≤ σ.2.2.1 1 0 - 1)) : SpecD l G mX11_coveredBy [.ref (adr 0), .int i] (wp G adr LM Lf Rt σ) (some (.int 0)) (wp G adr LM Lf Rt (sI σ 0 3 1)) := by
  refine spec_of (by decide) (Nat.le_of_ble_eq_true rfl) (fun sz => ?_)
  refine pw_aload_n dX11_coveredBy_0 rfl ?_
  refine pw_aload_n dX11_coveredBy_1 rfl ?_
  refine pw_iload_n dX11_coveredBy_2 rfl ?_
  refine lp_cV1 (mi' := mX11_isOne) (As := [_]) (q := (RX11, TX11, 33)) dX11_coveredBy_3 lk_RX11_160 mk_X11_isOne mi_X11_isOne me_X11_isOne ⟨by decide, by decide⟩ rfl rfl (Nat.le_of_ble_eq_true rfl) rfl rfl ⟨rfl, rfl⟩ ⟨Nat.zero_le _, Nat.zero_le _⟩ (r_isOne i) ?_
  rw [decide_eq_false h]
  refine pw_iconst (v := 1) dX11_coveredBy_6 rfl ?_
  refine lp_cV1 (mi' := mX11_goes) (As := [_, _]) (q := (RX11, TX11, 33)) dX11_coveredBy_7 lk_RX11_101 mk_X11_goes mi_X11_goes me_X11_goes ⟨by decide, by decide⟩ rfl rfl (Nat.le_of_ble_eq_true rfl) rfl rfl ⟨rfl, rfl⟩ ⟨Nat.zero_le _, Nat.zero_le _⟩ (r_goes false true) ?_
  refine pw_if_ne 15 dX11_coveredBy_10 (by decide) (fun c_10 => absurd c_10 (fun z => z rfl)) (fun c_10 => ?_)
  refine pw_iconst (v := 0) dX11_coveredBy_13 rfl ?_
  exact pw_iret rfl rfl dX11_coveredBy_14 (Nat.zero_le _) (Nat.zero_le _) rfl
theorem sf_loop {sz : Nat} {w0 : va_W} {fin : OC → Prop} {N : Nat} (hN : N ≤ 30) (h0 : σ.2.2.1 1 0 = nI N) (a b : Int32) :
    ∀ (r i : Nat) (n : Int32), i + r = N → fin (.inl (some (.int (cntS (σ.2.2.1 19) a b r i n)), wp G adr LM Lf Rt σ)) →
      PW l G mX11_statesFrom w0 sz fin 5 [(0, .ref (adr 0)), (1, .int a), (2, .int b), (3, .int n), (4, .int (nI i))] [] 0 0 (wp G adr LM Lf Rt σ) := by
  intro r
  induction r with
  | zero =>
    intro i n hi hf
    have hi : i = N := by omega
    subst hi
    refine pw_iload dX11_statesFrom_5 rfl ?_
    refine pw_aload_n dX11_statesFrom_7 rfl ?_
    refine lp_getr 1 dX11_statesFrom_8 fp_RX11_7.FL rfl rfl rfl ?_
    refine pw_iconst (v := 0) dX11_statesFrom_11 rfl ?_
    refine lp_iald dX11_statesFrom_12 rfl (vp_in_nI (n := 0) (by decide) (by decide)) ?_
    refine pw_icmp_ge 48 dX11_statesFrom_13 (by decide) (fun c_13 => ?_) (fun c_13 => absurd (by show σ.2.2.1 1 0 ≤ nI i; rw [h0]; exact Int32.le_refl _) c_13)
    refine pw_iload_n dX11_statesFrom_48 rfl ?_
    exact pw_iret rfl rfl dX11_statesFrom_49 (Nat.zero_le _) (Nat.zero_le _) hf
  | succ r ih =>
    intro i n hi hf
    have ei : (nI i).toNatClampNeg = i := nI_clamp (by omega)
    have c13 : ¬ σ.2.2.1 1 0 ≤ nI i := by rw [h0]; exact nI_ge (by omega) (by omega)
    unfold cntS at hf
    have ih1 := ih (i + 1) _ (by omega) hf
    by_cases hc : a ≤ σ.2.2.1 19 i ∧ σ.2.2.1 19 i ≤ b
    · rw [decide_eq_true hc] at ih1
      refine pw_iload dX11_statesFrom_5 rfl ?_
      refine pw_aload_n dX11_statesFrom_7 rfl ?_
      refine lp_getr 1 dX11_statesFrom_8 fp_RX11_7.FL rfl rfl rfl ?_
      refine pw_iconst (v := 0) dX11_statesFrom_11 rfl ?_
      refine lp_iald dX11_statesFrom_12 rfl (vp_in_nI (n := 0) (by decide) (by decide)) ?_
      refine pw_icmp_ge 48 dX11_statesFrom_13 (by decide) (fun c_13 => absurd c_13 c13) (fun c_13 => ?_)
      refine pw_iload_n dX11_statesFrom_16 rfl ?_
      refine pw_aload_n dX11_statesFrom_17 rfl ?_
      refine lp_getr 19 dX11_statesFrom_18 fp_RX11_66.FL rfl rfl rfl ?_
      refine pw_iload dX11_statesFrom_21 rfl ?_
      refine lp_iald dX11_statesFrom_23 rfl (vp_in_nI (by omega) (by decide)) ?_
      rw [ei]
      refine pw_i2l dX11_statesFrom_24 ?_
      refine pw_iload_n dX11_statesFrom_25 rfl ?_
      refine pw_i2l dX11_statesFrom_26 ?_
      refine pw_iload_n dX11_statesFrom_27 rfl ?_
      refine pw_i2l dX11_statesFrom_28 ?_
      refine lp_cS1 (mi' := mX11_in) (As := [_, _, _]) dX11_statesFrom_29 lk_RX11_90 mk_X11_in ms_X11_in ⟨by decide, by decide⟩ rfl rfl (Nat.le_of_ble_eq_true rfl) ⟨rfl, rfl⟩ ⟨Nat.zero_le _, Nat.zero_le _⟩ (r_in32 _ _ _ _) ?_
      rw [decide_eq_true hc]
      refine pw_if_eq 39 dX11_statesFrom_32 (by decide) (fun c_32 => absurd (show (1 : Int32) = 0 from c_32) (by decide)) (fun c_32 => ?_)
      refine pw_iconst (v := 1) dX11_statesFrom_35 rfl ?_
      refine pw_goto (tgt := 40) dX11_statesFrom_36 (by decide) ?_
      refine pw_iadd dX11_statesFrom_40 ?_
      refine pw_istore_n dX11_statesFrom_41 (by decide) ?_
      refine pw_iinc dX11_statesFrom_42 rfl (by decide) ?_
      refine pw_goto (tgt := 5) dX11_statesFrom_45 (by decide) ?_
      refine pw_lk _ ?_ ih1
      exact ⟨rfl, rfl, rfl, rfl, congrArg (fun x => some (Value.int x)) (nI_1 i), trivial⟩
    · rw [decide_eq_false hc] at ih1
      refine pw_iload dX11_statesFrom_5 rfl ?_
      refine pw_aload_n dX11_statesFrom_7 rfl ?_
      refine lp_getr 1 dX11_statesFrom_8 fp_RX11_7.FL rfl rfl rfl ?_
      refine pw_iconst (v := 0) dX11_statesFrom_11 rfl ?_
      refine lp_iald dX11_statesFrom_12 rfl (vp_in_nI (n := 0) (by decide) (by decide)) ?_
      refine pw_icmp_ge 48 dX11_statesFrom_13 (by decide) (fun c_13 => absurd c_13 c13) (fun c_13 => ?_)
      refine pw_iload_n dX11_statesFrom_16 rfl ?_
      refine pw_aload_n dX11_statesFrom_17 rfl ?_
      refine lp_getr 19 dX11_statesFrom_18 fp_RX11_66.FL rfl rfl rfl ?_
      refine pw_iload dX11_statesFrom_21 rfl ?_
      refine lp_iald dX11_statesFrom_23 rfl (vp_in_nI (by omega) (by decide)) ?_
      rw [ei]
      refine pw_i2l dX11_statesFrom_24 ?_
      refine pw_iload_n dX11_statesFrom_25 rfl ?_
      refine pw_i2l dX11_statesFrom_26 ?_
      refine pw_iload_n dX11_statesFrom_27 rfl ?_
      refine pw_i2l dX11_statesFrom_28 ?_
      refine lp_cS1 (mi' := mX11_in) (As := [_, _, _]) dX11_statesFrom_29 lk_RX11_90 mk_X11_in ms_X11_in ⟨by decide, by decide⟩ rfl rfl (Nat.le_of_ble_eq_true rfl) ⟨rfl, rfl⟩ ⟨Nat.zero_le _, Nat.zero_le _⟩ (r_in32 _ _ _ _) ?_
      rw [decide_eq_false hc]
      refine pw_if_eq 39 dX11_statesFrom_32 (by decide) (fun c_32 => ?_) (fun c_32 => absurd rfl c_32)
      refine pw_iconst (v := 0) dX11_statesFrom_39 rfl ?_
      refine pw_iadd dX11_statesFrom_40 ?_
      refine pw_istore_n dX11_statesFrom_41 (by decide) ?_
      refine pw_iinc dX11_statesFrom_42 rfl (by decide) ?_
      refine pw_goto (tgt := 5) dX11_statesFrom_45 (by decide) ?_
      refine pw_lk _ ?_ ih1
      exact ⟨rfl, rfl, rfl, rfl, congrArg (fun x => some (Value.int x)) (nI_1 i), trivial⟩
theorem r_statesFrom {N : Nat} (hN : N ≤ 30) (h0 : σ.2.2.1 1 0 = nI N) (a b : Int32) : SpecD l G mX11_statesFrom [.ref (adr 0), .int a, .int b] (wp G adr LM Lf Rt σ) (some (.int (cntS (σ.2.2.1 19) a b N 0 0))) (wp G adr LM Lf Rt σ) := by
  refine spec_of (by decide) (Nat.le_of_ble_eq_true rfl) (fun sz => ?_)
  refine pw_iconst (v := 0) dX11_statesFrom_0 rfl ?_
  refine pw_istore_n dX11_statesFrom_1 (by decide) ?_
  refine pw_iconst (v := 0) dX11_statesFrom_2 rfl ?_
  refine pw_istore dX11_statesFrom_3 (by decide) ?_
  exact pw_lk [(0, .ref (adr 0)), (1, .int a), (2, .int b), (3, .int 0), (4, .int (nI 0))] ⟨rfl, rfl, rfl, rfl, rfl, trivial⟩ (sf_loop hN h0 a b N 0 0 (by omega) rfl)
theorem r_states_ok (a : Int32) (N : Nat) (hP : wfP (σ.2.2.1 1) N) (ha : 0 ≤ a ∧ a ≤ 4) : SpecD l G mX11_states [.ref (adr 0), .int a] (wp G adr LM Lf Rt σ) (some (.int (cntS ((mAna (sI σ 0 3 0) N).2.2.1 19) a a N 0 0))) (wp G adr LM Lf Rt (mAna (sI σ 0 3 0) N)) := by
  refine spec_of (by decide) (Nat.le_of_ble_eq_true rfl) (fun sz => ?_)
  refine pw_aload_n dX11_states_0 rfl ?_
  refine pw_iload_n dX11_states_1 rfl ?_
  refine pw_i2l dX11_states_2 ?_
  refine pw_lconst (v := 0) dX11_states_3 rfl ?_
  refine pw_ldc2 dX11_states_4 kc_RX11_230 ?_
  refine lp_cS1 (mi' := mX11_in) (As := [_, _, _]) dX11_states_7 lk_RX11_90 mk_X11_in ms_X11_in ⟨by decide, by decide⟩ rfl rfl (Nat.le_of_ble_eq_true rfl) ⟨rfl, rfl⟩ ⟨Nat.zero_le _, Nat.zero_le _⟩ (r_in32 a 0 4 _) ?_
  rw [decide_eq_true ha]
  refine pw_iconst (v := 1) dX11_states_10 rfl ?_
  refine lp_cV1 (mi' := mX11_goes) (As := [_, _]) (q := (RX11, TX11, 33)) dX11_states_11 lk_RX11_101 mk_X11_goes mi_X11_goes me_X11_goes ⟨by decide, by decide⟩ rfl rfl (Nat.le_of_ble_eq_true rfl) rfl rfl ⟨rfl, rfl⟩ ⟨Nat.zero_le _, Nat.zero_le _⟩ (r_goes true true) ?_
  refine pw_if_ne 19 dX11_states_14 (by decide) (fun c_14 => ?_) (fun c_14 => absurd (show (1 : Int32) = 0 from c_14) (by decide))
  refine pw_aload_n dX11_states_19 rfl ?_
  refine lp_cV0 (mi' := mX11_analyses) (As := []) (q := (RX11, TX11, 33)) dX11_states_20 lk_RX11_227 mk_X11_analyses mi_X11_analyses me_X11_analyses ⟨by decide, by decide⟩ rfl rfl (Nat.le_of_ble_eq_true rfl) rfl rfl ⟨rfl, rfl⟩ ⟨Nat.zero_le _, Nat.zero_le _⟩ (r_analyses (σ := sI σ 0 3 0) hP) ?_
  refine pw_aload_n dX11_states_23 rfl ?_
  refine pw_iload_n dX11_states_24 rfl ?_
  refine pw_iload_n dX11_states_25 rfl ?_
  refine lp_cV1 (mi' := mX11_statesFrom) (As := [_, _]) (q := (RX11, TX11, 33)) dX11_states_26 lk_RX11_232 mk_X11_statesFrom mi_X11_statesFrom me_X11_statesFrom ⟨by decide, by decide⟩ rfl rfl (Nat.le_of_ble_eq_true rfl) rfl rfl ⟨rfl, rfl⟩ ⟨Nat.zero_le _, Nat.zero_le _⟩ (r_statesFrom (σ := mAna (sI σ 0 3 0) N) hP.1 hP.2.1 a a) ?_
  exact pw_iret rfl rfl dX11_states_29 (Nat.zero_le _) (Nat.zero_le _) rfl
theorem r_states_no (a : Int32) (ha : ¬ (0 ≤ a ∧ a ≤ 4)) : SpecD l G mX11_states [.ref (adr 0), .int a] (wp G adr LM Lf Rt σ) (some (.int 0)) (wp G adr LM Lf Rt (sI σ 0 3 1)) := by
  refine spec_of (by decide) (Nat.le_of_ble_eq_true rfl) (fun sz => ?_)
  refine pw_aload_n dX11_states_0 rfl ?_
  refine pw_iload_n dX11_states_1 rfl ?_
  refine pw_i2l dX11_states_2 ?_
  refine pw_lconst (v := 0) dX11_states_3 rfl ?_
  refine pw_ldc2 dX11_states_4 kc_RX11_230 ?_
  refine lp_cS1 (mi' := mX11_in) (As := [_, _, _]) dX11_states_7 lk_RX11_90 mk_X11_in ms_X11_in ⟨by decide, by decide⟩ rfl rfl (Nat.le_of_ble_eq_true rfl) ⟨rfl, rfl⟩ ⟨Nat.zero_le _, Nat.zero_le _⟩ (r_in32 a 0 4 _) ?_
  rw [decide_eq_false ha]
  refine pw_iconst (v := 1) dX11_states_10 rfl ?_
  refine lp_cV1 (mi' := mX11_goes) (As := [_, _]) (q := (RX11, TX11, 33)) dX11_states_11 lk_RX11_101 mk_X11_goes mi_X11_goes me_X11_goes ⟨by decide, by decide⟩ rfl rfl (Nat.le_of_ble_eq_true rfl) rfl rfl ⟨rfl, rfl⟩ ⟨Nat.zero_le _, Nat.zero_le _⟩ (r_goes false true) ?_
  refine pw_if_ne 19 dX11_states_14 (by decide) (fun c_14 => absurd c_14 (fun z => z rfl)) (fun c_14 => ?_)
  refine pw_iconst (v := 0) dX11_states_17 rfl ?_
  exact pw_iret rfl rfl dX11_states_18 (Nat.zero_le _) (Nat.zero_le _) rfl
theorem r_range_no1 (i : Int32) (z : Bool) (h : ¬ ((0 : Int32) ≤ i ∧ i ≤ σ.2.2.1 1 0 - 1)) : SpecD l G mX11_range [.ref (adr 0), .int i, .int (bI z)] (wp G adr LM Lf Rt σ) (some (.long 0)) (wp G adr LM Lf Rt (sI σ 0 3 1)) := by
  refine spec_of (by decide) (Nat.le_of_ble_eq_true rfl) (fun sz => ?_)
  refine pw_aload_n dX11_range_0 rfl ?_
  refine pw_aload_n dX11_range_1 rfl ?_
  refine pw_iload_n dX11_range_2 rfl ?_
  refine lp_cV1 (mi' := mX11_isOne) (As := [_]) (q := (RX11, TX11, 33)) dX11_range_3 lk_RX11_160 mk_X11_isOne mi_X11_isOne me_X11_isOne ⟨by decide, by decide⟩ rfl rfl (Nat.le_of_ble_eq_true rfl) rfl rfl ⟨rfl, rfl⟩ ⟨Nat.zero_le _, Nat.zero_le _⟩ (r_isOne i) ?_
  rw [decide_eq_false h]
  refine pw_aload_n dX11_range_6 rfl ?_
  refine pw_iload_n dX11_range_7 rfl ?_
  refine lp_cV1 (mi' := mX11_isOne) (As := [_]) (q := (RX11, TX11, 33)) dX11_range_8 lk_RX11_160 mk_X11_isOne mi_X11_isOne me_X11_isOne ⟨by decide, by decide⟩ rfl rfl (Nat.le_of_ble_eq_true rfl) rfl rfl ⟨rfl, rfl⟩ ⟨Nat.zero_le _, Nat.zero_le _⟩ (r_isOne i) ?_
  rw [decide_eq_false h]
  refine pw_if_eq 26 dX11_range_11 (by decide) (fun c_11 => ?_) (fun c_11 => absurd rfl c_11)
  refine pw_iconst (v := 0) dX11_range_26 rfl ?_
  refine lp_cV1 (mi' := mX11_goes) (As := [_, _]) (q := (RX11, TX11, 33)) dX11_range_27 lk_RX11_101 mk_X11_goes mi_X11_goes me_X11_goes ⟨by decide, by decide⟩ rfl rfl (Nat.le_of_ble_eq_true rfl) rfl rfl ⟨rfl, rfl⟩ ⟨Nat.zero_le _, Nat.zero_le _⟩ (r_goes false false) ?_
  refine pw_if_ne 35 dX11_range_30 (by decide) (fun c_30 => absurd c_30 (fun z => z rfl)) (fun c_30 => ?_)
  refine pw_lconst (v := 0) dX11_range_33 rfl ?_
  exact pw_lret rfl dX11_range_34 (Nat.zero_le _) (Nat.zero_le _) rfl
theorem r_range_no2 (i N : Nat) (z : Bool) (hN : σ.2.2.1 1 0 = nI N) (hi : i < N) (h30 : N ≤ 30) (hl : 4 ≤ σ.2.2.1 1 (1 + 4 * i)) : SpecD l G mX11_range [.ref (adr 0), .int (nI i), .int (bI z)] (wp G adr LM Lf Rt σ) (some (.long 0)) (wp G adr LM Lf Rt (sI σ 0 3 2)) := by
  refine spec_of (by decide) (Nat.le_of_ble_eq_true rfl) (fun sz => ?_)
  have h := one_of hN hi h30
  refine pw_aload_n dX11_range_0 rfl ?_
  refine pw_aload_n dX11_range_1 rfl ?_
  refine pw_iload_n dX11_range_2 rfl ?_
  refine lp_cV1 (mi' := mX11_isOne) (As := [_]) (q := (RX11, TX11, 33)) dX11_range_3 lk_RX11_160 mk_X11_isOne mi_X11_isOne me_X11_isOne ⟨by decide, by decide⟩ rfl rfl (Nat.le_of_ble_eq_true rfl) rfl rfl ⟨rfl, rfl⟩ ⟨Nat.zero_le _, Nat.zero_le _⟩ (r_isOne (nI i)) ?_
  rw [decide_eq_true h]
  refine pw_aload_n dX11_range_6 rfl ?_
  refine pw_iload_n dX11_range_7 rfl ?_
  refine lp_cV1 (mi' := mX11_isOne) (As := [_]) (q := (RX11, TX11, 33)) dX11_range_8 lk_RX11_160 mk_X11_isOne mi_X11_isOne me_X11_isOne ⟨by decide, by decide⟩ rfl rfl (Nat.le_of_ble_eq_true rfl) rfl rfl ⟨rfl, rfl⟩ ⟨Nat.zero_le _, Nat.zero_le _⟩ (r_isOne (nI i)) ?_
  rw [decide_eq_true h]
  refine pw_if_eq 26 dX11_range_11 (by decide) (fun c_11 => absurd (show (1 : Int32) = 0 from c_11) (by decide)) (fun c_11 => ?_)
  refine pw_aload_n dX11_range_14 rfl ?_
  refine pw_iload_n dX11_range_15 rfl ?_
  refine lp_cV1 (mi' := mX11_isLoop) (As := [_]) (q := (RX11, TX11, 33)) dX11_range_16 lk_RX11_163 mk_X11_isLoop mi_X11_isLoop me_X11_isLoop ⟨by decide, by decide⟩ rfl rfl (Nat.le_of_ble_eq_true rfl) rfl rfl ⟨rfl, rfl⟩ ⟨Nat.zero_le _, Nat.zero_le _⟩ (r_isLoop i (by omega)) ?_
  rw [decide_eq_true hl]
  refine pw_if_ne 26 dX11_range_19 (by decide) (fun c_19 => ?_) (fun c_19 => absurd (show (1 : Int32) = 0 from c_19) (by decide))
  refine pw_iconst (v := 0) dX11_range_26 rfl ?_
  refine lp_cV1 (mi' := mX11_goes) (As := [_, _]) (q := (RX11, TX11, 33)) dX11_range_27 lk_RX11_101 mk_X11_goes mi_X11_goes me_X11_goes ⟨by decide, by decide⟩ rfl rfl (Nat.le_of_ble_eq_true rfl) rfl rfl ⟨rfl, rfl⟩ ⟨Nat.zero_le _, Nat.zero_le _⟩ (r_goes true false) ?_
  refine pw_if_ne 35 dX11_range_30 (by decide) (fun c_30 => absurd c_30 (fun z => z rfl)) (fun c_30 => ?_)
  refine pw_lconst (v := 0) dX11_range_33 rfl ?_
  exact pw_lret rfl dX11_range_34 (Nat.zero_le _) (Nat.zero_le _) rfl
theorem r_range_ok (i N : Nat) (z : Bool) (hP : wfP (σ.2.2.1 1) N) (hi : i < N) (hl : ¬ 4 ≤ σ.2.2.1 1 (1 + 4 * i)) : SpecD l G mX11_range [.ref (adr 0), .int (nI i), .int (bI z)] (wp G adr LM Lf Rt σ) (some (.long (if (aFin (sI σ 0 3 0) N).2.2.2.1 i = 0 then 0 else if z = true then (aFin (sI σ 0 3 0) N).2.2.2.2.2.2.2.2.1 i else (aFin (sI σ 0 3 0) N).2.2.2.2.2.2.2.1 i))) (wp G adr LM Lf Rt (mAna (sI σ 0 3 0) N)) := by
  refine spec_of (by decide) (Nat.le_of_ble_eq_true rfl) (fun sz => ?_)
  have h := one_of hP.2.1 hi hP.1
  have hi30 : i < 30 := by have := hP.1; omega
  have ei : (nI i).toNatClampNeg = i := nI_clamp (by omega)
  have bi : vp_in (nI i) 30 := vp_in_nI hi30 (by decide)
  by_cases hr : (aFin (sI σ 0 3 0) N).2.2.2.1 i = 0
  · rw [if_pos hr]
    refine pw_aload_n dX11_range_0 rfl ?_
    refine pw_aload_n dX11_range_1 rfl ?_
    refine pw_iload_n dX11_range_2 rfl ?_
    refine lp_cV1 (mi' := mX11_isOne) (As := [_]) (q := (RX11, TX11, 33)) dX11_range_3 lk_RX11_160 mk_X11_isOne mi_X11_isOne me_X11_isOne ⟨by decide, by decide⟩ rfl rfl (Nat.le_of_ble_eq_true rfl) rfl rfl ⟨rfl, rfl⟩ ⟨Nat.zero_le _, Nat.zero_le _⟩ (r_isOne (nI i)) ?_
    rw [decide_eq_true h]
    refine pw_aload_n dX11_range_6 rfl ?_
    refine pw_iload_n dX11_range_7 rfl ?_
    refine lp_cV1 (mi' := mX11_isOne) (As := [_]) (q := (RX11, TX11, 33)) dX11_range_8 lk_RX11_160 mk_X11_isOne mi_X11_isOne me_X11_isOne ⟨by decide, by decide⟩ rfl rfl (Nat.le_of_ble_eq_true rfl) rfl rfl ⟨rfl, rfl⟩ ⟨Nat.zero_le _, Nat.zero_le _⟩ (r_isOne (nI i)) ?_
    rw [decide_eq_true h]
    refine pw_if_eq 26 dX11_range_11 (by decide) (fun c_11 => absurd (show (1 : Int32) = 0 from c_11) (by decide)) (fun c_11 => ?_)
    refine pw_aload_n dX11_range_14 rfl ?_
    refine pw_iload_n dX11_range_15 rfl ?_
    refine lp_cV1 (mi' := mX11_isLoop) (As := [_]) (q := (RX11, TX11, 33)) dX11_range_16 lk_RX11_163 mk_X11_isLoop mi_X11_isLoop me_X11_isLoop ⟨by decide, by decide⟩ rfl rfl (Nat.le_of_ble_eq_true rfl) rfl rfl ⟨rfl, rfl⟩ ⟨Nat.zero_le _, Nat.zero_le _⟩ (r_isLoop i hi30) ?_
    rw [decide_eq_false hl]
    refine pw_if_ne 26 dX11_range_19 (by decide) (fun c_19 => absurd c_19 (fun z => z rfl)) (fun c_19 => ?_)
    refine pw_iconst (v := 1) dX11_range_22 rfl ?_
    refine pw_goto (tgt := 27) dX11_range_23 (by decide) ?_
    refine lp_cV1 (mi' := mX11_goes) (As := [_, _]) (q := (RX11, TX11, 33)) dX11_range_27 lk_RX11_101 mk_X11_goes mi_X11_goes me_X11_goes ⟨by decide, by decide⟩ rfl rfl (Nat.le_of_ble_eq_true rfl) rfl rfl ⟨rfl, rfl⟩ ⟨Nat.zero_le _, Nat.zero_le _⟩ (r_goes true true) ?_
    refine pw_if_ne 35 dX11_range_30 (by decide) (fun c_30 => ?_) (fun c_30 => absurd (show (1 : Int32) = 0 from c_30) (by decide))
    refine pw_aload_n dX11_range_35 rfl ?_
    refine lp_cV0 (mi' := mX11_analyses) (As := []) (q := (RX11, TX11, 33)) dX11_range_36 lk_RX11_227 mk_X11_analyses mi_X11_analyses me_X11_analyses ⟨by decide, by decide⟩ rfl rfl (Nat.le_of_ble_eq_true rfl) rfl rfl ⟨rfl, rfl⟩ ⟨Nat.zero_le _, Nat.zero_le _⟩ (r_analyses (σ := sI σ 0 3 0) hP) ?_
    refine pw_aload_n dX11_range_39 rfl ?_
    refine lp_getr 11 dX11_range_40 fp_RX11_41.FL rfl rfl rfl ?_
    refine pw_iload_n dX11_range_43 rfl ?_
    refine lp_zald dX11_range_44 rfl bi ?_
    rw [ei]
    refine pw_if_ne 52 dX11_range_45 (by decide) (fun c_45 => absurd c_45 (fun z => z hr)) (fun c_45 => ?_)
    refine pw_lconst (v := 0) dX11_range_48 rfl ?_
    refine pw_goto (tgt := 71) dX11_range_49 (by decide) ?_
    exact pw_lret rfl dX11_range_71 (Nat.zero_le _) (Nat.zero_le _) rfl
  · rw [if_neg hr]
    cases z
    · refine pw_aload_n dX11_range_0 rfl ?_
      refine pw_aload_n dX11_range_1 rfl ?_
      refine pw_iload_n dX11_range_2 rfl ?_
      refine lp_cV1 (mi' := mX11_isOne) (As := [_]) (q := (RX11, TX11, 33)) dX11_range_3 lk_RX11_160 mk_X11_isOne mi_X11_isOne me_X11_isOne ⟨by decide, by decide⟩ rfl rfl (Nat.le_of_ble_eq_true rfl) rfl rfl ⟨rfl, rfl⟩ ⟨Nat.zero_le _, Nat.zero_le _⟩ (r_isOne (nI i)) ?_
      rw [decide_eq_true h]
      refine pw_aload_n dX11_range_6 rfl ?_
      refine pw_iload_n dX11_range_7 rfl ?_
      refine lp_cV1 (mi' := mX11_isOne) (As := [_]) (q := (RX11, TX11, 33)) dX11_range_8 lk_RX11_160 mk_X11_isOne mi_X11_isOne me_X11_isOne ⟨by decide, by decide⟩ rfl rfl (Nat.le_of_ble_eq_true rfl) rfl rfl ⟨rfl, rfl⟩ ⟨Nat.zero_le _, Nat.zero_le _⟩ (r_isOne (nI i)) ?_
      rw [decide_eq_true h]
      refine pw_if_eq 26 dX11_range_11 (by decide) (fun c_11 => absurd (show (1 : Int32) = 0 from c_11) (by decide)) (fun c_11 => ?_)
      refine pw_aload_n dX11_range_14 rfl ?_
      refine pw_iload_n dX11_range_15 rfl ?_
      refine lp_cV1 (mi' := mX11_isLoop) (As := [_]) (q := (RX11, TX11, 33)) dX11_range_16 lk_RX11_163 mk_X11_isLoop mi_X11_isLoop me_X11_isLoop ⟨by decide, by decide⟩ rfl rfl (Nat.le_of_ble_eq_true rfl) rfl rfl ⟨rfl, rfl⟩ ⟨Nat.zero_le _, Nat.zero_le _⟩ (r_isLoop i hi30) ?_
      rw [decide_eq_false hl]
      refine pw_if_ne 26 dX11_range_19 (by decide) (fun c_19 => absurd c_19 (fun z => z rfl)) (fun c_19 => ?_)
      refine pw_iconst (v := 1) dX11_range_22 rfl ?_
      refine pw_goto (tgt := 27) dX11_range_23 (by decide) ?_
      refine lp_cV1 (mi' := mX11_goes) (As := [_, _]) (q := (RX11, TX11, 33)) dX11_range_27 lk_RX11_101 mk_X11_goes mi_X11_goes me_X11_goes ⟨by decide, by decide⟩ rfl rfl (Nat.le_of_ble_eq_true rfl) rfl rfl ⟨rfl, rfl⟩ ⟨Nat.zero_le _, Nat.zero_le _⟩ (r_goes true true) ?_
      refine pw_if_ne 35 dX11_range_30 (by decide) (fun c_30 => ?_) (fun c_30 => absurd (show (1 : Int32) = 0 from c_30) (by decide))
      refine pw_aload_n dX11_range_35 rfl ?_
      refine lp_cV0 (mi' := mX11_analyses) (As := []) (q := (RX11, TX11, 33)) dX11_range_36 lk_RX11_227 mk_X11_analyses mi_X11_analyses me_X11_analyses ⟨by decide, by decide⟩ rfl rfl (Nat.le_of_ble_eq_true rfl) rfl rfl ⟨rfl, rfl⟩ ⟨Nat.zero_le _, Nat.zero_le _⟩ (r_analyses (σ := sI σ 0 3 0) hP) ?_
      refine pw_aload_n dX11_range_39 rfl ?_
      refine lp_getr 11 dX11_range_40 fp_RX11_41.FL rfl rfl rfl ?_
      refine pw_iload_n dX11_range_43 rfl ?_
      refine lp_zald dX11_range_44 rfl bi ?_
      rw [ei]
      refine pw_if_ne 52 dX11_range_45 (by decide) (fun c_45 => ?_) (fun c_45 => absurd c_45 hr)
      refine pw_iload_n dX11_range_52 rfl ?_
      refine pw_if_eq 65 dX11_range_53 (by decide) (fun c_53 => ?_) (fun c_53 => absurd rfl c_53)
      refine pw_aload_n dX11_range_65 rfl ?_
      refine lp_getr 15 dX11_range_66 fp_RX11_54.FL rfl rfl rfl ?_
      refine pw_iload_n dX11_range_69 rfl ?_
      refine lp_lald dX11_range_70 rfl bi ?_
      rw [ei]
      exact pw_lret rfl dX11_range_71 (Nat.zero_le _) (Nat.zero_le _) rfl
    · refine pw_aload_n dX11_range_0 rfl ?_
      refine pw_aload_n dX11_range_1 rfl ?_
      refine pw_iload_n dX11_range_2 rfl ?_
      refine lp_cV1 (mi' := mX11_isOne) (As := [_]) (q := (RX11, TX11, 33)) dX11_range_3 lk_RX11_160 mk_X11_isOne mi_X11_isOne me_X11_isOne ⟨by decide, by decide⟩ rfl rfl (Nat.le_of_ble_eq_true rfl) rfl rfl ⟨rfl, rfl⟩ ⟨Nat.zero_le _, Nat.zero_le _⟩ (r_isOne (nI i)) ?_
      rw [decide_eq_true h]
      refine pw_aload_n dX11_range_6 rfl ?_
      refine pw_iload_n dX11_range_7 rfl ?_
      refine lp_cV1 (mi' := mX11_isOne) (As := [_]) (q := (RX11, TX11, 33)) dX11_range_8 lk_RX11_160 mk_X11_isOne mi_X11_isOne me_X11_isOne ⟨by decide, by decide⟩ rfl rfl (Nat.le_of_ble_eq_true rfl) rfl rfl ⟨rfl, rfl⟩ ⟨Nat.zero_le _, Nat.zero_le _⟩ (r_isOne (nI i)) ?_
      rw [decide_eq_true h]
      refine pw_if_eq 26 dX11_range_11 (by decide) (fun c_11 => absurd (show (1 : Int32) = 0 from c_11) (by decide)) (fun c_11 => ?_)
      refine pw_aload_n dX11_range_14 rfl ?_
      refine pw_iload_n dX11_range_15 rfl ?_
      refine lp_cV1 (mi' := mX11_isLoop) (As := [_]) (q := (RX11, TX11, 33)) dX11_range_16 lk_RX11_163 mk_X11_isLoop mi_X11_isLoop me_X11_isLoop ⟨by decide, by decide⟩ rfl rfl (Nat.le_of_ble_eq_true rfl) rfl rfl ⟨rfl, rfl⟩ ⟨Nat.zero_le _, Nat.zero_le _⟩ (r_isLoop i hi30) ?_
      rw [decide_eq_false hl]
      refine pw_if_ne 26 dX11_range_19 (by decide) (fun c_19 => absurd c_19 (fun z => z rfl)) (fun c_19 => ?_)
      refine pw_iconst (v := 1) dX11_range_22 rfl ?_
      refine pw_goto (tgt := 27) dX11_range_23 (by decide) ?_
      refine lp_cV1 (mi' := mX11_goes) (As := [_, _]) (q := (RX11, TX11, 33)) dX11_range_27 lk_RX11_101 mk_X11_goes mi_X11_goes me_X11_goes ⟨by decide, by decide⟩ rfl rfl (Nat.le_of_ble_eq_true rfl) rfl rfl ⟨rfl, rfl⟩ ⟨Nat.zero_le _, Nat.zero_le _⟩ (r_goes true true) ?_
      refine pw_if_ne 35 dX11_range_30 (by decide) (fun c_30 => ?_) (fun c_30 => absurd (show (1 : Int32) = 0 from c_30) (by decide))
      refine pw_aload_n dX11_range_35 rfl ?_
      refine lp_cV0 (mi' := mX11_analyses) (As := []) (q := (RX11, TX11, 33)) dX11_range_36 lk_RX11_227 mk_X11_analyses mi_X11_analyses me_X11_analyses ⟨by decide, by decide⟩ rfl rfl (Nat.le_of_ble_eq_true rfl) rfl rfl ⟨rfl, rfl⟩ ⟨Nat.zero_le _, Nat.zero_le _⟩ (r_analyses (σ := sI σ 0 3 0) hP) ?_
      refine pw_aload_n dX11_range_39 rfl ?_
      refine lp_getr 11 dX11_range_40 fp_RX11_41.FL rfl rfl rfl ?_
      refine pw_iload_n dX11_range_43 rfl ?_
      refine lp_zald dX11_range_44 rfl bi ?_
      rw [ei]
      refine pw_if_ne 52 dX11_range_45 (by decide) (fun c_45 => ?_) (fun c_45 => absurd c_45 hr)
      refine pw_iload_n dX11_range_52 rfl ?_
      refine pw_if_eq 65 dX11_range_53 (by decide) (fun c_53 => absurd (show (1 : Int32) = 0 from c_53) (by decide)) (fun c_53 => ?_)
      refine pw_aload_n dX11_range_56 rfl ?_
      refine lp_getr 16 dX11_range_57 fp_RX11_57.FL rfl rfl rfl ?_
      refine pw_iload_n dX11_range_60 rfl ?_
      refine lp_lald dX11_range_61 rfl bi ?_
      rw [ei]
      refine pw_goto (tgt := 71) dX11_range_62 (by decide) ?_
      exact pw_lret rfl dX11_range_71 (Nat.zero_le _) (Nat.zero_le _) rfl
theorem r_finalOf (v : Nat) (hv : v < 8) (z : Bool) : SpecD l G mX11_finalOf [.ref (adr 0), .int (nI v), .int (bI z)] (wp G adr LM Lf Rt σ) (some (.int (if σ.1 0 24 = 0 then 0 else if z = true then (σ.2.2.2.1 10 v).toInt32 else (σ.2.2.2.1 9 v).toInt32))) (wp G adr LM Lf Rt σ) := by
  refine spec_of (by decide) (Nat.le_of_ble_eq_true rfl) (fun sz => ?_)
  have ei : (nI v).toNatClampNeg = v := nI_clamp (by omega)
  have bi : vp_in (nI v) 8 := vp_in_nI hv (by decide)
  by_cases hc : σ.1 0 24 = 0
  · rw [if_pos hc]
    refine pw_aload_n dX11_finalOf_0 rfl ?_
    refine lp_geti dX11_finalOf_1 fp_RX11_201.FL rfl rfl ?_
    refine pw_if_ne 11 dX11_finalOf_4 (by decide) (fun c_4 => absurd c_4 (fun z => z hc)) (fun c_4 => ?_)
    refine pw_iconst (v := 0) dX11_finalOf_7 rfl ?_
    refine pw_goto (tgt := 31) dX11_finalOf_8 (by decide) ?_
    exact pw_iret rfl rfl dX11_finalOf_31 (Nat.zero_le _) (Nat.zero_le _) rfl
  · rw [if_neg hc]
    cases z
    · refine pw_aload_n dX11_finalOf_0 rfl ?_
      refine lp_geti dX11_finalOf_1 fp_RX11_201.FL rfl rfl ?_
      refine pw_if_ne 11 dX11_finalOf_4 (by decide) (fun c_4 => ?_) (fun c_4 => absurd c_4 hc)
      refine pw_iload_n dX11_finalOf_11 rfl ?_
      refine pw_if_eq 24 dX11_finalOf_12 (by decide) (fun c_12 => ?_) (fun c_12 => absurd rfl c_12)
      refine pw_aload_n dX11_finalOf_24 rfl ?_
      refine lp_getr 9 dX11_finalOf_25 fp_RX11_34.FL rfl rfl rfl ?_
      refine pw_iload_n dX11_finalOf_28 rfl ?_
      refine lp_lald dX11_finalOf_29 rfl bi ?_
      rw [ei]
      refine pw_l2i dX11_finalOf_30 ?_
      exact pw_iret rfl rfl dX11_finalOf_31 (Nat.zero_le _) (Nat.zero_le _) rfl
    · refine pw_aload_n dX11_finalOf_0 rfl ?_
      refine lp_geti dX11_finalOf_1 fp_RX11_201.FL rfl rfl ?_
      refine pw_if_ne 11 dX11_finalOf_4 (by decide) (fun c_4 => ?_) (fun c_4 => absurd c_4 hc)
      refine pw_iload_n dX11_finalOf_11 rfl ?_
      refine pw_if_eq 24 dX11_finalOf_12 (by decide) (fun c_12 => absurd (show (1 : Int32) = 0 from c_12) (by decide)) (fun c_12 => ?_)
      refine pw_aload_n dX11_finalOf_15 rfl ?_
      refine lp_getr 10 dX11_finalOf_16 fp_RX11_38.FL rfl rfl rfl ?_
      refine pw_iload_n dX11_finalOf_19 rfl ?_
      refine lp_lald dX11_finalOf_20 rfl bi ?_
      rw [ei]
      refine pw_goto (tgt := 30) dX11_finalOf_21 (by decide) ?_
      refine pw_l2i dX11_finalOf_30 ?_
      exact pw_iret rfl rfl dX11_finalOf_31 (Nat.zero_le _) (Nat.zero_le _) rfl
theorem r_finalRange_ok (v N : Nat) (hv : v < 8) (z : Bool) (hP : wfP (σ.2.2.1 1) N) : SpecD l G mX11_finalRange [.ref (adr 0), .int (nI v), .int (bI z)] (wp G adr LM Lf Rt σ) (some (.int (if (aFin (sI σ 0 3 0) N).2.2.2.2.2.2.2.2.2 = 0 then 0 else if z = true then ((aFin (sI σ 0 3 0) N).2.2.1 v).toInt32 else ((aFin (sI σ 0 3 0) N).2.1 v).toInt32))) (wp G adr LM Lf Rt (mAna (sI σ 0 3 0) N)) := by
  refine spec_of (by decide) (Nat.le_of_ble_eq_true rfl) (fun sz => ?_)
  have n7 : (0 : Int32) ≤ nI v ∧ nI v ≤ 7 := nIr (show v ≤ 7 by omega) (by decide)
  refine pw_aload_n dX11_finalRange_0 rfl ?_
  refine pw_iload_n dX11_finalRange_1 rfl ?_
  refine lp_cS1 (mi' := mX11_isName) (As := [_]) dX11_finalRange_2 lk_RX11_154 mk_X11_isName ms_X11_isName ⟨by decide, by decide⟩ rfl rfl (Nat.le_of_ble_eq_true rfl) ⟨rfl, rfl⟩ ⟨Nat.zero_le _, Nat.zero_le _⟩ (r_isName (nI v) _) ?_
  rw [decide_eq_true n7]
  refine pw_iconst (v := 1) dX11_finalRange_5 rfl ?_
  refine lp_cV1 (mi' := mX11_goes) (As := [_, _]) (q := (RX11, TX11, 33)) dX11_finalRange_6 lk_RX11_101 mk_X11_goes mi_X11_goes me_X11_goes ⟨by decide, by decide⟩ rfl rfl (Nat.le_of_ble_eq_true rfl) rfl rfl ⟨rfl, rfl⟩ ⟨Nat.zero_le _, Nat.zero_le _⟩ (r_goes true true) ?_
  refine pw_if_ne 14 dX11_finalRange_9 (by decide) (fun c_9 => ?_) (fun c_9 => absurd (show (1 : Int32) = 0 from c_9) (by decide))
  refine pw_aload_n dX11_finalRange_14 rfl ?_
  refine lp_cV0 (mi' := mX11_analyses) (As := []) (q := (RX11, TX11, 33)) dX11_finalRange_15 lk_RX11_227 mk_X11_analyses mi_X11_analyses me_X11_analyses ⟨by decide, by decide⟩ rfl rfl (Nat.le_of_ble_eq_true rfl) rfl rfl ⟨rfl, rfl⟩ ⟨Nat.zero_le _, Nat.zero_le _⟩ (r_analyses (σ := sI σ 0 3 0) hP) ?_
  refine pw_aload_n dX11_finalRange_18 rfl ?_
  refine pw_iload_n dX11_finalRange_19 rfl ?_
  refine pw_iload_n dX11_finalRange_20 rfl ?_
  refine lp_cV1 (mi' := mX11_finalOf) (As := [_, _]) (q := (RX11, TX11, 33)) dX11_finalRange_21 lk_RX11_235 mk_X11_finalOf mi_X11_finalOf me_X11_finalOf ⟨by decide, by decide⟩ rfl rfl (Nat.le_of_ble_eq_true rfl) rfl rfl ⟨rfl, rfl⟩ ⟨Nat.zero_le _, Nat.zero_le _⟩ (r_finalOf (σ := mAna (sI σ 0 3 0) N) v hv z) ?_
  exact pw_iret rfl rfl dX11_finalRange_24 (Nat.zero_le _) (Nat.zero_le _) rfl
theorem r_finalRange_no (v : Int32) (z : Bool) (hv : ¬ (0 ≤ v ∧ v ≤ 7)) : SpecD l G mX11_finalRange [.ref (adr 0), .int v, .int (bI z)] (wp G adr LM Lf Rt σ) (some (.int 0)) (wp G adr LM Lf Rt (sI σ 0 3 1)) := by
  refine spec_of (by decide) (Nat.le_of_ble_eq_true rfl) (fun sz => ?_)
  refine pw_aload_n dX11_finalRange_0 rfl ?_
  refine pw_iload_n dX11_finalRange_1 rfl ?_
  refine lp_cS1 (mi' := mX11_isName) (As := [_]) dX11_finalRange_2 lk_RX11_154 mk_X11_isName ms_X11_isName ⟨by decide, by decide⟩ rfl rfl (Nat.le_of_ble_eq_true rfl) ⟨rfl, rfl⟩ ⟨Nat.zero_le _, Nat.zero_le _⟩ (r_isName v _) ?_
  rw [decide_eq_false hv]
  refine pw_iconst (v := 1) dX11_finalRange_5 rfl ?_
  refine lp_cV1 (mi' := mX11_goes) (As := [_, _]) (q := (RX11, TX11, 33)) dX11_finalRange_6 lk_RX11_101 mk_X11_goes mi_X11_goes me_X11_goes ⟨by decide, by decide⟩ rfl rfl (Nat.le_of_ble_eq_true rfl) rfl rfl ⟨rfl, rfl⟩ ⟨Nat.zero_le _, Nat.zero_le _⟩ (r_goes false true) ?_
  refine pw_if_ne 14 dX11_finalRange_9 (by decide) (fun c_9 => absurd c_9 (fun z => z rfl)) (fun c_9 => ?_)
  refine pw_iconst (v := 0) dX11_finalRange_12 rfl ?_
  exact pw_iret rfl rfl dX11_finalRange_13 (Nat.zero_le _) (Nat.zero_le _) rfl
theorem r_completes (N : Nat) (hP : wfP (σ.2.2.1 1) N) : SpecD l G mX11_completes [.ref (adr 0)] (wp G adr LM Lf Rt σ) (some (.int (aFin (sI σ 0 3 0) N).2.2.2.2.2.2.2.2.2)) (wp G adr LM Lf Rt (mAna (sI σ 0 3 0) N)) := by
  refine spec_of (by decide) (Nat.le_of_ble_eq_true rfl) (fun sz => ?_)
  have hn : narrow .boolean (.int (aFin (sI σ 0 3 0) N).2.2.2.2.2.2.2.2.2) = .int (aFin (sI σ 0 3 0) N).2.2.2.2.2.2.2.2.2 := by
    rcases aIter_cp (al := (sI σ 0 3 0).2.2.1 1) (pt := lpt ((sI σ 0 3 0).2.2.1 1) ((sI σ 0 3 0).2.2.1 5) N) (N := N) (1600 * N + 1) (aIni (sI σ 0 3 0)) (Or.inr rfl) with h | h
    · rw [show (aFin (sI σ 0 3 0) N).2.2.2.2.2.2.2.2.2 = 0 from h]; rfl
    · rw [show (aFin (sI σ 0 3 0) N).2.2.2.2.2.2.2.2.2 = 1 from h]; rfl
  refine pw_aload_n dX11_completes_0 rfl ?_
  refine pw_iconst (v := 0) dX11_completes_1 rfl ?_
  refine lp_puti dX11_completes_2 fp_RX11_75 rfl rfl rfl rfl ?_
  refine pw_aload_n dX11_completes_5 rfl ?_
  refine lp_cV0 (mi' := mX11_analyses) (As := []) (q := (RX11, TX11, 33)) dX11_completes_6 lk_RX11_227 mk_X11_analyses mi_X11_analyses me_X11_analyses ⟨by decide, by decide⟩ rfl rfl (Nat.le_of_ble_eq_true rfl) rfl rfl ⟨rfl, rfl⟩ ⟨Nat.zero_le _, Nat.zero_le _⟩ (r_analyses (σ := sI σ 0 3 0) hP) ?_
  refine pw_aload_n dX11_completes_9 rfl ?_
  refine lp_geti dX11_completes_10 fp_RX11_201.FL rfl rfl ?_
  exact pw_iret rfl hn dX11_completes_13 (Nat.zero_le _) (Nat.zero_le _) rfl
end U1
