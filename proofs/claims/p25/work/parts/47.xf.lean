section XF
variable {l : Launch} {G : cxG} {adr : Nat → Nat} {Lf Rt : va_W} {σ : St}
theorem x_finalLow {b : Nat} (hb : LX.1[b]? = some (.inl 0)) (v : Nat) (hv : v < 8) : SpecD l G mX0_finalLow [.ref (adr b), .int (nI v)] (wp G adr LX Lf Rt σ) (some (.int (if σ.1 b 1 = 0 then (σ.2.2.2.1 (b + 3) v).toInt32 else 0))) (wp G adr LX Lf Rt σ) := by
  refine spec_of (by decide) (Nat.le_of_ble_eq_true rfl) (fun sz => ?_)
  have hv8 : vp_in (nI v) 8 := vp_in_nI hv (by decide)
  have ev : (nI v).toNatClampNeg = v := nI_clamp (by omega)
  refine pw_aload_n dX0_finalLow_0 rfl ?_
  refine lp_geti dX0_finalLow_1 fp_RX0_18.FL hb rfl ?_
  refine pw_if_eq 11 dX0_finalLow_4 (by decide) (fun c_4 => ?_) (fun c_4 => ?_)
  · refine pw_aload_n dX0_finalLow_11 rfl ?_
    refine lp_getr (b + 3) dX0_finalLow_12 fp_RX0_26.FL hb rfl (rX0_3 hb) ?_
    refine pw_iload_n dX0_finalLow_15 rfl ?_
    refine lp_lald dX0_finalLow_16 (kX0_3 hb) (by assumption) ?_
    refine pw_l2i dX0_finalLow_17 ?_
    exact pw_iret rfl rfl dX0_finalLow_18 (Nat.zero_le _) (Nat.zero_le _) (by first | rw [if_pos c_4, ev] | rw [if_neg c_4])
  · refine pw_iconst (v := 0) dX0_finalLow_7 rfl ?_
    refine pw_goto (tgt := 18) dX0_finalLow_8 (by decide) ?_
    exact pw_iret rfl rfl dX0_finalLow_18 (Nat.zero_le _) (Nat.zero_le _) (by first | rw [if_pos c_4, ev] | rw [if_neg c_4])
theorem x_finalHigh {b : Nat} (hb : LX.1[b]? = some (.inl 0)) (v : Nat) (hv : v < 8) : SpecD l G mX0_finalHigh [.ref (adr b), .int (nI v)] (wp G adr LX Lf Rt σ) (some (.int (if σ.1 b 1 = 0 then (σ.2.2.2.1 (b + 4) v).toInt32 else 0))) (wp G adr LX Lf Rt σ) := by
  refine spec_of (by decide) (Nat.le_of_ble_eq_true rfl) (fun sz => ?_)
  have hv8 : vp_in (nI v) 8 := vp_in_nI hv (by decide)
  have ev : (nI v).toNatClampNeg = v := nI_clamp (by omega)
  refine pw_aload_n dX0_finalHigh_0 rfl ?_
  refine lp_geti dX0_finalHigh_1 fp_RX0_18.FL hb rfl ?_
  refine pw_if_eq 11 dX0_finalHigh_4 (by decide) (fun c_4 => ?_) (fun c_4 => ?_)
  · refine pw_aload_n dX0_finalHigh_11 rfl ?_
    refine lp_getr (b + 4) dX0_finalHigh_12 fp_RX0_30.FL hb rfl (rX0_4 hb) ?_
    refine pw_iload_n dX0_finalHigh_15 rfl ?_
    refine lp_lald dX0_finalHigh_16 (kX0_4 hb) (by assumption) ?_
    refine pw_l2i dX0_finalHigh_17 ?_
    exact pw_iret rfl rfl dX0_finalHigh_18 (Nat.zero_le _) (Nat.zero_le _) (by first | rw [if_pos c_4, ev] | rw [if_neg c_4])
  · refine pw_iconst (v := 0) dX0_finalHigh_7 rfl ?_
    refine pw_goto (tgt := 18) dX0_finalHigh_8 (by decide) ?_
    exact pw_iret rfl rfl dX0_finalHigh_18 (Nat.zero_le _) (Nat.zero_le _) (by first | rw [if_pos c_4, ev] | rw [if_neg c_4])
theorem x_outcomeOf (z : Bool) : SpecD l G mX10_outcomeOf [.ref (adr 0), .int (bI z)] (wp G adr LX Lf Rt σ) (some (.ref (adr (if z = true ∧ σ.1 93 2 = -1 then 93 else 88)))) (wp G adr LX Lf Rt σ) := by
  refine spec_of (by decide) (Nat.le_of_ble_eq_true rfl) (fun sz => ?_)
  cases z
  · refine pw_iload_n dX10_outcomeOf_0 rfl ?_
    refine pw_if_eq 22 dX10_outcomeOf_1 (by decide) (fun c_1 => ?_) (fun c_1 => absurd rfl c_1)
    refine pw_aload_n dX10_outcomeOf_22 rfl ?_
    refine lp_getr 88 dX10_outcomeOf_23 fp_RX10_63.FL rfl rfl rfl ?_
    exact pw_aret rfl dX10_outcomeOf_26 (Nat.zero_le _) (Nat.zero_le _) rfl
  · by_cases h : σ.1 93 2 = -1
    · rw [if_pos ⟨rfl, h⟩]
      refine pw_iload_n dX10_outcomeOf_0 rfl ?_
      refine pw_if_eq 22 dX10_outcomeOf_1 (by decide) (fun c_1 => absurd (show (1 : Int32) = 0 from c_1) (by decide)) (fun c_1 => ?_)
      refine pw_aload_n dX10_outcomeOf_4 rfl ?_
      refine lp_getr 93 dX10_outcomeOf_5 fp_RX10_67.FL rfl rfl rfl ?_
      refine lp_geti dX10_outcomeOf_8 fp_RX10_219.FL rfl rfl ?_
      refine pw_iconst (v := -1) dX10_outcomeOf_11 rfl ?_
      refine pw_icmp_ne 22 dX10_outcomeOf_12 (by decide) (fun c_12 => absurd c_12 (fun z => z h)) (fun c_12 => ?_)
      refine pw_aload_n dX10_outcomeOf_15 rfl ?_
      refine lp_getr 93 dX10_outcomeOf_16 fp_RX10_67.FL rfl rfl rfl ?_
      refine pw_goto (tgt := 26) dX10_outcomeOf_19 (by decide) ?_
      exact pw_aret rfl dX10_outcomeOf_26 (Nat.zero_le _) (Nat.zero_le _) rfl
    · rw [if_neg (fun q => h q.2)]
      refine pw_iload_n dX10_outcomeOf_0 rfl ?_
      refine pw_if_eq 22 dX10_outcomeOf_1 (by decide) (fun c_1 => absurd (show (1 : Int32) = 0 from c_1) (by decide)) (fun c_1 => ?_)
      refine pw_aload_n dX10_outcomeOf_4 rfl ?_
      refine lp_getr 93 dX10_outcomeOf_5 fp_RX10_67.FL rfl rfl rfl ?_
      refine lp_geti dX10_outcomeOf_8 fp_RX10_219.FL rfl rfl ?_
      refine pw_iconst (v := -1) dX10_outcomeOf_11 rfl ?_
      refine pw_icmp_ne 22 dX10_outcomeOf_12 (by decide) (fun c_12 => ?_) (fun c_12 => absurd c_12 h)
      refine pw_aload_n dX10_outcomeOf_22 rfl ?_
      refine lp_getr 88 dX10_outcomeOf_23 fp_RX10_63.FL rfl rfl rfl ?_
      exact pw_aret rfl dX10_outcomeOf_26 (Nat.zero_le _) (Nat.zero_le _) rfl
theorem x_states0 (h9 : σ.1 0 9 = 0) (h0 : σ.1 13 0 = 0) (a : Int32) (ha : 0 ≤ a ∧ a ≤ 4) : SpR1 l G mX10_states [.ref (adr 0), .int a] adr LX Lf Rt σ (fun r _ => r = .int 0) := by
  refine spec_of (by decide) (Nat.le_of_ble_eq_true rfl) (fun sz => ?_)
  refine pw_iload_n dX10_states_0 rfl ?_
  refine pw_if_lt 9 dX10_states_1 (by decide) (fun c_1 => absurd c_1 (Int32.not_lt.mpr ha.1)) (fun c_1 => ?_)
  refine pw_iload_n dX10_states_4 rfl ?_
  refine pw_iconst (v := 4) dX10_states_5 rfl ?_
  refine pw_icmp_le 19 dX10_states_6 (by decide) (fun c_6 => ?_) (fun c_6 => absurd ha.2 c_6)
  refine pw_aload_n dX10_states_19 rfl ?_
  refine lp_rV0 (mi' := mX10_freshenAnalysis) (As := []) (q := (RX10, TX10, 14)) dX10_states_20 lk_RX10_184 mk_X10_freshenAnalysis mi_X10_freshenAnalysis me_X10_freshenAnalysis ⟨by decide, by decide⟩ rfl rfl (Nat.le_of_ble_eq_true rfl) rfl rfl ⟨rfl, rfl⟩ ⟨Nat.zero_le _, Nat.zero_le _⟩ (x_freshA0 h9 h0) (fun τ hQ => ?_)
  refine pw_iconst (v := 0) dX10_states_23 rfl ?_
  refine pw_istore_n dX10_states_24 (by decide) ?_
  refine pw_iconst (v := 0) dX10_states_25 rfl ?_
  refine pw_istore_n dX10_states_26 (by decide) ?_
  refine pw_iload_n dX10_states_27 rfl ?_
  refine pw_aload_n dX10_states_28 rfl ?_
  refine lp_getr 12 dX10_states_29 fp_RX10_35.FL rfl rfl rfl ?_
  refine lp_getr 13 dX10_states_32 fp_RX10_117.FL rfl rfl rfl ?_
  refine lp_geti dX10_states_35 fp_RX10_124.FL rfl rfl ?_
  refine pw_icmp_ge 63 dX10_states_38 (by decide) (fun c_38 => ?_) (fun c_38 => absurd (show τ.1 13 0 ≤ 0 by obtain ⟨ρ, rfl, hA⟩ := hQ; rw [show (sI ρ 0 9 1).1 13 0 = σ.1 13 0 from congrFun (hA.1 13 (by omega)).1 0, h0]; decide) c_38)
  refine pw_iload_n dX10_states_63 rfl ?_
  exact pw_iret rfl rfl dX10_states_64 (Nat.zero_le _) (Nat.zero_le _) ⟨_, _, rfl, rfl⟩
theorem x_finalRange0 (h9 : σ.1 0 9 = 0) (h0 : σ.1 13 0 = 0) (v : Nat) (hv : v < 8) (z : Bool) : SpR1 l G mX10_finalRange [.ref (adr 0), .int (nI v), .int (bI z)] adr LX Lf Rt σ (fun r _ => r = .int (if z = true then σ.2.2.1 22 v else σ.2.2.1 21 v)) := by
  refine spec_of (by decide) (Nat.le_of_ble_eq_true rfl) (fun sz => ?_)
  have hv1 : (0 : Int32) ≤ nI v ∧ nI v < 8 := ⟨nI_pos' (by omega), nI_lt (b := 8) hv (by decide)⟩
  cases z
  · refine pw_iload_n dX10_finalRange_0 rfl ?_
    refine lp_cS0 (mi' := mX10_requireVariable0) (As := [_]) dX10_finalRange_1 lk_RX10_127 mk_X10_requireVariable ms_X10_requireVariable ⟨by decide, by decide⟩ rfl rfl (Nat.le_of_ble_eq_true rfl) ⟨rfl, rfl⟩ ⟨Nat.zero_le _, Nat.zero_le _⟩ (x_reqV (nI v) hv1 _) ?_
    refine pw_aload_n dX10_finalRange_4 rfl ?_
    refine lp_rV0 (mi' := mX10_freshenAnalysis) (As := []) (q := (RX10, TX10, 14)) dX10_finalRange_5 lk_RX10_184 mk_X10_freshenAnalysis mi_X10_freshenAnalysis me_X10_freshenAnalysis ⟨by decide, by decide⟩ rfl rfl (Nat.le_of_ble_eq_true rfl) rfl rfl ⟨rfl, rfl⟩ ⟨Nat.zero_le _, Nat.zero_le _⟩ (x_freshA0 h9 h0) (fun τ hQ => ?_)
    refine pw_iload_n dX10_finalRange_8 rfl ?_
    refine pw_if_eq 23 dX10_finalRange_9 (by decide) (fun c_9 => ?_) (fun c_9 => absurd rfl c_9)
    refine pw_aload_n dX10_finalRange_23 rfl ?_
    refine lp_getr 74 dX10_finalRange_24 fp_RX10_49.FL rfl rfl rfl ?_
    refine pw_iload_n dX10_finalRange_27 rfl ?_
    refine lp_cV1 (mi' := mX0_finalLow) (As := [_]) (q := (RX0, TX0, 13)) dX10_finalRange_28 lk_RX10_206 mk_X0_finalLow mi_X0_finalLow me_X0_finalLow ⟨by decide, by decide⟩ rfl rfl (Nat.le_of_ble_eq_true rfl) rfl rfl ⟨rfl, rfl⟩ ⟨Nat.zero_le _, Nat.zero_le _⟩ (x_finalLow (b := 74) rfl v hv) ?_
    exact pw_iret rfl rfl dX10_finalRange_31 (Nat.zero_le _) (Nat.zero_le _) (by
    obtain ⟨ρ, rfl, hA⟩ := hQ
    refine ⟨_, _, rfl, ?_⟩
    rw [if_pos (show (sI ρ 0 9 1).1 74 1 = 0 from hA.2.1), show (sI ρ 0 9 1).2.2.2.1 (74 + 3) v = _ from (hA.2.2 v hv).1, Int32.toInt32_toInt64, if_neg (by decide)])
  · refine pw_iload_n dX10_finalRange_0 rfl ?_
    refine lp_cS0 (mi' := mX10_requireVariable0) (As := [_]) dX10_finalRange_1 lk_RX10_127 mk_X10_requireVariable ms_X10_requireVariable ⟨by decide, by decide⟩ rfl rfl (Nat.le_of_ble_eq_true rfl) ⟨rfl, rfl⟩ ⟨Nat.zero_le _, Nat.zero_le _⟩ (x_reqV (nI v) hv1 _) ?_
    refine pw_aload_n dX10_finalRange_4 rfl ?_
    refine lp_rV0 (mi' := mX10_freshenAnalysis) (As := []) (q := (RX10, TX10, 14)) dX10_finalRange_5 lk_RX10_184 mk_X10_freshenAnalysis mi_X10_freshenAnalysis me_X10_freshenAnalysis ⟨by decide, by decide⟩ rfl rfl (Nat.le_of_ble_eq_true rfl) rfl rfl ⟨rfl, rfl⟩ ⟨Nat.zero_le _, Nat.zero_le _⟩ (x_freshA0 h9 h0) (fun τ hQ => ?_)
    refine pw_iload_n dX10_finalRange_8 rfl ?_
    refine pw_if_eq 23 dX10_finalRange_9 (by decide) (fun c_9 => absurd (show (1 : Int32) = 0 from c_9) (by decide)) (fun c_9 => ?_)
    refine pw_aload_n dX10_finalRange_12 rfl ?_
    refine lp_getr 74 dX10_finalRange_13 fp_RX10_49.FL rfl rfl rfl ?_
    refine pw_iload_n dX10_finalRange_16 rfl ?_
    refine lp_cV1 (mi' := mX0_finalHigh) (As := [_]) (q := (RX0, TX0, 13)) dX10_finalRange_17 lk_RX10_202 mk_X0_finalHigh mi_X0_finalHigh me_X0_finalHigh ⟨by decide, by decide⟩ rfl rfl (Nat.le_of_ble_eq_true rfl) rfl rfl ⟨rfl, rfl⟩ ⟨Nat.zero_le _, Nat.zero_le _⟩ (x_finalHigh (b := 74) rfl v hv) ?_
    refine pw_goto (tgt := 31) dX10_finalRange_20 (by decide) ?_
    exact pw_iret rfl rfl dX10_finalRange_31 (Nat.zero_le _) (Nat.zero_le _) (by
    obtain ⟨ρ, rfl, hA⟩ := hQ
    refine ⟨_, _, rfl, ?_⟩
    rw [if_pos (show (sI ρ 0 9 1).1 74 1 = 0 from hA.2.1), show (sI ρ 0 9 1).2.2.2.1 (74 + 4) v = _ from (hA.2.2 v hv).2, Int32.toInt32_toInt64, if_pos rfl])
theorem x_completes0 (h9 : σ.1 0 9 = 0) (h0 : σ.1 13 0 = 0) : SpR1 l G mX10_completes [.ref (adr 0)] adr LX Lf Rt σ (fun r _ => r = .int 1) := by
  refine spec_of (by decide) (Nat.le_of_ble_eq_true rfl) (fun sz => ?_)
  refine pw_aload_n dX10_completes_0 rfl ?_
  refine lp_rV0 (mi' := mX10_freshenAnalysis) (As := []) (q := (RX10, TX10, 14)) dX10_completes_1 lk_RX10_184 mk_X10_freshenAnalysis mi_X10_freshenAnalysis me_X10_freshenAnalysis ⟨by decide, by decide⟩ rfl rfl (Nat.le_of_ble_eq_true rfl) rfl rfl ⟨rfl, rfl⟩ ⟨Nat.zero_le _, Nat.zero_le _⟩ (x_freshA0 h9 h0) (fun τ hQ => ?_)
  refine pw_aload_n dX10_completes_4 rfl ?_
  refine lp_getr 74 dX10_completes_5 fp_RX10_49.FL rfl rfl rfl ?_
  refine lp_geti dX10_completes_8 fp_RX10_209.FL rfl rfl ?_
  refine pw_if_ne 18 dX10_completes_11 (by decide) (fun c_11 => absurd c_11 (fun z => z (by obtain ⟨ρ, rfl, hA⟩ := hQ; exact hA.2.1))) (fun c_11 => ?_)
  refine pw_iconst (v := 1) dX10_completes_14 rfl ?_
  refine pw_goto (tgt := 19) dX10_completes_15 (by decide) ?_
  exact pw_iret rfl rfl dX10_completes_19 (Nat.zero_le _) (Nat.zero_le _) ⟨_, _, rfl, rfl⟩
theorem x_failure0 (h9 : σ.1 0 9 = 0) (h10 : σ.1 0 10 = 0) (h0 : σ.1 13 0 = 0) (z : Bool) : SpR1 l G mX10_failure [.ref (adr 0), .int (bI z)] adr LX Lf Rt σ (fun r _ => r = .int (-1)) := by
  refine spec_of (by decide) (Nat.le_of_ble_eq_true rfl) (fun sz => ?_)
  have hk : ∀ {P : Prop} [Decidable P], LX.1[if P then 93 else 88]? = some (.inl 7) := fun {P} _ => by by_cases h : P <;> simp only [h, if_true, if_false] <;> rfl
  refine pw_aload_n dX10_failure_0 rfl ?_
  refine lp_rV0 (mi' := mX10_freshenRuns) (As := []) (q := (RX10, TX10, 14)) dX10_failure_1 lk_RX10_212 mk_X10_freshenRuns mi_X10_freshenRuns me_X10_freshenRuns ⟨by decide, by decide⟩ rfl rfl (Nat.le_of_ble_eq_true rfl) rfl rfl ⟨rfl, rfl⟩ ⟨Nat.zero_le _, Nat.zero_le _⟩ (x_freshR0 h9 h10 h0) (fun τ hQ => ?_)
  refine pw_aload_n dX10_failure_4 rfl ?_
  refine pw_iload_n dX10_failure_5 rfl ?_
  refine lp_cV1 (mi' := mX10_outcomeOf) (As := [_]) (q := (RX10, TX10, 14)) dX10_failure_6 lk_RX10_215 mk_X10_outcomeOf mi_X10_outcomeOf me_X10_outcomeOf ⟨by decide, by decide⟩ rfl rfl (Nat.le_of_ble_eq_true rfl) rfl rfl ⟨rfl, rfl⟩ ⟨Nat.zero_le _, Nat.zero_le _⟩ (x_outcomeOf z) ?_
  refine lp_geti dX10_failure_9 fp_RX10_219.FL hk rfl ?_
  exact pw_iret rfl rfl dX10_failure_12 (Nat.zero_le _) (Nat.zero_le _) (by
    obtain ⟨τ1, rfl, ρ, hR, rfl⟩ := hQ
    refine ⟨_, _, rfl, ?_⟩
    congr 1
    split
    · exact hR.2.2.2.2.1
    · exact hR.2.2.2.1.1)
theorem x_result0 (h9 : σ.1 0 9 = 0) (h10 : σ.1 0 10 = 0) (h0 : σ.1 13 0 = 0) (v : Nat) (hv : v < 8) (z : Bool) : SpR1 l G mX10_result [.ref (adr 0), .int (nI v), .int (bI z)] adr LX Lf Rt σ (fun r _ => r = .int (σ.2.2.1 23 v)) := by
  refine spec_of (by decide) (Nat.le_of_ble_eq_true rfl) (fun sz => ?_)
  have hv1 : (0 : Int32) ≤ nI v ∧ nI v < 8 := ⟨nI_pos' (by omega), nI_lt (b := 8) hv (by decide)⟩
  have hv8 : vp_in (nI v) 8 := vp_in_nI hv (by decide)
  have ev : (nI v).toNatClampNeg = v := nI_clamp (by omega)
  have hk : ∀ {P : Prop} [Decidable P], LX.1[if P then 93 else 88]? = some (.inl 7) := fun {P} _ => by by_cases h : P <;> simp only [h, if_true, if_false] <;> rfl
  refine pw_iload_n dX10_result_0 rfl ?_
  refine lp_cS0 (mi' := mX10_requireVariable0) (As := [_]) dX10_result_1 lk_RX10_127 mk_X10_requireVariable ms_X10_requireVariable ⟨by decide, by decide⟩ rfl rfl (Nat.le_of_ble_eq_true rfl) ⟨rfl, rfl⟩ ⟨Nat.zero_le _, Nat.zero_le _⟩ (x_reqV (nI v) hv1 _) ?_
  refine pw_aload_n dX10_result_4 rfl ?_
  refine lp_rV0 (mi' := mX10_freshenRuns) (As := []) (q := (RX10, TX10, 14)) dX10_result_5 lk_RX10_212 mk_X10_freshenRuns mi_X10_freshenRuns me_X10_freshenRuns ⟨by decide, by decide⟩ rfl rfl (Nat.le_of_ble_eq_true rfl) rfl rfl ⟨rfl, rfl⟩ ⟨Nat.zero_le _, Nat.zero_le _⟩ (x_freshR0 h9 h10 h0) (fun τ hQ => ?_)
  refine pw_aload_n dX10_result_8 rfl ?_
  refine pw_iload_n dX10_result_9 rfl ?_
  refine lp_cV1 (mi' := mX10_outcomeOf) (As := [_]) (q := (RX10, TX10, 14)) dX10_result_10 lk_RX10_215 mk_X10_outcomeOf mi_X10_outcomeOf me_X10_outcomeOf ⟨by decide, by decide⟩ rfl rfl (Nat.le_of_ble_eq_true rfl) rfl rfl ⟨rfl, rfl⟩ ⟨Nat.zero_le _, Nat.zero_le _⟩ (x_outcomeOf z) ?_
  refine lp_getr (_ + 3) dX10_result_13 fp_RX10_222.FL hk rfl (rX7_1 hk) ?_
  refine pw_iload_n dX10_result_16 rfl ?_
  refine lp_lald dX10_result_17 (kX7_1 hk) (by assumption) ?_
  refine pw_l2i dX10_result_18 ?_
  exact pw_iret rfl rfl dX10_result_19 (Nat.zero_le _) (Nat.zero_le _) (by
    obtain ⟨τ1, rfl, ρ, hR, rfl⟩ := hQ
    refine ⟨_, _, rfl, ?_⟩
    rw [ev]
    split
    · rw [show (sI (sI ρ 0 9 1) 0 10 1).2.2.2.1 (93 + 3) v = _ from hR.2.2.2.2.2.2.2 v hv, Int32.toInt32_toInt64]
    · rw [show (sI (sI ρ 0 9 1) 0 10 1).2.2.2.1 (88 + 3) v = _ from hR.2.2.2.1.2.2.2 v hv, Int32.toInt32_toInt64])
theorem x_checks0 (h9 : σ.1 0 9 = 0) (h10 : σ.1 0 10 = 0) (h0 : σ.1 13 0 = 0) (z : Bool) : SpR1 l G mX10_checks [.ref (adr 0), .int (bI z)] adr LX Lf Rt σ (fun r _ => r = .int 0) := by
  refine spec_of (by decide) (Nat.le_of_ble_eq_true rfl) (fun sz => ?_)
  refine pw_aload_n dX10_checks_0 rfl ?_
  refine lp_rV0 (mi' := mX10_freshenRuns) (As := []) (q := (RX10, TX10, 14)) dX10_checks_1 lk_RX10_212 mk_X10_freshenRuns mi_X10_freshenRuns me_X10_freshenRuns ⟨by decide, by decide⟩ rfl rfl (Nat.le_of_ble_eq_true rfl) rfl rfl ⟨rfl, rfl⟩ ⟨Nat.zero_le _, Nat.zero_le _⟩ (x_freshR0 h9 h10 h0) (fun τ hQ => ?_)
  refine pw_iload_n dX10_checks_4 rfl ?_
  refine pw_if_eq 18 dX10_checks_5 (by decide) (fun c_5 => ?_) (fun c_5 => ?_)
  · refine pw_aload_n dX10_checks_18 rfl ?_
    refine lp_getr 88 dX10_checks_19 fp_RX10_63.FL rfl rfl rfl ?_
    refine lp_geti dX10_checks_22 fp_RX10_225.FL rfl rfl ?_
    exact pw_iret rfl rfl dX10_checks_25 (Nat.zero_le _) (Nat.zero_le _) (by
    obtain ⟨τ1, rfl, ρ, hR, rfl⟩ := hQ
    refine ⟨_, _, rfl, ?_⟩
    first | exact congrArg Value.int hR.2.2.2.1.2.1 | exact congrArg Value.int hR.2.2.2.2.2.1)
  · refine pw_aload_n dX10_checks_8 rfl ?_
    refine lp_getr 93 dX10_checks_9 fp_RX10_67.FL rfl rfl rfl ?_
    refine lp_geti dX10_checks_12 fp_RX10_225.FL rfl rfl ?_
    refine pw_goto (tgt := 25) dX10_checks_15 (by decide) ?_
    exact pw_iret rfl rfl dX10_checks_25 (Nat.zero_le _) (Nat.zero_le _) (by
    obtain ⟨τ1, rfl, ρ, hR, rfl⟩ := hQ
    refine ⟨_, _, rfl, ?_⟩
    first | exact congrArg Value.int hR.2.2.2.1.2.1 | exact congrArg Value.int hR.2.2.2.2.2.1)
theorem x_executed0 (h9 : σ.1 0 9 = 0) (h10 : σ.1 0 10 = 0) (h0 : σ.1 13 0 = 0) : SpR1 l G mX10_executed [.ref (adr 0)] adr LX Lf Rt σ (fun r _ => r = .int 0) := by
  refine spec_of (by decide) (Nat.le_of_ble_eq_true rfl) (fun sz => ?_)
  refine pw_aload_n dX10_executed_0 rfl ?_
  refine lp_rV0 (mi' := mX10_freshenRuns) (As := []) (q := (RX10, TX10, 14)) dX10_executed_1 lk_RX10_212 mk_X10_freshenRuns mi_X10_freshenRuns me_X10_freshenRuns ⟨by decide, by decide⟩ rfl rfl (Nat.le_of_ble_eq_true rfl) rfl rfl ⟨rfl, rfl⟩ ⟨Nat.zero_le _, Nat.zero_le _⟩ (x_freshR0 h9 h10 h0) (fun τ hQ => ?_)
  refine pw_aload_n dX10_executed_4 rfl ?_
  refine lp_getr 88 dX10_executed_5 fp_RX10_63.FL rfl rfl rfl ?_
  refine lp_geti dX10_executed_8 fp_RX10_228.FL rfl rfl ?_
  exact pw_iret rfl rfl dX10_executed_11 (Nat.zero_le _) (Nat.zero_le _) (by
    obtain ⟨τ1, rfl, ρ, hR, rfl⟩ := hQ
    exact ⟨_, _, rfl, congrArg Value.int hR.2.2.2.1.2.2.1⟩)
theorem x_saving0 (h9 : σ.1 0 9 = 0) (h10 : σ.1 0 10 = 0) (h0 : σ.1 13 0 = 0) : SpR1 l G mX10_saving [.ref (adr 0)] adr LX Lf Rt σ (fun r _ => r = .double FP.dconst0) := by
  refine spec_of (by decide) (Nat.le_of_ble_eq_true rfl) (fun sz => ?_)
  refine pw_aload_n dX10_saving_0 rfl ?_
  refine lp_rV0 (mi' := mX10_freshenRuns) (As := []) (q := (RX10, TX10, 14)) dX10_saving_1 lk_RX10_212 mk_X10_freshenRuns mi_X10_freshenRuns me_X10_freshenRuns ⟨by decide, by decide⟩ rfl rfl (Nat.le_of_ble_eq_true rfl) rfl rfl ⟨rfl, rfl⟩ ⟨Nat.zero_le _, Nat.zero_le _⟩ (x_freshR0 h9 h10 h0) (fun τ hQ => ?_)
  refine pw_aload_n dX10_saving_4 rfl ?_
  refine lp_getr 88 dX10_saving_5 fp_RX10_63.FL rfl rfl rfl ?_
  refine lp_geti dX10_saving_8 fp_RX10_225.FL rfl rfl ?_
  refine pw_if_ne 16 dX10_saving_11 (by decide) (fun c_11 => absurd c_11 (fun z => z (by obtain ⟨τ1, rfl, ρ, hR, rfl⟩ := hQ; exact hR.2.2.2.1.2.1))) (fun c_11 => ?_)
  refine pw_dconst0 dX10_saving_14 ?_
  exact pw_dret rfl dX10_saving_15 (Nat.zero_le _) (Nat.zero_le _) ⟨_, _, rfl, rfl⟩
/-- what looking with other ranges changes: the trial's own things -/
theorem x_open0 (h0 : σ.1 13 0 = 0) (v : Nat) (hv : v < 8) (lo hi : Int32) : SpR1 l G mX10_openChecksWith [.ref (adr 0), .int (nI v), .int lo, .int hi] adr LX Lf Rt σ (fun r τ => r = .int 0 ∧ Fr 98 112 σ τ) := by
  refine spec_of (by decide) (Nat.le_of_ble_eq_true rfl) (fun sz => ?_)
  have hv8 : vp_in (nI v) 8 := vp_in_nI hv (by decide)
  refine pw_aload_n dX10_openChecksWith_0 rfl ?_
  refine lp_getr 98 dX10_openChecksWith_1 fp_RX10_80.FL rfl rfl rfl ?_
  refine pw_aload_n dX10_openChecksWith_4 rfl ?_
  refine lp_getr 12 dX10_openChecksWith_5 fp_RX10_35.FL rfl rfl rfl ?_
  refine lp_getr 20 dX10_openChecksWith_8 fp_RX10_134.FL rfl rfl rfl ?_
  refine lp_rV0 (mi' := mX3_copyFrom) (As := [_]) (q := (RX3, TX3, 3)) dX10_openChecksWith_11 lk_RX10_320 mk_X3_copyFrom mi_X3_copyFrom me_X3_copyFrom ⟨by decide, by decide⟩ rfl rfl (Nat.le_of_ble_eq_true rfl) rfl rfl ⟨rfl, rfl⟩ ⟨Nat.zero_le _, Nat.zero_le _⟩ (x_Icopy (a := 20) (b := 98) rfl rfl (by decide)) (fun τ hQ => ?_)
  refine pw_aload_n dX10_openChecksWith_14 rfl ?_
  refine lp_getr 98 dX10_openChecksWith_15 fp_RX10_80.FL rfl rfl rfl ?_
  refine lp_getr 99 dX10_openChecksWith_18 fp_RX10_141.FL rfl rfl rfl ?_
  refine pw_iload_n dX10_openChecksWith_21 rfl ?_
  refine pw_iload_n dX10_openChecksWith_22 rfl ?_
  refine lp_iast dX10_openChecksWith_23 rfl (by assumption) ?_
  refine pw_aload_n dX10_openChecksWith_24 rfl ?_
  refine lp_getr 98 dX10_openChecksWith_25 fp_RX10_80.FL rfl rfl rfl ?_
  refine lp_getr 100 dX10_openChecksWith_28 fp_RX10_145.FL rfl rfl rfl ?_
  refine pw_iload_n dX10_openChecksWith_31 rfl ?_
  refine pw_iload_n dX10_openChecksWith_32 rfl ?_
  refine lp_iast dX10_openChecksWith_33 rfl (by assumption) ?_
  refine pw_aload_n dX10_openChecksWith_34 rfl ?_
  refine lp_getr 102 dX10_openChecksWith_35 fp_RX10_84.FL rfl rfl rfl ?_
  refine pw_aload_n dX10_openChecksWith_38 rfl ?_
  refine lp_getr 12 dX10_openChecksWith_39 fp_RX10_35.FL rfl rfl rfl ?_
  refine lp_getr 13 dX10_openChecksWith_42 fp_RX10_117.FL rfl rfl rfl ?_
  refine pw_aload_n dX10_openChecksWith_45 rfl ?_
  refine lp_getr 98 dX10_openChecksWith_46 fp_RX10_80.FL rfl rfl rfl ?_
  refine lp_rV0 (mi' := mX0_go) (As := [_, _]) (q := (RX0, TX0, 13)) dX10_openChecksWith_49 lk_RX10_305 mk_X0_go mi_X0_go me_X0_go ⟨by decide, by decide⟩ rfl rfl (Nat.le_of_ble_eq_true rfl) rfl rfl ⟨rfl, rfl⟩ ⟨Nat.zero_le _, Nat.zero_le _⟩ (x_go0 (b := 102) (a := 98) (p := 13) rfl rfl rfl (by decide) (by decide) ((congrFun (hQ.1 13 (by omega)).1 0).trans h0)) (fun ρ hR => ?_)
  refine pw_aload_n dX10_openChecksWith_52 rfl ?_
  refine lp_getr 102 dX10_openChecksWith_53 fp_RX10_84.FL rfl rfl rfl ?_
  refine lp_geti dX10_openChecksWith_56 fp_RX10_322.FL rfl rfl ?_
  exact pw_iret rfl rfl dX10_openChecksWith_59 (Nat.zero_le _) (Nat.zero_le _) ⟨_, ρ, rfl, congrArg Value.int hR.1.2.2.2.1, (Fr.A (Fr.A (hQ.1.mono (by decide) (by decide)) (by decide) (by decide)) (by decide) (by decide)).tr (hR.1.1.mono (by decide) (by decide))⟩
theorem x_openWith0 (h0 : σ.1 13 0 = 0) (v : Nat) (hv : v < 8) (lo hi : Int32) (hlh : lo ≤ hi) : SpR1 l G mX10_openWith [.ref (adr 0), .int (nI v), .int lo, .int hi] adr LX Lf Rt σ (fun r _ => r = .int 0) := by
  refine spec_of (by decide) (Nat.le_of_ble_eq_true rfl) (fun sz => ?_)
  have hv1 : (0 : Int32) ≤ nI v ∧ nI v < 8 := ⟨nI_pos' (by omega), nI_lt (b := 8) hv (by decide)⟩
  refine pw_iload_n dX10_openWith_0 rfl ?_
  refine lp_cS0 (mi' := mX10_requireVariable0) (As := [_]) dX10_openWith_1 lk_RX10_127 mk_X10_requireVariable ms_X10_requireVariable ⟨by decide, by decide⟩ rfl rfl (Nat.le_of_ble_eq_true rfl) ⟨rfl, rfl⟩ ⟨Nat.zero_le _, Nat.zero_le _⟩ (x_reqV (nI v) hv1 _) ?_
  refine pw_iload_n dX10_openWith_4 rfl ?_
  refine pw_iload_n dX10_openWith_5 rfl ?_
  refine lp_cS0 (mi' := mX10_requireOrder0) (As := [_, _]) dX10_openWith_6 lk_RX10_130 mk_X10_requireOrder ms_X10_requireOrder ⟨by decide, by decide⟩ rfl rfl (Nat.le_of_ble_eq_true rfl) ⟨rfl, rfl⟩ ⟨Nat.zero_le _, Nat.zero_le _⟩ (x_reqO lo hi hlh _) ?_
  refine pw_aload_n dX10_openWith_9 rfl ?_
  refine pw_iload_n dX10_openWith_10 rfl ?_
  refine pw_iload_n dX10_openWith_11 rfl ?_
  refine pw_iload_n dX10_openWith_12 rfl ?_
  refine lp_rV1 (mi' := mX10_openChecksWith) (As := [_, _, _]) (q := (RX10, TX10, 14)) dX10_openWith_13 lk_RX10_231 mk_X10_openChecksWith mi_X10_openChecksWith me_X10_openChecksWith ⟨by decide, by decide⟩ rfl rfl (Nat.le_of_ble_eq_true rfl) rfl rfl ⟨rfl, rfl⟩ ⟨Nat.zero_le _, Nat.zero_le _⟩ (x_open0 h0 v hv lo hi) (fun r τ hQ => ?_)
  obtain ⟨hr, -⟩ := hQ
  subst hr
  exact pw_iret rfl rfl dX10_openWith_16 (Nat.zero_le _) (Nat.zero_le _) ⟨_, _, rfl, rfl⟩
def spS (e : Nat) : Int32 := if e = 0 then 0 else 1 <<< (nI (e - 1) &&& 31)
theorem xsp_loop {sz : Nat} {w0 : va_W} {fin : OC → Prop} (h0 : σ.1 13 0 = 0) (v : Nat) (hv : v < 8)
    (kk : ∀ τ, fin (.inl (some (.int (spS 31)), wp G adr LX Lf Rt τ))) :
    ∀ (r i : Nat), i + r = 31 → ∀ τ, Fr 98 112 σ τ → PW l G mX10_safePower w0 sz fin 22 [(0, .ref (adr 0)), (1, .int (nI v)), (2, .int 0), (3, .int (spS i)), (4, .int (nI i))] [] 0 0 (wp G adr LX Lf Rt τ) := by
  intro r
  induction r with
  | zero =>
    intro i hi τ hI
    have hi : i = 31 := by omega
    subst hi
    refine pw_iload dX10_safePower_22 rfl ?_
    refine pw_bipush (v := 30) dX10_safePower_24 rfl ?_
    refine pw_icmp_gt 67 dX10_safePower_26 (by decide) (fun c_26 => ?_) (fun c_26 => absurd (show (30 : Int32) < nI 31 by decide) c_26)
    refine pw_iload_n dX10_safePower_67 rfl ?_
    exact pw_iret rfl rfl dX10_safePower_68 (Nat.zero_le _) (Nat.zero_le _) (kk τ)
  | succ r ih =>
    intro i hi τ hI
    have e0 : τ.1 13 0 = 0 := by rw [(hI 13 (by omega)).1]; exact h0
    have hp : (0 : Int32) ≤ 1 <<< (nI i &&& 31) - 1 := (by decide : ∀ i, i < 31 → (0 : Int32) ≤ 1 <<< (nI i &&& 31) - 1) i (by omega)
    refine pw_iload dX10_safePower_22 rfl ?_
    refine pw_bipush (v := 30) dX10_safePower_24 rfl ?_
    refine pw_icmp_gt 67 dX10_safePower_26 (by decide) (fun c_26 => absurd c_26 (by rw [Int32.not_lt]; exact nI_le (a := i) (b := 30) (by omega) (by decide))) (fun c_26 => ?_)
    refine pw_iconst (v := 1) dX10_safePower_29 rfl ?_
    refine pw_iload dX10_safePower_30 rfl ?_
    refine pw_ishl dX10_safePower_32 ?_
    refine pw_istore dX10_safePower_33 (by decide) ?_
    refine pw_iload dX10_safePower_35 rfl ?_
    refine pw_iconst (v := 1) dX10_safePower_37 rfl ?_
    refine pw_isub dX10_safePower_38 ?_
    refine pw_iload_n dX10_safePower_39 rfl ?_
    refine pw_icmp_lt 61 dX10_safePower_40 (by decide) (fun c_40 => absurd hp (Int32.not_le.mpr c_40)) (fun c_40 => ?_)
    refine pw_aload_n dX10_safePower_43 rfl ?_
    refine pw_iload_n dX10_safePower_44 rfl ?_
    refine pw_iload_n dX10_safePower_45 rfl ?_
    refine pw_iload dX10_safePower_46 rfl ?_
    refine pw_iconst (v := 1) dX10_safePower_48 rfl ?_
    refine pw_isub dX10_safePower_49 ?_
    refine lp_rV1 (mi' := mX10_openChecksWith) (As := [_, _, _]) (q := (RX10, TX10, 14)) dX10_safePower_50 lk_RX10_231 mk_X10_openChecksWith mi_X10_openChecksWith me_X10_openChecksWith ⟨by decide, by decide⟩ rfl rfl (Nat.le_of_ble_eq_true rfl) rfl rfl ⟨rfl, rfl⟩ ⟨Nat.zero_le _, Nat.zero_le _⟩ (x_open0 e0 v hv 0 _) (fun r2 τ2 hQ => ?_)
    obtain ⟨hr, hF⟩ := hQ
    subst hr
    refine pw_if_le 58 dX10_safePower_53 (by decide) (fun c_53 => ?_) (fun c_53 => absurd (show (0 : Int32) ≤ 0 by decide) c_53)
    refine pw_iload dX10_safePower_58 rfl ?_
    refine pw_istore_n dX10_safePower_60 (by decide) ?_
    refine pw_iinc dX10_safePower_61 rfl (by decide) ?_
    refine pw_goto (tgt := 22) dX10_safePower_64 (by decide) ?_
    exact pw_lk [(0, .ref (adr 0)), (1, .int (nI v)), (2, .int 0), (3, .int (spS (i + 1))), (4, .int (nI (i + 1)))] ⟨rfl, rfl, rfl, rfl, congrArg (fun x => some (Value.int x)) (nI_1 i), trivial⟩ (ih (i + 1) (by omega) τ2 (hI.tr hF))
theorem x_safePower0 (h0 : σ.1 13 0 = 0) (v : Nat) (hv : v < 8) (hlo : σ.2.2.1 21 v = 0) : SpR1 l G mX10_safePower [.ref (adr 0), .int (nI v)] adr LX Lf Rt σ (fun r _ => r = .int 1073741824) := by
  refine spec_of (by decide) (Nat.le_of_ble_eq_true rfl) (fun sz => ?_)
  have hv1 : (0 : Int32) ≤ nI v ∧ nI v < 8 := ⟨nI_pos' (by omega), nI_lt (b := 8) hv (by decide)⟩
  have hv8 : vp_in (nI v) 8 := vp_in_nI hv (by decide)
  have ev : (nI v).toNatClampNeg = v := nI_clamp (by omega)
  refine pw_iload_n dX10_safePower_0 rfl ?_
  refine lp_cS0 (mi' := mX10_requireVariable0) (As := [_]) dX10_safePower_1 lk_RX10_127 mk_X10_requireVariable ms_X10_requireVariable ⟨by decide, by decide⟩ rfl rfl (Nat.le_of_ble_eq_true rfl) ⟨rfl, rfl⟩ ⟨Nat.zero_le _, Nat.zero_le _⟩ (x_reqV (nI v) hv1 _) ?_
  refine pw_aload_n dX10_safePower_4 rfl ?_
  refine lp_getr 12 dX10_safePower_5 fp_RX10_35.FL rfl rfl rfl ?_
  refine lp_getr 20 dX10_safePower_8 fp_RX10_134.FL rfl rfl rfl ?_
  refine lp_getr 21 dX10_safePower_11 fp_RX10_141.FL rfl rfl rfl ?_
  refine pw_iload_n dX10_safePower_14 rfl ?_
  refine lp_iald dX10_safePower_15 rfl (by assumption) ?_
  refine pw_top 0 (by rw [ev]; exact hlo) ?_
  refine pw_istore_n dX10_safePower_16 (by decide) ?_
  refine pw_iconst (v := 0) dX10_safePower_17 rfl ?_
  refine pw_istore_n dX10_safePower_18 (by decide) ?_
  refine pw_iconst (v := 0) dX10_safePower_19 rfl ?_
  refine pw_istore dX10_safePower_20 (by decide) ?_
  exact pw_lk [(0, .ref (adr 0)), (1, .int (nI v)), (2, .int 0), (3, .int (spS 0)), (4, .int (nI 0))] ⟨rfl, rfl, rfl, rfl, rfl, trivial⟩ (xsp_loop (σ := σ) h0 v hv (fun τ => ⟨_, τ, rfl, congrArg Value.int (by decide)⟩) 31 0 rfl σ Fr.rf)
theorem x_canFail0 (h0 : σ.1 13 0 = 0) (v : Nat) (hv : v < 8) (lo hi : Int32) : SpR1 l G mX10_canFailBetween [.ref (adr 0), .int (nI v), .int lo, .int hi] adr LX Lf Rt σ (fun r τ => r = .int 0 ∧ Fr 98 112 σ τ) := by
  refine spec_of (by decide) (Nat.le_of_ble_eq_true rfl) (fun sz => ?_)
  have hv8 : vp_in (nI v) 8 := vp_in_nI hv (by decide)
  refine pw_aload_n dX10_canFailBetween_0 rfl ?_
  refine lp_getr 98 dX10_canFailBetween_1 fp_RX10_80.FL rfl rfl rfl ?_
  refine lp_getr 99 dX10_canFailBetween_4 fp_RX10_141.FL rfl rfl rfl ?_
  refine pw_iload_n dX10_canFailBetween_7 rfl ?_
  refine pw_iload_n dX10_canFailBetween_8 rfl ?_
  refine lp_iast dX10_canFailBetween_9 rfl (by assumption) ?_
  refine pw_aload_n dX10_canFailBetween_10 rfl ?_
  refine lp_getr 98 dX10_canFailBetween_11 fp_RX10_80.FL rfl rfl rfl ?_
  refine lp_getr 100 dX10_canFailBetween_14 fp_RX10_145.FL rfl rfl rfl ?_
  refine pw_iload_n dX10_canFailBetween_17 rfl ?_
  refine pw_iload_n dX10_canFailBetween_18 rfl ?_
  refine lp_iast dX10_canFailBetween_19 rfl (by assumption) ?_
  refine pw_aload_n dX10_canFailBetween_20 rfl ?_
  refine lp_getr 102 dX10_canFailBetween_21 fp_RX10_84.FL rfl rfl rfl ?_
  refine pw_aload_n dX10_canFailBetween_24 rfl ?_
  refine lp_getr 12 dX10_canFailBetween_25 fp_RX10_35.FL rfl rfl rfl ?_
  refine lp_getr 13 dX10_canFailBetween_28 fp_RX10_117.FL rfl rfl rfl ?_
  refine pw_aload_n dX10_canFailBetween_31 rfl ?_
  refine lp_getr 98 dX10_canFailBetween_32 fp_RX10_80.FL rfl rfl rfl ?_
  refine lp_rV0 (mi' := mX0_go) (As := [_, _]) (q := (RX0, TX0, 13)) dX10_canFailBetween_35 lk_RX10_305 mk_X0_go mi_X0_go me_X0_go ⟨by decide, by decide⟩ rfl rfl (Nat.le_of_ble_eq_true rfl) rfl rfl ⟨rfl, rfl⟩ ⟨Nat.zero_le _, Nat.zero_le _⟩ (x_go0 (b := 102) (a := 98) (p := 13) rfl rfl rfl (by decide) (by decide) h0) (fun ρ hR => ?_)
  refine pw_aload_n dX10_canFailBetween_38 rfl ?_
  refine lp_getr 102 dX10_canFailBetween_39 fp_RX10_84.FL rfl rfl rfl ?_
  refine lp_geti dX10_canFailBetween_42 fp_RX10_322.FL rfl rfl ?_
  refine pw_if_le 52 dX10_canFailBetween_45 (by decide) (fun c_45 => ?_) (fun c_45 => absurd (show ρ.1 102 2 ≤ 0 by rw [hR.1.2.2.2.1]; decide) c_45)
  refine pw_iconst (v := 0) dX10_canFailBetween_52 rfl ?_
  exact pw_iret rfl rfl dX10_canFailBetween_53 (Nat.zero_le _) (Nat.zero_le _) ⟨_, ρ, rfl, rfl, (Fr.A (Fr.A Fr.rf (by decide) (by decide)) (by decide) (by decide)).tr (hR.1.1.mono (by decide) (by decide))⟩
theorem x_failingInput0 (h0 : σ.1 13 0 = 0) (v : Nat) (hv : v < 8) (hva : σ.2.2.1 23 v = 0) (hhi : σ.2.2.1 22 v = 100) : SpR1 l G mX10_failingInput [.ref (adr 0), .int (nI v)] adr LX Lf Rt σ (fun r _ => r = .int (-2147483648)) := by
  refine spec_of (by decide) (Nat.le_of_ble_eq_true rfl) (fun sz => ?_)
  have hv1 : (0 : Int32) ≤ nI v ∧ nI v < 8 := ⟨nI_pos' (by omega), nI_lt (b := 8) hv (by decide)⟩
  have hv8 : vp_in (nI v) 8 := vp_in_nI hv (by decide)
  have ev : (nI v).toNatClampNeg = v := nI_clamp (by omega)
  refine pw_iload_n dX10_failingInput_0 rfl ?_
  refine lp_cS0 (mi' := mX10_requireVariable0) (As := [_]) dX10_failingInput_1 lk_RX10_127 mk_X10_requireVariable ms_X10_requireVariable ⟨by decide, by decide⟩ rfl rfl (Nat.le_of_ble_eq_true rfl) ⟨rfl, rfl⟩ ⟨Nat.zero_le _, Nat.zero_le _⟩ (x_reqV (nI v) hv1 _) ?_
  refine pw_aload_n dX10_failingInput_4 rfl ?_
  refine lp_getr 98 dX10_failingInput_5 fp_RX10_80.FL rfl rfl rfl ?_
  refine pw_aload_n dX10_failingInput_8 rfl ?_
  refine lp_getr 12 dX10_failingInput_9 fp_RX10_35.FL rfl rfl rfl ?_
  refine lp_getr 20 dX10_failingInput_12 fp_RX10_134.FL rfl rfl rfl ?_
  refine lp_rV0 (mi' := mX3_narrowTo) (As := [_]) (q := (RX3, TX3, 3)) dX10_failingInput_15 lk_RX10_234 mk_X3_narrowTo mi_X3_narrowTo me_X3_narrowTo ⟨by decide, by decide⟩ rfl rfl (Nat.le_of_ble_eq_true rfl) rfl rfl ⟨rfl, rfl⟩ ⟨Nat.zero_le _, Nat.zero_le _⟩ (x_narrow (a := 20) (b := 98) rfl rfl (by decide)) (fun τ hQ => ?_)
  refine pw_aload_n dX10_failingInput_18 rfl ?_
  refine lp_getr 12 dX10_failingInput_19 fp_RX10_35.FL rfl rfl rfl ?_
  refine lp_getr 20 dX10_failingInput_22 fp_RX10_134.FL rfl rfl rfl ?_
  refine lp_getr 23 dX10_failingInput_25 fp_RX10_150.FL rfl rfl rfl ?_
  refine pw_iload_n dX10_failingInput_28 rfl ?_
  refine lp_iald dX10_failingInput_29 rfl (by assumption) ?_
  refine pw_top 0 (by rw [ev, (hQ.1 23 (by omega)).2.2.1]; exact hva) ?_
  refine pw_i2l dX10_failingInput_30 ?_
  refine pw_lstore_n dX10_failingInput_31 (by decide) ?_
  refine pw_lload_n dX10_failingInput_32 rfl ?_
  refine pw_ldc2 dX10_failingInput_33 kc_RX10_238 ?_
  refine pw_ladd dX10_failingInput_36 ?_
  refine pw_aload_n dX10_failingInput_37 rfl ?_
  refine lp_getr 12 dX10_failingInput_38 fp_RX10_35.FL rfl rfl rfl ?_
  refine lp_getr 20 dX10_failingInput_41 fp_RX10_134.FL rfl rfl rfl ?_
  refine lp_getr 22 dX10_failingInput_44 fp_RX10_145.FL rfl rfl rfl ?_
  refine pw_iload_n dX10_failingInput_47 rfl ?_
  refine lp_iald dX10_failingInput_48 rfl (by assumption) ?_
  refine pw_top 100 (by rw [ev, (hQ.1 22 (by omega)).2.2.1]; exact hhi) ?_
  refine pw_i2l dX10_failingInput_49 ?_
  refine pw_lmin dX10_failingInput_50 ma_RX10_240 ma_s_min ma_i ma_c_min (by decide) (Nat.le_of_ble_eq_true rfl) (Nat.zero_le _) (Nat.zero_le _) ?_
  refine pw_topl 100 (by decide) ?_
  refine pw_lstore dX10_failingInput_53 (by decide) ?_
  refine pw_sipush (v := 255) dX10_failingInput_55 rfl ?_
  refine pw_istore dX10_failingInput_58 (by decide) ?_
  refine pw_iconst (v := 0) dX10_failingInput_60 rfl ?_
  refine pw_istore dX10_failingInput_61 (by decide) ?_
  refine pw_iload dX10_failingInput_63 rfl ?_
  refine pw_sipush (v := 455) dX10_failingInput_65 rfl ?_
  refine pw_icmp_gt 150 dX10_failingInput_68 (by decide) (fun c_68 => absurd c_68 (by decide)) (fun c_68 => ?_)
  refine pw_lload_n dX10_failingInput_71 rfl ?_
  refine pw_lload dX10_failingInput_72 rfl ?_
  refine pw_lcmp dX10_failingInput_74 ?_
  refine pw_if_gt 150 dX10_failingInput_75 (by decide) (fun c_75 => absurd c_75 (by decide)) (fun c_75 => ?_)
  refine pw_lload_n dX10_failingInput_78 rfl ?_
  refine pw_iload dX10_failingInput_79 rfl ?_
  refine pw_i2l dX10_failingInput_81 ?_
  refine pw_ladd dX10_failingInput_82 ?_
  refine pw_lload dX10_failingInput_83 rfl ?_
  refine pw_lmin dX10_failingInput_85 ma_RX10_240 ma_s_min ma_i ma_c_min (by decide) (Nat.le_of_ble_eq_true rfl) (Nat.zero_le _) (Nat.zero_le _) ?_
  refine pw_topl 100 (by decide) ?_
  refine pw_lstore dX10_failingInput_88 (by decide) ?_
  refine pw_lload_n dX10_failingInput_90 rfl ?_
  refine pw_lload dX10_failingInput_91 rfl ?_
  refine pw_lcmp dX10_failingInput_93 ?_
  refine pw_if_ne 117 dX10_failingInput_94 (by decide) (fun c_94 => ?_) (fun c_94 => absurd c_94 (by decide))
  refine pw_aload_n dX10_failingInput_117 rfl ?_
  refine pw_iload_n dX10_failingInput_118 rfl ?_
  refine pw_lload_n dX10_failingInput_119 rfl ?_
  refine pw_l2i dX10_failingInput_120 ?_
  refine pw_lload dX10_failingInput_121 rfl ?_
  refine pw_l2i dX10_failingInput_123 ?_
  refine lp_rV1 (mi' := mX10_canFailBetween) (As := [_, _, _]) (q := (RX10, TX10, 14)) dX10_failingInput_124 lk_RX10_250 mk_X10_canFailBetween mi_X10_canFailBetween me_X10_canFailBetween ⟨by decide, by decide⟩ rfl rfl (Nat.le_of_ble_eq_true rfl) rfl rfl ⟨rfl, rfl⟩ ⟨Nat.zero_le _, Nat.zero_le _⟩ (x_canFail0 (show τ.1 13 0 = 0 by rw [(hQ.1 13 (by omega)).1]; exact h0) v hv _ _) (fun r2 ρ hR => ?_)
  obtain ⟨hr, -⟩ := hR
  subst hr
  refine pw_if_eq 139 dX10_failingInput_127 (by decide) (fun c_127 => ?_) (fun c_127 => absurd rfl c_127)
  refine pw_lload dX10_failingInput_139 rfl ?_
  refine pw_lconst (v := 1) dX10_failingInput_141 rfl ?_
  refine pw_ladd dX10_failingInput_142 ?_
  refine pw_lstore_n dX10_failingInput_143 (by decide) ?_
  refine pw_iinc dX10_failingInput_144 rfl (by decide) ?_
  refine pw_goto (tgt := 63) dX10_failingInput_147 (by decide) ?_
  refine pw_iload dX10_failingInput_63 rfl ?_
  refine pw_sipush (v := 455) dX10_failingInput_65 rfl ?_
  refine pw_icmp_gt 150 dX10_failingInput_68 (by decide) (fun c_68 => absurd c_68 (by decide)) (fun c_68 => ?_)
  refine pw_lload_n dX10_failingInput_71 rfl ?_
  refine pw_lload dX10_failingInput_72 rfl ?_
  refine pw_lcmp dX10_failingInput_74 ?_
  refine pw_if_gt 150 dX10_failingInput_75 (by decide) (fun c_75 => ?_) (fun c_75 => absurd (by decide) c_75)
  refine pw_ldcw dX10_failingInput_150 kc_RX10_256 ?_
  exact pw_iret rfl rfl dX10_failingInput_153 (Nat.zero_le _) (Nat.zero_le _) ⟨_, _, rfl, rfl⟩
end XF
