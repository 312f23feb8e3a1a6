section XSV
variable {l : Launch} {G : cxG} {adr : Nat → Nat} {Lf Rt : va_W} {σ : St} {al : Nat → Int32} {N : Nat}
theorem x_saving (hP : PI σ al N) (hA : FrA σ al N) (hR : FrR σ al N) : SpR1 l G mX10_saving [.ref (adr 0)] adr LX Lf Rt σ (fun v τ => (∃ x : UInt64, v = .double x) ∧ AfA σ τ al N) := by
  refine spec_of (by decide) (Nat.le_of_ble_eq_true rfl) (fun sz => ?_)
  refine pw_aload_n dX10_saving_0 rfl ?_
  refine lp_rV0 (mi' := mX10_freshenRuns) (As := []) (q := (RX10, TX10, 14)) dX10_saving_1 lk_RX10_212 mk_X10_freshenRuns mi_X10_freshenRuns me_X10_freshenRuns ⟨by decide, by decide⟩ rfl rfl (Nat.le_of_ble_eq_true rfl) rfl rfl ⟨rfl, rfl⟩ ⟨Nat.zero_le _, Nat.zero_le _⟩ (x_freshR' hP hA hR) (fun τ hQ => ?_)
  refine pw_aload_n dX10_saving_4 rfl ?_
  refine lp_getr 88 dX10_saving_5 fp_RX10_63.FL rfl rfl rfl ?_
  refine lp_geti dX10_saving_8 fp_RX10_225.FL rfl rfl ?_
  refine pw_if_ne 16 dX10_saving_11 (by decide) (fun c_11 => ?_) (fun c_11 => ?_)
  · refine pw_dconst1 dX10_saving_16 ?_
    refine pw_aload_n dX10_saving_17 rfl ?_
    refine lp_getr 93 dX10_saving_18 fp_RX10_67.FL rfl rfl rfl ?_
    refine lp_geti dX10_saving_21 fp_RX10_225.FL rfl rfl ?_
    refine pw_i2d dX10_saving_24 ?_
    refine pw_aload_n dX10_saving_25 rfl ?_
    refine lp_getr 88 dX10_saving_26 fp_RX10_63.FL rfl rfl rfl ?_
    refine lp_geti dX10_saving_29 fp_RX10_225.FL rfl rfl ?_
    refine pw_i2d dX10_saving_32 ?_
    refine pw_ddiv dX10_saving_33 (n64_of (sav_div _ _ c_11)) ?_
    refine pw_dsub dX10_saving_34 (n64_of (sav_sub _ _ c_11)) ?_
    exact pw_dret rfl dX10_saving_35 (Nat.zero_le _) (Nat.zero_le _) ⟨_, _, rfl, ⟨_, rfl⟩, hQ.1⟩
  · refine pw_dconst0 dX10_saving_14 ?_
    exact pw_dret rfl dX10_saving_15 (Nat.zero_le _) (Nat.zero_le _) ⟨_, _, rfl, ⟨_, rfl⟩, hQ.1⟩
end XSV
