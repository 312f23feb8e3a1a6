section XC
variable {l : Launch} {G : cxG} {adr : Nat → Nat} {Lf Rt : va_W} {σ : St}
/-- what saving for undo leaves as it was: text, parser's things, present situation -/
theorem x_saveForUndo {m s n : Nat} (hm : m < 4) (h2 : σ.1 24 0 = nI m) (hs : σ.2.2.2.2 25 m = s) (hk : LX.1[s]? = some (.inl 8)) (hs2 : 24 ≤ s) (hn : n ≤ 30) (h0 : σ.1 13 0 = nI n) : SpR0 l G mX10_saveForUndo [.ref (adr 0)] adr LX Lf Rt σ (fun σ' => (∃ τ, Fr 24 74 σ τ ∧ σ' = sI (sI τ 0 9 0) 0 10 0) ∧ σ'.1 24 0 = nI (m + 1) ∧ σ'.2.2.2.2 25 = σ.2.2.2.2 25 ∧ Fr s (s + 12) σ (sI (sI (sI σ' 24 0 (nI m)) 0 9 (σ.1 0 9)) 0 10 (σ.1 0 10)) ∧ PEq σ 13 σ' (s + 1) n ∧ IEq σ 20 σ' (s + 8)) := by
  refine spec_of (by decide) (Nat.le_of_ble_eq_true rfl) (fun sz => ?_)
  have hlt : s + 12 ≤ 74 ∧ s ≠ 24 ∧ s ≠ 25 := (by decide +kernel : ∀ s, s < 117 → cellsX[s]? = some (.inl 8) → 24 ≤ s → s + 12 ≤ 74 ∧ s ≠ 24 ∧ s ≠ 25) s (LX_lt hk) hk hs2
  refine pw_aload_n dX10_saveForUndo_0 rfl ?_
  refine lp_getr 24 dX10_saveForUndo_1 fp_RX10_42.FL rfl rfl rfl ?_
  refine pw_aload_n dX10_saveForUndo_4 rfl ?_
  refine lp_getr 12 dX10_saveForUndo_5 fp_RX10_35.FL rfl rfl rfl ?_
  refine lp_rV0 (mi' := mX2_save) (As := [_]) (q := (RX2, TX2, 2)) dX10_saveForUndo_8 lk_RX10_302 mk_X2_save mi_X2_save me_X2_save ⟨by decide, by decide⟩ rfl rfl (Nat.le_of_ble_eq_true rfl) rfl rfl ⟨rfl, rfl⟩ ⟨Nat.zero_le _, Nat.zero_le _⟩ (x_save hm h2 hs hk hs2 hn h0) (fun τ hQ => ?_)
  refine pw_aload_n dX10_saveForUndo_11 rfl ?_
  refine lp_cV0 (mi' := mX10_forgetAnswers) (As := []) (q := (RX10, TX10, 14)) dX10_saveForUndo_12 lk_RX10_266 mk_X10_forgetAnswers mi_X10_forgetAnswers me_X10_forgetAnswers ⟨by decide, by decide⟩ rfl rfl (Nat.le_of_ble_eq_true rfl) rfl rfl ⟨rfl, rfl⟩ ⟨Nat.zero_le _, Nat.zero_le _⟩ x_forget ?_
  exact pw_vret rfl dX10_saveForUndo_15 (Nat.zero_le _) (Nat.zero_le _) (by
    obtain ⟨q1, q2, q3, q4, q5, q6⟩ := hQ
    refine ⟨_, rfl, ⟨τ, q1, rfl⟩, q2, q3, ?_, ?_, q6⟩
    · have e : sI (sI (sI (sI (sI τ 0 9 0) 0 10 0) 24 0 (nI m)) 0 9 (σ.1 0 9)) 0 10 (σ.1 0 10) = sI τ 24 0 (nI m) := by
        have e9 : τ.1 0 9 = σ.1 0 9 := congrFun (q1 0 (by omega)).1 9
        have e10 : τ.1 0 10 = σ.1 0 10 := congrFun (q1 0 (by omega)).1 10
        unfold sI
        congr 1
        funext x y
        by_cases hx : x = 0 ∧ y = 10
        · simp [hx, e10]
        · by_cases hy : x = 0 ∧ y = 9
          · simp [hy, e9]
          · simp [hx, hy]
      rw [e]; exact q4
    · exact ⟨(gI' (by omega)).trans ((gI' (by omega)).trans q5.1), q5.2⟩)
theorem x_setRange {m s n : Nat} (hm : m < 4) (h2 : σ.1 24 0 = nI m) (hs : σ.2.2.2.2 25 m = s) (hk : LX.1[s]? = some (.inl 8)) (hs2 : 24 ≤ s) (hn : n ≤ 30) (h0 : σ.1 13 0 = nI n) (v : Nat) (hv : v < 8) (lo hi : Int32) (hlh : lo ≤ hi) : SpR1 l G mX10_setRange [.ref (adr 0), .int (nI v), .int lo, .int hi] adr LX Lf Rt σ (fun r _ => r = .int (limV σ 20 v lo hi)) := by
  refine spec_of (by decide) (Nat.le_of_ble_eq_true rfl) (fun sz => ?_)
  have hv1 : (0 : Int32) ≤ nI v ∧ nI v < 8 := ⟨nI_pos' (by omega), nI_lt (b := 8) hv (by decide)⟩
  refine pw_iload_n dX10_setRange_0 rfl ?_
  refine lp_cS0 (mi' := mX10_requireVariable0) (As := [_]) dX10_setRange_1 lk_RX10_127 mk_X10_requireVariable ms_X10_requireVariable ⟨by decide, by decide⟩ rfl rfl (Nat.le_of_ble_eq_true rfl) ⟨rfl, rfl⟩ ⟨Nat.zero_le _, Nat.zero_le _⟩ (x_reqV (nI v) hv1 _) ?_
  refine pw_iload_n dX10_setRange_4 rfl ?_
  refine pw_iload_n dX10_setRange_5 rfl ?_
  refine lp_cS0 (mi' := mX10_requireOrder0) (As := [_, _]) dX10_setRange_6 lk_RX10_130 mk_X10_requireOrder ms_X10_requireOrder ⟨by decide, by decide⟩ rfl rfl (Nat.le_of_ble_eq_true rfl) ⟨rfl, rfl⟩ ⟨Nat.zero_le _, Nat.zero_le _⟩ (x_reqO lo hi hlh _) ?_
  refine pw_aload_n dX10_setRange_9 rfl ?_
  refine lp_rV0 (mi' := mX10_saveForUndo) (As := []) (q := (RX10, TX10, 14)) dX10_setRange_10 lk_RX10_114 mk_X10_saveForUndo mi_X10_saveForUndo me_X10_saveForUndo ⟨by decide, by decide⟩ rfl rfl (Nat.le_of_ble_eq_true rfl) rfl rfl ⟨rfl, rfl⟩ ⟨Nat.zero_le _, Nat.zero_le _⟩ (x_saveForUndo hm h2 hs hk hs2 hn h0) (fun ρ hR => ?_)
  refine pw_aload_n dX10_setRange_13 rfl ?_
  refine lp_getr 12 dX10_setRange_14 fp_RX10_35.FL rfl rfl rfl ?_
  refine lp_getr 20 dX10_setRange_17 fp_RX10_134.FL rfl rfl rfl ?_
  refine pw_iload_n dX10_setRange_20 rfl ?_
  refine pw_iload_n dX10_setRange_21 rfl ?_
  refine pw_iload_n dX10_setRange_22 rfl ?_
  refine lp_rV1 (mi' := mX3_limit) (As := [_, _, _]) (q := (RX3, TX3, 3)) dX10_setRange_23 lk_RX10_137 mk_X3_limit mi_X3_limit me_X3_limit ⟨by decide, by decide⟩ rfl rfl (Nat.le_of_ble_eq_true rfl) rfl rfl ⟨rfl, rfl⟩ ⟨Nat.zero_le _, Nat.zero_le _⟩ (x_limit (b := 20) rfl v hv lo hi) (fun r ρ2 hL => ?_)
  obtain ⟨hL1, hL2⟩ := hL
  obtain ⟨⟨τ, hF, hρ⟩, -⟩ := hR
  subst hL1
  exact pw_iret rfl rfl dX10_setRange_26 (Nat.zero_le _) (Nat.zero_le _) ⟨_, _, rfl, by
    have e : ρ.2.2.1 23 = σ.2.2.1 23 := by rw [hρ]; exact (hF 23 (by omega)).2.2.1
    unfold limV
    rw [show (20 + 3 : Nat) = 23 from rfl, e]⟩
theorem x_setRange_t1 (hl : l.stackTraces = false) (v lo hi : Int32) (h : ¬ (0 ≤ v ∧ v < 8)) : SpecT l G mX10_setRange [.ref (adr 0), .int v, .int lo, .int hi] (wp G adr LX Lf Rt σ) sIOB (wp G adr LX Lf Rt σ) := by
  refine spec_of (by decide) (Nat.le_of_ble_eq_true rfl) (fun sz => ?_)
  refine pw_iload_n dX10_setRange_0 rfl ?_
  exact lp_tS (mi' := mX10_requireVariable) (As := [_]) dX10_setRange_1 lk_RX10_127 mk_X10_requireVariable ms_X10_requireVariable ⟨by decide, by decide⟩ rfl rfl (Nat.le_of_ble_eq_true rfl) ⟨Nat.le_of_ble_eq_true rfl, Nat.le_of_ble_eq_true rfl⟩ (x_reqV_t hl v h _) rfl
theorem x_setRange_t2 (hl : l.stackTraces = false) (v lo hi : Int32) (h : 0 ≤ v ∧ v < 8) (hlh : ¬ lo ≤ hi) : SpecT l G mX10_setRange [.ref (adr 0), .int v, .int lo, .int hi] (wp G adr LX Lf Rt σ) sIAE (wp G adr LX Lf Rt σ) := by
  refine spec_of (by decide) (Nat.le_of_ble_eq_true rfl) (fun sz => ?_)
  refine pw_iload_n dX10_setRange_0 rfl ?_
  refine lp_cS0 (mi' := mX10_requireVariable0) (As := [_]) dX10_setRange_1 lk_RX10_127 mk_X10_requireVariable ms_X10_requireVariable ⟨by decide, by decide⟩ rfl rfl (Nat.le_of_ble_eq_true rfl) ⟨rfl, rfl⟩ ⟨Nat.zero_le _, Nat.zero_le _⟩ (x_reqV v h _) ?_
  refine pw_iload_n dX10_setRange_4 rfl ?_
  refine pw_iload_n dX10_setRange_5 rfl ?_
  exact lp_tS (mi' := mX10_requireOrder) (As := [_, _]) dX10_setRange_6 lk_RX10_130 mk_X10_requireOrder ms_X10_requireOrder ⟨by decide, by decide⟩ rfl rfl (Nat.le_of_ble_eq_true rfl) ⟨Nat.le_of_ble_eq_true rfl, Nat.le_of_ble_eq_true rfl⟩ (x_reqO_t hl lo hi hlh _) rfl
theorem x_setInput {m s n : Nat} (hm : m < 4) (h2 : σ.1 24 0 = nI m) (hs : σ.2.2.2.2 25 m = s) (hk : LX.1[s]? = some (.inl 8)) (hs2 : 24 ≤ s) (hn : n ≤ 30) (h0 : σ.1 13 0 = nI n) (v : Nat) (hv : v < 8) (x : Int32) (hx : σ.2.2.1 21 v ≤ x ∧ x ≤ σ.2.2.1 22 v) : SpR1 l G mX10_setInput [.ref (adr 0), .int (nI v), .int x] adr LX Lf Rt σ (fun r _ => r = .int (σ.2.2.1 23 v)) := by
  refine spec_of (by decide) (Nat.le_of_ble_eq_true rfl) (fun sz => ?_)
  have hv1 : (0 : Int32) ≤ nI v ∧ nI v < 8 := ⟨nI_pos' (by omega), nI_lt (b := 8) hv (by decide)⟩
  have hv8 : vp_in (nI v) 8 := vp_in_nI hv (by decide)
  have ev : (nI v).toNatClampNeg = v := nI_clamp (by omega)
  rw [← ev] at hx
  refine pw_iload_n dX10_setInput_0 rfl ?_
  refine lp_cS0 (mi' := mX10_requireVariable0) (As := [_]) dX10_setInput_1 lk_RX10_127 mk_X10_requireVariable ms_X10_requireVariable ⟨by decide, by decide⟩ rfl rfl (Nat.le_of_ble_eq_true rfl) ⟨rfl, rfl⟩ ⟨Nat.zero_le _, Nat.zero_le _⟩ (x_reqV (nI v) hv1 _) ?_
  refine pw_aload_n dX10_setInput_4 rfl ?_
  refine lp_getr 12 dX10_setInput_5 fp_RX10_35.FL rfl rfl rfl ?_
  refine lp_getr 20 dX10_setInput_8 fp_RX10_134.FL rfl rfl rfl ?_
  refine pw_astore_n dX10_setInput_11 (by decide) ?_
  refine pw_iload_n dX10_setInput_12 rfl ?_
  refine pw_aload_n dX10_setInput_13 rfl ?_
  refine lp_getr 21 dX10_setInput_14 fp_RX10_141.FL rfl rfl rfl ?_
  refine pw_iload_n dX10_setInput_17 rfl ?_
  refine lp_iald dX10_setInput_18 rfl (by assumption) ?_
  refine pw_icmp_lt 32 dX10_setInput_19 (by decide) (fun c_19 => absurd hx.1 (Int32.not_le.mpr c_19)) (fun c_19 => ?_)
  refine pw_iload_n dX10_setInput_22 rfl ?_
  refine pw_aload_n dX10_setInput_23 rfl ?_
  refine lp_getr 22 dX10_setInput_24 fp_RX10_145.FL rfl rfl rfl ?_
  refine pw_iload_n dX10_setInput_27 rfl ?_
  refine lp_iald dX10_setInput_28 rfl (by assumption) ?_
  refine pw_icmp_le 42 dX10_setInput_29 (by decide) (fun c_29 => ?_) (fun c_29 => absurd hx.2 c_29)
  refine pw_aload_n dX10_setInput_42 rfl ?_
  refine lp_rV0 (mi' := mX10_saveForUndo) (As := []) (q := (RX10, TX10, 14)) dX10_setInput_43 lk_RX10_114 mk_X10_saveForUndo mi_X10_saveForUndo me_X10_saveForUndo ⟨by decide, by decide⟩ rfl rfl (Nat.le_of_ble_eq_true rfl) rfl rfl ⟨rfl, rfl⟩ ⟨Nat.zero_le _, Nat.zero_le _⟩ (x_saveForUndo hm h2 hs hk hs2 hn h0) (fun ρ hR => ?_)
  refine pw_aload_n dX10_setInput_46 rfl ?_
  refine lp_getr 23 dX10_setInput_47 fp_RX10_150.FL rfl rfl rfl ?_
  refine pw_iload_n dX10_setInput_50 rfl ?_
  refine lp_iald dX10_setInput_51 rfl (by assumption) ?_
  refine pw_istore dX10_setInput_52 (by decide) ?_
  refine pw_aload_n dX10_setInput_54 rfl ?_
  refine lp_getr 23 dX10_setInput_55 fp_RX10_150.FL rfl rfl rfl ?_
  refine pw_iload_n dX10_setInput_58 rfl ?_
  refine pw_iload_n dX10_setInput_59 rfl ?_
  refine lp_iast dX10_setInput_60 rfl (by assumption) ?_
  refine pw_iload dX10_setInput_61 rfl ?_
  obtain ⟨⟨τ, hF, hρ⟩, -⟩ := hR
  exact pw_iret rfl rfl dX10_setInput_63 (Nat.zero_le _) (Nat.zero_le _) ⟨_, _, rfl, by
    have e : ρ.2.2.1 23 = σ.2.2.1 23 := by rw [hρ]; exact (hF 23 (by omega)).2.2.1
    rw [e, ev]⟩
theorem x_setInput_t1 (hl : l.stackTraces = false) (v x : Int32) (h : ¬ (0 ≤ v ∧ v < 8)) : SpecT l G mX10_setInput [.ref (adr 0), .int v, .int x] (wp G adr LX Lf Rt σ) sIOB (wp G adr LX Lf Rt σ) := by
  refine spec_of (by decide) (Nat.le_of_ble_eq_true rfl) (fun sz => ?_)
  refine pw_iload_n dX10_setInput_0 rfl ?_
  exact lp_tS (mi' := mX10_requireVariable) (As := [_]) dX10_setInput_1 lk_RX10_127 mk_X10_requireVariable ms_X10_requireVariable ⟨by decide, by decide⟩ rfl rfl (Nat.le_of_ble_eq_true rfl) ⟨Nat.le_of_ble_eq_true rfl, Nat.le_of_ble_eq_true rfl⟩ (x_reqV_t hl v h _) rfl
theorem x_setInput_t2 (hl : l.stackTraces = false) (v : Nat) (hv : v < 8) (x : Int32) (hx : ¬ (σ.2.2.1 21 v ≤ x ∧ x ≤ σ.2.2.1 22 v)) : SpecT l G mX10_setInput [.ref (adr 0), .int (nI v), .int x] (wp G adr LX Lf Rt σ) sIAE (wp G adr LX Lf Rt σ) := by
  refine spec_of (by decide) (Nat.le_of_ble_eq_true rfl) (fun sz => ?_)
  have hv1 : (0 : Int32) ≤ nI v ∧ nI v < 8 := ⟨nI_pos' (by omega), nI_lt (b := 8) hv (by decide)⟩
  have hv8 : vp_in (nI v) 8 := vp_in_nI hv (by decide)
  have ev : (nI v).toNatClampNeg = v := nI_clamp (by omega)
  rw [← ev] at hx
  refine pw_iload_n dX10_setInput_0 rfl ?_
  refine lp_cS0 (mi' := mX10_requireVariable0) (As := [_]) dX10_setInput_1 lk_RX10_127 mk_X10_requireVariable ms_X10_requireVariable ⟨by decide, by decide⟩ rfl rfl (Nat.le_of_ble_eq_true rfl) ⟨rfl, rfl⟩ ⟨Nat.zero_le _, Nat.zero_le _⟩ (x_reqV (nI v) hv1 _) ?_
  refine pw_aload_n dX10_setInput_4 rfl ?_
  refine lp_getr 12 dX10_setInput_5 fp_RX10_35.FL rfl rfl rfl ?_
  refine lp_getr 20 dX10_setInput_8 fp_RX10_134.FL rfl rfl rfl ?_
  refine pw_astore_n dX10_setInput_11 (by decide) ?_
  refine pw_iload_n dX10_setInput_12 rfl ?_
  refine pw_aload_n dX10_setInput_13 rfl ?_
  refine lp_getr 21 dX10_setInput_14 fp_RX10_141.FL rfl rfl rfl ?_
  refine pw_iload_n dX10_setInput_17 rfl ?_
  refine lp_iald dX10_setInput_18 rfl (by assumption) ?_
  refine pw_icmp_lt 32 dX10_setInput_19 (by decide) (fun c_19 => ?_) (fun c_19 => ?_)
  · exact tx_RX10_IAE_148 hl dX10_setInput_32 dX10_setInput_35 dX10_setInput_36 dX10_setInput_38 dX10_setInput_41 (by decide) (Nat.le_of_ble_eq_true rfl) (Nat.le_of_ble_eq_true rfl) (Nat.le_of_ble_eq_true rfl) rfl
  · refine pw_iload_n dX10_setInput_22 rfl ?_
    refine pw_aload_n dX10_setInput_23 rfl ?_
    refine lp_getr 22 dX10_setInput_24 fp_RX10_145.FL rfl rfl rfl ?_
    refine pw_iload_n dX10_setInput_27 rfl ?_
    refine lp_iald dX10_setInput_28 rfl (by assumption) ?_
    refine pw_icmp_le 42 dX10_setInput_29 (by decide) (fun c_29 => absurd ⟨Int32.not_lt.mp c_19, c_29⟩ hx) (fun c_29 => ?_)
    exact tx_RX10_IAE_148 hl dX10_setInput_32 dX10_setInput_35 dX10_setInput_36 dX10_setInput_38 dX10_setInput_41 (by decide) (Nat.le_of_ble_eq_true rfl) (Nat.le_of_ble_eq_true rfl) (Nat.le_of_ble_eq_true rfl) rfl
theorem x_input (v w : Nat) (hv : v < 8) (hw : w < 3) : SpecD l G mX10_input [.ref (adr 0), .int (nI v), .int (nI w)] (wp G adr LX Lf Rt σ) (some (.int (σ.2.2.1 (21 + w) v))) (wp G adr LX Lf Rt σ) := by
  refine spec_of (by decide) (Nat.le_of_ble_eq_true rfl) (fun sz => ?_)
  have hv1 : (0 : Int32) ≤ nI v ∧ nI v < 8 := ⟨nI_pos' (by omega), nI_lt (b := 8) hv (by decide)⟩
  have hv8 : vp_in (nI v) 8 := vp_in_nI hv (by decide)
  have ev : (nI v).toNatClampNeg = v := nI_clamp (by omega)
  rw [← ev]
  rcases (show w = 0 ∨ w = 1 ∨ w = 2 by omega) with rfl | rfl | rfl
  · rw [ev]
    refine pw_iload_n dX10_input_0 rfl ?_
    refine lp_cS0 (mi' := mX10_requireVariable0) (As := [_]) dX10_input_1 lk_RX10_127 mk_X10_requireVariable ms_X10_requireVariable ⟨by decide, by decide⟩ rfl rfl (Nat.le_of_ble_eq_true rfl) ⟨rfl, rfl⟩ ⟨Nat.zero_le _, Nat.zero_le _⟩ (x_reqV (nI v) hv1 _) ?_
    refine pw_iload_n dX10_input_4 rfl ?_
    refine pw_tableIn (off := 27) 32 dX10_input_5 (by decide) (by decide) (by decide) (by decide) ?_
    refine pw_aload_n dX10_input_32 rfl ?_
    refine lp_getr 12 dX10_input_33 fp_RX10_35.FL rfl rfl rfl ?_
    refine lp_getr 20 dX10_input_36 fp_RX10_134.FL rfl rfl rfl ?_
    refine lp_getr 21 dX10_input_39 fp_RX10_141.FL rfl rfl rfl ?_
    refine pw_iload_n dX10_input_42 rfl ?_
    refine lp_iald dX10_input_43 rfl (by assumption) ?_
    exact pw_iret rfl rfl dX10_input_44 (Nat.zero_le _) (Nat.zero_le _) (by rw [ev])
  · rw [ev]
    refine pw_iload_n dX10_input_0 rfl ?_
    refine lp_cS0 (mi' := mX10_requireVariable0) (As := [_]) dX10_input_1 lk_RX10_127 mk_X10_requireVariable ms_X10_requireVariable ⟨by decide, by decide⟩ rfl rfl (Nat.le_of_ble_eq_true rfl) ⟨rfl, rfl⟩ ⟨Nat.zero_le _, Nat.zero_le _⟩ (x_reqV (nI v) hv1 _) ?_
    refine pw_iload_n dX10_input_4 rfl ?_
    refine pw_tableIn (off := 40) 45 dX10_input_5 (by decide) (by decide) (by decide) (by decide) ?_
    refine pw_aload_n dX10_input_45 rfl ?_
    refine lp_getr 12 dX10_input_46 fp_RX10_35.FL rfl rfl rfl ?_
    refine lp_getr 20 dX10_input_49 fp_RX10_134.FL rfl rfl rfl ?_
    refine lp_getr 22 dX10_input_52 fp_RX10_145.FL rfl rfl rfl ?_
    refine pw_iload_n dX10_input_55 rfl ?_
    refine lp_iald dX10_input_56 rfl (by assumption) ?_
    exact pw_iret rfl rfl dX10_input_57 (Nat.zero_le _) (Nat.zero_le _) (by rw [ev])
  · rw [ev]
    refine pw_iload_n dX10_input_0 rfl ?_
    refine lp_cS0 (mi' := mX10_requireVariable0) (As := [_]) dX10_input_1 lk_RX10_127 mk_X10_requireVariable ms_X10_requireVariable ⟨by decide, by decide⟩ rfl rfl (Nat.le_of_ble_eq_true rfl) ⟨rfl, rfl⟩ ⟨Nat.zero_le _, Nat.zero_le _⟩ (x_reqV (nI v) hv1 _) ?_
    refine pw_iload_n dX10_input_4 rfl ?_
    refine pw_tableIn (off := 53) 58 dX10_input_5 (by decide) (by decide) (by decide) (by decide) ?_
    refine pw_aload_n dX10_input_58 rfl ?_
    refine lp_getr 12 dX10_input_59 fp_RX10_35.FL rfl rfl rfl ?_
    refine lp_getr 20 dX10_input_62 fp_RX10_134.FL rfl rfl rfl ?_
    refine lp_getr 23 dX10_input_65 fp_RX10_150.FL rfl rfl rfl ?_
    refine pw_iload_n dX10_input_68 rfl ?_
    refine lp_iald dX10_input_69 rfl (by assumption) ?_
    exact pw_iret rfl rfl dX10_input_70 (Nat.zero_le _) (Nat.zero_le _) (by rw [ev])
theorem x_input_t1 (hl : l.stackTraces = false) (v w : Int32) (h : ¬ (0 ≤ v ∧ v < 8)) : SpecT l G mX10_input [.ref (adr 0), .int v, .int w] (wp G adr LX Lf Rt σ) sIOB (wp G adr LX Lf Rt σ) := by
  refine spec_of (by decide) (Nat.le_of_ble_eq_true rfl) (fun sz => ?_)
  refine pw_iload_n dX10_input_0 rfl ?_
  exact lp_tS (mi' := mX10_requireVariable) (As := [_]) dX10_input_1 lk_RX10_127 mk_X10_requireVariable ms_X10_requireVariable ⟨by decide, by decide⟩ rfl rfl (Nat.le_of_ble_eq_true rfl) ⟨Nat.le_of_ble_eq_true rfl, Nat.le_of_ble_eq_true rfl⟩ (x_reqV_t hl v h _) rfl
theorem x_input_t2 (hl : l.stackTraces = false) (v w : Int32) (h : 0 ≤ v ∧ v < 8) (hw : w.toInt < 0 ∨ 2 < w.toInt) : SpecT l G mX10_input [.ref (adr 0), .int v, .int w] (wp G adr LX Lf Rt σ) sIAE (wp G adr LX Lf Rt σ) := by
  refine spec_of (by decide) (Nat.le_of_ble_eq_true rfl) (fun sz => ?_)
  refine pw_iload_n dX10_input_0 rfl ?_
  refine lp_cS0 (mi' := mX10_requireVariable0) (As := [_]) dX10_input_1 lk_RX10_127 mk_X10_requireVariable ms_X10_requireVariable ⟨by decide, by decide⟩ rfl rfl (Nat.le_of_ble_eq_true rfl) ⟨rfl, rfl⟩ ⟨Nat.zero_le _, Nat.zero_le _⟩ (x_reqV v h _) ?_
  refine pw_iload_n dX10_input_4 rfl ?_
  refine pw_tableOut 71 dX10_input_5 hw (by decide) ?_
  exact tx_RX10_IAE_153 hl dX10_input_71 dX10_input_74 dX10_input_75 dX10_input_77 dX10_input_80 (by decide) (Nat.le_of_ble_eq_true rfl) (Nat.le_of_ble_eq_true rfl) (Nat.le_of_ble_eq_true rfl) rfl
theorem x_remove_t1 (hl : l.stackTraces = false) (i : Int32) (h : ¬ (0 ≤ i ∧ i < σ.1 13 0)) : SpecT l G mX10_remove [.ref (adr 0), .int i] (wp G adr LX Lf Rt σ) sIOB (wp G adr LX Lf Rt σ) := by
  refine spec_of (by decide) (Nat.le_of_ble_eq_true rfl) (fun sz => ?_)
  refine pw_aload_n dX10_remove_0 rfl ?_
  refine pw_iload_n dX10_remove_1 rfl ?_
  exact lp_tV (mi' := mX10_requireInstruction) (As := [_]) (q := (RX10, TX10, 14)) dX10_remove_2 lk_RX10_155 mk_X10_requireInstruction mi_X10_requireInstruction me_X10_requireInstruction ⟨by decide, by decide⟩ rfl rfl (Nat.le_of_ble_eq_true rfl) rfl rfl ⟨Nat.le_of_ble_eq_true rfl, Nat.le_of_ble_eq_true rfl⟩ (x_reqI_t hl i h) rfl
theorem x_instruction_t1 (hl : l.stackTraces = false) (i w : Int32) (h : ¬ (0 ≤ i ∧ i < σ.1 13 0)) : SpecT l G mX10_instruction [.ref (adr 0), .int i, .int w] (wp G adr LX Lf Rt σ) sIOB (wp G adr LX Lf Rt σ) := by
  refine spec_of (by decide) (Nat.le_of_ble_eq_true rfl) (fun sz => ?_)
  refine pw_aload_n dX10_instruction_0 rfl ?_
  refine pw_iload_n dX10_instruction_1 rfl ?_
  exact lp_tV (mi' := mX10_requireInstruction) (As := [_]) (q := (RX10, TX10, 14)) dX10_instruction_2 lk_RX10_155 mk_X10_requireInstruction mi_X10_requireInstruction me_X10_requireInstruction ⟨by decide, by decide⟩ rfl rfl (Nat.le_of_ble_eq_true rfl) rfl rfl ⟨Nat.le_of_ble_eq_true rfl, Nat.le_of_ble_eq_true rfl⟩ (x_reqI_t hl i h) rfl
theorem x_operand_t1 (hl : l.stackTraces = false) (i w : Int32) (h : ¬ (0 ≤ i ∧ i < σ.1 13 0)) : SpecT l G mX10_operand [.ref (adr 0), .int i, .int w] (wp G adr LX Lf Rt σ) sIOB (wp G adr LX Lf Rt σ) := by
  refine spec_of (by decide) (Nat.le_of_ble_eq_true rfl) (fun sz => ?_)
  refine pw_aload_n dX10_operand_0 rfl ?_
  refine pw_iload_n dX10_operand_1 rfl ?_
  exact lp_tV (mi' := mX10_requireInstruction) (As := [_]) (q := (RX10, TX10, 14)) dX10_operand_2 lk_RX10_155 mk_X10_requireInstruction mi_X10_requireInstruction me_X10_requireInstruction ⟨by decide, by decide⟩ rfl rfl (Nat.le_of_ble_eq_true rfl) rfl rfl ⟨Nat.le_of_ble_eq_true rfl, Nat.le_of_ble_eq_true rfl⟩ (x_reqI_t hl i h) rfl
theorem x_state_t1 (hl : l.stackTraces = false) (i : Int32) (h : ¬ (0 ≤ i ∧ i < σ.1 13 0)) : SpecT l G mX10_state [.ref (adr 0), .int i] (wp G adr LX Lf Rt σ) sIOB (wp G adr LX Lf Rt σ) := by
  refine spec_of (by decide) (Nat.le_of_ble_eq_true rfl) (fun sz => ?_)
  refine pw_aload_n dX10_state_0 rfl ?_
  refine pw_iload_n dX10_state_1 rfl ?_
  exact lp_tV (mi' := mX10_requireInstruction) (As := [_]) (q := (RX10, TX10, 14)) dX10_state_2 lk_RX10_155 mk_X10_requireInstruction mi_X10_requireInstruction me_X10_requireInstruction ⟨by decide, by decide⟩ rfl rfl (Nat.le_of_ble_eq_true rfl) rfl rfl ⟨Nat.le_of_ble_eq_true rfl, Nat.le_of_ble_eq_true rfl⟩ (x_reqI_t hl i h) rfl
theorem x_coveredBy_t1 (hl : l.stackTraces = false) (i : Int32) (h : ¬ (0 ≤ i ∧ i < σ.1 13 0)) : SpecT l G mX10_coveredBy [.ref (adr 0), .int i] (wp G adr LX Lf Rt σ) sIOB (wp G adr LX Lf Rt σ) := by
  refine spec_of (by decide) (Nat.le_of_ble_eq_true rfl) (fun sz => ?_)
  refine pw_aload_n dX10_coveredBy_0 rfl ?_
  refine pw_iload_n dX10_coveredBy_1 rfl ?_
  exact lp_tV (mi' := mX10_requireInstruction) (As := [_]) (q := (RX10, TX10, 14)) dX10_coveredBy_2 lk_RX10_155 mk_X10_requireInstruction mi_X10_requireInstruction me_X10_requireInstruction ⟨by decide, by decide⟩ rfl rfl (Nat.le_of_ble_eq_true rfl) rfl rfl ⟨Nat.le_of_ble_eq_true rfl, Nat.le_of_ble_eq_true rfl⟩ (x_reqI_t hl i h) rfl
theorem x_range_t1 (hl : l.stackTraces = false) (i w : Int32) (h : ¬ (0 ≤ i ∧ i < σ.1 13 0)) : SpecT l G mX10_range [.ref (adr 0), .int i, .int w] (wp G adr LX Lf Rt σ) sIOB (wp G adr LX Lf Rt σ) := by
  refine spec_of (by decide) (Nat.le_of_ble_eq_true rfl) (fun sz => ?_)
  refine pw_aload_n dX10_range_0 rfl ?_
  refine pw_iload_n dX10_range_1 rfl ?_
  exact lp_tV (mi' := mX10_requireInstruction) (As := [_]) (q := (RX10, TX10, 14)) dX10_range_2 lk_RX10_155 mk_X10_requireInstruction mi_X10_requireInstruction me_X10_requireInstruction ⟨by decide, by decide⟩ rfl rfl (Nat.le_of_ble_eq_true rfl) rfl rfl ⟨Nat.le_of_ble_eq_true rfl, Nat.le_of_ble_eq_true rfl⟩ (x_reqI_t hl i h) rfl
theorem x_states_t1 (hl : l.stackTraces = false) (a : Int32) (h : ¬ (0 ≤ a ∧ a ≤ 4)) : SpecT l G mX10_states [.ref (adr 0), .int a] (wp G adr LX Lf Rt σ) sIAE (wp G adr LX Lf Rt σ) := by
  refine spec_of (by decide) (Nat.le_of_ble_eq_true rfl) (fun sz => ?_)
  refine pw_iload_n dX10_states_0 rfl ?_
  refine pw_if_lt 9 dX10_states_1 (by decide) (fun c_1 => ?_) (fun c_1 => ?_)
  · exact tx_RX10_IAE_190 hl dX10_states_9 dX10_states_12 dX10_states_13 dX10_states_15 dX10_states_18 (by decide) (Nat.le_of_ble_eq_true rfl) (Nat.le_of_ble_eq_true rfl) (Nat.le_of_ble_eq_true rfl) rfl
  · refine pw_iload_n dX10_states_4 rfl ?_
    refine pw_iconst (v := 4) dX10_states_5 rfl ?_
    refine pw_icmp_le 19 dX10_states_6 (by decide) (fun c_6 => absurd ⟨Int32.not_lt.mp c_1, c_6⟩ h) (fun c_6 => ?_)
    exact tx_RX10_IAE_190 hl dX10_states_9 dX10_states_12 dX10_states_13 dX10_states_15 dX10_states_18 (by decide) (Nat.le_of_ble_eq_true rfl) (Nat.le_of_ble_eq_true rfl) (Nat.le_of_ble_eq_true rfl) rfl
theorem x_finalRange_t1 (hl : l.stackTraces = false) (v w : Int32) (h : ¬ (0 ≤ v ∧ v < 8)) : SpecT l G mX10_finalRange [.ref (adr 0), .int v, .int w] (wp G adr LX Lf Rt σ) sIOB (wp G adr LX Lf Rt σ) := by
  refine spec_of (by decide) (Nat.le_of_ble_eq_true rfl) (fun sz => ?_)
  refine pw_iload_n dX10_finalRange_0 rfl ?_
  exact lp_tS (mi' := mX10_requireVariable) (As := [_]) dX10_finalRange_1 lk_RX10_127 mk_X10_requireVariable ms_X10_requireVariable ⟨by decide, by decide⟩ rfl rfl (Nat.le_of_ble_eq_true rfl) ⟨Nat.le_of_ble_eq_true rfl, Nat.le_of_ble_eq_true rfl⟩ (x_reqV_t hl v h _) rfl
theorem x_result_t1 (hl : l.stackTraces = false) (v w : Int32) (h : ¬ (0 ≤ v ∧ v < 8)) : SpecT l G mX10_result [.ref (adr 0), .int v, .int w] (wp G adr LX Lf Rt σ) sIOB (wp G adr LX Lf Rt σ) := by
  refine spec_of (by decide) (Nat.le_of_ble_eq_true rfl) (fun sz => ?_)
  refine pw_iload_n dX10_result_0 rfl ?_
  exact lp_tS (mi' := mX10_requireVariable) (As := [_]) dX10_result_1 lk_RX10_127 mk_X10_requireVariable ms_X10_requireVariable ⟨by decide, by decide⟩ rfl rfl (Nat.le_of_ble_eq_true rfl) ⟨Nat.le_of_ble_eq_true rfl, Nat.le_of_ble_eq_true rfl⟩ (x_reqV_t hl v h _) rfl
theorem x_openWith_t1 (hl : l.stackTraces = false) (v lo hi : Int32) (h : ¬ (0 ≤ v ∧ v < 8)) : SpecT l G mX10_openWith [.ref (adr 0), .int v, .int lo, .int hi] (wp G adr LX Lf Rt σ) sIOB (wp G adr LX Lf Rt σ) := by
  refine spec_of (by decide) (Nat.le_of_ble_eq_true rfl) (fun sz => ?_)
  refine pw_iload_n dX10_openWith_0 rfl ?_
  exact lp_tS (mi' := mX10_requireVariable) (As := [_]) dX10_openWith_1 lk_RX10_127 mk_X10_requireVariable ms_X10_requireVariable ⟨by decide, by decide⟩ rfl rfl (Nat.le_of_ble_eq_true rfl) ⟨Nat.le_of_ble_eq_true rfl, Nat.le_of_ble_eq_true rfl⟩ (x_reqV_t hl v h _) rfl
theorem x_openWith_t2 (hl : l.stackTraces = false) (v lo hi : Int32) (h : 0 ≤ v ∧ v < 8) (hlh : ¬ lo ≤ hi) : SpecT l G mX10_openWith [.ref (adr 0), .int v, .int lo, .int hi] (wp G adr LX Lf Rt σ) sIAE (wp G adr LX Lf Rt σ) := by
  refine spec_of (by decide) (Nat.le_of_ble_eq_true rfl) (fun sz => ?_)
  refine pw_iload_n dX10_openWith_0 rfl ?_
  refine lp_cS0 (mi' := mX10_requireVariable0) (As := [_]) dX10_openWith_1 lk_RX10_127 mk_X10_requireVariable ms_X10_requireVariable ⟨by decide, by decide⟩ rfl rfl (Nat.le_of_ble_eq_true rfl) ⟨rfl, rfl⟩ ⟨Nat.zero_le _, Nat.zero_le _⟩ (x_reqV v h _) ?_
  refine pw_iload_n dX10_openWith_4 rfl ?_
  refine pw_iload_n dX10_openWith_5 rfl ?_
  exact lp_tS (mi' := mX10_requireOrder) (As := [_, _]) dX10_openWith_6 lk_RX10_130 mk_X10_requireOrder ms_X10_requireOrder ⟨by decide, by decide⟩ rfl rfl (Nat.le_of_ble_eq_true rfl) ⟨Nat.le_of_ble_eq_true rfl, Nat.le_of_ble_eq_true rfl⟩ (x_reqO_t hl lo hi hlh _) rfl
theorem x_safePower_t1 (hl : l.stackTraces = false) (v : Int32) (h : ¬ (0 ≤ v ∧ v < 8)) : SpecT l G mX10_safePower [.ref (adr 0), .int v] (wp G adr LX Lf Rt σ) sIOB (wp G adr LX Lf Rt σ) := by
  refine spec_of (by decide) (Nat.le_of_ble_eq_true rfl) (fun sz => ?_)
  refine pw_iload_n dX10_safePower_0 rfl ?_
  exact lp_tS (mi' := mX10_requireVariable) (As := [_]) dX10_safePower_1 lk_RX10_127 mk_X10_requireVariable ms_X10_requireVariable ⟨by decide, by decide⟩ rfl rfl (Nat.le_of_ble_eq_true rfl) ⟨Nat.le_of_ble_eq_true rfl, Nat.le_of_ble_eq_true rfl⟩ (x_reqV_t hl v h _) rfl
theorem x_failingInput_t1 (hl : l.stackTraces = false) (v : Int32) (h : ¬ (0 ≤ v ∧ v < 8)) : SpecT l G mX10_failingInput [.ref (adr 0), .int v] (wp G adr LX Lf Rt σ) sIOB (wp G adr LX Lf Rt σ) := by
  refine spec_of (by decide) (Nat.le_of_ble_eq_true rfl) (fun sz => ?_)
  refine pw_iload_n dX10_failingInput_0 rfl ?_
  exact lp_tS (mi' := mX10_requireVariable) (As := [_]) dX10_failingInput_1 lk_RX10_127 mk_X10_requireVariable ms_X10_requireVariable ⟨by decide, by decide⟩ rfl rfl (Nat.le_of_ble_eq_true rfl) ⟨Nat.le_of_ble_eq_true rfl, Nat.le_of_ble_eq_true rfl⟩ (x_reqV_t hl v h _) rfl
theorem x_undo_t1 (hl : l.stackTraces = false) (h : σ.1 24 0 = 0) : SpecT l G mX10_undo [.ref (adr 0)] (wp G adr LX Lf Rt σ) sISE (wp G adr LX Lf Rt σ) := by
  refine spec_of (by decide) (Nat.le_of_ble_eq_true rfl) (fun sz => ?_)
  refine pw_aload_n dX10_undo_0 rfl ?_
  refine lp_getr 24 dX10_undo_1 fp_RX10_42.FL rfl rfl rfl ?_
  refine lp_geti dX10_undo_4 fp_RX10_257.FL rfl rfl ?_
  refine pw_if_ne 21 dX10_undo_7 (by decide) (fun c_7 => absurd h c_7) (fun c_7 => ?_)
  exact tx_RX10_ISE_260 hl dX10_undo_10 dX10_undo_13 dX10_undo_14 dX10_undo_17 dX10_undo_20 (by decide) (Nat.le_of_ble_eq_true rfl) (Nat.le_of_ble_eq_true rfl) (Nat.le_of_ble_eq_true rfl) rfl
end XC
