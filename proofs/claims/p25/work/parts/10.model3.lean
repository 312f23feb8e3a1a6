theorem nIr {v N : Nat} (h : v ≤ N) (hN : N < 2 ^ 31) : (0 : Int32) ≤ nI v ∧ nI v ≤ nI N := ⟨nI_pos' (by omega), nI_le h hN⟩
theorem nI121 {v w : Nat} (h : 121 + 3 * v + w < 145) : vp_in (121 + 3 * nI v + nI w) 145 ∧ (121 + 3 * nI v + nI w).toNatClampNeg = 121 + 3 * v + w := by
  have e : (121 : Int32) + 3 * nI v + nI w = nI (121 + 3 * v + w) := by
    rw [show (3 : Int32) = nI 3 from rfl, show (121 : Int32) = nI 121 from rfl, pk_mul, nI_add, nI_add]
  rw [e]
  exact ⟨vp_in_nI h (by decide), nI_clamp (by omega)⟩
theorem nI121' {v : Nat} (h : 121 + 3 * v < 145) : vp_in (121 + 3 * nI v) 145 ∧ (121 + 3 * nI v).toNatClampNeg = 121 + 3 * v := by
  have e : (121 : Int32) + 3 * nI v = nI (121 + 3 * v) := by
    rw [show (3 : Int32) = nI 3 from rfl, show (121 : Int32) = nI 121 from rfl, pk_mul, nI_add]
  rw [e]
  exact ⟨vp_in_nI h (by decide), nI_clamp (by omega)⟩
section M3
variable {l : Launch} {G : cxG} {adr : Nat → Nat} {Lf Rt : va_W} {σ : St}
theorem r_append_ok (v : Int32) (tl : Nat) (hv : 0 ≤ v ∧ v ≤ 127) (ht : tl < 200) (h : σ.1 0 5 = nI tl) : SpecD l G mX11_append [.ref (adr 0), .int v] (wp G adr LM Lf Rt σ) (some (.int (nI (tl + 1)))) (wp G adr LM Lf Rt (sI (sA (sI σ 0 3 0) 3 (upd (σ.2.2.1 3) tl v)) 0 5 (nI (tl + 1)))) := by
  refine spec_of (by decide) (Nat.le_of_ble_eq_true rfl) (fun sz => ?_)
  have e1 : σ.1 0 5 + 1 = nI (tl + 1) := by rw [h]; exact nI_1 tl
  have e2 : (σ.1 0 5).toNatClampNeg = tl := by rw [h]; exact nI_clamp (by omega)
  refine pw_aload_n dX11_append_0 rfl ?_
  refine pw_iload_n dX11_append_1 rfl ?_
  refine pw_i2l dX11_append_2 ?_
  refine pw_lconst (v := 0) dX11_append_3 rfl ?_
  refine pw_ldc2 dX11_append_4 kc_RX11_96 ?_
  refine lp_cS1 (mi' := mX11_in) (As := [_, _, _]) dX11_append_7 lk_RX11_90 mk_X11_in ms_X11_in ⟨by decide, by decide⟩ rfl rfl (Nat.le_of_ble_eq_true rfl) ⟨rfl, rfl⟩ ⟨Nat.zero_le _, Nat.zero_le _⟩ (r_in32 v 0 127 _) ?_
  rw [decide_eq_true hv]
  refine pw_aload_n dX11_append_10 rfl ?_
  refine lp_geti dX11_append_11 fp_RX11_98.FL rfl rfl ?_
  refine pw_sipush (v := 200) dX11_append_14 rfl ?_
  refine pw_icmp_ge 24 dX11_append_17 (by decide) (fun c_17 => absurd c_17 (by rw [h]; exact nI_ge (a := tl) (b := 200) ht (by decide))) (fun c_17 => ?_)
  refine pw_iconst (v := 1) dX11_append_20 rfl ?_
  refine pw_goto (tgt := 25) dX11_append_21 (by decide) ?_
  refine lp_cV1 (mi' := mX11_goes) (As := [_, _]) (q := (RX11, TX11, 33)) dX11_append_25 lk_RX11_101 mk_X11_goes mi_X11_goes me_X11_goes ⟨by decide, by decide⟩ rfl rfl (Nat.le_of_ble_eq_true rfl) rfl rfl ⟨rfl, rfl⟩ ⟨Nat.zero_le _, Nat.zero_le _⟩ (r_goes true true) ?_
  refine pw_if_ne 33 dX11_append_28 (by decide) (fun c_28 => ?_) (fun c_28 => absurd (show (1 : Int32) = 0 from c_28) (by decide))
  refine pw_aload_n dX11_append_33 rfl ?_
  refine lp_getr 3 dX11_append_34 fp_RX11_16.FL rfl rfl rfl ?_
  refine pw_aload_n dX11_append_37 rfl ?_
  refine lp_geti dX11_append_38 fp_RX11_98.FL rfl rfl ?_
  refine pw_iload_n dX11_append_41 rfl ?_
  refine lp_iast dX11_append_42 rfl (by show vp_in (σ.1 0 5) 200; rw [h]; exact vp_in_nI ht (by decide)) ?_
  refine pw_aload_n dX11_append_43 rfl ?_
  refine pw_dup dX11_append_44 rfl ?_
  refine lp_geti dX11_append_45 fp_RX11_98.FL rfl rfl ?_
  refine pw_iconst (v := 1) dX11_append_48 rfl ?_
  refine pw_iadd dX11_append_49 ?_
  refine lp_puti dX11_append_50 fp_RX11_98 rfl rfl rfl rfl ?_
  refine pw_st (σ' := sI (sA (sI σ 0 3 0) 3 (upd (σ.2.2.1 3) tl v)) 0 5 (nI (tl + 1))) ?_ ?_
  · show sI (sA (sI σ 0 3 0) 3 (upd (σ.2.2.1 3) (σ.1 0 5).toNatClampNeg v)) 0 5 (σ.1 0 5 + 1) = _
    rw [e1, e2]
  refine pw_aload_n dX11_append_53 rfl ?_
  refine lp_geti dX11_append_54 fp_RX11_98.FL rfl rfl ?_
  exact pw_iret rfl rfl dX11_append_57 (Nat.zero_le _) (Nat.zero_le _) rfl
theorem r_append_no1 (v : Int32) (hv : ¬ (0 ≤ v ∧ v ≤ 127)) : SpecD l G mX11_append [.ref (adr 0), .int v] (wp G adr LM Lf Rt σ) (some (.int 0)) (wp G adr LM Lf Rt (sI σ 0 3 1)) := by
  refine spec_of (by decide) (Nat.le_of_ble_eq_true rfl) (fun sz => ?_)
  refine pw_aload_n dX11_append_0 rfl ?_
  refine pw_iload_n dX11_append_1 rfl ?_
  refine pw_i2l dX11_append_2 ?_
  refine pw_lconst (v := 0) dX11_append_3 rfl ?_
  refine pw_ldc2 dX11_append_4 kc_RX11_96 ?_
  refine lp_cS1 (mi' := mX11_in) (As := [_, _, _]) dX11_append_7 lk_RX11_90 mk_X11_in ms_X11_in ⟨by decide, by decide⟩ rfl rfl (Nat.le_of_ble_eq_true rfl) ⟨rfl, rfl⟩ ⟨Nat.zero_le _, Nat.zero_le _⟩ (r_in32 v 0 127 _) ?_
  rw [decide_eq_false hv]
  refine pw_aload_n dX11_append_10 rfl ?_
  refine lp_geti dX11_append_11 fp_RX11_98.FL rfl rfl ?_
  refine pw_sipush (v := 200) dX11_append_14 rfl ?_
  refine pw_icmp_ge 24 dX11_append_17 (by decide) (fun c_17 => ?_) (fun c_17 => ?_)
  · refine pw_iconst (v := 0) dX11_append_24 rfl ?_
    refine lp_cV1 (mi' := mX11_goes) (As := [_, _]) (q := (RX11, TX11, 33)) dX11_append_25 lk_RX11_101 mk_X11_goes mi_X11_goes me_X11_goes ⟨by decide, by decide⟩ rfl rfl (Nat.le_of_ble_eq_true rfl) rfl rfl ⟨rfl, rfl⟩ ⟨Nat.zero_le _, Nat.zero_le _⟩ (by first | exact r_goes false true | exact r_goes false false) ?_
    refine pw_if_ne 33 dX11_append_28 (by decide) (fun c_28 => absurd rfl c_28) (fun c_28 => ?_)
    refine pw_iconst (v := 0) dX11_append_31 rfl ?_
    exact pw_iret rfl rfl dX11_append_32 (Nat.zero_le _) (Nat.zero_le _) rfl
  · refine pw_iconst (v := 1) dX11_append_20 rfl ?_
    refine pw_goto (tgt := 25) dX11_append_21 (by decide) ?_
    refine lp_cV1 (mi' := mX11_goes) (As := [_, _]) (q := (RX11, TX11, 33)) dX11_append_25 lk_RX11_101 mk_X11_goes mi_X11_goes me_X11_goes ⟨by decide, by decide⟩ rfl rfl (Nat.le_of_ble_eq_true rfl) rfl rfl ⟨rfl, rfl⟩ ⟨Nat.zero_le _, Nat.zero_le _⟩ (by first | exact r_goes false true | exact r_goes false false) ?_
    refine pw_if_ne 33 dX11_append_28 (by decide) (fun c_28 => absurd rfl c_28) (fun c_28 => ?_)
    refine pw_iconst (v := 0) dX11_append_31 rfl ?_
    exact pw_iret rfl rfl dX11_append_32 (Nat.zero_le _) (Nat.zero_le _) rfl
theorem r_append_no2 (v : Int32) (hv : 0 ≤ v ∧ v ≤ 127) (h : ¬ σ.1 0 5 < 200) : SpecD l G mX11_append [.ref (adr 0), .int v] (wp G adr LM Lf Rt σ) (some (.int 0)) (wp G adr LM Lf Rt (sI σ 0 3 2)) := by
  refine spec_of (by decide) (Nat.le_of_ble_eq_true rfl) (fun sz => ?_)
  refine pw_aload_n dX11_append_0 rfl ?_
  refine pw_iload_n dX11_append_1 rfl ?_
  refine pw_i2l dX11_append_2 ?_
  refine pw_lconst (v := 0) dX11_append_3 rfl ?_
  refine pw_ldc2 dX11_append_4 kc_RX11_96 ?_
  refine lp_cS1 (mi' := mX11_in) (As := [_, _, _]) dX11_append_7 lk_RX11_90 mk_X11_in ms_X11_in ⟨by decide, by decide⟩ rfl rfl (Nat.le_of_ble_eq_true rfl) ⟨rfl, rfl⟩ ⟨Nat.zero_le _, Nat.zero_le _⟩ (r_in32 v 0 127 _) ?_
  rw [decide_eq_true hv]
  refine pw_aload_n dX11_append_10 rfl ?_
  refine lp_geti dX11_append_11 fp_RX11_98.FL rfl rfl ?_
  refine pw_sipush (v := 200) dX11_append_14 rfl ?_
  refine pw_icmp_ge 24 dX11_append_17 (by decide) (fun c_17 => ?_) (fun c_17 => absurd (Int32.not_lt.mp h) c_17)
  refine pw_iconst (v := 0) dX11_append_24 rfl ?_
  refine lp_cV1 (mi' := mX11_goes) (As := [_, _]) (q := (RX11, TX11, 33)) dX11_append_25 lk_RX11_101 mk_X11_goes mi_X11_goes me_X11_goes ⟨by decide, by decide⟩ rfl rfl (Nat.le_of_ble_eq_true rfl) rfl rfl ⟨rfl, rfl⟩ ⟨Nat.zero_le _, Nat.zero_le _⟩ (r_goes true false) ?_
  refine pw_if_ne 33 dX11_append_28 (by decide) (fun c_28 => absurd rfl c_28) (fun c_28 => ?_)
  refine pw_iconst (v := 0) dX11_append_31 rfl ?_
  exact pw_iret rfl rfl dX11_append_32 (Nat.zero_le _) (Nat.zero_le _) rfl
theorem r_input_ok (v w : Nat) (hv : v < 8) (hw : w < 3) : SpecD l G mX11_input [.ref (adr 0), .int (nI v), .int (nI w)] (wp G adr LM Lf Rt σ) (some (.int (σ.2.2.1 1 (121 + 3 * v + w)))) (wp G adr LM Lf Rt (sI σ 0 3 0)) := by
  refine spec_of (by decide) (Nat.le_of_ble_eq_true rfl) (fun sz => ?_)
  have hb := nI121 (v := v) (w := w) (by omega)
  rw [← hb.2]
  refine pw_aload_n dX11_input_0 rfl ?_
  refine pw_iload_n dX11_input_1 rfl ?_
  refine lp_cS1 (mi' := mX11_isName) (As := [_]) dX11_input_2 lk_RX11_154 mk_X11_isName ms_X11_isName ⟨by decide, by decide⟩ rfl rfl (Nat.le_of_ble_eq_true rfl) ⟨rfl, rfl⟩ ⟨Nat.zero_le _, Nat.zero_le _⟩ (r_isName (nI v) _) ?_
  rw [decide_eq_true (show (0 : Int32) ≤ nI v ∧ nI v ≤ 7 from nIr (show v ≤ 7 by omega) (by decide))]
  refine pw_iload_n dX11_input_5 rfl ?_
  refine pw_i2l dX11_input_6 ?_
  refine pw_lconst (v := 0) dX11_input_7 rfl ?_
  refine pw_ldc2 dX11_input_8 kc_RX11_158 ?_
  refine lp_cS1 (mi' := mX11_in) (As := [_, _, _]) dX11_input_11 lk_RX11_90 mk_X11_in ms_X11_in ⟨by decide, by decide⟩ rfl rfl (Nat.le_of_ble_eq_true rfl) ⟨rfl, rfl⟩ ⟨Nat.zero_le _, Nat.zero_le _⟩ (r_in32 (nI w) 0 2 _) ?_
  rw [decide_eq_true (show (0 : Int32) ≤ nI w ∧ nI w ≤ 2 from nIr (show w ≤ 2 by omega) (by decide))]
  refine lp_cV1 (mi' := mX11_goes) (As := [_, _]) (q := (RX11, TX11, 33)) dX11_input_14 lk_RX11_101 mk_X11_goes mi_X11_goes me_X11_goes ⟨by decide, by decide⟩ rfl rfl (Nat.le_of_ble_eq_true rfl) rfl rfl ⟨rfl, rfl⟩ ⟨Nat.zero_le _, Nat.zero_le _⟩ (r_goes true true) ?_
  refine pw_if_eq 36 dX11_input_17 (by decide) (fun c_17 => absurd (show (1 : Int32) = 0 from c_17) (by decide)) (fun c_17 => ?_)
  refine pw_aload_n dX11_input_20 rfl ?_
  refine lp_getr 1 dX11_input_21 fp_RX11_7.FL rfl rfl rfl ?_
  refine pw_bipush (v := 121) dX11_input_24 rfl ?_
  refine pw_iconst (v := 3) dX11_input_26 rfl ?_
  refine pw_iload_n dX11_input_27 rfl ?_
  refine pw_imul dX11_input_28 ?_
  refine pw_iadd dX11_input_29 ?_
  refine pw_iload_n dX11_input_30 rfl ?_
  refine pw_iadd dX11_input_31 ?_
  refine lp_iald dX11_input_32 rfl hb.1 ?_
  refine pw_goto (tgt := 37) dX11_input_33 (by decide) ?_
  exact pw_iret rfl rfl dX11_input_37 (Nat.zero_le _) (Nat.zero_le _) rfl
theorem r_input_no (v w : Int32) (h : ¬ ((0 ≤ v ∧ v ≤ 7) ∧ (0 ≤ w ∧ w ≤ 2))) : SpecD l G mX11_input [.ref (adr 0), .int v, .int w] (wp G adr LM Lf Rt σ) (some (.int 0)) (wp G adr LM Lf Rt (mGoes σ (decide (0 ≤ v ∧ v ≤ 7)) (decide (0 ≤ w ∧ w ≤ 2)))) := by
  refine spec_of (by decide) (Nat.le_of_ble_eq_true rfl) (fun sz => ?_)
  have hc : bI (decide (0 ≤ v ∧ v ≤ 7) && decide (0 ≤ w ∧ w ≤ 2)) = 0 := bI_f (by rw [← Bool.decide_and]; exact decide_eq_false h)
  refine pw_aload_n dX11_input_0 rfl ?_
  refine pw_iload_n dX11_input_1 rfl ?_
  refine lp_cS1 (mi' := mX11_isName) (As := [_]) dX11_input_2 lk_RX11_154 mk_X11_isName ms_X11_isName ⟨by decide, by decide⟩ rfl rfl (Nat.le_of_ble_eq_true rfl) ⟨rfl, rfl⟩ ⟨Nat.zero_le _, Nat.zero_le _⟩ (r_isName v _) ?_
  refine pw_iload_n dX11_input_5 rfl ?_
  refine pw_i2l dX11_input_6 ?_
  refine pw_lconst (v := 0) dX11_input_7 rfl ?_
  refine pw_ldc2 dX11_input_8 kc_RX11_158 ?_
  refine lp_cS1 (mi' := mX11_in) (As := [_, _, _]) dX11_input_11 lk_RX11_90 mk_X11_in ms_X11_in ⟨by decide, by decide⟩ rfl rfl (Nat.le_of_ble_eq_true rfl) ⟨rfl, rfl⟩ ⟨Nat.zero_le _, Nat.zero_le _⟩ (r_in32 w 0 2 _) ?_
  refine lp_cV1 (mi' := mX11_goes) (As := [_, _]) (q := (RX11, TX11, 33)) dX11_input_14 lk_RX11_101 mk_X11_goes mi_X11_goes me_X11_goes ⟨by decide, by decide⟩ rfl rfl (Nat.le_of_ble_eq_true rfl) rfl rfl ⟨rfl, rfl⟩ ⟨Nat.zero_le _, Nat.zero_le _⟩ (r_goes _ _) ?_
  refine pw_if_eq 36 dX11_input_17 (by decide) (fun c_17 => ?_) (fun c_17 => absurd hc c_17)
  refine pw_iconst (v := 0) dX11_input_36 rfl ?_
  exact pw_iret rfl rfl dX11_input_37 (Nat.zero_le _) (Nat.zero_le _) rfl
theorem r_operand_ok (i N : Nat) (z : Bool) (hN : σ.2.2.1 1 0 = nI N) (hi : i < N) (h30 : N ≤ 30) : SpecD l G mX11_operand [.ref (adr 0), .int (nI i), .int (bI z)] (wp G adr LM Lf Rt σ) (some (.int (σ.2.2.1 1 (1 + 4 * i + (if z = true then 3 else 2))))) (wp G adr LM Lf Rt (sI σ 0 3 0)) := by
  refine spec_of (by decide) (Nat.le_of_ble_eq_true rfl) (fun sz => ?_)
  have h1 : (0 : Int32) ≤ nI i ∧ nI i ≤ σ.2.2.1 1 0 - 1 := by
    rw [hN, show nI N - 1 = nI (N - 1) by have := nI_pred (N - 1); rw [show N - 1 + 1 = N by omega] at this; exact this]
    exact nIr (by omega) (by omega)
  cases z
  · refine pw_aload_n dX11_operand_0 rfl ?_
    refine pw_aload_n dX11_operand_1 rfl ?_
    refine pw_iload_n dX11_operand_2 rfl ?_
    refine lp_cV1 (mi' := mX11_isOne) (As := [_]) (q := (RX11, TX11, 33)) dX11_operand_3 lk_RX11_160 mk_X11_isOne mi_X11_isOne me_X11_isOne ⟨by decide, by decide⟩ rfl rfl (Nat.le_of_ble_eq_true rfl) rfl rfl ⟨rfl, rfl⟩ ⟨Nat.zero_le _, Nat.zero_le _⟩ (r_isOne (nI i)) ?_
    rw [decide_eq_true h1]
    refine pw_iconst (v := 1) dX11_operand_6 rfl ?_
    refine lp_cV1 (mi' := mX11_goes) (As := [_, _]) (q := (RX11, TX11, 33)) dX11_operand_7 lk_RX11_101 mk_X11_goes mi_X11_goes me_X11_goes ⟨by decide, by decide⟩ rfl rfl (Nat.le_of_ble_eq_true rfl) rfl rfl ⟨rfl, rfl⟩ ⟨Nat.zero_le _, Nat.zero_le _⟩ (r_goes true true) ?_
    refine pw_if_eq 30 dX11_operand_10 (by decide) (fun c_10 => absurd (show (1 : Int32) = 0 from c_10) (by decide)) (fun c_10 => ?_)
    refine pw_aload_n dX11_operand_13 rfl ?_
    refine pw_iload_n dX11_operand_14 rfl ?_
    refine pw_iload_n dX11_operand_15 rfl ?_
    refine pw_if_eq 23 dX11_operand_16 (by decide) (fun c_16 => ?_) (fun c_16 => absurd rfl c_16)
    refine pw_iconst (v := 2) dX11_operand_23 rfl ?_
    refine lp_cV1 (mi' := mX11_of) (As := [_, _]) (q := (RX11, TX11, 33)) dX11_operand_24 lk_RX11_82 mk_X11_of mi_X11_of me_X11_of ⟨by decide, by decide⟩ rfl rfl (Nat.le_of_ble_eq_true rfl) rfl rfl ⟨rfl, rfl⟩ ⟨Nat.zero_le _, Nat.zero_le _⟩ (r_of (σ := sI σ 0 3 0) i 2 (by omega)) ?_
    refine pw_goto (tgt := 31) dX11_operand_27 (by decide) ?_
    exact pw_iret rfl rfl dX11_operand_31 (Nat.zero_le _) (Nat.zero_le _) rfl
  · refine pw_aload_n dX11_operand_0 rfl ?_
    refine pw_aload_n dX11_operand_1 rfl ?_
    refine pw_iload_n dX11_operand_2 rfl ?_
    refine lp_cV1 (mi' := mX11_isOne) (As := [_]) (q := (RX11, TX11, 33)) dX11_operand_3 lk_RX11_160 mk_X11_isOne mi_X11_isOne me_X11_isOne ⟨by decide, by decide⟩ rfl rfl (Nat.le_of_ble_eq_true rfl) rfl rfl ⟨rfl, rfl⟩ ⟨Nat.zero_le _, Nat.zero_le _⟩ (r_isOne (nI i)) ?_
    rw [decide_eq_true h1]
    refine pw_iconst (v := 1) dX11_operand_6 rfl ?_
    refine lp_cV1 (mi' := mX11_goes) (As := [_, _]) (q := (RX11, TX11, 33)) dX11_operand_7 lk_RX11_101 mk_X11_goes mi_X11_goes me_X11_goes ⟨by decide, by decide⟩ rfl rfl (Nat.le_of_ble_eq_true rfl) rfl rfl ⟨rfl, rfl⟩ ⟨Nat.zero_le _, Nat.zero_le _⟩ (r_goes true true) ?_
    refine pw_if_eq 30 dX11_operand_10 (by decide) (fun c_10 => absurd (show (1 : Int32) = 0 from c_10) (by decide)) (fun c_10 => ?_)
    refine pw_aload_n dX11_operand_13 rfl ?_
    refine pw_iload_n dX11_operand_14 rfl ?_
    refine pw_iload_n dX11_operand_15 rfl ?_
    refine pw_if_eq 23 dX11_operand_16 (by decide) (fun c_16 => absurd (show (1 : Int32) = 0 from c_16) (by decide)) (fun c_16 => ?_)
    refine pw_iconst (v := 3) dX11_operand_19 rfl ?_
    refine pw_goto (tgt := 24) dX11_operand_20 (by decide) ?_
    refine lp_cV1 (mi' := mX11_of) (As := [_, _]) (q := (RX11, TX11, 33)) dX11_operand_24 lk_RX11_82 mk_X11_of mi_X11_of me_X11_of ⟨by decide, by decide⟩ rfl rfl (Nat.le_of_ble_eq_true rfl) rfl rfl ⟨rfl, rfl⟩ ⟨Nat.zero_le _, Nat.zero_le _⟩ (r_of (σ := sI σ 0 3 0) i 3 (by omega)) ?_
    refine pw_goto (tgt := 31) dX11_operand_27 (by decide) ?_
    exact pw_iret rfl rfl dX11_operand_31 (Nat.zero_le _) (Nat.zero_le _) rfl
theorem r_operand_no (i : Int32) (z : Bool) (h : ¬ ((0 : Int32) ≤ i ∧ i ≤ σ.2.2.1 1 0 - 1)) : SpecD l G mX11_operand [.ref (adr 0), .int i, .int (bI z)] (wp G adr LM Lf Rt σ) (some (.int 0)) (wp G adr LM Lf Rt (sI σ 0 3 1)) := by
  refine spec_of (by decide) (Nat.le_of_ble_eq_true rfl) (fun sz => ?_)
  refine pw_aload_n dX11_operand_0 rfl ?_
  refine pw_aload_n dX11_operand_1 rfl ?_
  refine pw_iload_n dX11_operand_2 rfl ?_
  refine lp_cV1 (mi' := mX11_isOne) (As := [_]) (q := (RX11, TX11, 33)) dX11_operand_3 lk_RX11_160 mk_X11_isOne mi_X11_isOne me_X11_isOne ⟨by decide, by decide⟩ rfl rfl (Nat.le_of_ble_eq_true rfl) rfl rfl ⟨rfl, rfl⟩ ⟨Nat.zero_le _, Nat.zero_le _⟩ (r_isOne i) ?_
  rw [decide_eq_false h]
  refine pw_iconst (v := 1) dX11_operand_6 rfl ?_
  refine lp_cV1 (mi' := mX11_goes) (As := [_, _]) (q := (RX11, TX11, 33)) dX11_operand_7 lk_RX11_101 mk_X11_goes mi_X11_goes me_X11_goes ⟨by decide, by decide⟩ rfl rfl (Nat.le_of_ble_eq_true rfl) rfl rfl ⟨rfl, rfl⟩ ⟨Nat.zero_le _, Nat.zero_le _⟩ (r_goes false true) ?_
  refine pw_if_eq 30 dX11_operand_10 (by decide) (fun c_10 => ?_) (fun c_10 => absurd rfl c_10)
  refine pw_iconst (v := 0) dX11_operand_30 rfl ?_
  exact pw_iret rfl rfl dX11_operand_31 (Nat.zero_le _) (Nat.zero_le _) rfl
theorem r_setRange_no (v lo hi : Int32) (h : ¬ ((0 ≤ v ∧ v ≤ 7) ∧ lo ≤ hi)) : SpecD l G mX11_setRange [.ref (adr 0), .int v, .int lo, .int hi] (wp G adr LM Lf Rt σ) (some (.int 0)) (wp G adr LM Lf Rt (mGoes σ (decide (0 ≤ v ∧ v ≤ 7)) (decide (lo ≤ hi)))) := by
  refine spec_of (by decide) (Nat.le_of_ble_eq_true rfl) (fun sz => ?_)
  have hc : bI (decide (0 ≤ v ∧ v ≤ 7) && decide (lo ≤ hi)) = 0 := bI_f (by rw [← Bool.decide_and]; exact decide_eq_false h)
  by_cases hlh : lo ≤ hi
  · rw [decide_eq_true hlh] at hc ⊢
    refine pw_aload_n dX11_setRange_0 rfl ?_
    refine pw_iload_n dX11_setRange_1 rfl ?_
    refine lp_cS1 (mi' := mX11_isName) (As := [_]) dX11_setRange_2 lk_RX11_154 mk_X11_isName ms_X11_isName ⟨by decide, by decide⟩ rfl rfl (Nat.le_of_ble_eq_true rfl) ⟨rfl, rfl⟩ ⟨Nat.zero_le _, Nat.zero_le _⟩ (r_isName v _) ?_
    refine pw_iload_n dX11_setRange_5 rfl ?_
    refine pw_iload_n dX11_setRange_6 rfl ?_
    refine pw_icmp_gt 14 dX11_setRange_7 (by decide) (fun c_7 => absurd hlh (Int32.not_le.mpr c_7)) (fun c_7 => ?_)
    refine pw_iconst (v := 1) dX11_setRange_10 rfl ?_
    refine pw_goto (tgt := 15) dX11_setRange_11 (by decide) ?_
    refine lp_cV1 (mi' := mX11_goes) (As := [_, _]) (q := (RX11, TX11, 33)) dX11_setRange_15 lk_RX11_101 mk_X11_goes mi_X11_goes me_X11_goes ⟨by decide, by decide⟩ rfl rfl (Nat.le_of_ble_eq_true rfl) rfl rfl ⟨rfl, rfl⟩ ⟨Nat.zero_le _, Nat.zero_le _⟩ (r_goes _ true) ?_
    refine pw_if_ne 23 dX11_setRange_18 (by decide) (fun c_18 => absurd hc c_18) (fun c_18 => ?_)
    refine pw_iconst (v := 0) dX11_setRange_21 rfl ?_
    exact pw_iret rfl rfl dX11_setRange_22 (Nat.zero_le _) (Nat.zero_le _) rfl
  · rw [decide_eq_false hlh] at hc ⊢
    refine pw_aload_n dX11_setRange_0 rfl ?_
    refine pw_iload_n dX11_setRange_1 rfl ?_
    refine lp_cS1 (mi' := mX11_isName) (As := [_]) dX11_setRange_2 lk_RX11_154 mk_X11_isName ms_X11_isName ⟨by decide, by decide⟩ rfl rfl (Nat.le_of_ble_eq_true rfl) ⟨rfl, rfl⟩ ⟨Nat.zero_le _, Nat.zero_le _⟩ (r_isName v _) ?_
    refine pw_iload_n dX11_setRange_5 rfl ?_
    refine pw_iload_n dX11_setRange_6 rfl ?_
    refine pw_icmp_gt 14 dX11_setRange_7 (by decide) (fun c_7 => ?_) (fun c_7 => absurd (Int32.not_le.mp hlh) c_7)
    refine pw_iconst (v := 0) dX11_setRange_14 rfl ?_
    refine lp_cV1 (mi' := mX11_goes) (As := [_, _]) (q := (RX11, TX11, 33)) dX11_setRange_15 lk_RX11_101 mk_X11_goes mi_X11_goes me_X11_goes ⟨by decide, by decide⟩ rfl rfl (Nat.le_of_ble_eq_true rfl) rfl rfl ⟨rfl, rfl⟩ ⟨Nat.zero_le _, Nat.zero_le _⟩ (r_goes _ false) ?_
    refine pw_if_ne 23 dX11_setRange_18 (by decide) (fun c_18 => absurd hc c_18) (fun c_18 => ?_)
    refine pw_iconst (v := 0) dX11_setRange_21 rfl ?_
    exact pw_iret rfl rfl dX11_setRange_22 (Nat.zero_le _) (Nat.zero_le _) rfl
/-- the inputs behind setRange -/
def alRange (al : Nat → Int32) (v : Nat) (lo hi : Int32) : Nat → Int32 := upd (upd (upd al (121 + 3 * v) lo) (121 + 3 * v + 1) hi) (121 + 3 * v + 2) (if lo ≤ al (121 + 3 * v + 2) ∧ al (121 + 3 * v + 2) ≤ hi then al (121 + 3 * v + 2) else lo)
theorem r_setRange_ok (v m : Nat) (lo hi : Int32) (hv : v < 8) (hlh : lo ≤ hi) (hm : m ≤ 4) (h : σ.1 0 2 = nI m) : SpecD l G mX11_setRange [.ref (adr 0), .int (nI v), .int lo, .int hi] (wp G adr LM Lf Rt σ) (some (.int (alRange (σ.2.2.1 1) v lo hi (121 + 3 * v + 2)))) (wp G adr LM Lf Rt (sA (mSave (sI σ 0 3 0) m) 1 (alRange (σ.2.2.1 1) v lo hi))) := by
  refine spec_of (by decide) (Nat.le_of_ble_eq_true rfl) (fun sz => ?_)
  have b0 := nI121' (v := v) (by omega)
  have b1 := nI121 (v := v) (w := 1) (by omega)
  have b2 := nI121 (v := v) (w := 2) (by omega)
  have n7 : (0 : Int32) ≤ nI v ∧ nI v ≤ 7 := nIr (show v ≤ 7 by omega) (by decide)
  have b1' : vp_in (121 + 3 * nI v + 1) 145 ∧ (121 + 3 * nI v + 1).toNatClampNeg = 121 + 3 * v + 1 := b1
  have b2' : vp_in (121 + 3 * nI v + 2) 145 ∧ (121 + 3 * nI v + 2).toNatClampNeg = 121 + 3 * v + 2 := b2
  refine pw_aload_n dX11_setRange_0 rfl ?_
  refine pw_iload_n dX11_setRange_1 rfl ?_
  refine lp_cS1 (mi' := mX11_isName) (As := [_]) dX11_setRange_2 lk_RX11_154 mk_X11_isName ms_X11_isName ⟨by decide, by decide⟩ rfl rfl (Nat.le_of_ble_eq_true rfl) ⟨rfl, rfl⟩ ⟨Nat.zero_le _, Nat.zero_le _⟩ (r_isName (nI v) _) ?_
  rw [decide_eq_true n7]
  refine pw_iload_n dX11_setRange_5 rfl ?_
  refine pw_iload_n dX11_setRange_6 rfl ?_
  refine pw_icmp_gt 14 dX11_setRange_7 (by decide) (fun c_7 => absurd hlh (Int32.not_le.mpr c_7)) (fun c_7 => ?_)
  refine pw_iconst (v := 1) dX11_setRange_10 rfl ?_
  refine pw_goto (tgt := 15) dX11_setRange_11 (by decide) ?_
  refine lp_cV1 (mi' := mX11_goes) (As := [_, _]) (q := (RX11, TX11, 33)) dX11_setRange_15 lk_RX11_101 mk_X11_goes mi_X11_goes me_X11_goes ⟨by decide, by decide⟩ rfl rfl (Nat.le_of_ble_eq_true rfl) rfl rfl ⟨rfl, rfl⟩ ⟨Nat.zero_le _, Nat.zero_le _⟩ (r_goes true true) ?_
  refine pw_if_ne 23 dX11_setRange_18 (by decide) (fun c_18 => ?_) (fun c_18 => absurd (show (1 : Int32) = 0 from c_18) (by decide))
  refine pw_aload_n dX11_setRange_23 rfl ?_
  refine lp_cV0 (mi' := mX11_save) (As := []) (q := (RX11, TX11, 33)) dX11_setRange_24 lk_RX11_151 mk_X11_save mi_X11_save me_X11_save ⟨by decide, by decide⟩ rfl rfl (Nat.le_of_ble_eq_true rfl) rfl rfl ⟨rfl, rfl⟩ ⟨Nat.zero_le _, Nat.zero_le _⟩ (r_save m hm h) ?_
  refine pw_bipush (v := 121) dX11_setRange_27 rfl ?_
  refine pw_iconst (v := 3) dX11_setRange_29 rfl ?_
  refine pw_iload_n dX11_setRange_30 rfl ?_
  refine pw_imul dX11_setRange_31 ?_
  refine pw_iadd dX11_setRange_32 ?_
  refine pw_istore dX11_setRange_33 (by decide) ?_
  refine pw_aload_n dX11_setRange_35 rfl ?_
  refine lp_getr 1 dX11_setRange_36 fp_RX11_7.FL rfl rfl rfl ?_
  refine pw_iload dX11_setRange_39 rfl ?_
  refine pw_iload_n dX11_setRange_41 rfl ?_
  refine lp_iast dX11_setRange_42 rfl b0.1 ?_
  refine pw_aload_n dX11_setRange_43 rfl ?_
  refine lp_getr 1 dX11_setRange_44 fp_RX11_7.FL rfl rfl rfl ?_
  refine pw_iload dX11_setRange_47 rfl ?_
  refine pw_iconst (v := 1) dX11_setRange_49 rfl ?_
  refine pw_iadd dX11_setRange_50 ?_
  refine pw_iload_n dX11_setRange_51 rfl ?_
  refine lp_iast dX11_setRange_52 rfl b1.1 ?_
  refine pw_aload_n dX11_setRange_53 rfl ?_
  refine lp_getr 1 dX11_setRange_54 fp_RX11_7.FL rfl rfl rfl ?_
  refine pw_iload dX11_setRange_57 rfl ?_
  refine pw_iconst (v := 2) dX11_setRange_59 rfl ?_
  refine pw_iadd dX11_setRange_60 ?_
  refine pw_aload_n dX11_setRange_61 rfl ?_
  refine lp_getr 1 dX11_setRange_62 fp_RX11_7.FL rfl rfl rfl ?_
  refine pw_iload dX11_setRange_65 rfl ?_
  refine pw_iconst (v := 2) dX11_setRange_67 rfl ?_
  refine pw_iadd dX11_setRange_68 ?_
  refine lp_iald dX11_setRange_69 rfl b2.1 ?_
  refine pw_top (σ.2.2.1 1 (121 + 3 * v + 2)) ?_ ?_
  · rw [b2'.2, b1'.2, b0.2]
    show upd (upd _ _ _) _ _ _ = _
    unfold upd
    rw [if_neg (by omega), if_neg (by omega)]
    rfl
  refine pw_i2l dX11_setRange_70 ?_
  refine pw_iload_n dX11_setRange_71 rfl ?_
  refine pw_i2l dX11_setRange_72 ?_
  refine pw_iload_n dX11_setRange_73 rfl ?_
  refine pw_i2l dX11_setRange_74 ?_
  refine lp_cS1 (mi' := mX11_in) (As := [_, _, _]) dX11_setRange_75 lk_RX11_90 mk_X11_in ms_X11_in ⟨by decide, by decide⟩ rfl rfl (Nat.le_of_ble_eq_true rfl) ⟨rfl, rfl⟩ ⟨Nat.zero_le _, Nat.zero_le _⟩ (r_in32 _ _ _ _) ?_
  refine pw_if_eq 93 dX11_setRange_78 (by decide) (fun c_78 => ?_) (fun c_78 => ?_)
  · refine pw_iload_n dX11_setRange_93 rfl ?_
    refine pw_top (if lo ≤ σ.2.2.1 1 (121 + 3 * v + 2) ∧ σ.2.2.1 1 (121 + 3 * v + 2) ≤ hi then σ.2.2.1 1 (121 + 3 * v + 2) else lo) ?_ ?_
    · first | rw [if_neg (of_decide_eq_false (bI_0 c_78))] | rw [if_pos (of_decide_eq_true (bI_n c_78))]
    refine lp_iast dX11_setRange_94 rfl b2.1 ?_
    refine pw_st (σ' := sA (mSave (sI σ 0 3 0) m) 1 (alRange (σ.2.2.1 1) v lo hi)) ?_ ?_
    · rw [b0.2, b1'.2, b2'.2, sA_sA, sA_sA]
      rfl
    refine pw_aload_n dX11_setRange_95 rfl ?_
    refine lp_getr 1 dX11_setRange_96 fp_RX11_7.FL rfl rfl rfl ?_
    refine pw_iload dX11_setRange_99 rfl ?_
    refine pw_iconst (v := 2) dX11_setRange_101 rfl ?_
    refine pw_iadd dX11_setRange_102 ?_
    refine lp_iald dX11_setRange_103 rfl b2.1 ?_
    exact pw_iret rfl rfl dX11_setRange_104 (Nat.zero_le _) (Nat.zero_le _) (by rw [b2'.2]; rfl)
  · refine pw_aload_n dX11_setRange_81 rfl ?_
    refine lp_getr 1 dX11_setRange_82 fp_RX11_7.FL rfl rfl rfl ?_
    refine pw_iload dX11_setRange_85 rfl ?_
    refine pw_iconst (v := 2) dX11_setRange_87 rfl ?_
    refine pw_iadd dX11_setRange_88 ?_
    refine lp_iald dX11_setRange_89 rfl b2.1 ?_
    refine pw_top (σ.2.2.1 1 (121 + 3 * v + 2)) ?_ ?_
    · rw [b2'.2, b1'.2, b0.2]
      show upd (upd _ _ _) _ _ _ = _
      unfold upd
      rw [if_neg (by omega), if_neg (by omega)]
      rfl
    refine pw_goto (tgt := 94) dX11_setRange_90 (by decide) ?_
    refine pw_top (if lo ≤ σ.2.2.1 1 (121 + 3 * v + 2) ∧ σ.2.2.1 1 (121 + 3 * v + 2) ≤ hi then σ.2.2.1 1 (121 + 3 * v + 2) else lo) ?_ ?_
    · first | rw [if_neg (of_decide_eq_false (bI_0 c_78))] | rw [if_pos (of_decide_eq_true (bI_n c_78))]
    refine lp_iast dX11_setRange_94 rfl b2.1 ?_
    refine pw_st (σ' := sA (mSave (sI σ 0 3 0) m) 1 (alRange (σ.2.2.1 1) v lo hi)) ?_ ?_
    · rw [b0.2, b1'.2, b2'.2, sA_sA, sA_sA]
      rfl
    refine pw_aload_n dX11_setRange_95 rfl ?_
    refine lp_getr 1 dX11_setRange_96 fp_RX11_7.FL rfl rfl rfl ?_
    refine pw_iload dX11_setRange_99 rfl ?_
    refine pw_iconst (v := 2) dX11_setRange_101 rfl ?_
    refine pw_iadd dX11_setRange_102 ?_
    refine lp_iald dX11_setRange_103 rfl b2.1 ?_
    exact pw_iret rfl rfl dX11_setRange_104 (Nat.zero_le _) (Nat.zero_le _) (by rw [b2'.2]; rfl)
end M3
