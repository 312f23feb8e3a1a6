section M4
variable {l : Launch} {G : cxG} {adr : Nat → Nat} {Lf Rt : va_W} {σ : St}
theorem r_setInput_no1 (v x : Int32) (hv : ¬ (0 ≤ v ∧ v ≤ 7)) : SpecD l G mX11_setInput [.ref (adr 0), .int v, .int x] (wp G adr LM Lf Rt σ) (some (.int 0)) (wp G adr LM Lf Rt (sI σ 0 3 1)) := by
  refine spec_of (by decide) (Nat.le_of_ble_eq_true rfl) (fun sz => ?_)
  refine pw_aload_n dX11_setInput_0 rfl ?_
  refine pw_iload_n dX11_setInput_1 rfl ?_
  refine lp_cS1 (mi' := mX11_isName) (As := [_]) dX11_setInput_2 lk_RX11_154 mk_X11_isName ms_X11_isName ⟨by decide, by decide⟩ rfl rfl (Nat.le_of_ble_eq_true rfl) ⟨rfl, rfl⟩ ⟨Nat.zero_le _, Nat.zero_le _⟩ (r_isName v _) ?_
  rw [decide_eq_false hv]
  refine pw_iload_n dX11_setInput_5 rfl ?_
  refine lp_cS1 (mi' := mX11_isName) (As := [_]) dX11_setInput_6 lk_RX11_154 mk_X11_isName ms_X11_isName ⟨by decide, by decide⟩ rfl rfl (Nat.le_of_ble_eq_true rfl) ⟨rfl, rfl⟩ ⟨Nat.zero_le _, Nat.zero_le _⟩ (r_isName v _) ?_
  rw [decide_eq_false hv]
  refine pw_if_eq 50 dX11_setInput_9 (by decide) (fun c_9 => ?_) (fun c_9 => absurd rfl c_9)
  refine pw_iconst (v := 0) dX11_setInput_50 rfl ?_
  refine lp_cV1 (mi' := mX11_goes) (As := [_, _]) (q := (RX11, TX11, 33)) dX11_setInput_51 lk_RX11_101 mk_X11_goes mi_X11_goes me_X11_goes ⟨by decide, by decide⟩ rfl rfl (Nat.le_of_ble_eq_true rfl) rfl rfl ⟨rfl, rfl⟩ ⟨Nat.zero_le _, Nat.zero_le _⟩ (r_goes false false) ?_
  refine pw_if_ne 59 dX11_setInput_54 (by decide) (fun c_54 => absurd rfl c_54) (fun c_54 => ?_)
  refine pw_iconst (v := 0) dX11_setInput_57 rfl ?_
  exact pw_iret rfl rfl dX11_setInput_58 (Nat.zero_le _) (Nat.zero_le _) rfl
theorem r_setInput_no2 (v : Nat) (x : Int32) (hv : v < 8) (h : ¬ (σ.2.2.1 1 (121 + 3 * v) ≤ x ∧ x ≤ σ.2.2.1 1 (121 + 3 * v + 1))) : SpecD l G mX11_setInput [.ref (adr 0), .int (nI v), .int x] (wp G adr LM Lf Rt σ) (some (.int 0)) (wp G adr LM Lf Rt (sI σ 0 3 2)) := by
  refine spec_of (by decide) (Nat.le_of_ble_eq_true rfl) (fun sz => ?_)
  have b0 := nI121' (v := v) (by omega)
  have b1 : vp_in (121 + 3 * nI v + 1) 145 ∧ (121 + 3 * nI v + 1).toNatClampNeg = 121 + 3 * v + 1 := nI121 (v := v) (w := 1) (by omega)
  have n7 : (0 : Int32) ≤ nI v ∧ nI v ≤ 7 := nIr (show v ≤ 7 by omega) (by decide)
  refine pw_aload_n dX11_setInput_0 rfl ?_
  refine pw_iload_n dX11_setInput_1 rfl ?_
  refine lp_cS1 (mi' := mX11_isName) (As := [_]) dX11_setInput_2 lk_RX11_154 mk_X11_isName ms_X11_isName ⟨by decide, by decide⟩ rfl rfl (Nat.le_of_ble_eq_true rfl) ⟨rfl, rfl⟩ ⟨Nat.zero_le _, Nat.zero_le _⟩ (r_isName (nI v) _) ?_
  rw [decide_eq_true n7]
  refine pw_iload_n dX11_setInput_5 rfl ?_
  refine lp_cS1 (mi' := mX11_isName) (As := [_]) dX11_setInput_6 lk_RX11_154 mk_X11_isName ms_X11_isName ⟨by decide, by decide⟩ rfl rfl (Nat.le_of_ble_eq_true rfl) ⟨rfl, rfl⟩ ⟨Nat.zero_le _, Nat.zero_le _⟩ (r_isName (nI v) _) ?_
  rw [decide_eq_true n7]
  refine pw_if_eq 50 dX11_setInput_9 (by decide) (fun c_9 => absurd (show (1 : Int32) = 0 from c_9) (by decide)) (fun c_9 => ?_)
  refine pw_iload_n dX11_setInput_12 rfl ?_
  refine pw_i2l dX11_setInput_13 ?_
  refine pw_aload_n dX11_setInput_14 rfl ?_
  refine lp_getr 1 dX11_setInput_15 fp_RX11_7.FL rfl rfl rfl ?_
  refine pw_bipush (v := 121) dX11_setInput_18 rfl ?_
  refine pw_iconst (v := 3) dX11_setInput_20 rfl ?_
  refine pw_iload_n dX11_setInput_21 rfl ?_
  refine pw_imul dX11_setInput_22 ?_
  refine pw_iadd dX11_setInput_23 ?_
  refine lp_iald dX11_setInput_24 rfl b0.1 ?_
  rw [b0.2]
  refine pw_i2l dX11_setInput_25 ?_
  refine pw_aload_n dX11_setInput_26 rfl ?_
  refine lp_getr 1 dX11_setInput_27 fp_RX11_7.FL rfl rfl rfl ?_
  refine pw_bipush (v := 121) dX11_setInput_30 rfl ?_
  refine pw_iconst (v := 3) dX11_setInput_32 rfl ?_
  refine pw_iload_n dX11_setInput_33 rfl ?_
  refine pw_imul dX11_setInput_34 ?_
  refine pw_iadd dX11_setInput_35 ?_
  refine pw_iconst (v := 1) dX11_setInput_36 rfl ?_
  refine pw_iadd dX11_setInput_37 ?_
  refine lp_iald dX11_setInput_38 rfl b1.1 ?_
  rw [b1.2]
  refine pw_i2l dX11_setInput_39 ?_
  refine lp_cS1 (mi' := mX11_in) (As := [_, _, _]) dX11_setInput_40 lk_RX11_90 mk_X11_in ms_X11_in ⟨by decide, by decide⟩ rfl rfl (Nat.le_of_ble_eq_true rfl) ⟨rfl, rfl⟩ ⟨Nat.zero_le _, Nat.zero_le _⟩ (r_in32 _ _ _ _) ?_
  rw [decide_eq_false h]
  refine pw_if_eq 50 dX11_setInput_43 (by decide) (fun c_43 => ?_) (fun c_43 => absurd rfl c_43)
  refine pw_iconst (v := 0) dX11_setInput_50 rfl ?_
  refine lp_cV1 (mi' := mX11_goes) (As := [_, _]) (q := (RX11, TX11, 33)) dX11_setInput_51 lk_RX11_101 mk_X11_goes mi_X11_goes me_X11_goes ⟨by decide, by decide⟩ rfl rfl (Nat.le_of_ble_eq_true rfl) rfl rfl ⟨rfl, rfl⟩ ⟨Nat.zero_le _, Nat.zero_le _⟩ (r_goes true false) ?_
  refine pw_if_ne 59 dX11_setInput_54 (by decide) (fun c_54 => absurd rfl c_54) (fun c_54 => ?_)
  refine pw_iconst (v := 0) dX11_setInput_57 rfl ?_
  exact pw_iret rfl rfl dX11_setInput_58 (Nat.zero_le _) (Nat.zero_le _) rfl
theorem r_setInput_ok (v m : Nat) (x : Int32) (hv : v < 8) (hm : m ≤ 4) (hs : σ.1 0 2 = nI m) (h : σ.2.2.1 1 (121 + 3 * v) ≤ x ∧ x ≤ σ.2.2.1 1 (121 + 3 * v + 1)) : SpecD l G mX11_setInput [.ref (adr 0), .int (nI v), .int x] (wp G adr LM Lf Rt σ) (some (.int (σ.2.2.1 1 (121 + 3 * v + 2)))) (wp G adr LM Lf Rt (sA (mSave (sI σ 0 3 0) m) 1 (upd (σ.2.2.1 1) (121 + 3 * v + 2) x))) := by
  refine spec_of (by decide) (Nat.le_of_ble_eq_true rfl) (fun sz => ?_)
  have b0 := nI121' (v := v) (by omega)
  have b1 : vp_in (121 + 3 * nI v + 1) 145 ∧ (121 + 3 * nI v + 1).toNatClampNeg = 121 + 3 * v + 1 := nI121 (v := v) (w := 1) (by omega)
  have b2 : vp_in (121 + 3 * nI v + 2) 145 ∧ (121 + 3 * nI v + 2).toNatClampNeg = 121 + 3 * v + 2 := nI121 (v := v) (w := 2) (by omega)
  have n7 : (0 : Int32) ≤ nI v ∧ nI v ≤ 7 := nIr (show v ≤ 7 by omega) (by decide)
  refine pw_aload_n dX11_setInput_0 rfl ?_
  refine pw_iload_n dX11_setInput_1 rfl ?_
  refine lp_cS1 (mi' := mX11_isName) (As := [_]) dX11_setInput_2 lk_RX11_154 mk_X11_isName ms_X11_isName ⟨by decide, by decide⟩ rfl rfl (Nat.le_of_ble_eq_true rfl) ⟨rfl, rfl⟩ ⟨Nat.zero_le _, Nat.zero_le _⟩ (r_isName (nI v) _) ?_
  rw [decide_eq_true n7]
  refine pw_iload_n dX11_setInput_5 rfl ?_
  refine lp_cS1 (mi' := mX11_isName) (As := [_]) dX11_setInput_6 lk_RX11_154 mk_X11_isName ms_X11_isName ⟨by decide, by decide⟩ rfl rfl (Nat.le_of_ble_eq_true rfl) ⟨rfl, rfl⟩ ⟨Nat.zero_le _, Nat.zero_le _⟩ (r_isName (nI v) _) ?_
  rw [decide_eq_true n7]
  refine pw_if_eq 50 dX11_setInput_9 (by decide) (fun c_9 => absurd (show (1 : Int32) = 0 from c_9) (by decide)) (fun c_9 => ?_)
  refine pw_iload_n dX11_setInput_12 rfl ?_
  refine pw_i2l dX11_setInput_13 ?_
  refine pw_aload_n dX11_setInput_14 rfl ?_
  refine lp_getr 1 dX11_setInput_15 fp_RX11_7.FL rfl rfl rfl ?_
  refine pw_bipush (v := 121) dX11_setInput_18 rfl ?_
  refine pw_iconst (v := 3) dX11_setInput_20 rfl ?_
  refine pw_iload_n dX11_setInput_21 rfl ?_
  refine pw_imul dX11_setInput_22 ?_
  refine pw_iadd dX11_setInput_23 ?_
  refine lp_iald dX11_setInput_24 rfl b0.1 ?_
  rw [b0.2]
  refine pw_i2l dX11_setInput_25 ?_
  refine pw_aload_n dX11_setInput_26 rfl ?_
  refine lp_getr 1 dX11_setInput_27 fp_RX11_7.FL rfl rfl rfl ?_
  refine pw_bipush (v := 121) dX11_setInput_30 rfl ?_
  refine pw_iconst (v := 3) dX11_setInput_32 rfl ?_
  refine pw_iload_n dX11_setInput_33 rfl ?_
  refine pw_imul dX11_setInput_34 ?_
  refine pw_iadd dX11_setInput_35 ?_
  refine pw_iconst (v := 1) dX11_setInput_36 rfl ?_
  refine pw_iadd dX11_setInput_37 ?_
  refine lp_iald dX11_setInput_38 rfl b1.1 ?_
  rw [b1.2]
  refine pw_i2l dX11_setInput_39 ?_
  refine lp_cS1 (mi' := mX11_in) (As := [_, _, _]) dX11_setInput_40 lk_RX11_90 mk_X11_in ms_X11_in ⟨by decide, by decide⟩ rfl rfl (Nat.le_of_ble_eq_true rfl) ⟨rfl, rfl⟩ ⟨Nat.zero_le _, Nat.zero_le _⟩ (r_in32 _ _ _ _) ?_
  rw [decide_eq_true h]
  refine pw_if_eq 50 dX11_setInput_43 (by decide) (fun c_43 => absurd (show (1 : Int32) = 0 from c_43) (by decide)) (fun c_43 => ?_)
  refine pw_iconst (v := 1) dX11_setInput_46 rfl ?_
  refine pw_goto (tgt := 51) dX11_setInput_47 (by decide) ?_
  refine lp_cV1 (mi' := mX11_goes) (As := [_, _]) (q := (RX11, TX11, 33)) dX11_setInput_51 lk_RX11_101 mk_X11_goes mi_X11_goes me_X11_goes ⟨by decide, by decide⟩ rfl rfl (Nat.le_of_ble_eq_true rfl) rfl rfl ⟨rfl, rfl⟩ ⟨Nat.zero_le _, Nat.zero_le _⟩ (r_goes true true) ?_
  refine pw_if_ne 59 dX11_setInput_54 (by decide) (fun c_54 => ?_) (fun c_54 => absurd (show (1 : Int32) = 0 from c_54) (by decide))
  refine pw_aload_n dX11_setInput_59 rfl ?_
  refine lp_cV0 (mi' := mX11_save) (As := []) (q := (RX11, TX11, 33)) dX11_setInput_60 lk_RX11_151 mk_X11_save mi_X11_save me_X11_save ⟨by decide, by decide⟩ rfl rfl (Nat.le_of_ble_eq_true rfl) rfl rfl ⟨rfl, rfl⟩ ⟨Nat.zero_le _, Nat.zero_le _⟩ (r_save m hm hs) ?_
  refine pw_aload_n dX11_setInput_63 rfl ?_
  refine lp_getr 1 dX11_setInput_64 fp_RX11_7.FL rfl rfl rfl ?_
  refine pw_bipush (v := 121) dX11_setInput_67 rfl ?_
  refine pw_iconst (v := 3) dX11_setInput_69 rfl ?_
  refine pw_iload_n dX11_setInput_70 rfl ?_
  refine pw_imul dX11_setInput_71 ?_
  refine pw_iadd dX11_setInput_72 ?_
  refine pw_iconst (v := 2) dX11_setInput_73 rfl ?_
  refine pw_iadd dX11_setInput_74 ?_
  refine lp_iald dX11_setInput_75 rfl b2.1 ?_
  rw [b2.2]
  refine pw_istore_n dX11_setInput_76 (by decide) ?_
  refine pw_aload_n dX11_setInput_77 rfl ?_
  refine lp_getr 1 dX11_setInput_78 fp_RX11_7.FL rfl rfl rfl ?_
  refine pw_bipush (v := 121) dX11_setInput_81 rfl ?_
  refine pw_iconst (v := 3) dX11_setInput_83 rfl ?_
  refine pw_iload_n dX11_setInput_84 rfl ?_
  refine pw_imul dX11_setInput_85 ?_
  refine pw_iadd dX11_setInput_86 ?_
  refine pw_iconst (v := 2) dX11_setInput_87 rfl ?_
  refine pw_iadd dX11_setInput_88 ?_
  refine pw_iload_n dX11_setInput_89 rfl ?_
  refine lp_iast dX11_setInput_90 rfl b2.1 ?_
  rw [b2.2]
  refine pw_iload_n dX11_setInput_91 rfl ?_
  exact pw_iret rfl rfl dX11_setInput_92 (Nat.zero_le _) (Nat.zero_le _) rfl
theorem r_undo_no (h : ¬ 0 < σ.1 0 2) : SpecD l G mX11_undo [.ref (adr 0)] (wp G adr LM Lf Rt σ) (some (.int 0)) (wp G adr LM Lf Rt (sI σ 0 3 1)) := by
  refine spec_of (by decide) (Nat.le_of_ble_eq_true rfl) (fun sz => ?_)
  refine pw_aload_n dX11_undo_0 rfl ?_
  refine pw_aload_n dX11_undo_1 rfl ?_
  refine lp_geti dX11_undo_2 fp_RX11_79.FL rfl rfl ?_
  refine pw_if_le 12 dX11_undo_5 (by decide) (fun c_5 => ?_) (fun c_5 => absurd (Int32.not_le.mp c_5) h)
  refine pw_iconst (v := 0) dX11_undo_12 rfl ?_
  refine pw_iconst (v := 1) dX11_undo_13 rfl ?_
  refine lp_cV1 (mi' := mX11_goes) (As := [_, _]) (q := (RX11, TX11, 33)) dX11_undo_14 lk_RX11_101 mk_X11_goes mi_X11_goes me_X11_goes ⟨by decide, by decide⟩ rfl rfl (Nat.le_of_ble_eq_true rfl) rfl rfl ⟨rfl, rfl⟩ ⟨Nat.zero_le _, Nat.zero_le _⟩ (r_goes false true) ?_
  refine pw_if_ne 22 dX11_undo_17 (by decide) (fun c_17 => absurd rfl c_17) (fun c_17 => ?_)
  refine pw_iconst (v := 0) dX11_undo_20 rfl ?_
  exact pw_iret rfl rfl dX11_undo_21 (Nat.zero_le _) (Nat.zero_le _) rfl
theorem undo_loop {sz : Nat} {w0 : va_W} {fin : OC → Prop} (τ : St) (m : Nat) (hm : m < 4) (hs : τ.1 0 2 = nI m) (al sv : Nat → Int32) (hal : τ.2.2.1 1 = al) (hsv : τ.2.2.1 2 = sv)
    (hf : fin (.inl (some (.int (nI m)), wp G adr LM Lf Rt (sA τ 1 (fun k => if k < 145 then sv (145 * m + k) else al k))))) :
    ∀ (r i : Nat), i + r = 145 → PW l G mX11_undo w0 sz fin 34 [(0, .ref (adr 0)), (1, .int (nI i))] [] 0 0 (wp G adr LM Lf Rt (sA τ 1 (fun k => if k < i then sv (145 * m + k) else al k))) := by
  intro r
  induction r with
  | zero =>
    intro i hi
    have hi : i = 145 := by omega
    subst hi
    refine pw_iload_n dX11_undo_34 rfl ?_
    refine pw_sipush (v := 145) dX11_undo_35 rfl ?_
    refine pw_icmp_ge 68 dX11_undo_38 (by decide) (fun c_38 => ?_) (fun c_38 => absurd (nI_le (Nat.le_refl 145) (by decide)) c_38)
    refine pw_aload_n dX11_undo_68 rfl ?_
    refine lp_geti dX11_undo_69 fp_RX11_79.FL rfl rfl ?_
    exact pw_iret rfl rfl dX11_undo_72 (Nat.zero_le _) (Nat.zero_le _) (by show fin (.inl (some (.int (τ.1 0 2)), _)); rw [hs]; exact hf)
  | succ r ih =>
    intro i hi
    have hb1 : vp_in (145 * nI m + nI i) 580 ∧ (145 * nI m + nI i).toNatClampNeg = 145 * m + i := by
      have e : (145 : Int32) * nI m + nI i = nI (145 * m + i) := by rw [show (145 : Int32) = nI 145 from rfl, pk_mul, nI_add]
      rw [e]; exact ⟨vp_in_nI (by omega) (by decide), nI_clamp (by omega)⟩
    refine pw_iload_n dX11_undo_34 rfl ?_
    refine pw_sipush (v := 145) dX11_undo_35 rfl ?_
    refine pw_icmp_ge 68 dX11_undo_38 (by decide) (fun c_38 => absurd c_38 (nI_ge (a := i) (b := 145) (by omega) (by decide))) (fun c_38 => ?_)
    refine pw_aload_n dX11_undo_41 rfl ?_
    refine lp_getr 1 dX11_undo_42 fp_RX11_7.FL rfl rfl rfl ?_
    refine pw_iload_n dX11_undo_45 rfl ?_
    refine pw_aload_n dX11_undo_46 rfl ?_
    refine lp_getr 2 dX11_undo_47 fp_RX11_13.FL rfl rfl rfl ?_
    refine pw_sipush (v := 145) dX11_undo_50 rfl ?_
    refine pw_aload_n dX11_undo_53 rfl ?_
    refine lp_geti dX11_undo_54 fp_RX11_79.FL rfl rfl ?_
    refine pw_imul dX11_undo_57 ?_
    refine pw_iload_n dX11_undo_58 rfl ?_
    refine pw_iadd dX11_undo_59 ?_
    refine lp_iald dX11_undo_60 rfl (by show vp_in (145 * τ.1 0 2 + nI i) 580; rw [hs]; exact hb1.1) ?_
    refine pw_top (sv (145 * m + i)) ?_ ?_
    · show τ.2.2.1 2 (145 * τ.1 0 2 + nI i).toNatClampNeg = _
      rw [hs, hb1.2, hsv]
    refine lp_iast dX11_undo_61 rfl (vp_in_nI (by omega) (by decide)) ?_
    refine pw_iinc dX11_undo_62 rfl (by decide) ?_
    refine pw_goto (tgt := 34) dX11_undo_65 (by decide) ?_
    refine pw_lk [(0, .ref (adr 0)), (1, .int (nI (i + 1)))] ⟨rfl, congrArg (fun x => some (Value.int x)) (nI_1 i), trivial⟩ (pw_st ?_ (ih (i + 1) (by omega)))
    rw [sA_sA]
    congr 1
    funext q
    rw [nI_clamp (show i < 2 ^ 31 by omega)]
    show upd (fun k => if k < i then sv (145 * m + k) else al k) i _ q = _
    unfold upd
    by_cases hq : q = i
    · subst hq; rw [if_pos rfl, if_pos (by omega)]
    · rw [if_neg hq]
      dsimp only
      by_cases h2 : q < i
      · rw [if_pos h2, if_pos (by omega)]
      · rw [if_neg h2, if_neg (by omega)]
theorem r_undo_ok (m : Nat) (hm : m < 4) (h : σ.1 0 2 = nI (m + 1)) : SpecD l G mX11_undo [.ref (adr 0)] (wp G adr LM Lf Rt σ) (some (.int (nI m))) (wp G adr LM Lf Rt (sA (sI (sI σ 0 3 0) 0 2 (nI m)) 1 (fun k => if k < 145 then σ.2.2.1 2 (145 * m + k) else σ.2.2.1 1 k))) := by
  refine spec_of (by decide) (Nat.le_of_ble_eq_true rfl) (fun sz => ?_)
  have e1 : σ.1 0 2 - 1 = nI m := by rw [h]; exact nI_pred m
  refine pw_aload_n dX11_undo_0 rfl ?_
  refine pw_aload_n dX11_undo_1 rfl ?_
  refine lp_geti dX11_undo_2 fp_RX11_79.FL rfl rfl ?_
  refine pw_if_le 12 dX11_undo_5 (by decide) (fun c_5 => absurd c_5 (by rw [h]; exact nI_nle (by omega) (by omega))) (fun c_5 => ?_)
  refine pw_iconst (v := 1) dX11_undo_8 rfl ?_
  refine pw_goto (tgt := 13) dX11_undo_9 (by decide) ?_
  refine pw_iconst (v := 1) dX11_undo_13 rfl ?_
  refine lp_cV1 (mi' := mX11_goes) (As := [_, _]) (q := (RX11, TX11, 33)) dX11_undo_14 lk_RX11_101 mk_X11_goes mi_X11_goes me_X11_goes ⟨by decide, by decide⟩ rfl rfl (Nat.le_of_ble_eq_true rfl) rfl rfl ⟨rfl, rfl⟩ ⟨Nat.zero_le _, Nat.zero_le _⟩ (r_goes true true) ?_
  refine pw_if_ne 22 dX11_undo_17 (by decide) (fun c_17 => ?_) (fun c_17 => absurd (show (1 : Int32) = 0 from c_17) (by decide))
  refine pw_aload_n dX11_undo_22 rfl ?_
  refine pw_dup dX11_undo_23 rfl ?_
  refine lp_geti dX11_undo_24 fp_RX11_79.FL rfl rfl ?_
  refine pw_iconst (v := 1) dX11_undo_27 rfl ?_
  refine pw_isub dX11_undo_28 ?_
  refine lp_puti dX11_undo_29 fp_RX11_79 rfl rfl rfl rfl ?_
  refine pw_iconst (v := 0) dX11_undo_32 rfl ?_
  refine pw_istore_n dX11_undo_33 (by decide) ?_
  refine pw_lk [(0, .ref (adr 0)), (1, .int (nI 0))] ⟨rfl, rfl, trivial⟩ (pw_st ?_ (undo_loop (sI (sI σ 0 3 0) 0 2 (nI m)) m hm rfl (σ.2.2.1 1) (σ.2.2.1 2) rfl rfl ?_ 145 0 rfl))
  · show sI (sI σ 0 3 0) 0 2 (σ.1 0 2 - 1) = _
    rw [e1]
    have e : (fun k => if k < 0 then σ.2.2.1 2 (145 * m + k) else σ.2.2.1 1 k) = σ.2.2.1 1 := by funext k; rw [if_neg (by omega)]
    rw [e]
    exact (sA_self _ 1).symm
  · rfl
theorem r_remove_no1 (i : Int32) (h : ¬ ((0 : Int32) ≤ i ∧ i ≤ σ.2.2.1 1 0 - 1)) : SpecD l G mX11_remove [.ref (adr 0), .int i] (wp G adr LM Lf Rt σ) (some (.int 0)) (wp G adr LM Lf Rt (sI σ 0 3 1)) := by
  refine spec_of (by decide) (Nat.le_of_ble_eq_true rfl) (fun sz => ?_)
  refine pw_aload_n dX11_remove_0 rfl ?_
  refine pw_aload_n dX11_remove_1 rfl ?_
  refine pw_iload_n dX11_remove_2 rfl ?_
  refine lp_cV1 (mi' := mX11_isOne) (As := [_]) (q := (RX11, TX11, 33)) dX11_remove_3 lk_RX11_160 mk_X11_isOne mi_X11_isOne me_X11_isOne ⟨by decide, by decide⟩ rfl rfl (Nat.le_of_ble_eq_true rfl) rfl rfl ⟨rfl, rfl⟩ ⟨Nat.zero_le _, Nat.zero_le _⟩ (r_isOne i) ?_
  rw [decide_eq_false h]
  refine pw_aload_n dX11_remove_6 rfl ?_
  refine pw_iload_n dX11_remove_7 rfl ?_
  refine lp_cV1 (mi' := mX11_isOne) (As := [_]) (q := (RX11, TX11, 33)) dX11_remove_8 lk_RX11_160 mk_X11_isOne mi_X11_isOne me_X11_isOne ⟨by decide, by decide⟩ rfl rfl (Nat.le_of_ble_eq_true rfl) rfl rfl ⟨rfl, rfl⟩ ⟨Nat.zero_le _, Nat.zero_le _⟩ (r_isOne i) ?_
  rw [decide_eq_false h]
  refine pw_if_eq 26 dX11_remove_11 (by decide) (fun c_11 => ?_) (fun c_11 => absurd rfl c_11)
  refine pw_iconst (v := 0) dX11_remove_26 rfl ?_
  refine lp_cV1 (mi' := mX11_goes) (As := [_, _]) (q := (RX11, TX11, 33)) dX11_remove_27 lk_RX11_101 mk_X11_goes mi_X11_goes me_X11_goes ⟨by decide, by decide⟩ rfl rfl (Nat.le_of_ble_eq_true rfl) rfl rfl ⟨rfl, rfl⟩ ⟨Nat.zero_le _, Nat.zero_le _⟩ (r_goes false false) ?_
  refine pw_if_ne 35 dX11_remove_30 (by decide) (fun c_30 => absurd rfl c_30) (fun c_30 => ?_)
  refine pw_iconst (v := 0) dX11_remove_33 rfl ?_
  exact pw_iret rfl rfl dX11_remove_34 (Nat.zero_le _) (Nat.zero_le _) rfl
theorem one_of {al : Nat → Int32} {i N : Nat} (hN : al 0 = nI N) (hi : i < N) (h30 : N ≤ 30) : (0 : Int32) ≤ nI i ∧ nI i ≤ al 0 - 1 := by
  rw [hN, show nI N - 1 = nI (N - 1) by have := nI_pred (N - 1); rw [show N - 1 + 1 = N by omega] at this; exact this]
  exact nIr (by omega) (by omega)
theorem r_remove_no2 (i N : Nat) (hN : σ.2.2.1 1 0 = nI N) (hi : i < N) (h30 : N ≤ 30) (hl : 4 ≤ σ.2.2.1 1 (1 + 4 * i)) : SpecD l G mX11_remove [.ref (adr 0), .int (nI i)] (wp G adr LM Lf Rt σ) (some (.int 0)) (wp G adr LM Lf Rt (sI σ 0 3 2)) := by
  refine spec_of (by decide) (Nat.le_of_ble_eq_true rfl) (fun sz => ?_)
  have h := one_of hN hi h30
  refine pw_aload_n dX11_remove_0 rfl ?_
  refine pw_aload_n dX11_remove_1 rfl ?_
  refine pw_iload_n dX11_remove_2 rfl ?_
  refine lp_cV1 (mi' := mX11_isOne) (As := [_]) (q := (RX11, TX11, 33)) dX11_remove_3 lk_RX11_160 mk_X11_isOne mi_X11_isOne me_X11_isOne ⟨by decide, by decide⟩ rfl rfl (Nat.le_of_ble_eq_true rfl) rfl rfl ⟨rfl, rfl⟩ ⟨Nat.zero_le _, Nat.zero_le _⟩ (r_isOne (nI i)) ?_
  rw [decide_eq_true h]
  refine pw_aload_n dX11_remove_6 rfl ?_
  refine pw_iload_n dX11_remove_7 rfl ?_
  refine lp_cV1 (mi' := mX11_isOne) (As := [_]) (q := (RX11, TX11, 33)) dX11_remove_8 lk_RX11_160 mk_X11_isOne mi_X11_isOne me_X11_isOne ⟨by decide, by decide⟩ rfl rfl (Nat.le_of_ble_eq_true rfl) rfl rfl ⟨rfl, rfl⟩ ⟨Nat.zero_le _, Nat.zero_le _⟩ (r_isOne (nI i)) ?_
  rw [decide_eq_true h]
  refine pw_if_eq 26 dX11_remove_11 (by decide) (fun c_11 => absurd (show (1 : Int32) = 0 from c_11) (by decide)) (fun c_11 => ?_)
  refine pw_aload_n dX11_remove_14 rfl ?_
  refine pw_iload_n dX11_remove_15 rfl ?_
  refine lp_cV1 (mi' := mX11_isLoop) (As := [_]) (q := (RX11, TX11, 33)) dX11_remove_16 lk_RX11_163 mk_X11_isLoop mi_X11_isLoop me_X11_isLoop ⟨by decide, by decide⟩ rfl rfl (Nat.le_of_ble_eq_true rfl) rfl rfl ⟨rfl, rfl⟩ ⟨Nat.zero_le _, Nat.zero_le _⟩ (r_isLoop i (by omega)) ?_
  rw [decide_eq_true hl]
  refine pw_if_ne 26 dX11_remove_19 (by decide) (fun c_19 => ?_) (fun c_19 => absurd (show (1 : Int32) = 0 from c_19) (by decide))
  refine pw_iconst (v := 0) dX11_remove_26 rfl ?_
  refine lp_cV1 (mi' := mX11_goes) (As := [_, _]) (q := (RX11, TX11, 33)) dX11_remove_27 lk_RX11_101 mk_X11_goes mi_X11_goes me_X11_goes ⟨by decide, by decide⟩ rfl rfl (Nat.le_of_ble_eq_true rfl) rfl rfl ⟨rfl, rfl⟩ ⟨Nat.zero_le _, Nat.zero_le _⟩ (r_goes true false) ?_
  refine pw_if_ne 35 dX11_remove_30 (by decide) (fun c_30 => absurd rfl c_30) (fun c_30 => ?_)
  refine pw_iconst (v := 0) dX11_remove_33 rfl ?_
  exact pw_iret rfl rfl dX11_remove_34 (Nat.zero_le _) (Nat.zero_le _) rfl
/-- the program behind remove -/
def alRem (al : Nat → Int32) (i : Nat) : Nat → Int32 := fun k => if 1 + 4 * i ≤ k ∧ k < 117 then al (k + 4) else al k
theorem remove_loop {sz : Nat} {w0 : va_W} {fin : OC → Prop} (τ : St) (i N : Nat) (hi : i < N) (h30 : N ≤ 30) (al : Nat → Int32) (hal : τ.2.2.1 1 = al) (hN : al 0 = nI N)
    (hf : fin (.inl (some (.int (nI (N - 1))), wp G adr LM Lf Rt (sA τ 1 (upd (alRem al i) 0 (nI (N - 1))))))) :
    ∀ (r j : Nat), j + r = 117 → 1 + 4 * i ≤ j → PW l G mX11_remove w0 sz fin 45 [(0, .ref (adr 0)), (2, .int (nI j))] [] 0 0 (wp G adr LM Lf Rt (sA τ 1 (fun k => if 1 + 4 * i ≤ k ∧ k < j then al (k + 4) else al k))) := by
  intro r
  induction r with
  | zero =>
    intro j hj h1
    have hj : j = 117 := by omega
    subst hj
    have e0 : (fun k => if 1 + 4 * i ≤ k ∧ k < 117 then al (k + 4) else al k) = alRem al i := rfl
    rw [e0]
    have e1 : (sA τ 1 (alRem al i)).2.2.1 1 (Int32.toNatClampNeg 0) - 1 = nI (N - 1) := by
      show alRem al i 0 - 1 = _
      unfold alRem
      rw [if_neg (by omega), hN]
      have := nI_pred (N - 1)
      rw [show N - 1 + 1 = N by omega] at this
      exact this
    refine pw_iload_n dX11_remove_45 rfl ?_
    refine pw_bipush (v := 117) dX11_remove_46 rfl ?_
    refine pw_icmp_ge 71 dX11_remove_48 (by decide) (fun c_48 => ?_) (fun c_48 => absurd (nI_le (Nat.le_refl 117) (by decide)) c_48)
    refine pw_aload_n dX11_remove_71 rfl ?_
    refine lp_getr 1 dX11_remove_72 fp_RX11_7.FL rfl rfl rfl ?_
    refine pw_iconst (v := 0) dX11_remove_75 rfl ?_
    refine pw_dup2 dX11_remove_76 rfl rfl ?_
    refine lp_iald dX11_remove_77 rfl (vp_in_nI (n := 0) (by decide) (by decide)) ?_
    refine pw_iconst (v := 1) dX11_remove_78 rfl ?_
    refine pw_isub dX11_remove_79 ?_
    rw [e1]
    refine lp_iast dX11_remove_80 rfl (vp_in_nI (n := 0) (by decide) (by decide)) ?_
    rw [sA_sA]
    refine pw_aload_n dX11_remove_81 rfl ?_
    refine lp_getr 1 dX11_remove_82 fp_RX11_7.FL rfl rfl rfl ?_
    refine pw_iconst (v := 0) dX11_remove_85 rfl ?_
    refine lp_iald dX11_remove_86 rfl (vp_in_nI (n := 0) (by decide) (by decide)) ?_
    exact pw_iret rfl rfl dX11_remove_87 (Nat.zero_le _) (Nat.zero_le _) hf
  | succ r ih =>
    intro j hj h1
    have e0 : nI j + 4 = nI (j + 4) := by rw [show (4 : Int32) = nI 4 from rfl, nI_add]
    refine pw_iload_n dX11_remove_45 rfl ?_
    refine pw_bipush (v := 117) dX11_remove_46 rfl ?_
    refine pw_icmp_ge 71 dX11_remove_48 (by decide) (fun c_48 => absurd c_48 (nI_ge (a := j) (b := 117) (by omega) (by decide))) (fun c_48 => ?_)
    refine pw_aload_n dX11_remove_51 rfl ?_
    refine lp_getr 1 dX11_remove_52 fp_RX11_7.FL rfl rfl rfl ?_
    refine pw_iload_n dX11_remove_55 rfl ?_
    refine pw_aload_n dX11_remove_56 rfl ?_
    refine lp_getr 1 dX11_remove_57 fp_RX11_7.FL rfl rfl rfl ?_
    refine pw_iload_n dX11_remove_60 rfl ?_
    refine pw_iconst (v := 4) dX11_remove_61 rfl ?_
    refine pw_iadd dX11_remove_62 ?_
    refine lp_iald dX11_remove_63 rfl (by rw [e0]; exact vp_in_nI (by omega) (by decide)) ?_
    refine lp_iast dX11_remove_64 rfl (vp_in_nI (by omega) (by decide)) ?_
    refine pw_iinc dX11_remove_65 rfl (by decide) ?_
    refine pw_goto (tgt := 45) dX11_remove_68 (by decide) ?_
    refine pw_lk [(0, .ref (adr 0)), (2, .int (nI (j + 1)))] ⟨rfl, congrArg (fun x => some (Value.int x)) (nI_1 j), trivial⟩ (pw_st ?_ (ih (j + 1) (by omega) (by omega)))
    rw [sA_sA]
    congr 1
    funext q
    rw [e0, nI_clamp (show j < 2 ^ 31 by omega), nI_clamp (show j + 4 < 2 ^ 31 by omega)]
    show upd (fun k => if 1 + 4 * i ≤ k ∧ k < j then al (k + 4) else al k) j (if 1 + 4 * i ≤ j + 4 ∧ j + 4 < j then al (j + 4 + 4) else al (j + 4)) q = _
    rw [if_neg (by omega)]
    unfold upd
    by_cases hq : q = j
    · subst hq; rw [if_pos rfl, if_pos ⟨h1, by omega⟩]
    · rw [if_neg hq]
      dsimp only
      by_cases h2 : 1 + 4 * i ≤ q ∧ q < j
      · rw [if_pos h2, if_pos ⟨h2.1, by omega⟩]
      · rw [if_neg h2, if_neg (by omega)]
theorem r_remove_ok (i N m : Nat) (hN : σ.2.2.1 1 0 = nI N) (hi : i < N) (h30 : N ≤ 30) (hl : ¬ 4 ≤ σ.2.2.1 1 (1 + 4 * i)) (hm : m ≤ 4) (hs : σ.1 0 2 = nI m) : SpecD l G mX11_remove [.ref (adr 0), .int (nI i)] (wp G adr LM Lf Rt σ) (some (.int (nI (N - 1)))) (wp G adr LM Lf Rt (sA (mSave (sI σ 0 3 0) m) 1 (upd (alRem (σ.2.2.1 1) i) 0 (nI (N - 1))))) := by
  refine spec_of (by decide) (Nat.le_of_ble_eq_true rfl) (fun sz => ?_)
  have h := one_of hN hi h30
  have e5 : (1 : Int32) + 4 * nI i = nI (1 + 4 * i) := by rw [show (4 : Int32) = nI 4 from rfl, show (1 : Int32) = nI 1 from rfl, pk_mul, nI_add]
  refine pw_aload_n dX11_remove_0 rfl ?_
  refine pw_aload_n dX11_remove_1 rfl ?_
  refine pw_iload_n dX11_remove_2 rfl ?_
  refine lp_cV1 (mi' := mX11_isOne) (As := [_]) (q := (RX11, TX11, 33)) dX11_remove_3 lk_RX11_160 mk_X11_isOne mi_X11_isOne me_X11_isOne ⟨by decide, by decide⟩ rfl rfl (Nat.le_of_ble_eq_true rfl) rfl rfl ⟨rfl, rfl⟩ ⟨Nat.zero_le _, Nat.zero_le _⟩ (r_isOne (nI i)) ?_
  rw [decide_eq_true h]
  refine pw_aload_n dX11_remove_6 rfl ?_
  refine pw_iload_n dX11_remove_7 rfl ?_
  refine lp_cV1 (mi' := mX11_isOne) (As := [_]) (q := (RX11, TX11, 33)) dX11_remove_8 lk_RX11_160 mk_X11_isOne mi_X11_isOne me_X11_isOne ⟨by decide, by decide⟩ rfl rfl (Nat.le_of_ble_eq_true rfl) rfl rfl ⟨rfl, rfl⟩ ⟨Nat.zero_le _, Nat.zero_le _⟩ (r_isOne (nI i)) ?_
  rw [decide_eq_true h]
  refine pw_if_eq 26 dX11_remove_11 (by decide) (fun c_11 => absurd (show (1 : Int32) = 0 from c_11) (by decide)) (fun c_11 => ?_)
  refine pw_aload_n dX11_remove_14 rfl ?_
  refine pw_iload_n dX11_remove_15 rfl ?_
  refine lp_cV1 (mi' := mX11_isLoop) (As := [_]) (q := (RX11, TX11, 33)) dX11_remove_16 lk_RX11_163 mk_X11_isLoop mi_X11_isLoop me_X11_isLoop ⟨by decide, by decide⟩ rfl rfl (Nat.le_of_ble_eq_true rfl) rfl rfl ⟨rfl, rfl⟩ ⟨Nat.zero_le _, Nat.zero_le _⟩ (r_isLoop i (by omega)) ?_
  rw [decide_eq_false hl]
  refine pw_if_ne 26 dX11_remove_19 (by decide) (fun c_19 => absurd c_19 (fun q => q rfl)) (fun c_19 => ?_)
  refine pw_iconst (v := 1) dX11_remove_22 rfl ?_
  refine pw_goto (tgt := 27) dX11_remove_23 (by decide) ?_
  refine lp_cV1 (mi' := mX11_goes) (As := [_, _]) (q := (RX11, TX11, 33)) dX11_remove_27 lk_RX11_101 mk_X11_goes mi_X11_goes me_X11_goes ⟨by decide, by decide⟩ rfl rfl (Nat.le_of_ble_eq_true rfl) rfl rfl ⟨rfl, rfl⟩ ⟨Nat.zero_le _, Nat.zero_le _⟩ (r_goes true true) ?_
  refine pw_if_ne 35 dX11_remove_30 (by decide) (fun c_30 => ?_) (fun c_30 => absurd (show (1 : Int32) = 0 from c_30) (by decide))
  refine pw_aload_n dX11_remove_35 rfl ?_
  refine lp_cV0 (mi' := mX11_save) (As := []) (q := (RX11, TX11, 33)) dX11_remove_36 lk_RX11_151 mk_X11_save mi_X11_save me_X11_save ⟨by decide, by decide⟩ rfl rfl (Nat.le_of_ble_eq_true rfl) rfl rfl ⟨rfl, rfl⟩ ⟨Nat.zero_le _, Nat.zero_le _⟩ (r_save m hm hs) ?_
  refine pw_iconst (v := 1) dX11_remove_39 rfl ?_
  refine pw_iconst (v := 4) dX11_remove_40 rfl ?_
  refine pw_iload_n dX11_remove_41 rfl ?_
  refine pw_imul dX11_remove_42 ?_
  refine pw_iadd dX11_remove_43 ?_
  refine pw_istore_n dX11_remove_44 (by decide) ?_
  refine pw_lk [(0, .ref (adr 0)), (2, .int (nI (1 + 4 * i)))] ⟨rfl, congrArg (fun x => some (Value.int x)) e5, trivial⟩ (pw_st ?_ (remove_loop (mSave (sI σ 0 3 0) m) i N hi h30 (σ.2.2.1 1) rfl hN ?_ (117 - (1 + 4 * i)) (1 + 4 * i) (by omega) (Nat.le_refl _)))
  · have e : (fun k => if 1 + 4 * i ≤ k ∧ k < 1 + 4 * i then σ.2.2.1 1 (k + 4) else σ.2.2.1 1 k) = σ.2.2.1 1 := by funext k; rw [if_neg (by omega)]
    rw [e]
    exact (sA_self _ 1).symm
  · rfl
end M4
