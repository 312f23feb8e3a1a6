/-- the class at first -/
def sX0 : St := (fun id j => if id = 10 ∧ j = 3 then -1 else if (id = 88 ∨ id = 93 ∨ id = 112) ∧ j = 2 then -1 else 0, fun _ _ => 0, fun id => if id = 22 ∨ id = 36 ∨ id = 48 ∨ id = 60 ∨ id = 72 ∨ id = 100 then hundred else fun _ => 0, fun _ _ => 0, fun id j => if id = 25 then sl4 26 38 50 62 j else 0)
section XI10
variable {l : Launch} {G : cxG} {L : va_W}
theorem x_init10 (o : Nat) : Spec l G mX10_init [.ref o] (L ++ [(o, .inr (10, [.null, .null, .null, .null, .null, .null, .null, .null, .null, .int 0, .int 0, .null, .null, .null]))]) (fun out => ∃ adr : Nat → Nat, adr 0 = o ∧ out = .inl (none, wp G adr LX L [] sX0)) := by
  refine spec_of (by decide) (Nat.le_of_ble_eq_true rfl) (fun sz => ?_)
  refine pw_aload_n dX10_init_0 rfl ?_
  refine pw_objInit dX10_init_1 oi_RX10 oi_i oi_c (by decide) (Nat.le_of_ble_eq_true rfl) ?_
  refine pw_aload_n dX10_init_4 rfl ?_
  refine pw_new (ci := 9) (fs := [.null, .int 0]) tyX9 tyX9_ok dX10_init_5 rfl inW9 cl_RX10_7 is_RX9 ini_RX9 (fun j hj => match j, hj with | 0, _ => rfl | 1, _ => rfl | j + 2, h => absurd h (by omega)) (Nat.le_of_ble_eq_true rfl) (Nat.le_of_ble_eq_true rfl) (fun q0 => ?_)
  refine pw_kn 1 2 rfl rfl ?_
  refine pw_dup dX10_init_8 rfl ?_
  refine pw_callI (mi' := mX9_init) (As := []) dX10_init_9 lk_RX10_9 mk_X9_init mi_X9_init rfl rfl ⟨by decide, by decide⟩ rfl rfl (Nat.le_of_ble_eq_true rfl) (x_init9  q0) ⟨Nat.le_of_ble_eq_true rfl, Nat.le_of_ble_eq_true rfl⟩ (fun v ws_ h_ => ?_) (fun E ws_ h_ => by obtain ⟨a_, h_⟩ := h_; cases h_)
  obtain ⟨a1, h_⟩ := h_
  cases h_
  refine pw_kn 2 202 rfl rfl ?_
  refine cn_asc (bX9 G q0 a1) ?_
  refine cn_putF dX10_init_12 fp_RX10_10 rfl fk_RX10_10 rfl (Nat.le_of_ble_eq_true rfl) rfl rfl [.ref q0, .null, .null, .null, .null, .null, .null, .null, .null, .int 0, .int 0, .null, .null, .null] rfl ?_
  refine pw_aload_n dX10_init_15 rfl ?_
  refine pw_new (ci := 6) (fs := [.int 0, .null, .null, .null, .null, .null, .null]) tyX6 tyX6_ok dX10_init_16 rfl inW6 cl_RX10_16 is_RX6 ini_RX6 (fun j hj => match j, hj with | 0, _ => rfl | 1, _ => rfl | 2, _ => rfl | 3, _ => rfl | 4, _ => rfl | 5, _ => rfl | 6, _ => rfl | j + 7, h => absurd h (by omega)) (Nat.le_of_ble_eq_true rfl) (Nat.le_of_ble_eq_true rfl) (fun q2 => ?_)
  refine pw_kn 3 209 rfl rfl ?_
  refine pw_dup dX10_init_19 rfl ?_
  refine pw_callI (mi' := mX6_init) (As := []) dX10_init_20 lk_RX10_18 mk_X6_init mi_X6_init rfl rfl ⟨by decide, by decide⟩ rfl rfl (Nat.le_of_ble_eq_true rfl) (x_init6  q2) ⟨Nat.le_of_ble_eq_true rfl, Nat.le_of_ble_eq_true rfl⟩ (fun v ws_ h_ => ?_) (fun E ws_ h_ => by obtain ⟨a_, h_⟩ := h_; cases h_)
  obtain ⟨a3, h_⟩ := h_
  cases h_
  refine pw_kn 9 389 rfl rfl ?_
  refine cn_asc (bX6 G q2 a3) ?_
  refine cn_putF dX10_init_23 fp_RX10_19 rfl fk_RX10_19 rfl (Nat.le_of_ble_eq_true rfl) rfl rfl [.ref q0, .ref q2, .null, .null, .null, .null, .null, .null, .null, .int 0, .int 0, .null, .null, .null] rfl ?_
  refine pw_aload_n dX10_init_26 rfl ?_
  refine pw_new (ci := 4) (fs := [.null, .null, .int 0, .int 0, .int 0, .null]) tyX4 tyX4_ok dX10_init_27 rfl inW4 cl_RX10_23 is_RX4 ini_RX4 (fun j hj => match j, hj with | 0, _ => rfl | 1, _ => rfl | 2, _ => rfl | 3, _ => rfl | 4, _ => rfl | 5, _ => rfl | j + 6, h => absurd h (by omega)) (Nat.le_of_ble_eq_true rfl) (Nat.le_of_ble_eq_true rfl) (fun q4 => ?_)
  refine pw_kn 10 395 rfl rfl ?_
  refine pw_dup dX10_init_30 rfl ?_
  refine pw_aload_n dX10_init_31 rfl ?_
  refine cn_asc [(q4, .inr (4, [.null, .null, .int 0, .int 0, .int 0, .null]))] ?_
  refine cn_get dX10_init_32 fp_RX10_10.FL (v := .ref q0) rfl ?_
  refine cn_csa [(q4, .inr (4, [.null, .null, .int 0, .int 0, .int 0, .null]))] ?_
  refine pw_aload_n dX10_init_35 rfl ?_
  refine cn_asc [(q4, .inr (4, [.null, .null, .int 0, .int 0, .int 0, .null]))] ?_
  refine cn_get dX10_init_36 fp_RX10_19.FL (v := .ref q2) rfl ?_
  refine cn_csa [(q4, .inr (4, [.null, .null, .int 0, .int 0, .int 0, .null]))] ?_
  refine pw_callI (mi' := mX4_init) (As := [.ref q0, .ref q2]) dX10_init_39 lk_RX10_25 mk_X4_init mi_X4_init rfl rfl ⟨by decide, by decide⟩ rfl rfl (Nat.le_of_ble_eq_true rfl) (x_init4 q0 q2 q4) ⟨Nat.le_of_ble_eq_true rfl, Nat.le_of_ble_eq_true rfl⟩ (fun v ws_ h_ => ?_) (fun E ws_ h_ => by obtain ⟨a_, h_⟩ := h_; cases h_)
  obtain ⟨a5, h_⟩ := h_
  cases h_
  refine pw_kn 11 397 rfl rfl ?_
  refine cn_asc (bX4 G q0 q2 q4 a5) ?_
  refine cn_putF dX10_init_42 fp_RX10_28 rfl fk_RX10_28 rfl (Nat.le_of_ble_eq_true rfl) rfl rfl [.ref q0, .ref q2, .ref q4, .null, .null, .null, .null, .null, .null, .int 0, .int 0, .null, .null, .null] rfl ?_
  refine pw_aload_n dX10_init_45 rfl ?_
  refine pw_new (ci := 8) (fs := [.null, .null]) tyX8 tyX8_ok dX10_init_46 rfl inW8 cl_RX10_32 is_RX8 ini_RX8 (fun j hj => match j, hj with | 0, _ => rfl | 1, _ => rfl | j + 2, h => absurd h (by omega)) (Nat.le_of_ble_eq_true rfl) (Nat.le_of_ble_eq_true rfl) (fun q6 => ?_)
  refine pw_kn 12 399 rfl rfl ?_
  refine pw_dup dX10_init_49 rfl ?_
  refine pw_callI (mi' := mX8_init) (As := []) dX10_init_50 lk_RX10_34 mk_X8_init mi_X8_init rfl rfl ⟨by decide, by decide⟩ rfl rfl (Nat.le_of_ble_eq_true rfl) (x_init8  q6) ⟨Nat.le_of_ble_eq_true rfl, Nat.le_of_ble_eq_true rfl⟩ (fun v ws_ h_ => ?_) (fun E ws_ h_ => by obtain ⟨a_, h_⟩ := h_; cases h_)
  obtain ⟨a7, h_⟩ := h_
  cases h_
  refine pw_kn 23 613 rfl rfl ?_
  refine cn_asc (bX8 G q6 a7) ?_
  refine cn_putF dX10_init_53 fp_RX10_35 rfl fk_RX10_35 rfl (Nat.le_of_ble_eq_true rfl) rfl rfl [.ref q0, .ref q2, .ref q4, .ref q6, .null, .null, .null, .null, .null, .int 0, .int 0, .null, .null, .null] rfl ?_
  refine pw_aload_n dX10_init_56 rfl ?_
  refine pw_new (ci := 2) (fs := [.int 0, .null]) tyX2 tyX2_ok dX10_init_57 rfl inW2 cl_RX10_39 is_RX2 ini_RX2 (fun j hj => match j, hj with | 0, _ => rfl | 1, _ => rfl | j + 2, h => absurd h (by omega)) (Nat.le_of_ble_eq_true rfl) (Nat.le_of_ble_eq_true rfl) (fun q8 => ?_)
  refine pw_kn 24 615 rfl rfl ?_
  refine pw_dup dX10_init_60 rfl ?_
  refine pw_callI (mi' := mX2_init) (As := []) dX10_init_61 lk_RX10_41 mk_X2_init mi_X2_init rfl rfl ⟨by decide, by decide⟩ rfl rfl (Nat.le_of_ble_eq_true rfl) (x_init2  q8) ⟨Nat.le_of_ble_eq_true rfl, Nat.le_of_ble_eq_true rfl⟩ (fun v ws_ h_ => ?_) (fun E ws_ h_ => by obtain ⟨a_, h_⟩ := h_; cases h_)
  obtain ⟨a9, h_⟩ := h_
  cases h_
  refine pw_kn 73 1483 rfl rfl ?_
  refine cn_asc (bX2 G q8 a9) ?_
  refine cn_putF dX10_init_64 fp_RX10_42 rfl fk_RX10_42 rfl (Nat.le_of_ble_eq_true rfl) rfl rfl [.ref q0, .ref q2, .ref q4, .ref q6, .ref q8, .null, .null, .null, .null, .int 0, .int 0, .null, .null, .null] rfl ?_
  refine pw_aload_n dX10_init_67 rfl ?_
  refine pw_new (ci := 0) (fs := [.null, .int 0, .int 0, .null, .null, .int 0, .null, .null, .null, .null, .null, .long 0, .long 0]) tyX0 tyX0_ok dX10_init_68 rfl inW0 cl_RX10_46 is_RX0 ini_RX0 (fun j hj => match j, hj with | 0, _ => rfl | 1, _ => rfl | 2, _ => rfl | 3, _ => rfl | 4, _ => rfl | 5, _ => rfl | 6, _ => rfl | 7, _ => rfl | 8, _ => rfl | 9, _ => rfl | 10, _ => rfl | 11, _ => rfl | 12, _ => rfl | j + 13, h => absurd h (by omega)) (Nat.le_of_ble_eq_true rfl) (Nat.le_of_ble_eq_true rfl) (fun q10 => ?_)
  refine pw_kn 74 1496 rfl rfl ?_
  refine pw_dup dX10_init_71 rfl ?_
  refine pw_callI (mi' := mX0_init) (As := []) dX10_init_72 lk_RX10_48 mk_X0_init mi_X0_init rfl rfl ⟨by decide, by decide⟩ rfl rfl (Nat.le_of_ble_eq_true rfl) (x_init0  q10) ⟨Nat.le_of_ble_eq_true rfl, Nat.le_of_ble_eq_true rfl⟩ (fun v ws_ h_ => ?_) (fun E ws_ h_ => by obtain ⟨a_, h_⟩ := h_; cases h_)
  obtain ⟨a11, h_⟩ := h_
  cases h_
  refine pw_kn 83 1666 rfl rfl ?_
  refine cn_asc (bX0 G q10 a11) ?_
  refine cn_putF dX10_init_75 fp_RX10_49 rfl fk_RX10_49 rfl (Nat.le_of_ble_eq_true rfl) rfl rfl [.ref q0, .ref q2, .ref q4, .ref q6, .ref q8, .ref q10, .null, .null, .null, .int 0, .int 0, .null, .null, .null] rfl ?_
  refine pw_aload_n dX10_init_78 rfl ?_
  refine pw_new (ci := 5) (fs := [.null, .null, .null]) tyX5 tyX5_ok dX10_init_79 rfl inW5 cl_RX10_53 is_RX5 ini_RX5 (fun j hj => match j, hj with | 0, _ => rfl | 1, _ => rfl | 2, _ => rfl | j + 3, h => absurd h (by omega)) (Nat.le_of_ble_eq_true rfl) (Nat.le_of_ble_eq_true rfl) (fun q12 => ?_)
  refine pw_kn 84 1669 rfl rfl ?_
  refine pw_dup dX10_init_82 rfl ?_
  refine pw_callI (mi' := mX5_init) (As := []) dX10_init_83 lk_RX10_55 mk_X5_init mi_X5_init rfl rfl ⟨by decide, by decide⟩ rfl rfl (Nat.le_of_ble_eq_true rfl) (x_init5  q12) ⟨Nat.le_of_ble_eq_true rfl, Nat.le_of_ble_eq_true rfl⟩ (fun v ws_ h_ => ?_) (fun E ws_ h_ => by obtain ⟨a_, h_⟩ := h_; cases h_)
  obtain ⟨a13, h_⟩ := h_
  cases h_
  refine pw_kn 87 1759 rfl rfl ?_
  refine cn_asc (bX5 G q12 a13) ?_
  refine cn_putF dX10_init_86 fp_RX10_56 rfl fk_RX10_56 rfl (Nat.le_of_ble_eq_true rfl) rfl rfl [.ref q0, .ref q2, .ref q4, .ref q6, .ref q8, .ref q10, .ref q12, .null, .null, .int 0, .int 0, .null, .null, .null] rfl ?_
  refine pw_aload_n dX10_init_89 rfl ?_
  refine pw_new (ci := 7) (fs := [.null, .null, .int 0, .int 0, .int 0, .null]) tyX7 tyX7_ok dX10_init_90 rfl inW7 cl_RX10_60 is_RX7 ini_RX7 (fun j hj => match j, hj with | 0, _ => rfl | 1, _ => rfl | 2, _ => rfl | 3, _ => rfl | 4, _ => rfl | 5, _ => rfl | j + 6, h => absurd h (by omega)) (Nat.le_of_ble_eq_true rfl) (Nat.le_of_ble_eq_true rfl) (fun q14 => ?_)
  refine pw_kn 88 1765 rfl rfl ?_
  refine pw_dup dX10_init_93 rfl ?_
  refine pw_callI (mi' := mX7_init) (As := []) dX10_init_94 lk_RX10_62 mk_X7_init mi_X7_init rfl rfl ⟨by decide, by decide⟩ rfl rfl (Nat.le_of_ble_eq_true rfl) (x_init7  q14) ⟨Nat.le_of_ble_eq_true rfl, Nat.le_of_ble_eq_true rfl⟩ (fun v ws_ h_ => ?_) (fun E ws_ h_ => by obtain ⟨a_, h_⟩ := h_; cases h_)
  obtain ⟨a15, h_⟩ := h_
  cases h_
  refine pw_kn 92 1807 rfl rfl ?_
  refine cn_asc (bX7 G q14 a15) ?_
  refine cn_putF dX10_init_97 fp_RX10_63 rfl fk_RX10_63 rfl (Nat.le_of_ble_eq_true rfl) rfl rfl [.ref q0, .ref q2, .ref q4, .ref q6, .ref q8, .ref q10, .ref q12, .ref q14, .null, .int 0, .int 0, .null, .null, .null] rfl ?_
  refine pw_aload_n dX10_init_100 rfl ?_
  refine pw_new (ci := 7) (fs := [.null, .null, .int 0, .int 0, .int 0, .null]) tyX7 tyX7_ok dX10_init_101 rfl inW7 cl_RX10_60 is_RX7 ini_RX7 (fun j hj => match j, hj with | 0, _ => rfl | 1, _ => rfl | 2, _ => rfl | 3, _ => rfl | 4, _ => rfl | 5, _ => rfl | j + 6, h => absurd h (by omega)) (Nat.le_of_ble_eq_true rfl) (Nat.le_of_ble_eq_true rfl) (fun q16 => ?_)
  refine pw_kn 93 1813 rfl rfl ?_
  refine pw_dup dX10_init_104 rfl ?_
  refine pw_callI (mi' := mX7_init) (As := []) dX10_init_105 lk_RX10_62 mk_X7_init mi_X7_init rfl rfl ⟨by decide, by decide⟩ rfl rfl (Nat.le_of_ble_eq_true rfl) (x_init7  q16) ⟨Nat.le_of_ble_eq_true rfl, Nat.le_of_ble_eq_true rfl⟩ (fun v ws_ h_ => ?_) (fun E ws_ h_ => by obtain ⟨a_, h_⟩ := h_; cases h_)
  obtain ⟨a17, h_⟩ := h_
  cases h_
  refine pw_kn 97 1855 rfl rfl ?_
  refine cn_asc (bX7 G q16 a17) ?_
  refine cn_putF dX10_init_108 fp_RX10_67 rfl fk_RX10_67 rfl (Nat.le_of_ble_eq_true rfl) rfl rfl [.ref q0, .ref q2, .ref q4, .ref q6, .ref q8, .ref q10, .ref q12, .ref q14, .ref q16, .int 0, .int 0, .null, .null, .null] rfl ?_
  refine pw_aload_n dX10_init_111 rfl ?_
  refine pw_iconst (v := 0) dX10_init_112 rfl ?_
  refine cn_put dX10_init_113 fp_RX10_70 (Nat.le_of_ble_eq_true rfl) rfl rfl [.ref q0, .ref q2, .ref q4, .ref q6, .ref q8, .ref q10, .ref q12, .ref q14, .ref q16, .int 0, .int 0, .null, .null, .null] rfl ?_
  refine pw_aload_n dX10_init_116 rfl ?_
  refine pw_iconst (v := 0) dX10_init_117 rfl ?_
  refine cn_put dX10_init_118 fp_RX10_74 (Nat.le_of_ble_eq_true rfl) rfl rfl [.ref q0, .ref q2, .ref q4, .ref q6, .ref q8, .ref q10, .ref q12, .ref q14, .ref q16, .int 0, .int 0, .null, .null, .null] rfl ?_
  refine pw_aload_n dX10_init_121 rfl ?_
  refine pw_new (ci := 3) (fs := [.null, .null, .null]) tyX3 tyX3_ok dX10_init_122 rfl inW3 cl_RX10_77 is_RX3 ini_RX3 (fun j hj => match j, hj with | 0, _ => rfl | 1, _ => rfl | 2, _ => rfl | j + 3, h => absurd h (by omega)) (Nat.le_of_ble_eq_true rfl) (Nat.le_of_ble_eq_true rfl) (fun q18 => ?_)
  refine pw_kn 98 1858 rfl rfl ?_
  refine pw_dup dX10_init_125 rfl ?_
  refine pw_callI (mi' := mX3_init) (As := []) dX10_init_126 lk_RX10_79 mk_X3_init mi_X3_init rfl rfl ⟨by decide, by decide⟩ rfl rfl (Nat.le_of_ble_eq_true rfl) (x_init3  q18) ⟨Nat.le_of_ble_eq_true rfl, Nat.le_of_ble_eq_true rfl⟩ (fun v ws_ h_ => ?_) (fun E ws_ h_ => by obtain ⟨a_, h_⟩ := h_; cases h_)
  obtain ⟨a19, h_⟩ := h_
  cases h_
  refine pw_kn 101 1882 rfl rfl ?_
  refine cn_asc (bX3 G q18 a19) ?_
  refine cn_putF dX10_init_129 fp_RX10_80 rfl fk_RX10_80 rfl (Nat.le_of_ble_eq_true rfl) rfl rfl [.ref q0, .ref q2, .ref q4, .ref q6, .ref q8, .ref q10, .ref q12, .ref q14, .ref q16, .int 0, .int 0, .ref q18, .null, .null] rfl ?_
  refine pw_aload_n dX10_init_132 rfl ?_
  refine pw_new (ci := 0) (fs := [.null, .int 0, .int 0, .null, .null, .int 0, .null, .null, .null, .null, .null, .long 0, .long 0]) tyX0 tyX0_ok dX10_init_133 rfl inW0 cl_RX10_46 is_RX0 ini_RX0 (fun j hj => match j, hj with | 0, _ => rfl | 1, _ => rfl | 2, _ => rfl | 3, _ => rfl | 4, _ => rfl | 5, _ => rfl | 6, _ => rfl | 7, _ => rfl | 8, _ => rfl | 9, _ => rfl | 10, _ => rfl | 11, _ => rfl | 12, _ => rfl | j + 13, h => absurd h (by omega)) (Nat.le_of_ble_eq_true rfl) (Nat.le_of_ble_eq_true rfl) (fun q20 => ?_)
  refine pw_kn 102 1895 rfl rfl ?_
  refine pw_dup dX10_init_136 rfl ?_
  refine pw_callI (mi' := mX0_init) (As := []) dX10_init_137 lk_RX10_48 mk_X0_init mi_X0_init rfl rfl ⟨by decide, by decide⟩ rfl rfl (Nat.le_of_ble_eq_true rfl) (x_init0  q20) ⟨Nat.le_of_ble_eq_true rfl, Nat.le_of_ble_eq_true rfl⟩ (fun v ws_ h_ => ?_) (fun E ws_ h_ => by obtain ⟨a_, h_⟩ := h_; cases h_)
  obtain ⟨a21, h_⟩ := h_
  cases h_
  refine pw_kn 111 2065 rfl rfl ?_
  refine cn_asc (bX0 G q20 a21) ?_
  refine cn_putF dX10_init_140 fp_RX10_84 rfl fk_RX10_84 rfl (Nat.le_of_ble_eq_true rfl) rfl rfl [.ref q0, .ref q2, .ref q4, .ref q6, .ref q8, .ref q10, .ref q12, .ref q14, .ref q16, .int 0, .int 0, .ref q18, .ref q20, .null] rfl ?_
  refine pw_aload_n dX10_init_143 rfl ?_
  refine pw_new (ci := 7) (fs := [.null, .null, .int 0, .int 0, .int 0, .null]) tyX7 tyX7_ok dX10_init_144 rfl inW7 cl_RX10_60 is_RX7 ini_RX7 (fun j hj => match j, hj with | 0, _ => rfl | 1, _ => rfl | 2, _ => rfl | 3, _ => rfl | 4, _ => rfl | 5, _ => rfl | j + 6, h => absurd h (by omega)) (Nat.le_of_ble_eq_true rfl) (Nat.le_of_ble_eq_true rfl) (fun q22 => ?_)
  refine pw_kn 112 2071 rfl rfl ?_
  refine pw_dup dX10_init_147 rfl ?_
  refine pw_callI (mi' := mX7_init) (As := []) dX10_init_148 lk_RX10_62 mk_X7_init mi_X7_init rfl rfl ⟨by decide, by decide⟩ rfl rfl (Nat.le_of_ble_eq_true rfl) (x_init7  q22) ⟨Nat.le_of_ble_eq_true rfl, Nat.le_of_ble_eq_true rfl⟩ (fun v ws_ h_ => ?_) (fun E ws_ h_ => by obtain ⟨a_, h_⟩ := h_; cases h_)
  obtain ⟨a23, h_⟩ := h_
  cases h_
  refine pw_kn 116 2113 rfl rfl ?_
  refine cn_asc (bX7 G q22 a23) ?_
  refine cn_putF dX10_init_151 fp_RX10_87 rfl fk_RX10_87 rfl (Nat.le_of_ble_eq_true rfl) rfl rfl [.ref q0, .ref q2, .ref q4, .ref q6, .ref q8, .ref q10, .ref q12, .ref q14, .ref q16, .int 0, .int 0, .ref q18, .ref q20, .ref q22] rfl ?_
  obtain ⟨adr, hadr⟩ : ∃ adr : Nat → Nat, adr = (fun i => ([o, q0, a1 0, q2, a3 0, a3 1, a3 2, a3 3, a3 4, a3 5, q4, a5 0, q6, a7 0, a7 1, a7 2, a7 3, a7 4, a7 5, a7 6, a7 7, a7 8, a7 9, a7 10, q8, a9 0, a9 1, a9 2, a9 3, a9 4, a9 5, a9 6, a9 7, a9 8, a9 9, a9 10, a9 11, a9 12, a9 13, a9 14, a9 15, a9 16, a9 17, a9 18, a9 19, a9 20, a9 21, a9 22, a9 23, a9 24, a9 25, a9 26, a9 27, a9 28, a9 29, a9 30, a9 31, a9 32, a9 33, a9 34, a9 35, a9 36, a9 37, a9 38, a9 39, a9 40, a9 41, a9 42, a9 43, a9 44, a9 45, a9 46, a9 47, a9 48, q10, a11 0, a11 1, a11 2, a11 3, a11 4, a11 5, a11 6, a11 7, a11 8, q12, a13 0, a13 1, a13 2, q14, a15 0, a15 1, a15 2, a15 3, q16, a17 0, a17 1, a17 2, a17 3, q18, a19 0, a19 1, a19 2, q20, a21 0, a21 1, a21 2, a21 3, a21 4, a21 5, a21 6, a21 7, a21 8, q22, a23 0, a23 1, a23 2, a23 3] : List Nat).getD i 0) := ⟨_, rfl⟩
  have e4 : (fun j => some (adr (sl4 26 38 50 62 j))) = (fun j => some (sl4 (adr 26) (adr 38) (adr 50) (adr 62) j)) := by
    funext j
    unfold sl4
    split
    · rfl
    · split
      · rfl
      · split <;> rfl
  have e2 : wp G adr LX L [] sX0 = L ++ (cellsE G adr LX sX0 (LX.1.take 25) 0 ++ ((adr 25, .inl (G.2.2.2.2, 4, .inr (.inr (.inr (.inr (fun j => some (adr (sl4 26 38 50 62 j)))))))) :: (cellsE G adr LX sX0 (LX.1.drop 26) 26 ++ []))) := rfl
  rw [e4] at e2
  exact pw_vret rfl dX10_init_154 (Nat.le_of_ble_eq_true rfl) (Nat.le_of_ble_eq_true rfl) ⟨adr, by rw [hadr]; rfl, by rw [e2]; subst hadr; rfl⟩
end XI10
