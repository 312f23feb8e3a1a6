/-! THE CLASS: frames of states, small methods -/
def Fr (lo hi : Nat) (σ σ' : St) : Prop := ∀ id, id < lo ∨ hi ≤ id → σ'.1 id = σ.1 id ∧ σ'.2.1 id = σ.2.1 id ∧ σ'.2.2.1 id = σ.2.2.1 id ∧ σ'.2.2.2.1 id = σ.2.2.2.1 id ∧ σ'.2.2.2.2 id = σ.2.2.2.2 id
section FrS
variable {lo hi : Nat} {σ τ ρ : St}
theorem Fr.rf : Fr lo hi σ σ := fun _ _ => ⟨rfl, rfl, rfl, rfl, rfl⟩
theorem Fr.tr (h1 : Fr lo hi σ τ) (h2 : Fr lo hi τ ρ) : Fr lo hi σ ρ := fun i hi => by
  obtain ⟨a, b, c, d, e⟩ := h1 i hi
  obtain ⟨a', b', c', d', e'⟩ := h2 i hi
  exact ⟨a'.trans a, b'.trans b, c'.trans c, d'.trans d, e'.trans e⟩
theorem Fr.mono {lo' hi' : Nat} (h : Fr lo hi σ τ) (h1 : lo' ≤ lo) (h2 : hi ≤ hi') : Fr lo' hi' σ τ := fun i hi => h i (by omega)
theorem Fr.I {id j : Nat} {x : Int32} (h : Fr lo hi σ τ) (h1 : lo ≤ id) (h2 : id < hi) : Fr lo hi σ (sI τ id j x) := fun i hi => by
  obtain ⟨a, b, c, d, e⟩ := h i hi
  refine ⟨?_, b, c, d, e⟩
  rw [← a]; funext q
  show (if i = id ∧ q = j then x else τ.1 i q) = _
  rw [if_neg (by omega)]
theorem Fr.J {id j : Nat} {x : Int64} (h : Fr lo hi σ τ) (h1 : lo ≤ id) (h2 : id < hi) : Fr lo hi σ (sJ τ id j x) := fun i hi => by
  obtain ⟨a, b, c, d, e⟩ := h i hi
  refine ⟨a, ?_, c, d, e⟩
  rw [← b]; funext q
  show (if i = id ∧ q = j then x else τ.2.1 i q) = _
  rw [if_neg (by omega)]
theorem Fr.A {id : Nat} {f : Nat → Int32} (h : Fr lo hi σ τ) (h1 : lo ≤ id) (h2 : id < hi) : Fr lo hi σ (sA τ id f) := fun i hi => by
  obtain ⟨a, b, c, d, e⟩ := h i hi
  refine ⟨a, b, ?_, d, e⟩
  rw [← c]
  show (if i = id then f else τ.2.2.1 i) = _
  rw [if_neg (by omega)]
theorem Fr.L {id : Nat} {f : Nat → Int64} (h : Fr lo hi σ τ) (h1 : lo ≤ id) (h2 : id < hi) : Fr lo hi σ (sL τ id f) := fun i hi => by
  obtain ⟨a, b, c, d, e⟩ := h i hi
  refine ⟨a, b, c, ?_, e⟩
  rw [← d]
  show (if i = id then f else τ.2.2.2.1 i) = _
  rw [if_neg (by omega)]
theorem gI {id j : Nat} {x : Int32} : (sI σ id j x).1 id j = x := if_pos ⟨rfl, rfl⟩
theorem gI' {id j a b : Nat} {x : Int32} (h : ¬ (a = id ∧ b = j)) : (sI σ id j x).1 a b = σ.1 a b := if_neg h
theorem gA {id : Nat} {f : Nat → Int32} : (sA σ id f).2.2.1 id = f := if_pos rfl
theorem gA' {id a : Nat} {f : Nat → Int32} (h : ¬ a = id) : (sA σ id f).2.2.1 a = σ.2.2.1 a := if_neg h
theorem gL {id : Nat} {f : Nat → Int64} : (sL σ id f).2.2.2.1 id = f := if_pos rfl
theorem gL' {id a : Nat} {f : Nat → Int64} (h : ¬ a = id) : (sL σ id f).2.2.2.1 a = σ.2.2.2.1 a := if_neg h
theorem cpy_in {f g : Nat → Int32} {n j : Nat} (h : j < n) : va_cpy f g 0 0 n j = f j := by
  unfold va_cpy; rw [if_pos ⟨Nat.zero_le _, by omega⟩]; congr 1; omega
end FrS
abbrev sIAE : String := "java/lang/IllegalArgumentException"
abbrev sISE : String := "java/lang/IllegalStateException"
abbrev sIOB : String := "java/lang/IndexOutOfBoundsException"
/-- the tests of arguments where they don't throw: nothing is made -/
abbrev mX10_requireVariable0 : MI := (yX10_requireVariable, cX10_requireVariable, 1, none, { frames := 6, cells := 0, slots := 0, locals := 90 })
abbrev mX10_requireOrder0 : MI := (yX10_requireOrder, cX10_requireOrder, 2, none, { frames := 6, cells := 0, slots := 0, locals := 90 })
abbrev mX10_requireInstruction0 : MI := (yX10_requireInstruction, cX10_requireInstruction, 2, none, { frames := 6, cells := 0, slots := 0, locals := 90 })
abbrev mX10_requireNoLoopEdge0 : MI := (yX10_requireNoLoopEdge, cX10_requireNoLoopEdge, 2, none, { frames := 6, cells := 0, slots := 0, locals := 90 })
section XA
variable {l : Launch} {G : cxG} {adr : Nat → Nat} {Lf Rt : va_W} {σ : St}
theorem x_reqV (v : Int32) (h : 0 ≤ v ∧ v < 8) (ws : va_W) : SpecD l G mX10_requireVariable0 [.int v] ws none ws := by
  refine spec_of (by decide) (Nat.le_of_ble_eq_true rfl) (fun sz => ?_)
  refine pw_iload_n dX10_requireVariable_0 rfl ?_
  refine pw_if_lt 10 dX10_requireVariable_1 (by decide) (fun c_1 => absurd c_1 (Int32.not_lt.mpr h.1)) (fun c_1 => ?_)
  refine pw_iload_n dX10_requireVariable_4 rfl ?_
  refine pw_bipush (v := 8) dX10_requireVariable_5 rfl ?_
  refine pw_icmp_lt 21 dX10_requireVariable_7 (by decide) (fun c_7 => ?_) (fun c_7 => absurd h.2 c_7)
  exact pw_vret rfl dX10_requireVariable_21 (Nat.zero_le _) (Nat.zero_le _) rfl
theorem x_reqV_t (hl : l.stackTraces = false) (v : Int32) (h : ¬ (0 ≤ v ∧ v < 8)) (ws : va_W) : SpecT l G mX10_requireVariable [.int v] ws sIOB ws := by
  refine spec_of (by decide) (Nat.le_of_ble_eq_true rfl) (fun sz => ?_)
  refine pw_iload_n dX10_requireVariable_0 rfl ?_
  refine pw_if_lt 10 dX10_requireVariable_1 (by decide) (fun c_1 => ?_) (fun c_1 => ?_)
  · exact tx_RX10_IOB_289 hl dX10_requireVariable_10 dX10_requireVariable_13 dX10_requireVariable_14 dX10_requireVariable_17 dX10_requireVariable_20 (by decide) (Nat.le_of_ble_eq_true rfl) (Nat.le_of_ble_eq_true rfl) (Nat.le_of_ble_eq_true rfl) rfl
  · refine pw_iload_n dX10_requireVariable_4 rfl ?_
    refine pw_bipush (v := 8) dX10_requireVariable_5 rfl ?_
    refine pw_icmp_lt 21 dX10_requireVariable_7 (by decide) (fun c_7 => absurd ⟨Int32.not_lt.mp c_1, c_7⟩ h) (fun c_7 => ?_)
    exact tx_RX10_IOB_289 hl dX10_requireVariable_10 dX10_requireVariable_13 dX10_requireVariable_14 dX10_requireVariable_17 dX10_requireVariable_20 (by decide) (Nat.le_of_ble_eq_true rfl) (Nat.le_of_ble_eq_true rfl) (Nat.le_of_ble_eq_true rfl) rfl
theorem x_reqO (a b : Int32) (h : a ≤ b) (ws : va_W) : SpecD l G mX10_requireOrder0 [.int a, .int b] ws none ws := by
  refine spec_of (by decide) (Nat.le_of_ble_eq_true rfl) (fun sz => ?_)
  refine pw_iload_n dX10_requireOrder_0 rfl ?_
  refine pw_iload_n dX10_requireOrder_1 rfl ?_
  refine pw_icmp_le 16 dX10_requireOrder_2 (by decide) (fun c_2 => ?_) (fun c_2 => absurd h c_2)
  exact pw_vret rfl dX10_requireOrder_16 (Nat.zero_le _) (Nat.zero_le _) rfl
theorem x_reqO_t (hl : l.stackTraces = false) (a b : Int32) (h : ¬ a ≤ b) (ws : va_W) : SpecT l G mX10_requireOrder [.int a, .int b] ws sIAE ws := by
  refine spec_of (by decide) (Nat.le_of_ble_eq_true rfl) (fun sz => ?_)
  refine pw_iload_n dX10_requireOrder_0 rfl ?_
  refine pw_iload_n dX10_requireOrder_1 rfl ?_
  refine pw_icmp_le 16 dX10_requireOrder_2 (by decide) (fun c_2 => absurd c_2 h) (fun c_2 => ?_)
  exact tx_RX10_IAE_292 hl dX10_requireOrder_5 dX10_requireOrder_8 dX10_requireOrder_9 dX10_requireOrder_12 dX10_requireOrder_15 (by decide) (Nat.le_of_ble_eq_true rfl) (Nat.le_of_ble_eq_true rfl) (Nat.le_of_ble_eq_true rfl) rfl
theorem x_reqI (i : Int32) (h : 0 ≤ i ∧ i < σ.1 13 0) : SpecD l G mX10_requireInstruction0 [.ref (adr 0), .int i] (wp G adr LX Lf Rt σ) none (wp G adr LX Lf Rt σ) := by
  refine spec_of (by decide) (Nat.le_of_ble_eq_true rfl) (fun sz => ?_)
  refine pw_iload_n dX10_requireInstruction_0 rfl ?_
  refine pw_if_lt 18 dX10_requireInstruction_1 (by decide) (fun c_1 => absurd c_1 (Int32.not_lt.mpr h.1)) (fun c_1 => ?_)
  refine pw_iload_n dX10_requireInstruction_4 rfl ?_
  refine pw_aload_n dX10_requireInstruction_5 rfl ?_
  refine lp_getr 12 dX10_requireInstruction_6 fp_RX10_35.FL rfl rfl rfl ?_
  refine lp_getr 13 dX10_requireInstruction_9 fp_RX10_117.FL rfl rfl rfl ?_
  refine lp_geti dX10_requireInstruction_12 fp_RX10_124.FL rfl rfl ?_
  refine pw_icmp_lt 29 dX10_requireInstruction_15 (by decide) (fun c_15 => ?_) (fun c_15 => absurd h.2 c_15)
  exact pw_vret rfl dX10_requireInstruction_29 (Nat.zero_le _) (Nat.zero_le _) rfl
theorem x_reqI_t (hl : l.stackTraces = false) (i : Int32) (h : ¬ (0 ≤ i ∧ i < σ.1 13 0)) : SpecT l G mX10_requireInstruction [.ref (adr 0), .int i] (wp G adr LX Lf Rt σ) sIOB (wp G adr LX Lf Rt σ) := by
  refine spec_of (by decide) (Nat.le_of_ble_eq_true rfl) (fun sz => ?_)
  refine pw_iload_n dX10_requireInstruction_0 rfl ?_
  refine pw_if_lt 18 dX10_requireInstruction_1 (by decide) (fun c_1 => ?_) (fun c_1 => ?_)
  · exact tx_RX10_IOB_294 hl dX10_requireInstruction_18 dX10_requireInstruction_21 dX10_requireInstruction_22 dX10_requireInstruction_25 dX10_requireInstruction_28 (by decide) (Nat.le_of_ble_eq_true rfl) (Nat.le_of_ble_eq_true rfl) (Nat.le_of_ble_eq_true rfl) rfl
  · refine pw_iload_n dX10_requireInstruction_4 rfl ?_
    refine pw_aload_n dX10_requireInstruction_5 rfl ?_
    refine lp_getr 12 dX10_requireInstruction_6 fp_RX10_35.FL rfl rfl rfl ?_
    refine lp_getr 13 dX10_requireInstruction_9 fp_RX10_117.FL rfl rfl rfl ?_
    refine lp_geti dX10_requireInstruction_12 fp_RX10_124.FL rfl rfl ?_
    refine pw_icmp_lt 29 dX10_requireInstruction_15 (by decide) (fun c_15 => absurd ⟨Int32.not_lt.mp c_1, c_15⟩ h) (fun c_15 => ?_)
    exact tx_RX10_IOB_294 hl dX10_requireInstruction_18 dX10_requireInstruction_21 dX10_requireInstruction_22 dX10_requireInstruction_25 dX10_requireInstruction_28 (by decide) (Nat.le_of_ble_eq_true rfl) (Nat.le_of_ble_eq_true rfl) (Nat.le_of_ble_eq_true rfl) rfl
theorem x_Tadd (v : Int32) (tl : Nat) (ht : tl < 200) (h : σ.1 1 1 = nI tl) : SpecD l G mX9_add [.ref (adr 1), .int v] (wp G adr LX Lf Rt σ) none (wp G adr LX Lf Rt (sI (sA σ 2 (upd (σ.2.2.1 2) tl v)) 1 1 (nI (tl + 1)))) := by
  refine spec_of (by decide) (Nat.le_of_ble_eq_true rfl) (fun sz => ?_)
  have e1 : σ.1 1 1 + 1 = nI (tl + 1) := by rw [h]; exact nI_1 tl
  have e2 : (σ.1 1 1).toNatClampNeg = tl := by rw [h]; exact nI_clamp (by omega)
  refine pw_aload_n dX9_add_0 rfl ?_
  refine lp_geti dX9_add_1 fp_RX9_15.FL rfl rfl ?_
  refine pw_sipush (v := 200) dX9_add_4 rfl ?_
  refine pw_icmp_ge 30 dX9_add_7 (by decide) (fun c_7 => absurd c_7 (by rw [h]; exact nI_ge (a := tl) (b := 200) ht (by decide))) (fun c_7 => ?_)
  refine pw_aload_n dX9_add_10 rfl ?_
  refine lp_getr 2 dX9_add_11 fp_RX9_9.FL rfl rfl rfl ?_
  refine pw_aload_n dX9_add_14 rfl ?_
  refine lp_geti dX9_add_15 fp_RX9_15.FL rfl rfl ?_
  refine pw_iload_n dX9_add_18 rfl ?_
  refine lp_iast dX9_add_19 rfl (by show vp_in (σ.1 1 1) 200; rw [h]; exact vp_in_nI ht (by decide)) ?_
  refine pw_aload_n dX9_add_20 rfl ?_
  refine pw_dup dX9_add_21 rfl ?_
  refine lp_geti dX9_add_22 fp_RX9_15.FL rfl rfl ?_
  refine pw_iconst (v := 1) dX9_add_25 rfl ?_
  refine pw_iadd dX9_add_26 ?_
  refine lp_puti dX9_add_27 fp_RX9_15 rfl rfl rfl rfl ?_
  exact pw_vret rfl dX9_add_30 (Nat.zero_le _) (Nat.zero_le _) (by rw [← e1, ← e2]; rfl)
theorem x_append (v : Int32) (tl : Nat) (hv : 0 ≤ v ∧ v ≤ 127) (ht : tl < 200) (h : σ.1 1 1 = nI tl) : SpecD l G mX10_append [.ref (adr 0), .int v] (wp G adr LX Lf Rt σ) (some (.int (nI (tl + 1)))) (wp G adr LX Lf Rt (sI (sA σ 2 (upd (σ.2.2.1 2) tl v)) 1 1 (nI (tl + 1)))) := by
  refine spec_of (by decide) (Nat.le_of_ble_eq_true rfl) (fun sz => ?_)
  refine pw_iload_n dX10_append_0 rfl ?_
  refine pw_if_lt 10 dX10_append_1 (by decide) (fun c_1 => absurd c_1 (Int32.not_lt.mpr hv.1)) (fun c_1 => ?_)
  refine pw_iload_n dX10_append_4 rfl ?_
  refine pw_bipush (v := 127) dX10_append_5 rfl ?_
  refine pw_icmp_le 20 dX10_append_7 (by decide) (fun c_7 => ?_) (fun c_7 => absurd hv.2 c_7)
  refine pw_aload_n dX10_append_20 rfl ?_
  refine lp_getr 1 dX10_append_21 fp_RX10_10.FL rfl rfl rfl ?_
  refine lp_geti dX10_append_24 fp_RX10_97.FL rfl rfl ?_
  refine pw_sipush (v := 200) dX10_append_27 rfl ?_
  refine pw_icmp_lt 43 dX10_append_30 (by decide) (fun c_30 => ?_) (fun c_30 => absurd (show σ.1 1 1 < 200 by rw [h]; exact nI_lt (a := tl) (b := 200) ht (by decide)) c_30)
  refine pw_aload_n dX10_append_43 rfl ?_
  refine lp_getr 1 dX10_append_44 fp_RX10_10.FL rfl rfl rfl ?_
  refine pw_iload_n dX10_append_47 rfl ?_
  refine lp_cV0 (mi' := mX9_add) (As := [_]) (q := (RX9, TX9, 2)) dX10_append_48 lk_RX10_106 mk_X9_add mi_X9_add me_X9_add ⟨by decide, by decide⟩ rfl rfl (Nat.le_of_ble_eq_true rfl) rfl rfl ⟨rfl, rfl⟩ ⟨Nat.zero_le _, Nat.zero_le _⟩ (x_Tadd v tl ht h) ?_
  refine pw_aload_n dX10_append_51 rfl ?_
  refine lp_getr 1 dX10_append_52 fp_RX10_10.FL rfl rfl rfl ?_
  refine lp_geti dX10_append_55 fp_RX10_97.FL rfl rfl ?_
  exact pw_iret rfl rfl dX10_append_58 (Nat.zero_le _) (Nat.zero_le _) rfl
theorem x_append_t1 (hl : l.stackTraces = false) (v : Int32) (hv : ¬ (0 ≤ v ∧ v ≤ 127)) : SpecT l G mX10_append [.ref (adr 0), .int v] (wp G adr LX Lf Rt σ) sIAE (wp G adr LX Lf Rt σ) := by
  refine spec_of (by decide) (Nat.le_of_ble_eq_true rfl) (fun sz => ?_)
  refine pw_iload_n dX10_append_0 rfl ?_
  refine pw_if_lt 10 dX10_append_1 (by decide) (fun c_1 => ?_) (fun c_1 => ?_)
  · exact tx_RX10_IAE_92 hl dX10_append_10 dX10_append_13 dX10_append_14 dX10_append_16 dX10_append_19 (by decide) (Nat.le_of_ble_eq_true rfl) (Nat.le_of_ble_eq_true rfl) (Nat.le_of_ble_eq_true rfl) rfl
  · refine pw_iload_n dX10_append_4 rfl ?_
    refine pw_bipush (v := 127) dX10_append_5 rfl ?_
    refine pw_icmp_le 20 dX10_append_7 (by decide) (fun c_7 => absurd ⟨Int32.not_lt.mp c_1, c_7⟩ hv) (fun c_7 => ?_)
    exact tx_RX10_IAE_92 hl dX10_append_10 dX10_append_13 dX10_append_14 dX10_append_16 dX10_append_19 (by decide) (Nat.le_of_ble_eq_true rfl) (Nat.le_of_ble_eq_true rfl) (Nat.le_of_ble_eq_true rfl) rfl
theorem x_append_t2 (hl : l.stackTraces = false) (v : Int32) (hv : 0 ≤ v ∧ v ≤ 127) (h : ¬ σ.1 1 1 < 200) : SpecT l G mX10_append [.ref (adr 0), .int v] (wp G adr LX Lf Rt σ) sISE (wp G adr LX Lf Rt σ) := by
  refine spec_of (by decide) (Nat.le_of_ble_eq_true rfl) (fun sz => ?_)
  refine pw_iload_n dX10_append_0 rfl ?_
  refine pw_if_lt 10 dX10_append_1 (by decide) (fun c_1 => absurd c_1 (Int32.not_lt.mpr hv.1)) (fun c_1 => ?_)
  refine pw_iload_n dX10_append_4 rfl ?_
  refine pw_bipush (v := 127) dX10_append_5 rfl ?_
  refine pw_icmp_le 20 dX10_append_7 (by decide) (fun c_7 => ?_) (fun c_7 => absurd hv.2 c_7)
  refine pw_aload_n dX10_append_20 rfl ?_
  refine lp_getr 1 dX10_append_21 fp_RX10_10.FL rfl rfl rfl ?_
  refine lp_geti dX10_append_24 fp_RX10_97.FL rfl rfl ?_
  refine pw_sipush (v := 200) dX10_append_27 rfl ?_
  refine pw_icmp_lt 43 dX10_append_30 (by decide) (fun c_30 => absurd c_30 h) (fun c_30 => ?_)
  exact tx_RX10_ISE_103 hl dX10_append_33 dX10_append_36 dX10_append_37 dX10_append_39 dX10_append_42 (by decide) (Nat.le_of_ble_eq_true rfl) (Nat.le_of_ble_eq_true rfl) (Nat.le_of_ble_eq_true rfl) rfl
theorem x_clearText : SpecD l G mX10_clearText [.ref (adr 0)] (wp G adr LX Lf Rt σ) (some (.int (σ.1 1 1))) (wp G adr LX Lf Rt (sI σ 1 1 0)) := by
  refine spec_of (by decide) (Nat.le_of_ble_eq_true rfl) (fun sz => ?_)
  refine pw_aload_n dX10_clearText_0 rfl ?_
  refine lp_getr 1 dX10_clearText_1 fp_RX10_10.FL rfl rfl rfl ?_
  refine lp_geti dX10_clearText_4 fp_RX10_97.FL rfl rfl ?_
  refine pw_istore_n dX10_clearText_7 (by decide) ?_
  refine pw_aload_n dX10_clearText_8 rfl ?_
  refine lp_getr 1 dX10_clearText_9 fp_RX10_10.FL rfl rfl rfl ?_
  refine pw_iconst (v := 0) dX10_clearText_12 rfl ?_
  refine lp_puti dX10_clearText_13 fp_RX10_97 rfl rfl rfl rfl ?_
  refine pw_iload_n dX10_clearText_16 rfl ?_
  exact pw_iret rfl rfl dX10_clearText_17 (Nat.zero_le _) (Nat.zero_le _) rfl
theorem x_instructions : SpecD l G mX10_instructions [.ref (adr 0)] (wp G adr LX Lf Rt σ) (some (.int (σ.1 13 0))) (wp G adr LX Lf Rt σ) := by
  refine spec_of (by decide) (Nat.le_of_ble_eq_true rfl) (fun sz => ?_)
  refine pw_aload_n dX10_instructions_0 rfl ?_
  refine lp_getr 12 dX10_instructions_1 fp_RX10_35.FL rfl rfl rfl ?_
  refine lp_getr 13 dX10_instructions_4 fp_RX10_117.FL rfl rfl rfl ?_
  refine lp_geti dX10_instructions_7 fp_RX10_124.FL rfl rfl ?_
  exact pw_iret rfl rfl dX10_instructions_10 (Nat.zero_le _) (Nat.zero_le _) rfl
theorem x_forget : SpecD l G mX10_forgetAnswers [.ref (adr 0)] (wp G adr LX Lf Rt σ) none (wp G adr LX Lf Rt (sI (sI σ 0 9 0) 0 10 0)) := by
  refine spec_of (by decide) (Nat.le_of_ble_eq_true rfl) (fun sz => ?_)
  refine pw_aload_n dX10_forgetAnswers_0 rfl ?_
  refine pw_iconst (v := 0) dX10_forgetAnswers_1 rfl ?_
  refine lp_puti dX10_forgetAnswers_2 fp_RX10_70 rfl rfl rfl rfl ?_
  refine pw_aload_n dX10_forgetAnswers_5 rfl ?_
  refine pw_iconst (v := 0) dX10_forgetAnswers_6 rfl ?_
  refine lp_puti dX10_forgetAnswers_7 fp_RX10_74 rfl rfl rfl rfl ?_
  exact pw_vret rfl dX10_forgetAnswers_10 (Nat.zero_le _) (Nat.zero_le _) rfl
/-- what a copied program holds -/
def PEq (σ : St) (a : Nat) (σ' : St) (b n : Nat) : Prop := σ'.1 b 0 = σ.1 a 0 ∧ ∀ j, j < n → σ'.2.2.1 (b + 1) j = σ.2.2.1 (a + 1) j ∧ σ'.2.2.1 (b + 2) j = σ.2.2.1 (a + 2) j ∧ σ'.2.2.1 (b + 3) j = σ.2.2.1 (a + 3) j ∧ σ'.2.2.1 (b + 4) j = σ.2.2.1 (a + 4) j ∧ σ'.2.2.1 (b + 5) j = σ.2.2.1 (a + 5) j ∧ σ'.2.2.1 (b + 6) j = σ.2.2.1 (a + 6) j
def IEq (σ : St) (a : Nat) (σ' : St) (b : Nat) : Prop := ∀ j, j < 8 → σ'.2.2.1 (b + 1) j = σ.2.2.1 (a + 1) j ∧ σ'.2.2.1 (b + 2) j = σ.2.2.1 (a + 2) j ∧ σ'.2.2.1 (b + 3) j = σ.2.2.1 (a + 3) j
theorem x_Pcopy {a b n : Nat} (ha : LX.1[a]? = some (.inl 6)) (hb : LX.1[b]? = some (.inl 6)) (hab : a + 7 ≤ b ∨ b + 7 ≤ a) (hn : n ≤ 30) (h0 : σ.1 a 0 = nI n) : SpR0 l G mX6_copyFrom [.ref (adr b), .ref (adr a)] adr LX Lf Rt σ (fun σ' => Fr b (b + 7) σ σ' ∧ PEq σ a σ' b n) := by
  refine spec_of (by decide) (Nat.le_of_ble_eq_true rfl) (fun sz => ?_)
  have hc : ¬ nI n < 0 := Int32.not_lt.mpr (nI_pos' (by omega))
  have hcl : (nI n).toNatClampNeg = n := nI_clamp (by omega)
  refine pw_aload_n dX6_copyFrom_0 rfl ?_
  refine pw_aload_n dX6_copyFrom_1 rfl ?_
  refine lp_geti dX6_copyFrom_2 fp_RX6_9.FL ha rfl ?_
  refine lp_puti dX6_copyFrom_5 fp_RX6_9 hb rfl rfl rfl ?_
  refine pw_aload_n dX6_copyFrom_8 rfl ?_
  refine lp_getr (a + 1) dX6_copyFrom_9 fp_RX6_15.FL ha rfl (rX6_1 ha) ?_
  refine pw_iconst (v := 0) dX6_copyFrom_12 rfl ?_
  refine pw_aload_n dX6_copyFrom_13 rfl ?_
  refine lp_getr (b + 1) dX6_copyFrom_14 fp_RX6_15.FL hb rfl (rX6_1 hb) ?_
  refine pw_iconst (v := 0) dX6_copyFrom_17 rfl ?_
  refine pw_aload_n dX6_copyFrom_18 rfl ?_
  refine lp_geti dX6_copyFrom_19 fp_RX6_9.FL hb rfl ?_
  refine pw_top (nI n) (gI.trans h0) ?_
  refine lp_copyi dX6_copyFrom_22 ac_RX6 ac_n ac_s ac_i (kX6_1 ha) (kX6_1 hb) (by decide) (by decide) hc (by rw [hcl]; exact (by omega : 0 + n ≤ 30)) (by rw [hcl]; exact (by omega : 0 + n ≤ 30)) (by decide) (by decide) ?_
  refine pw_aload_n dX6_copyFrom_25 rfl ?_
  refine lp_getr (a + 2) dX6_copyFrom_26 fp_RX6_19.FL ha rfl (rX6_2 ha) ?_
  refine pw_iconst (v := 0) dX6_copyFrom_29 rfl ?_
  refine pw_aload_n dX6_copyFrom_30 rfl ?_
  refine lp_getr (b + 2) dX6_copyFrom_31 fp_RX6_19.FL hb rfl (rX6_2 hb) ?_
  refine pw_iconst (v := 0) dX6_copyFrom_34 rfl ?_
  refine pw_aload_n dX6_copyFrom_35 rfl ?_
  refine lp_geti dX6_copyFrom_36 fp_RX6_9.FL hb rfl ?_
  refine pw_top (nI n) (gI.trans h0) ?_
  refine lp_copyi dX6_copyFrom_39 ac_RX6 ac_n ac_s ac_i (kX6_2 ha) (kX6_2 hb) (by decide) (by decide) hc (by rw [hcl]; exact (by omega : 0 + n ≤ 30)) (by rw [hcl]; exact (by omega : 0 + n ≤ 30)) (by decide) (by decide) ?_
  refine pw_aload_n dX6_copyFrom_42 rfl ?_
  refine lp_getr (a + 3) dX6_copyFrom_43 fp_RX6_22.FL ha rfl (rX6_3 ha) ?_
  refine pw_iconst (v := 0) dX6_copyFrom_46 rfl ?_
  refine pw_aload_n dX6_copyFrom_47 rfl ?_
  refine lp_getr (b + 3) dX6_copyFrom_48 fp_RX6_22.FL hb rfl (rX6_3 hb) ?_
  refine pw_iconst (v := 0) dX6_copyFrom_51 rfl ?_
  refine pw_aload_n dX6_copyFrom_52 rfl ?_
  refine lp_geti dX6_copyFrom_53 fp_RX6_9.FL hb rfl ?_
  refine pw_top (nI n) (gI.trans h0) ?_
  refine lp_copyi dX6_copyFrom_56 ac_RX6 ac_n ac_s ac_i (kX6_3 ha) (kX6_3 hb) (by decide) (by decide) hc (by rw [hcl]; exact (by omega : 0 + n ≤ 30)) (by rw [hcl]; exact (by omega : 0 + n ≤ 30)) (by decide) (by decide) ?_
  refine pw_aload_n dX6_copyFrom_59 rfl ?_
  refine lp_getr (a + 4) dX6_copyFrom_60 fp_RX6_25.FL ha rfl (rX6_4 ha) ?_
  refine pw_iconst (v := 0) dX6_copyFrom_63 rfl ?_
  refine pw_aload_n dX6_copyFrom_64 rfl ?_
  refine lp_getr (b + 4) dX6_copyFrom_65 fp_RX6_25.FL hb rfl (rX6_4 hb) ?_
  refine pw_iconst (v := 0) dX6_copyFrom_68 rfl ?_
  refine pw_aload_n dX6_copyFrom_69 rfl ?_
  refine lp_geti dX6_copyFrom_70 fp_RX6_9.FL hb rfl ?_
  refine pw_top (nI n) (gI.trans h0) ?_
  refine lp_copyi dX6_copyFrom_73 ac_RX6 ac_n ac_s ac_i (kX6_4 ha) (kX6_4 hb) (by decide) (by decide) hc (by rw [hcl]; exact (by omega : 0 + n ≤ 30)) (by rw [hcl]; exact (by omega : 0 + n ≤ 30)) (by decide) (by decide) ?_
  refine pw_aload_n dX6_copyFrom_76 rfl ?_
  refine lp_getr (a + 5) dX6_copyFrom_77 fp_RX6_28.FL ha rfl (rX6_5 ha) ?_
  refine pw_iconst (v := 0) dX6_copyFrom_80 rfl ?_
  refine pw_aload_n dX6_copyFrom_81 rfl ?_
  refine lp_getr (b + 5) dX6_copyFrom_82 fp_RX6_28.FL hb rfl (rX6_5 hb) ?_
  refine pw_iconst (v := 0) dX6_copyFrom_85 rfl ?_
  refine pw_aload_n dX6_copyFrom_86 rfl ?_
  refine lp_geti dX6_copyFrom_87 fp_RX6_9.FL hb rfl ?_
  refine pw_top (nI n) (gI.trans h0) ?_
  refine lp_copyi dX6_copyFrom_90 ac_RX6 ac_n ac_s ac_i (kX6_5 ha) (kX6_5 hb) (by decide) (by decide) hc (by rw [hcl]; exact (by omega : 0 + n ≤ 30)) (by rw [hcl]; exact (by omega : 0 + n ≤ 30)) (by decide) (by decide) ?_
  refine pw_aload_n dX6_copyFrom_93 rfl ?_
  refine lp_getr (a + 6) dX6_copyFrom_94 fp_RX6_31.FL ha rfl (rX6_6 ha) ?_
  refine pw_iconst (v := 0) dX6_copyFrom_97 rfl ?_
  refine pw_aload_n dX6_copyFrom_98 rfl ?_
  refine lp_getr (b + 6) dX6_copyFrom_99 fp_RX6_31.FL hb rfl (rX6_6 hb) ?_
  refine pw_iconst (v := 0) dX6_copyFrom_102 rfl ?_
  refine pw_aload_n dX6_copyFrom_103 rfl ?_
  refine lp_geti dX6_copyFrom_104 fp_RX6_9.FL hb rfl ?_
  refine pw_top (nI n) (gI.trans h0) ?_
  refine lp_copyi dX6_copyFrom_107 ac_RX6 ac_n ac_s ac_i (kX6_6 ha) (kX6_6 hb) (by decide) (by decide) hc (by rw [hcl]; exact (by omega : 0 + n ≤ 30)) (by rw [hcl]; exact (by omega : 0 + n ≤ 30)) (by decide) (by decide) ?_
  exact pw_vret rfl dX6_copyFrom_110 (Nat.zero_le _) (Nat.zero_le _) (by
    refine ⟨_, rfl, ?_, ?_⟩
    · refine Fr.A (Fr.A (Fr.A (Fr.A (Fr.A (Fr.A (Fr.I Fr.rf ?_ ?_) ?_ ?_) ?_ ?_) ?_ ?_) ?_ ?_) ?_ ?_) ?_ ?_ <;> omega
    · refine ⟨gI, fun j hj => ?_⟩
      rw [hcl]
      refine ⟨?_, ?_, ?_, ?_, ?_, ?_⟩ <;> (repeat (first | rw [gA] | rw [gA' (by omega)])) <;> exact cpy_in hj)
theorem x_Icopy {a b : Nat} (ha : LX.1[a]? = some (.inl 3)) (hb : LX.1[b]? = some (.inl 3)) (hab : a + 4 ≤ b ∨ b + 4 ≤ a) : SpR0 l G mX3_copyFrom [.ref (adr b), .ref (adr a)] adr LX Lf Rt σ (fun σ' => Fr b (b + 4) σ σ' ∧ IEq σ a σ' b) := by
  refine spec_of (by decide) (Nat.le_of_ble_eq_true rfl) (fun sz => ?_)
  refine pw_aload_n dX3_copyFrom_0 rfl ?_
  refine lp_getr (a + 1) dX3_copyFrom_1 fp_RX3_9.FL ha rfl (rX3_0 ha) ?_
  refine pw_iconst (v := 0) dX3_copyFrom_4 rfl ?_
  refine pw_aload_n dX3_copyFrom_5 rfl ?_
  refine lp_getr (b + 1) dX3_copyFrom_6 fp_RX3_9.FL hb rfl (rX3_0 hb) ?_
  refine pw_iconst (v := 0) dX3_copyFrom_9 rfl ?_
  refine pw_bipush (v := 8) dX3_copyFrom_10 rfl ?_
  refine lp_copyi dX3_copyFrom_12 ac_RX3 ac_n ac_s ac_i (kX3_0 ha) (kX3_0 hb) (by decide) (by decide) (by decide) (by decide) (by decide) (by decide) (by decide) ?_
  refine pw_aload_n dX3_copyFrom_15 rfl ?_
  refine lp_getr (a + 2) dX3_copyFrom_16 fp_RX3_15.FL ha rfl (rX3_1 ha) ?_
  refine pw_iconst (v := 0) dX3_copyFrom_19 rfl ?_
  refine pw_aload_n dX3_copyFrom_20 rfl ?_
  refine lp_getr (b + 2) dX3_copyFrom_21 fp_RX3_15.FL hb rfl (rX3_1 hb) ?_
  refine pw_iconst (v := 0) dX3_copyFrom_24 rfl ?_
  refine pw_bipush (v := 8) dX3_copyFrom_25 rfl ?_
  refine lp_copyi dX3_copyFrom_27 ac_RX3 ac_n ac_s ac_i (kX3_1 ha) (kX3_1 hb) (by decide) (by decide) (by decide) (by decide) (by decide) (by decide) (by decide) ?_
  refine pw_aload_n dX3_copyFrom_30 rfl ?_
  refine lp_getr (a + 3) dX3_copyFrom_31 fp_RX3_18.FL ha rfl (rX3_2 ha) ?_
  refine pw_iconst (v := 0) dX3_copyFrom_34 rfl ?_
  refine pw_aload_n dX3_copyFrom_35 rfl ?_
  refine lp_getr (b + 3) dX3_copyFrom_36 fp_RX3_18.FL hb rfl (rX3_2 hb) ?_
  refine pw_iconst (v := 0) dX3_copyFrom_39 rfl ?_
  refine pw_bipush (v := 8) dX3_copyFrom_40 rfl ?_
  refine lp_copyi dX3_copyFrom_42 ac_RX3 ac_n ac_s ac_i (kX3_2 ha) (kX3_2 hb) (by decide) (by decide) (by decide) (by decide) (by decide) (by decide) (by decide) ?_
  exact pw_vret rfl dX3_copyFrom_45 (Nat.zero_le _) (Nat.zero_le _) (by
    refine ⟨_, rfl, ?_, ?_⟩
    · refine Fr.A (Fr.A (Fr.A Fr.rf ?_ ?_) ?_ ?_) ?_ ?_ <;> omega
    · intro j hj
      refine ⟨?_, ?_, ?_⟩ <;> (repeat (first | rw [gA] | rw [gA' (by omega)])) <;> exact cpy_in hj)
/-- all three rows get the inputs -/
theorem x_narrow {a b : Nat} (ha : LX.1[a]? = some (.inl 3)) (hb : LX.1[b]? = some (.inl 3)) (hab : a + 4 ≤ b ∨ b + 4 ≤ a) : SpR0 l G mX3_narrowTo [.ref (adr b), .ref (adr a)] adr LX Lf Rt σ (fun σ' => Fr b (b + 4) σ σ' ∧ ∀ j, j < 8 → σ'.2.2.1 (b + 1) j = σ.2.2.1 (a + 3) j ∧ σ'.2.2.1 (b + 2) j = σ.2.2.1 (a + 3) j ∧ σ'.2.2.1 (b + 3) j = σ.2.2.1 (a + 3) j) := by
  refine spec_of (by decide) (Nat.le_of_ble_eq_true rfl) (fun sz => ?_)
  refine pw_aload_n dX3_narrowTo_0 rfl ?_
  refine lp_getr (a + 3) dX3_narrowTo_1 fp_RX3_18.FL ha rfl (rX3_2 ha) ?_
  refine pw_iconst (v := 0) dX3_narrowTo_4 rfl ?_
  refine pw_aload_n dX3_narrowTo_5 rfl ?_
  refine lp_getr (b + 1) dX3_narrowTo_6 fp_RX3_9.FL hb rfl (rX3_0 hb) ?_
  refine pw_iconst (v := 0) dX3_narrowTo_9 rfl ?_
  refine pw_bipush (v := 8) dX3_narrowTo_10 rfl ?_
  refine lp_copyi dX3_narrowTo_12 ac_RX3 ac_n ac_s ac_i (kX3_2 ha) (kX3_0 hb) (by decide) (by decide) (by decide) (by decide) (by decide) (by decide) (by decide) ?_
  refine pw_aload_n dX3_narrowTo_15 rfl ?_
  refine lp_getr (a + 3) dX3_narrowTo_16 fp_RX3_18.FL ha rfl (rX3_2 ha) ?_
  refine pw_iconst (v := 0) dX3_narrowTo_19 rfl ?_
  refine pw_aload_n dX3_narrowTo_20 rfl ?_
  refine lp_getr (b + 2) dX3_narrowTo_21 fp_RX3_15.FL hb rfl (rX3_1 hb) ?_
  refine pw_iconst (v := 0) dX3_narrowTo_24 rfl ?_
  refine pw_bipush (v := 8) dX3_narrowTo_25 rfl ?_
  refine lp_copyi dX3_narrowTo_27 ac_RX3 ac_n ac_s ac_i (kX3_2 ha) (kX3_1 hb) (by decide) (by decide) (by decide) (by decide) (by decide) (by decide) (by decide) ?_
  refine pw_aload_n dX3_narrowTo_30 rfl ?_
  refine lp_getr (a + 3) dX3_narrowTo_31 fp_RX3_18.FL ha rfl (rX3_2 ha) ?_
  refine pw_iconst (v := 0) dX3_narrowTo_34 rfl ?_
  refine pw_aload_n dX3_narrowTo_35 rfl ?_
  refine lp_getr (b + 3) dX3_narrowTo_36 fp_RX3_18.FL hb rfl (rX3_2 hb) ?_
  refine pw_iconst (v := 0) dX3_narrowTo_39 rfl ?_
  refine pw_bipush (v := 8) dX3_narrowTo_40 rfl ?_
  refine lp_copyi dX3_narrowTo_42 ac_RX3 ac_n ac_s ac_i (kX3_2 ha) (kX3_2 hb) (by decide) (by decide) (by decide) (by decide) (by decide) (by decide) (by decide) ?_
  exact pw_vret rfl dX3_narrowTo_45 (Nat.zero_le _) (Nat.zero_le _) (by
    refine ⟨_, rfl, ?_, ?_⟩
    · refine Fr.A (Fr.A (Fr.A Fr.rf ?_ ?_) ?_ ?_) ?_ ?_ <;> omega
    · intro j hj
      refine ⟨?_, ?_, ?_⟩ <;> (repeat (first | rw [gA] | rw [gA' (by omega)])) <;> exact cpy_in hj)
end XA
