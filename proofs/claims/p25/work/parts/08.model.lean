/-! THE REFERENCE: its layout, its small methods -/
def fldM : List Nat := [2, 2, 0, 0, 2, 0, 0, 2, 0, 0, 2, 2, 2, 0, 0, 2, 2, 2, 2, 2, 2, 2, 2, 2, 0, 2, 2, 2, 2, 2, 0, 0, 0]
def refM : List Nat := [1, 2, 0, 0, 3, 0, 0, 4, 0, 0, 5, 6, 7, 0, 0, 8, 9, 10, 11, 12, 13, 14, 15, 16, 0, 17, 18, 19, 20, 21, 0, 0, 0]
def LM : Lay := ([.inl 11, .inr (0, 145), .inr (0, 580), .inr (0, 200), .inr (0, 120), .inr (0, 30), .inr (0, 30), .inr (0, 30), .inr (0, 2), .inr (1, 8), .inr (1, 8), .inr (2, 30), .inr (2, 30), .inr (2, 30), .inr (2, 30), .inr (1, 30), .inr (1, 30), .inr (0, 30), .inr (2, 30), .inr (0, 30), .inr (1, 8), .inr (2, 30)], fun _ => fldM, fun _ j => refM.getD j 0)
theorem in32 (x lo hi : Int32) : decide (lo.toInt64 ≤ x.toInt64 ∧ x.toInt64 ≤ hi.toInt64) = decide (lo ≤ x ∧ x ≤ hi) := by
  simp only [Int64.le_iff_toInt_le, Int32.le_iff_toInt_le, Int32.toInt_toInt64]
theorem specD_eq {l : Launch} {G : cxG} {mi : MI} {As : List Value} {ws : va_W} {r r' : Option Value} {ws1 ws2 : va_W} (h : SpecD l G mi As ws r ws1) (h1 : r = r') (h2 : ws1 = ws2) : SpecD l G mi As ws r' ws2 := by rw [← h1, ← h2]; exact h
section M1
variable {l : Launch} {G : cxG} {adr : Nat → Nat} {Lf Rt : va_W} {σ : St}
theorem r_in (v lo hi : Int64) (ws : va_W) : SpecD l G mX11_in [.long v, .long lo, .long hi] ws (some (.int (bI (decide (lo ≤ v ∧ v ≤ hi))))) ws := by
  refine spec_of (by decide) (Nat.le_of_ble_eq_true rfl) (fun sz => ?_)
  refine pw_lload_n dX11_in_0 rfl ?_
  refine pw_lload_n dX11_in_1 rfl ?_
  refine pw_lcmp dX11_in_2 ?_
  refine pw_if_lt 17 dX11_in_3 (by decide) (fun c_3 => ?_) (fun c_3 => ?_)
  · refine pw_iconst (v := 0) dX11_in_17 rfl ?_
    first | exact pw_iret rfl rfl dX11_in_18 (Nat.zero_le _) (Nat.zero_le _) (fin_b0 (fun h => Int64.not_lt.mpr h.1 ((lg_cmp_lt _ _).mp c_3))) | exact pw_iret rfl rfl dX11_in_18 (Nat.zero_le _) (Nat.zero_le _) (fin_b0 (fun h => Int64.not_lt.mpr h.2 ((lg_cmp_gt _ _).mp c_10))) | exact pw_iret rfl rfl dX11_in_18 (Nat.zero_le _) (Nat.zero_le _) (fin_b1 ⟨Int64.not_lt.mp (fun h => c_3 ((lg_cmp_lt _ _).mpr h)), Int64.not_lt.mp (fun h => c_10 ((lg_cmp_gt _ _).mpr h))⟩)
  · refine pw_lload_n dX11_in_6 rfl ?_
    refine pw_lload dX11_in_7 rfl ?_
    refine pw_lcmp dX11_in_9 ?_
    refine pw_if_gt 17 dX11_in_10 (by decide) (fun c_10 => ?_) (fun c_10 => ?_)
    · refine pw_iconst (v := 0) dX11_in_17 rfl ?_
      first | exact pw_iret rfl rfl dX11_in_18 (Nat.zero_le _) (Nat.zero_le _) (fin_b0 (fun h => Int64.not_lt.mpr h.1 ((lg_cmp_lt _ _).mp c_3))) | exact pw_iret rfl rfl dX11_in_18 (Nat.zero_le _) (Nat.zero_le _) (fin_b0 (fun h => Int64.not_lt.mpr h.2 ((lg_cmp_gt _ _).mp c_10))) | exact pw_iret rfl rfl dX11_in_18 (Nat.zero_le _) (Nat.zero_le _) (fin_b1 ⟨Int64.not_lt.mp (fun h => c_3 ((lg_cmp_lt _ _).mpr h)), Int64.not_lt.mp (fun h => c_10 ((lg_cmp_gt _ _).mpr h))⟩)
    · refine pw_iconst (v := 1) dX11_in_13 rfl ?_
      refine pw_goto (tgt := 18) dX11_in_14 (by decide) ?_
      first | exact pw_iret rfl rfl dX11_in_18 (Nat.zero_le _) (Nat.zero_le _) (fin_b0 (fun h => Int64.not_lt.mpr h.1 ((lg_cmp_lt _ _).mp c_3))) | exact pw_iret rfl rfl dX11_in_18 (Nat.zero_le _) (Nat.zero_le _) (fin_b0 (fun h => Int64.not_lt.mpr h.2 ((lg_cmp_gt _ _).mp c_10))) | exact pw_iret rfl rfl dX11_in_18 (Nat.zero_le _) (Nat.zero_le _) (fin_b1 ⟨Int64.not_lt.mp (fun h => c_3 ((lg_cmp_lt _ _).mpr h)), Int64.not_lt.mp (fun h => c_10 ((lg_cmp_gt _ _).mpr h))⟩)
theorem r_in32 (v lo hi : Int32) (ws : va_W) : SpecD l G mX11_in [.long v.toInt64, .long lo.toInt64, .long hi.toInt64] ws (some (.int (bI (decide (lo ≤ v ∧ v ≤ hi))))) ws := by
  rw [← in32]; exact r_in _ _ _ ws
theorem r_thrown : SpecD l G mX11_thrown [.ref (adr 0)] (wp G adr LM Lf Rt σ) (some (.int (σ.1 0 3))) (wp G adr LM Lf Rt σ) := by
  refine spec_of (by decide) (Nat.le_of_ble_eq_true rfl) (fun sz => ?_)
  refine pw_aload_n dX11_thrown_0 rfl ?_
  refine lp_geti dX11_thrown_1 fp_RX11_75.FL rfl rfl ?_
  exact pw_iret rfl rfl dX11_thrown_4 (Nat.zero_le _) (Nat.zero_le _) rfl
def mGoes (σ : St) (a b : Bool) : St := sI σ 0 3 (if a = true then (if b = true then 0 else 2) else 1)
theorem r_goes (a b : Bool) : SpecD l G mX11_goes [.ref (adr 0), .int (bI a), .int (bI b)] (wp G adr LM Lf Rt σ) (some (.int (bI (a && b)))) (wp G adr LM Lf Rt (mGoes σ a b)) := by
  refine spec_of (by decide) (Nat.le_of_ble_eq_true rfl) (fun sz => ?_)
  cases a <;> cases b
  · refine pw_aload_n dX11_goes_0 rfl ?_
    refine pw_iload_n dX11_goes_1 rfl ?_
    refine pw_if_ne 9 dX11_goes_2 (by decide) (fun c_2 => absurd rfl c_2) (fun c_2 => ?_)
    refine pw_iconst (v := 1) dX11_goes_5 rfl ?_
    refine pw_goto (tgt := 18) dX11_goes_6 (by decide) ?_
    refine lp_puti dX11_goes_18 fp_RX11_75 rfl rfl rfl rfl ?_
    refine pw_aload_n dX11_goes_21 rfl ?_
    refine lp_geti dX11_goes_22 fp_RX11_75.FL rfl rfl ?_
    refine pw_if_ne 32 dX11_goes_25 (by decide) (fun c_25 => ?_) (fun c_25 => absurd (show (1 : Int32) = 0 from c_25) (by decide))
    refine pw_iconst (v := 0) dX11_goes_32 rfl ?_
    exact pw_iret rfl rfl dX11_goes_33 (Nat.zero_le _) (Nat.zero_le _) rfl
  · refine pw_aload_n dX11_goes_0 rfl ?_
    refine pw_iload_n dX11_goes_1 rfl ?_
    refine pw_if_ne 9 dX11_goes_2 (by decide) (fun c_2 => absurd rfl c_2) (fun c_2 => ?_)
    refine pw_iconst (v := 1) dX11_goes_5 rfl ?_
    refine pw_goto (tgt := 18) dX11_goes_6 (by decide) ?_
    refine lp_puti dX11_goes_18 fp_RX11_75 rfl rfl rfl rfl ?_
    refine pw_aload_n dX11_goes_21 rfl ?_
    refine lp_geti dX11_goes_22 fp_RX11_75.FL rfl rfl ?_
    refine pw_if_ne 32 dX11_goes_25 (by decide) (fun c_25 => ?_) (fun c_25 => absurd (show (1 : Int32) = 0 from c_25) (by decide))
    refine pw_iconst (v := 0) dX11_goes_32 rfl ?_
    exact pw_iret rfl rfl dX11_goes_33 (Nat.zero_le _) (Nat.zero_le _) rfl
  · refine pw_aload_n dX11_goes_0 rfl ?_
    refine pw_iload_n dX11_goes_1 rfl ?_
    refine pw_if_ne 9 dX11_goes_2 (by decide) (fun c_2 => ?_) (fun c_2 => absurd (c_2 : (1 : Int32) = 0) (by decide))
    refine pw_iload_n dX11_goes_9 rfl ?_
    refine pw_if_ne 17 dX11_goes_10 (by decide) (fun c_10 => absurd rfl c_10) (fun c_10 => ?_)
    refine pw_iconst (v := 2) dX11_goes_13 rfl ?_
    refine pw_goto (tgt := 18) dX11_goes_14 (by decide) ?_
    refine lp_puti dX11_goes_18 fp_RX11_75 rfl rfl rfl rfl ?_
    refine pw_aload_n dX11_goes_21 rfl ?_
    refine lp_geti dX11_goes_22 fp_RX11_75.FL rfl rfl ?_
    refine pw_if_ne 32 dX11_goes_25 (by decide) (fun c_25 => ?_) (fun c_25 => absurd (show (2 : Int32) = 0 from c_25) (by decide))
    refine pw_iconst (v := 0) dX11_goes_32 rfl ?_
    exact pw_iret rfl rfl dX11_goes_33 (Nat.zero_le _) (Nat.zero_le _) rfl
  · refine pw_aload_n dX11_goes_0 rfl ?_
    refine pw_iload_n dX11_goes_1 rfl ?_
    refine pw_if_ne 9 dX11_goes_2 (by decide) (fun c_2 => ?_) (fun c_2 => absurd (c_2 : (1 : Int32) = 0) (by decide))
    refine pw_iload_n dX11_goes_9 rfl ?_
    refine pw_if_ne 17 dX11_goes_10 (by decide) (fun c_10 => ?_) (fun c_10 => absurd (c_10 : (1 : Int32) = 0) (by decide))
    refine pw_iconst (v := 0) dX11_goes_17 rfl ?_
    refine lp_puti dX11_goes_18 fp_RX11_75 rfl rfl rfl rfl ?_
    refine pw_aload_n dX11_goes_21 rfl ?_
    refine lp_geti dX11_goes_22 fp_RX11_75.FL rfl rfl ?_
    refine pw_if_ne 32 dX11_goes_25 (by decide) (fun c_25 => absurd rfl c_25) (fun c_25 => ?_)
    refine pw_iconst (v := 1) dX11_goes_28 rfl ?_
    refine pw_goto (tgt := 33) dX11_goes_29 (by decide) ?_
    exact pw_iret rfl rfl dX11_goes_33 (Nat.zero_le _) (Nat.zero_le _) rfl
theorem nI14 {a w N : Nat} (h : 1 + 4 * a + w < N) (hN : N < 2 ^ 31) : vp_in (1 + 4 * nI a + nI w) N ∧ (1 + 4 * nI a + nI w).toNatClampNeg = 1 + 4 * a + w := by
  have e : (1 : Int32) + 4 * nI a + nI w = nI (1 + 4 * a + w) := by
    rw [show (4 : Int32) = nI 4 from rfl, show (1 : Int32) = nI 1 from rfl, pk_mul, nI_add, nI_add]
  rw [e]
  exact ⟨vp_in_nI h hN, nI_clamp (by omega)⟩
theorem r_of (a w : Nat) (h : 1 + 4 * a + w < 145) : SpecD l G mX11_of [.ref (adr 0), .int (nI a), .int (nI w)] (wp G adr LM Lf Rt σ) (some (.int (σ.2.2.1 1 (1 + 4 * a + w)))) (wp G adr LM Lf Rt σ) := by
  refine spec_of (by decide) (Nat.le_of_ble_eq_true rfl) (fun sz => ?_)
  have hb := nI14 h (by decide)
  rw [← hb.2]
  refine pw_aload_n dX11_of_0 rfl ?_
  refine lp_getr 1 dX11_of_1 fp_RX11_7.FL rfl rfl rfl ?_
  refine pw_iconst (v := 1) dX11_of_4 rfl ?_
  refine pw_iconst (v := 4) dX11_of_5 rfl ?_
  refine pw_iload_n dX11_of_6 rfl ?_
  refine pw_imul dX11_of_7 ?_
  refine pw_iadd dX11_of_8 ?_
  refine pw_iload_n dX11_of_9 rfl ?_
  refine pw_iadd dX11_of_10 ?_
  refine lp_iald dX11_of_11 rfl hb.1 ?_
  exact pw_iret rfl rfl dX11_of_12 (Nat.zero_le _) (Nat.zero_le _) rfl
theorem r_kind (a : Nat) (h : a < 30) : SpecD l G mX11_kind [.ref (adr 0), .int (nI a)] (wp G adr LM Lf Rt σ) (some (.int (σ.2.2.1 1 (1 + 4 * a)))) (wp G adr LM Lf Rt σ) := by
  refine spec_of (by decide) (Nat.le_of_ble_eq_true rfl) (fun sz => ?_)
  refine pw_aload_n dX11_kind_0 rfl ?_
  refine pw_iload_n dX11_kind_1 rfl ?_
  refine pw_iconst (v := 0) dX11_kind_2 rfl ?_
  refine lp_cV1 (mi' := mX11_of) (As := [_, _]) (q := (RX11, TX11, 33)) dX11_kind_3 lk_RX11_82 mk_X11_of mi_X11_of me_X11_of ⟨by decide, by decide⟩ rfl rfl (Nat.le_of_ble_eq_true rfl) rfl rfl ⟨rfl, rfl⟩ ⟨Nat.zero_le _, Nat.zero_le _⟩ (r_of a 0 (by omega)) ?_
  exact pw_iret rfl rfl dX11_kind_6 (Nat.zero_le _) (Nat.zero_le _) rfl
theorem r_isLoop (a : Nat) (h : a < 30) : SpecD l G mX11_isLoop [.ref (adr 0), .int (nI a)] (wp G adr LM Lf Rt σ) (some (.int (bI (decide (4 ≤ σ.2.2.1 1 (1 + 4 * a)))))) (wp G adr LM Lf Rt σ) := by
  refine spec_of (by decide) (Nat.le_of_ble_eq_true rfl) (fun sz => ?_)
  refine pw_aload_n dX11_isLoop_0 rfl ?_
  refine pw_iload_n dX11_isLoop_1 rfl ?_
  refine lp_cV1 (mi' := mX11_kind) (As := [_]) (q := (RX11, TX11, 33)) dX11_isLoop_2 lk_RX11_86 mk_X11_kind mi_X11_kind me_X11_kind ⟨by decide, by decide⟩ rfl rfl (Nat.le_of_ble_eq_true rfl) rfl rfl ⟨rfl, rfl⟩ ⟨Nat.zero_le _, Nat.zero_le _⟩ (r_kind a h) ?_
  refine pw_iconst (v := 4) dX11_isLoop_5 rfl ?_
  refine pw_icmp_lt 13 dX11_isLoop_6 (by decide) (fun c_6 => ?_) (fun c_6 => ?_)
  · refine pw_iconst (v := 0) dX11_isLoop_13 rfl ?_
    first | exact pw_iret rfl rfl dX11_isLoop_14 (Nat.zero_le _) (Nat.zero_le _) (fin_b0 (fun h => Int32.not_lt.mpr h c_6)) | exact pw_iret rfl rfl dX11_isLoop_14 (Nat.zero_le _) (Nat.zero_le _) (fin_b1 (Int32.not_lt.mp c_6))
  · refine pw_iconst (v := 1) dX11_isLoop_9 rfl ?_
    refine pw_goto (tgt := 14) dX11_isLoop_10 (by decide) ?_
    first | exact pw_iret rfl rfl dX11_isLoop_14 (Nat.zero_le _) (Nat.zero_le _) (fin_b0 (fun h => Int32.not_lt.mpr h c_6)) | exact pw_iret rfl rfl dX11_isLoop_14 (Nat.zero_le _) (Nat.zero_le _) (fin_b1 (Int32.not_lt.mp c_6))
theorem r_isOne (i : Int32) : SpecD l G mX11_isOne [.ref (adr 0), .int i] (wp G adr LM Lf Rt σ) (some (.int (bI (decide (0 ≤ i ∧ i ≤ σ.2.2.1 1 0 - 1))))) (wp G adr LM Lf Rt σ) := by
  refine spec_of (by decide) (Nat.le_of_ble_eq_true rfl) (fun sz => ?_)
  refine pw_iload_n dX11_isOne_0 rfl ?_
  refine pw_i2l dX11_isOne_1 ?_
  refine pw_lconst (v := 0) dX11_isOne_2 rfl ?_
  refine pw_aload_n dX11_isOne_3 rfl ?_
  refine lp_getr 1 dX11_isOne_4 fp_RX11_7.FL rfl rfl rfl ?_
  refine pw_iconst (v := 0) dX11_isOne_7 rfl ?_
  refine lp_iald dX11_isOne_8 rfl (vp_in_nI (n := 0) (by decide) (by decide)) ?_
  refine pw_iconst (v := 1) dX11_isOne_9 rfl ?_
  refine pw_isub dX11_isOne_10 ?_
  refine pw_i2l dX11_isOne_11 ?_
  refine lp_cS1 (mi' := mX11_in) (As := [_, _, _]) dX11_isOne_12 lk_RX11_90 mk_X11_in ms_X11_in ⟨by decide, by decide⟩ rfl rfl (Nat.le_of_ble_eq_true rfl) ⟨rfl, rfl⟩ ⟨Nat.zero_le _, Nat.zero_le _⟩ (r_in32 i 0 (σ.2.2.1 1 0 - 1) _) ?_
  exact pw_iret rfl bI_nar dX11_isOne_15 (Nat.zero_le _) (Nat.zero_le _) rfl
theorem r_isName (v : Int32) (ws : va_W) : SpecD l G mX11_isName [.int v] ws (some (.int (bI (decide (0 ≤ v ∧ v ≤ 7))))) ws := by
  refine spec_of (by decide) (Nat.le_of_ble_eq_true rfl) (fun sz => ?_)
  refine pw_iload_n dX11_isName_0 rfl ?_
  refine pw_i2l dX11_isName_1 ?_
  refine pw_lconst (v := 0) dX11_isName_2 rfl ?_
  refine pw_ldc2 dX11_isName_3 kc_RX11_94 ?_
  refine lp_cS1 (mi' := mX11_in) (As := [_, _, _]) dX11_isName_6 lk_RX11_90 mk_X11_in ms_X11_in ⟨by decide, by decide⟩ rfl rfl (Nat.le_of_ble_eq_true rfl) ⟨rfl, rfl⟩ ⟨Nat.zero_le _, Nat.zero_le _⟩ (r_in32 v 0 7 _) ?_
  exact pw_iret rfl bI_nar dX11_isName_9 (Nat.zero_le _) (Nat.zero_le _) rfl
def mHere (σ : St) : Int32 := if σ.1 0 6 < σ.1 0 5 then σ.2.2.1 3 (σ.1 0 6).toNatClampNeg else -1
def okH (σ : St) : Prop := σ.1 0 6 < σ.1 0 5 → vp_in (σ.1 0 6) 200
theorem r_here (h : okH σ) : SpecD l G mX11_here [.ref (adr 0)] (wp G adr LM Lf Rt σ) (some (.int (mHere σ))) (wp G adr LM Lf Rt σ) := by
  refine spec_of (by decide) (Nat.le_of_ble_eq_true rfl) (fun sz => ?_)
  refine pw_aload_n dX11_here_0 rfl ?_
  refine lp_geti dX11_here_1 fp_RX11_105.FL rfl rfl ?_
  refine pw_aload_n dX11_here_4 rfl ?_
  refine lp_geti dX11_here_5 fp_RX11_98.FL rfl rfl ?_
  refine pw_icmp_ge 23 dX11_here_8 (by decide) (fun c_8 => ?_) (fun c_8 => ?_)
  · refine pw_iconst (v := -1) dX11_here_23 rfl ?_
    first | exact pw_iret rfl rfl dX11_here_24 (Nat.zero_le _) (Nat.zero_le _) (by unfold mHere; rw [if_neg (Int32.not_lt.mpr c_8)]) | exact pw_iret rfl rfl dX11_here_24 (Nat.zero_le _) (Nat.zero_le _) (by unfold mHere; rw [if_pos (Int32.not_le.mp c_8)])
  · refine pw_aload_n dX11_here_11 rfl ?_
    refine lp_getr 3 dX11_here_12 fp_RX11_16.FL rfl rfl rfl ?_
    refine pw_aload_n dX11_here_15 rfl ?_
    refine lp_geti dX11_here_16 fp_RX11_105.FL rfl rfl ?_
    refine lp_iald dX11_here_19 rfl (h (Int32.not_le.mp c_8)) ?_
    refine pw_goto (tgt := 24) dX11_here_20 (by decide) ?_
    first | exact pw_iret rfl rfl dX11_here_24 (Nat.zero_le _) (Nat.zero_le _) (by unfold mHere; rw [if_neg (Int32.not_lt.mpr c_8)]) | exact pw_iret rfl rfl dX11_here_24 (Nat.zero_le _) (Nat.zero_le _) (by unfold mHere; rw [if_pos (Int32.not_le.mp c_8)])
def isFig (c : Int32) : Bool := decide (48 ≤ c ∧ c ≤ 57)
def isLet (c : Int32) : Bool := decide (97 ≤ c ∧ c ≤ 104)
theorem r_isFigure (h : okH σ) : SpecD l G mX11_isFigure [.ref (adr 0)] (wp G adr LM Lf Rt σ) (some (.int (bI (isFig (mHere σ))))) (wp G adr LM Lf Rt σ) := by
  refine spec_of (by decide) (Nat.le_of_ble_eq_true rfl) (fun sz => ?_)
  refine pw_aload_n dX11_isFigure_0 rfl ?_
  refine lp_cV1 (mi' := mX11_here) (As := []) (q := (RX11, TX11, 33)) dX11_isFigure_1 lk_RX11_108 mk_X11_here mi_X11_here me_X11_here ⟨by decide, by decide⟩ rfl rfl (Nat.le_of_ble_eq_true rfl) rfl rfl ⟨rfl, rfl⟩ ⟨Nat.zero_le _, Nat.zero_le _⟩ (r_here h) ?_
  refine pw_i2l dX11_isFigure_4 ?_
  refine pw_ldc2 dX11_isFigure_5 kc_RX11_112 ?_
  refine pw_ldc2 dX11_isFigure_8 kc_RX11_114 ?_
  refine lp_cS1 (mi' := mX11_in) (As := [_, _, _]) dX11_isFigure_11 lk_RX11_90 mk_X11_in ms_X11_in ⟨by decide, by decide⟩ rfl rfl (Nat.le_of_ble_eq_true rfl) ⟨rfl, rfl⟩ ⟨Nat.zero_le _, Nat.zero_le _⟩ (r_in32 (mHere σ) 48 57 _) ?_
  exact pw_iret rfl bI_nar dX11_isFigure_14 (Nat.zero_le _) (Nat.zero_le _) rfl
theorem r_isLetter (h : okH σ) : SpecD l G mX11_isLetter [.ref (adr 0)] (wp G adr LM Lf Rt σ) (some (.int (bI (isLet (mHere σ))))) (wp G adr LM Lf Rt σ) := by
  refine spec_of (by decide) (Nat.le_of_ble_eq_true rfl) (fun sz => ?_)
  refine pw_aload_n dX11_isLetter_0 rfl ?_
  refine lp_cV1 (mi' := mX11_here) (As := []) (q := (RX11, TX11, 33)) dX11_isLetter_1 lk_RX11_108 mk_X11_here mi_X11_here me_X11_here ⟨by decide, by decide⟩ rfl rfl (Nat.le_of_ble_eq_true rfl) rfl rfl ⟨rfl, rfl⟩ ⟨Nat.zero_le _, Nat.zero_le _⟩ (r_here h) ?_
  refine pw_i2l dX11_isLetter_4 ?_
  refine pw_ldc2 dX11_isLetter_5 kc_RX11_116 ?_
  refine pw_ldc2 dX11_isLetter_8 kc_RX11_118 ?_
  refine lp_cS1 (mi' := mX11_in) (As := [_, _, _]) dX11_isLetter_11 lk_RX11_90 mk_X11_in ms_X11_in ⟨by decide, by decide⟩ rfl rfl (Nat.le_of_ble_eq_true rfl) ⟨rfl, rfl⟩ ⟨Nat.zero_le _, Nat.zero_le _⟩ (r_in32 (mHere σ) 97 104 _) ?_
  exact pw_iret rfl bI_nar dX11_isLetter_14 (Nat.zero_le _) (Nat.zero_le _) rfl
end M1
