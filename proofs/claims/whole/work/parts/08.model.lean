/-! THE REFERENCE: its layout, its small methods -/
def fldM : List Nat := [2, 2, 0, 0, 2, 0, 0, 2, 0, 0, 2, 2, 2, 0, 0, 2, 2, 2, 2, 2, 2, 2, 2, 2, 0, 2, 2, 2, 2, 2, 0, 0, 0]
def refM : List Nat := [1, 2, 0, 0, 3, 0, 0, 4, 0, 0, 5, 6, 7, 0, 0, 8, 9, 10, 11, 12, 13, 14, 15, 16, 0, 17, 18, 19, 20, 21, 0, 0, 0]
def LM : Lay := ([.inl 11, .inr (0, 145), .inr (0, 580), .inr (0, 200), .inr (0, 120), .inr (0, 30), .inr (0, 30), .inr (0, 30), .inr (0, 2), .inr (1, 8), .inr (1, 8), .inr (2, 30), .inr (2, 30), .inr (2, 30), .inr (2, 30), .inr (1, 30), .inr (1, 30), .inr (0, 30), .inr (2, 30), .inr (0, 30), .inr (1, 8), .inr (2, 30)], fun _ => fldM, fun _ j => refM.getD j 0)
section M1
variable {l : Launch} {G : cxG} {adr : Nat → Nat} {Lf Rt : va_W} {σ : St}
theorem r_in (v lo hi : Int64) (ws : va_W) : SpecD l G mX11_in [.long v, .long lo, .long hi] ws (some (.int (bI (decide (lo ≤ v ∧ v ≤ hi))))) ws := by
  refine spec_of (by decide) (Nat.le_of_ble_eq_true rfl) (fun sz => ?_)
  refine pw_lload_n dX11_in_0 rfl ?_
  refine pw_lload_n dX11_in_1 rfl ?_
  refine pw_lcmp dX11_in_2 ?_
  refine pw_if_lt 17 dX11_in_3 (by decide) (fun c_3 => ?_) (fun c_3 => ?_)
  · refine pw_iconst (v := 0) dX11_in_17 rfl ?_
    first | exact pw_iret rfl rfl dX11_in_18 (Nat.zero_le _) (Nat.zero_le _) (fin_b0 (fun h => Int64.not_lt.mpr h.1 ((lg_cmp_lt _ _).mp c_3))) | exact pw_iret rfl rfl dX11_in_18 (Nat.zero_le _) (Nat.zero_le _) (fin_b0 (fun h => Int64.not_lt.mpr h.2 ((lg_cmp_gt _ _).mp c_10))) | exact pw_iret rfl rfl dX11_in_18 (Nat.zero_le _) (Nat.zero_le _) (fin_b1 ⟨Int64.not_lt.mp (fun h => c_3 ((lg_cmp_lt _ _).mpr h)), Int64.not_lt.mp (fun h => c_10 ((lg_cmp_gt _ _).mpr h))⟩)
  · refine pw_lload_n dX11_in_6 rfl ?_
    refine pw_lload dX11_in_7 rfl ?_
    refine pw_lcmp dX11_in_9 ?_
    refine pw_if_gt 17 dX11_in_10 (by decide) (fun c_10 => ?_) (fun c_10 => ?_)
    · refine pw_iconst (v := 0) dX11_in_17 rfl ?_
      first | exact pw_iret rfl rfl dX11_in_18 (Nat.zero_le _) (Nat.zero_le _) (fin_b0 (fun h => Int64.not_lt.mpr h.1 ((lg_cmp_lt _ _).mp c_3))) | exact pw_iret rfl rfl dX11_in_18 (Nat.zero_le _) (Nat.zero_le _) (fin_b0 (fun h => Int64.not_lt.mpr h.2 ((lg_cmp_gt _ _).mp c_10))) | exact pw_iret rfl rfl dX11_in_18 (Nat.zero_le _) (Nat.zero_le _) (fin_b1 ⟨Int64.not_lt.mp (fun h => c_3 ((lg_cmp_lt _ _).mpr h)), Int64.not_lt.mp (fun h => c_10 ((lg_cmp_gt _ _).mpr h))⟩)
    · refine pw_iconst (v := 1) dX11_in_13 rfl ?_
      refine pw_goto (tgt := 18) dX11_in_14 (by decide) ?_
      first | exact pw_iret rfl rfl dX11_in_18 (Nat.zero_le _) (Nat.zero_le _) (fin_b0 (fun h => Int64.not_lt.mpr h.1 ((lg_cmp_lt _ _).mp c_3))) | exact pw_iret rfl rfl dX11_in_18 (Nat.zero_le _) (Nat.zero_le _) (fin_b0 (fun h => Int64.not_lt.mpr h.2 ((lg_cmp_gt _ _).mp c_10))) | exact pw_iret rfl rfl dX11_in_18 (Nat.zero_le _) (Nat.zero_le _) (fin_b1 ⟨Int64.not_lt.mp (fun h => c_3 ((lg_cmp_lt _ _).mpr h)), Int64.not_lt.mp (fun h => c_10 ((lg_cmp_gt _ _).mpr h))⟩)
theorem r_thrown : SpecD l G mX11_thrown [.ref (adr 0)] (wp G adr LM Lf Rt σ) (some (.int (σ.1 0 3))) (wp G adr LM Lf Rt σ) := by
  refine spec_of (by decide) (Nat.le_of_ble_eq_true rfl) (fun sz => ?_)
  refine pw_aload_n dX11_thrown_0 rfl ?_
  refine lp_geti dX11_thrown_1 fp_RX11_75.FL rfl rfl ?_
  exact pw_iret rfl rfl dX11_thrown_4 (Nat.zero_le _) (Nat.zero_le _) rfl
theorem r_of (i w : Int32) (hb : vp_in (1 + 4 * i + w) 145) : SpecD l G mX11_of [.ref (adr 0), .int i, .int w] (wp G adr LM Lf Rt σ) (some (.int (σ.2.2.1 1 (1 + 4 * i + w).toNatClampNeg))) (wp G adr LM Lf Rt σ) := by
  refine spec_of (by decide) (Nat.le_of_ble_eq_true rfl) (fun sz => ?_)
  refine pw_aload_n dX11_of_0 rfl ?_
  refine lp_getr 1 dX11_of_1 fp_RX11_7.FL rfl rfl rfl ?_
  refine pw_iconst (v := 1) dX11_of_4 rfl ?_
  refine pw_iconst (v := 4) dX11_of_5 rfl ?_
  refine pw_iload_n dX11_of_6 rfl ?_
  refine pw_imul dX11_of_7 ?_
  refine pw_iadd dX11_of_8 ?_
  refine pw_iload_n dX11_of_9 rfl ?_
  refine pw_iadd dX11_of_10 ?_
  refine lp_iald dX11_of_11 rfl (by assumption) ?_
  exact pw_iret rfl rfl dX11_of_12 (Nat.zero_le _) (Nat.zero_le _) rfl
end M1
