section XB
variable {l : Launch} {G : cxG} {adr : Nat → Nat} {Lf Rt : va_W} {σ : St}
/-- Inputs.limit -/
def limV (σ : St) (b v : Nat) (lo hi : Int32) : Int32 := if σ.2.2.1 (b + 3) v < lo ∨ hi < σ.2.2.1 (b + 3) v then lo else σ.2.2.1 (b + 3) v
theorem x_limit {b : Nat} (hb : LX.1[b]? = some (.inl 3)) (v : Nat) (hv : v < 8) (lo hi : Int32) : SpR1 l G mX3_limit [.ref (adr b), .int (nI v), .int lo, .int hi] adr LX Lf Rt σ (fun r σ' => r = .int (limV σ b v lo hi) ∧ Fr (b + 1) (b + 4) σ σ' ∧ σ'.2.2.1 (b + 1) = upd (σ.2.2.1 (b + 1)) v lo ∧ σ'.2.2.1 (b + 2) = upd (σ.2.2.1 (b + 2)) v hi ∧ ∀ j, σ'.2.2.1 (b + 3) j = upd (σ.2.2.1 (b + 3)) v (limV σ b v lo hi) j) := by
  refine spec_of (by decide) (Nat.le_of_ble_eq_true rfl) (fun sz => ?_)
  have hv8 : vp_in (nI v) 8 := vp_in_nI hv (by decide)
  have ev : (nI v).toNatClampNeg = v := nI_clamp (by omega)
  obtain ⟨τ, hτ⟩ : ∃ τ, τ = sA (sA σ (b + 1) (upd (σ.2.2.1 (b + 1)) (nI v).toNatClampNeg lo)) (b + 2) (upd ((sA σ (b + 1) (upd (σ.2.2.1 (b + 1)) (nI v).toNatClampNeg lo)).2.2.1 (b + 2)) (nI v).toNatClampNeg hi) := ⟨_, rfl⟩
  have t1 : τ.2.2.1 (b + 1) = upd (σ.2.2.1 (b + 1)) v lo := by rw [hτ, gA' (by omega), gA, ev]
  have t2 : τ.2.2.1 (b + 2) = upd (σ.2.2.1 (b + 2)) v hi := by rw [hτ, gA, gA' (by omega), ev]
  have t3 : τ.2.2.1 (b + 3) = σ.2.2.1 (b + 3) := by rw [hτ, gA' (by omega), gA' (by omega)]
  have tF : Fr (b + 1) (b + 4) σ τ := by rw [hτ]; refine Fr.A (Fr.A Fr.rf ?_ ?_) ?_ ?_ <;> omega
  have tv : τ.2.2.1 (b + 3) (nI v).toNatClampNeg = σ.2.2.1 (b + 3) v := by rw [t3, ev]
  have same : ∀ j, σ.2.2.1 (b + 3) j = upd (σ.2.2.1 (b + 3)) v (σ.2.2.1 (b + 3) v) j := fun j => by
    unfold upd
    by_cases hj : j = v
    · rw [if_pos hj, hj]
    · rw [if_neg hj]
  refine pw_aload_n dX3_limit_0 rfl ?_
  refine lp_getr (b + 1) dX3_limit_1 fp_RX3_9.FL hb rfl (rX3_0 hb) ?_
  refine pw_iload_n dX3_limit_4 rfl ?_
  refine pw_iload_n dX3_limit_5 rfl ?_
  refine lp_iast dX3_limit_6 (kX3_0 hb) (by assumption) ?_
  refine pw_aload_n dX3_limit_7 rfl ?_
  refine lp_getr (b + 2) dX3_limit_8 fp_RX3_15.FL hb rfl (rX3_1 hb) ?_
  refine pw_iload_n dX3_limit_11 rfl ?_
  refine pw_iload_n dX3_limit_12 rfl ?_
  refine lp_iast dX3_limit_13 (kX3_1 hb) (by assumption) ?_
  rw [← hτ]
  refine pw_aload_n dX3_limit_14 rfl ?_
  refine lp_getr (b + 3) dX3_limit_15 fp_RX3_18.FL hb rfl (rX3_2 hb) ?_
  refine pw_iload_n dX3_limit_18 rfl ?_
  refine lp_iald dX3_limit_19 (kX3_2 hb) (by assumption) ?_
  refine pw_top _ tv ?_
  refine pw_iload_n dX3_limit_20 rfl ?_
  refine pw_icmp_lt 34 dX3_limit_21 (by decide) (fun c_21 => ?_) (fun c_21 => ?_)
  · have hc : σ.2.2.1 (b + 3) v < lo ∨ hi < σ.2.2.1 (b + 3) v := by first | exact Or.inl c_21 | exact Or.inr (Int32.not_le.mp c_31)
    have hL : limV σ b v lo hi = lo := by unfold limV; rw [if_pos hc]
    refine pw_aload_n dX3_limit_34 rfl ?_
    refine lp_getr (b + 3) dX3_limit_35 fp_RX3_18.FL hb rfl (rX3_2 hb) ?_
    refine pw_iload_n dX3_limit_38 rfl ?_
    refine pw_iload_n dX3_limit_39 rfl ?_
    refine lp_iast dX3_limit_40 (kX3_2 hb) (by assumption) ?_
    first
      | have hL2 : limV σ b v lo hi = σ.2.2.1 (b + 3) v := by unfold limV; rw [if_neg (fun h => h.elim c_21 (Int32.not_lt.mpr c_31))]
        skip
      | skip
    refine pw_aload_n dX3_limit_41 rfl ?_
    refine lp_getr (b + 3) dX3_limit_42 fp_RX3_18.FL hb rfl (rX3_2 hb) ?_
    refine pw_iload_n dX3_limit_45 rfl ?_
    refine lp_iald dX3_limit_46 (kX3_2 hb) (by assumption) ?_
    exact pw_iret rfl rfl dX3_limit_47 (Nat.zero_le _) (Nat.zero_le _) (by
    first
      | exact ⟨_, τ, rfl, by rw [tv, hL2], tF, t1, t2, fun j => by rw [t3, hL2]; exact same j⟩
      | (refine ⟨_, _, rfl, ?_, ?_, ?_, ?_, ?_⟩
         · rw [gA, hL]; unfold upd; rw [if_pos rfl]
         · refine Fr.A tF ?_ ?_ <;> omega
         · rw [gA' (by omega)]; exact t1
         · rw [gA' (by omega)]; exact t2
         · intro j; rw [gA, t3, ev, hL]))
  · refine pw_aload_n dX3_limit_24 rfl ?_
    refine lp_getr (b + 3) dX3_limit_25 fp_RX3_18.FL hb rfl (rX3_2 hb) ?_
    refine pw_iload_n dX3_limit_28 rfl ?_
    refine lp_iald dX3_limit_29 (kX3_2 hb) (by assumption) ?_
    refine pw_top _ tv ?_
    refine pw_iload_n dX3_limit_30 rfl ?_
    refine pw_icmp_le 41 dX3_limit_31 (by decide) (fun c_31 => ?_) (fun c_31 => ?_)
    · first
        | have hL2 : limV σ b v lo hi = σ.2.2.1 (b + 3) v := by unfold limV; rw [if_neg (fun h => h.elim c_21 (Int32.not_lt.mpr c_31))]
          skip
        | skip
      refine pw_aload_n dX3_limit_41 rfl ?_
      refine lp_getr (b + 3) dX3_limit_42 fp_RX3_18.FL hb rfl (rX3_2 hb) ?_
      refine pw_iload_n dX3_limit_45 rfl ?_
      refine lp_iald dX3_limit_46 (kX3_2 hb) (by assumption) ?_
      exact pw_iret rfl rfl dX3_limit_47 (Nat.zero_le _) (Nat.zero_le _) (by
    first
      | exact ⟨_, τ, rfl, by rw [tv, hL2], tF, t1, t2, fun j => by rw [t3, hL2]; exact same j⟩
      | (refine ⟨_, _, rfl, ?_, ?_, ?_, ?_, ?_⟩
         · rw [gA, hL]; unfold upd; rw [if_pos rfl]
         · refine Fr.A tF ?_ ?_ <;> omega
         · rw [gA' (by omega)]; exact t1
         · rw [gA' (by omega)]; exact t2
         · intro j; rw [gA, t3, ev, hL]))
    · have hc : σ.2.2.1 (b + 3) v < lo ∨ hi < σ.2.2.1 (b + 3) v := by first | exact Or.inl c_21 | exact Or.inr (Int32.not_le.mp c_31)
      have hL : limV σ b v lo hi = lo := by unfold limV; rw [if_pos hc]
      refine pw_aload_n dX3_limit_34 rfl ?_
      refine lp_getr (b + 3) dX3_limit_35 fp_RX3_18.FL hb rfl (rX3_2 hb) ?_
      refine pw_iload_n dX3_limit_38 rfl ?_
      refine pw_iload_n dX3_limit_39 rfl ?_
      refine lp_iast dX3_limit_40 (kX3_2 hb) (by assumption) ?_
      first
        | have hL2 : limV σ b v lo hi = σ.2.2.1 (b + 3) v := by unfold limV; rw [if_neg (fun h => h.elim c_21 (Int32.not_lt.mpr c_31))]
          skip
        | skip
      refine pw_aload_n dX3_limit_41 rfl ?_
      refine lp_getr (b + 3) dX3_limit_42 fp_RX3_18.FL hb rfl (rX3_2 hb) ?_
      refine pw_iload_n dX3_limit_45 rfl ?_
      refine lp_iald dX3_limit_46 (kX3_2 hb) (by assumption) ?_
      exact pw_iret rfl rfl dX3_limit_47 (Nat.zero_le _) (Nat.zero_le _) (by
    first
      | exact ⟨_, τ, rfl, by rw [tv, hL2], tF, t1, t2, fun j => by rw [t3, hL2]; exact same j⟩
      | (refine ⟨_, _, rfl, ?_, ?_, ?_, ?_, ?_⟩
         · rw [gA, hL]; unfold upd; rw [if_pos rfl]
         · refine Fr.A tF ?_ ?_ <;> omega
         · rw [gA' (by omega)]; exact t1
         · rw [gA' (by omega)]; exact t2
         · intro j; rw [gA, t3, ev, hL]))
theorem x_Scopy {a b n : Nat} (ha : LX.1[a]? = some (.inl 8)) (hb : LX.1[b]? = some (.inl 8)) (hab : a + 12 ≤ b ∨ b + 12 ≤ a) (hn : n ≤ 30) (h0 : σ.1 (a + 1) 0 = nI n) : SpR0 l G mX8_copyFrom [.ref (adr b), .ref (adr a)] adr LX Lf Rt σ (fun σ' => Fr b (b + 12) σ σ' ∧ PEq σ (a + 1) σ' (b + 1) n ∧ IEq σ (a + 8) σ' (b + 8)) := by
  refine spec_of (by decide) (Nat.le_of_ble_eq_true rfl) (fun sz => ?_)
  refine pw_aload_n dX8_copyFrom_0 rfl ?_
  refine lp_getr (b + 1) dX8_copyFrom_1 fp_RX8_10.FL hb rfl (rX8_0 hb) ?_
  refine pw_aload_n dX8_copyFrom_4 rfl ?_
  refine lp_getr (a + 1) dX8_copyFrom_5 fp_RX8_10.FL ha rfl (rX8_0 ha) ?_
  refine lp_rV0 (mi' := mX6_copyFrom) (As := [_]) (q := (RX6, TX6, 7)) dX8_copyFrom_8 lk_RX8_23 mk_X6_copyFrom mi_X6_copyFrom me_X6_copyFrom ⟨by decide, by decide⟩ rfl rfl (Nat.le_of_ble_eq_true rfl) (kX8_0 hb) rfl ⟨rfl, rfl⟩ ⟨Nat.zero_le _, Nat.zero_le _⟩ (x_Pcopy (kX8_0 ha) (kX8_0 hb) (by omega) hn h0) (fun τ hQ => ?_)
  refine pw_aload_n dX8_copyFrom_11 rfl ?_
  refine lp_getr (b + 8) dX8_copyFrom_12 fp_RX8_19.FL hb rfl (rX8_1 hb) ?_
  refine pw_aload_n dX8_copyFrom_15 rfl ?_
  refine lp_getr (a + 8) dX8_copyFrom_16 fp_RX8_19.FL ha rfl (rX8_1 ha) ?_
  refine lp_rV0 (mi' := mX3_copyFrom) (As := [_]) (q := (RX3, TX3, 3)) dX8_copyFrom_19 lk_RX8_27 mk_X3_copyFrom mi_X3_copyFrom me_X3_copyFrom ⟨by decide, by decide⟩ rfl rfl (Nat.le_of_ble_eq_true rfl) (kX8_1 hb) rfl ⟨rfl, rfl⟩ ⟨Nat.zero_le _, Nat.zero_le _⟩ (x_Icopy (kX8_1 ha) (kX8_1 hb) (by omega)) (fun ρ hR => ?_)
  exact pw_vret rfl dX8_copyFrom_22 (Nat.zero_le _) (Nat.zero_le _) (by
    refine ⟨ρ, rfl, (hQ.1.mono (by omega) (by omega)).tr (hR.1.mono (by omega) (by omega)), ⟨?_, ?_⟩, ?_⟩
    · rw [(hR.1 (b + 1) (by omega)).1]; exact hQ.2.1
    · intro j hj
      have f := fun i (h : i < 7) => (hR.1 (b + 1 + i) (by omega)).2.2.1
      have h := hQ.2.2 j hj
      exact ⟨(congrFun (f 1 (by omega)) j).trans h.1, (congrFun (f 2 (by omega)) j).trans h.2.1, (congrFun (f 3 (by omega)) j).trans h.2.2.1, (congrFun (f 4 (by omega)) j).trans h.2.2.2.1, (congrFun (f 5 (by omega)) j).trans h.2.2.2.2.1, (congrFun (f 6 (by omega)) j).trans h.2.2.2.2.2⟩
    · intro j hj
      have f := fun i (h : i < 4) => (hQ.1 (a + 8 + i) (by omega)).2.2.1
      have h := hR.2 j hj
      exact ⟨h.1.trans (congrFun (f 1 (by omega)) j), h.2.1.trans (congrFun (f 2 (by omega)) j), h.2.2.trans (congrFun (f 3 (by omega)) j)⟩)
/-- History.save with room: the slot at m gets the present situation -/
theorem x_save {m s n : Nat} (hm : m < 4) (h2 : σ.1 24 0 = nI m) (hs : σ.2.2.2.2 25 m = s) (hk : LX.1[s]? = some (.inl 8)) (hs2 : 24 ≤ s) (hn : n ≤ 30) (h0 : σ.1 13 0 = nI n) : SpR0 l G mX2_save [.ref (adr 24), .ref (adr 12)] adr LX Lf Rt σ (fun σ' => Fr 24 74 σ σ' ∧ σ'.1 24 0 = nI (m + 1) ∧ σ'.2.2.2.2 25 = σ.2.2.2.2 25 ∧ Fr s (s + 12) σ (sI σ' 24 0 (nI m)) ∧ PEq σ 13 σ' (s + 1) n ∧ IEq σ 20 σ' (s + 8)) := by
  refine spec_of (by decide) (Nat.le_of_ble_eq_true rfl) (fun sz => ?_)
  have em : (σ.1 24 0).toNatClampNeg = m := by rw [h2]; exact nI_clamp (by omega)
  have hs3 := hs
  rw [← em] at hs3
  have hlt : s + 12 ≤ 74 ∧ s ≠ 24 ∧ s ≠ 25 := (by decide +kernel : ∀ s, s < 117 → cellsX[s]? = some (.inl 8) → 24 ≤ s → s + 12 ≤ 74 ∧ s ≠ 24 ∧ s ≠ 25) s (LX_lt hk) hk hs2
  refine pw_aload_n dX2_save_0 rfl ?_
  refine lp_geti dX2_save_1 fp_RX2_9.FL rfl rfl ?_
  refine pw_iconst (v := 4) dX2_save_4 rfl ?_
  refine pw_icmp_ne 12 dX2_save_5 (by decide) (fun c_5 => ?_) (fun c_5 => absurd c_5 (show ¬ σ.1 24 0 = 4 by rw [h2]; exact fun q => absurd ((nI_eq (a := m) (b := 4) (by omega) (by decide)).mp q) (by omega)))
  refine pw_aload_n dX2_save_12 rfl ?_
  refine lp_getr 25 dX2_save_13 fp_RX2_17.FL rfl rfl rfl ?_
  refine pw_aload_n dX2_save_16 rfl ?_
  refine lp_geti dX2_save_17 fp_RX2_9.FL rfl rfl ?_
  refine lp_aald dX2_save_20 rfl (by rw [h2]; exact vp_in_nI hm (by decide)) ?_
  rw [hs3]
  refine pw_aload_n dX2_save_21 rfl ?_
  refine lp_rV0 (mi' := mX8_copyFrom) (As := [_]) (q := (RX8, TX8, 2)) dX2_save_22 lk_RX2_25 mk_X8_copyFrom mi_X8_copyFrom me_X8_copyFrom ⟨by decide, by decide⟩ rfl rfl (Nat.le_of_ble_eq_true rfl) hk rfl ⟨rfl, rfl⟩ ⟨Nat.zero_le _, Nat.zero_le _⟩ (x_Scopy (a := 12) rfl hk (by omega) hn h0) (fun τ hQ => ?_)
  refine pw_aload_n dX2_save_25 rfl ?_
  refine pw_dup dX2_save_26 rfl ?_
  refine lp_geti dX2_save_27 fp_RX2_9.FL rfl rfl ?_
  refine pw_iconst (v := 1) dX2_save_30 rfl ?_
  refine pw_iadd dX2_save_31 ?_
  refine lp_puti dX2_save_32 fp_RX2_9 rfl rfl rfl rfl ?_
  exact pw_vret rfl dX2_save_35 (Nat.zero_le _) (Nat.zero_le _) (by
    have e24 := (hQ.1 24 (by omega)).1
    have e25 := (hQ.1 25 (by omega)).2.2.2.2
    have ex : τ.1 24 0 + 1 = nI (m + 1) := by rw [e24, h2]; exact nI_1 m
    refine ⟨_, rfl, ?_, ?_, e25, ?_, ?_, ?_⟩
    · refine Fr.I (hQ.1.mono (by omega) (by omega)) ?_ ?_ <;> omega
    · rw [gI]; exact ex
    · rw [sI_sI, show sI τ 24 0 (nI m) = τ from by rw [show nI m = τ.1 24 0 by rw [e24, h2]]; exact sI_self τ 24 0]
      exact hQ.1
    · exact ⟨(gI' (by omega)).trans hQ.2.1.1, hQ.2.1.2⟩
    · exact hQ.2.2)
end XB
