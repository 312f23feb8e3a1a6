/-! THE CLASS: the search for a failing input -/
def alN (al : Nat → Int32) (k : Nat) : Int32 := if 121 ≤ k then al (121 + 3 * ((k - 121) / 3) + 2) else al k
theorem alN_lt {al : Nat → Int32} : ∀ k, k < 121 → al k = alN al k := fun k hk => by unfold alN; rw [if_neg (by omega)]
theorem alN_v {al : Nat → Int32} (j : Nat) : alN al (121 + 3 * j) = al (121 + 3 * j + 2) ∧ alN al (121 + 3 * j + 1) = al (121 + 3 * j + 2) := by
  unfold alN
  rw [if_pos (by omega), if_pos (by omega), show (121 + 3 * j - 121) / 3 = j by omega, show (121 + 3 * j + 1 - 121) / 3 = j by omega]
  exact ⟨rfl, rfl⟩
theorem alN_ok {al : Nat → Int32} : inOK (alN al) := fun j _ => by rw [(alN_v j).1, (alN_v j).2]; exact Int32.le_refl _
/-- the trial's inputs, but for the variable looked at -/
def TI (τ : St) (al : Nat → Int32) (v : Nat) : Prop := ∀ j, j < 8 → j ≠ v → τ.2.2.1 99 j = al (121 + 3 * j + 2) ∧ τ.2.2.1 100 j = al (121 + 3 * j + 2) ∧ τ.2.2.1 101 j = al (121 + 3 * j + 2)
theorem TI.fr {lo hi v : Nat} {σ τ : St} {al : Nat → Int32} (h : TI σ al v) (hF : Fr lo hi σ τ) (hd : 102 ≤ lo ∨ hi ≤ 98) : TI τ al v := fun j hj hn => by
  rw [(hF 99 (by omega)).2.2.1, (hF 100 (by omega)).2.2.1, (hF 101 (by omega)).2.2.1]; exact h j hj hn
/-- where no check can fail over a block, no input of the block fails -/
def FS (al : Nat → Int32) (N v : Nat) : Prop := ∀ lo hi x : Int32, lo ≤ x → x ≤ hi → ¬ 0 < opnC (alW (alN al) v lo hi) N → (cRun (upd al (121 + 3 * v + 2) x) N).2.2.1 = -1
def NF (al : Nat → Int32) (N v : Nat) (had : Int32) (j : Nat) : Prop := (cRun (upd al (121 + 3 * v + 2) (had.toInt64 + lN j).toInt32) N).2.2.1 = -1
theorem xfi_none {al : Nat → Int32} {N v : Nat} {had hi : Int32} : ∀ (r k : Nat), (∀ j, k ≤ j → j < k + r → had.toInt64 + lN j ≤ hi.toInt64 → NF al N v had j) → fiL al N v had hi r k = -2147483648 := by
  intro r
  induction r with
  | zero => intro k _; rfl
  | succ r ih =>
    intro k h
    rw [fiL]
    by_cases hc : had.toInt64 + lN k ≤ hi.toInt64
    · rw [if_pos hc, if_pos (show _ = _ from h k (by omega) (by omega) hc)]
      exact ih (k + 1) (fun j h1 h2 => h j (by omega) (by omega))
    · rw [if_neg hc]
theorem xfi_hit {al : Nat → Int32} {N v : Nat} {had hi : Int32} {m : Nat} (hm : m ≤ 1000) (hc : had.toInt64 + lN m ≤ hi.toInt64) (hf : ¬ NF al N v had m) : ∀ (r k : Nat), k ≤ m → m < k + r → (∀ j, k ≤ j → j < m → NF al N v had j) → fiL al N v had hi r k = (had.toInt64 + lN m).toInt32 := by
  intro r
  induction r with
  | zero => intro k h1 h2; omega
  | succ r ih =>
    intro k h1 h2 h
    rw [fiL]
    rcases Nat.lt_or_ge k m with hk | hk
    · have hc' : had.toInt64 + lN k ≤ hi.toInt64 := by
        rw [Int64.le_iff_toInt_le] at hc ⊢
        rw [addK had m (by omega)] at hc
        rw [addK had k (by omega)]
        omega
      rw [if_pos hc', if_pos (show _ = _ from h k (by omega) hk)]
      exact ih (k + 1) (by omega) (by omega) (fun j q1 q2 => h j (by omega) q2)
    · have hk : k = m := by omega
      subst hk
      unfold NF at hf; rw [if_pos hc, if_neg hf]
theorem yN {had : Int32} {y : Int64} (k : Nat) (hk : k ≤ 1000) (h : y.toInt = had.toInt + k) : y = had.toInt64 + lN k := by
  apply Int64.toInt_inj.mp
  rw [addK had k hk, h]
theorem i32 {y : Int64} (h : iR y) : y.toInt32.toInt = y.toInt := by
  rw [Int64.toInt_toInt32, Int.bmod_eq_of_le] <;> have := h.1 <;> have := h.2 <;> omega
theorem lg_eq0 {x y : Int64} : lg_cmp x y = 0 ↔ x = y := by
  constructor
  · intro h
    apply Int64.toInt_inj.mp
    have h1 : ¬ x < y := fun q => by have := (lg_cmp_lt _ _).mpr q; rw [h] at this; exact absurd this (by decide)
    have h2 : ¬ y < x := fun q => by have := (lg_cmp_gt _ _).mpr q; rw [h] at this; exact absurd this (by decide)
    rw [Int64.lt_iff_toInt_lt] at h1 h2
    omega
  · intro h
    have h1 : ¬ lg_cmp x y < 0 := fun q => by have := (lg_cmp_lt _ _).mp q; rw [h, Int64.lt_iff_toInt_lt] at this; omega
    have h2 : ¬ 0 < lg_cmp x y := fun q => by have := (lg_cmp_gt _ _).mp q; rw [h, Int64.lt_iff_toInt_lt] at this; omega
    apply Int32.toInt_inj.mp
    rw [Int32.lt_iff_toInt_lt] at h1 h2
    have e0 : (0 : Int32).toInt = 0 := rfl
    omega
section XF
variable {l : Launch} {G : cxG} {adr : Nat → Nat} {Lf Rt : va_W} {σ : St} {al : Nat → Int32} {N : Nat}
theorem x_canFail (hP : PI σ al N) (v : Nat) (hv : v < 8) (hT : TI σ al v) (lo hi : Int32) (hlh : lo ≤ hi) : SpR1 l G mX10_canFailBetween [.ref (adr 0), .int (nI v), .int lo, .int hi] adr LX Lf Rt σ (fun r τ => r = .int (bI (decide (0 < opnC (alW (alN al) v lo hi) N))) ∧ Fr 98 117 σ τ ∧ TI τ al v) := by
  refine spec_of (by decide) (Nat.le_of_ble_eq_true rfl) (fun sz => ?_)
  have hN := hP.1.1
  have hv8 : vp_in (nI v) 8 := vp_in_nI hv (by decide)
  have ev : (nI v).toNatClampNeg = v := nI_clamp (by omega)
  obtain ⟨ρ, hρ⟩ : ∃ ρ, ρ = sA (sA σ 99 (upd (σ.2.2.1 99) v lo)) 100 (upd ((sA σ 99 (upd (σ.2.2.1 99) v lo)).2.2.1 100) v hi) := ⟨_, rfl⟩
  have hF1 : Fr 98 117 σ ρ := by rw [hρ]; exact Fr.A (Fr.A Fr.rf (by omega) (by omega)) (by omega) (by omega)
  have hP1 := hP.fr hF1 (by omega)
  have hlt : ∀ k, k < 121 → al k = alW (alN al) v lo hi k := fun k hk => (alN_lt k hk).trans (alW_lt k hk)
  have hW1 : wfP (alW (alN al) v lo hi) N := wfP_congr hlt hP.1
  have hR1 : PgR ρ 13 (alW (alN al) v lo hi) N := hP1.2.1.congr hlt hN
  have e1 : ρ.2.2.1 99 = upd (σ.2.2.1 99) v lo := by rw [hρ, gA' (by omega), gA]
  have e2 : ρ.2.2.1 100 = upd (σ.2.2.1 100) v hi := by rw [hρ, gA, gA' (by omega)]
  have e3 : ρ.2.2.1 101 = σ.2.2.1 101 := by rw [hρ, gA' (by omega), gA' (by omega)]
  have hT1 : TI ρ al v := fun j hj hn => by
    rw [e1, e2, e3]; unfold upd; rw [if_neg hn, if_neg hn]; exact hT j hj hn
  have hL1 : InL ρ 98 (alW (alN al) v lo hi) := by
    intro j hj
    obtain ⟨a1, a2⟩ := alW_v (al := alN al) (v := v) (lo := lo) (hi := hi) j
    rw [show (98 + 1 : Nat) = 99 from rfl, show (98 + 2 : Nat) = 100 from rfl, e1, e2, a1, a2]
    unfold upd
    by_cases e : j = v
    · rw [if_pos e, if_pos e, if_pos e, if_pos e]; exact ⟨rfl, rfl⟩
    · rw [if_neg e, if_neg e, if_neg e, if_neg e, (alN_v j).1, (alN_v j).2]
      exact ⟨(hT j hj e).1, (hT j hj e).2.1⟩
  have hgo := x_go (l := l) (G := G) (adr := adr) (Lf := Lf) (Rt := Rt) (σ := ρ) (b := 102) (p := 13) (a := 98) (al := alW (alN al) v lo hi) (N := N) rfl rfl rfl (by decide) (by decide) hW1 hR1 hL1 (alW_ok alN_ok hlh)
  by_cases h0 : 0 < opnC (alW (alN al) v lo hi) N
  · refine pw_aload_n dX10_canFailBetween_0 rfl ?_
    refine lp_getr 98 dX10_canFailBetween_1 fp_RX10_80.FL rfl rfl rfl ?_
    refine lp_getr 99 dX10_canFailBetween_4 fp_RX10_141.FL rfl rfl rfl ?_
    refine pw_iload_n dX10_canFailBetween_7 rfl ?_
    refine pw_iload_n dX10_canFailBetween_8 rfl ?_
    refine lp_iast dX10_canFailBetween_9 rfl hv8 ?_
    refine pw_aload_n dX10_canFailBetween_10 rfl ?_
    refine lp_getr 98 dX10_canFailBetween_11 fp_RX10_80.FL rfl rfl rfl ?_
    refine lp_getr 100 dX10_canFailBetween_14 fp_RX10_145.FL rfl rfl rfl ?_
    refine pw_iload_n dX10_canFailBetween_17 rfl ?_
    refine pw_iload_n dX10_canFailBetween_18 rfl ?_
    refine lp_iast dX10_canFailBetween_19 rfl hv8 ?_
    rw [ev, ← hρ]
    refine pw_aload_n dX10_canFailBetween_20 rfl ?_
    refine lp_getr 102 dX10_canFailBetween_21 fp_RX10_84.FL rfl rfl rfl ?_
    refine pw_aload_n dX10_canFailBetween_24 rfl ?_
    refine lp_getr 12 dX10_canFailBetween_25 fp_RX10_35.FL rfl rfl rfl ?_
    refine lp_getr 13 dX10_canFailBetween_28 fp_RX10_117.FL rfl rfl rfl ?_
    refine pw_aload_n dX10_canFailBetween_31 rfl ?_
    refine lp_getr 98 dX10_canFailBetween_32 fp_RX10_80.FL rfl rfl rfl ?_
    refine lp_rV0 (mi' := mX0_go) (As := [_, _]) (q := (RX0, TX0, 13)) dX10_canFailBetween_35 lk_RX10_305 mk_X0_go mi_X0_go me_X0_go ⟨by decide, by decide⟩ rfl rfl (Nat.le_of_ble_eq_true rfl) rfl rfl ⟨rfl, rfl⟩ ⟨Nat.zero_le _, Nat.zero_le _⟩ hgo (fun ρ2 hG => ?_)
    refine pw_aload_n dX10_canFailBetween_38 rfl ?_
    refine lp_getr 102 dX10_canFailBetween_39 fp_RX10_84.FL rfl rfl rfl ?_
    refine lp_geti dX10_canFailBetween_42 fp_RX10_322.FL rfl rfl ?_
    refine pw_top (opnC (alW (alN al) v lo hi) N) (hG.2.1.2.2.2.2.trans (opn_cnt hN hG.2.2).symm) ?_
    refine pw_if_le 52 dX10_canFailBetween_45 (by decide) (fun c_45 => absurd h0 (Int32.not_lt.mpr c_45)) (fun c_45 => ?_)
    refine pw_iconst (v := 1) dX10_canFailBetween_48 rfl ?_
    refine pw_goto (tgt := 53) dX10_canFailBetween_49 (by decide) ?_
    exact pw_iret rfl rfl dX10_canFailBetween_53 (Nat.zero_le _) (Nat.zero_le _) ⟨_, ρ2, rfl, by rw [decide_eq_true h0]; rfl, hF1.tr (hG.1.mono (by omega) (by omega)), hT1.fr hG.1 (by omega)⟩
  · refine pw_aload_n dX10_canFailBetween_0 rfl ?_
    refine lp_getr 98 dX10_canFailBetween_1 fp_RX10_80.FL rfl rfl rfl ?_
    refine lp_getr 99 dX10_canFailBetween_4 fp_RX10_141.FL rfl rfl rfl ?_
    refine pw_iload_n dX10_canFailBetween_7 rfl ?_
    refine pw_iload_n dX10_canFailBetween_8 rfl ?_
    refine lp_iast dX10_canFailBetween_9 rfl hv8 ?_
    refine pw_aload_n dX10_canFailBetween_10 rfl ?_
    refine lp_getr 98 dX10_canFailBetween_11 fp_RX10_80.FL rfl rfl rfl ?_
    refine lp_getr 100 dX10_canFailBetween_14 fp_RX10_145.FL rfl rfl rfl ?_
    refine pw_iload_n dX10_canFailBetween_17 rfl ?_
    refine pw_iload_n dX10_canFailBetween_18 rfl ?_
    refine lp_iast dX10_canFailBetween_19 rfl hv8 ?_
    rw [ev, ← hρ]
    refine pw_aload_n dX10_canFailBetween_20 rfl ?_
    refine lp_getr 102 dX10_canFailBetween_21 fp_RX10_84.FL rfl rfl rfl ?_
    refine pw_aload_n dX10_canFailBetween_24 rfl ?_
    refine lp_getr 12 dX10_canFailBetween_25 fp_RX10_35.FL rfl rfl rfl ?_
    refine lp_getr 13 dX10_canFailBetween_28 fp_RX10_117.FL rfl rfl rfl ?_
    refine pw_aload_n dX10_canFailBetween_31 rfl ?_
    refine lp_getr 98 dX10_canFailBetween_32 fp_RX10_80.FL rfl rfl rfl ?_
    refine lp_rV0 (mi' := mX0_go) (As := [_, _]) (q := (RX0, TX0, 13)) dX10_canFailBetween_35 lk_RX10_305 mk_X0_go mi_X0_go me_X0_go ⟨by decide, by decide⟩ rfl rfl (Nat.le_of_ble_eq_true rfl) rfl rfl ⟨rfl, rfl⟩ ⟨Nat.zero_le _, Nat.zero_le _⟩ hgo (fun ρ2 hG => ?_)
    refine pw_aload_n dX10_canFailBetween_38 rfl ?_
    refine lp_getr 102 dX10_canFailBetween_39 fp_RX10_84.FL rfl rfl rfl ?_
    refine lp_geti dX10_canFailBetween_42 fp_RX10_322.FL rfl rfl ?_
    refine pw_top (opnC (alW (alN al) v lo hi) N) (hG.2.1.2.2.2.2.trans (opn_cnt hN hG.2.2).symm) ?_
    refine pw_if_le 52 dX10_canFailBetween_45 (by decide) (fun c_45 => ?_) (fun c_45 => absurd (Int32.not_lt.mp h0) c_45)
    refine pw_iconst (v := 0) dX10_canFailBetween_52 rfl ?_
    exact pw_iret rfl rfl dX10_canFailBetween_53 (Nat.zero_le _) (Nat.zero_le _) ⟨_, ρ2, rfl, by rw [decide_eq_false h0]; rfl, hF1.tr (hG.1.mono (by omega) (by omega)), hT1.fr hG.1 (by omega)⟩
theorem x_failsW (hP : PI σ al N) (v : Nat) (hv : v < 8) (hT : TI σ al v) (x : Int32) : SpR1 l G mX10_failsWith [.ref (adr 0), .int (nI v), .int x] adr LX Lf Rt σ (fun r τ => r = .int (bI (!decide ((cRun (upd al (121 + 3 * v + 2) x) N).2.2.1 = -1))) ∧ Fr 98 117 σ τ ∧ TI τ al v) := by
  refine spec_of (by decide) (Nat.le_of_ble_eq_true rfl) (fun sz => ?_)
  have hN := hP.1.1
  have hv8 : vp_in (nI v) 8 := vp_in_nI hv (by decide)
  have ev : (nI v).toNatClampNeg = v := nI_clamp (by omega)
  obtain ⟨ρ, hρ⟩ : ∃ ρ, ρ = sA σ 101 (upd (σ.2.2.1 101) v x) := ⟨_, rfl⟩
  have hF1 : Fr 98 117 σ ρ := by rw [hρ]; exact Fr.A Fr.rf (by omega) (by omega)
  have hP1 := hP.fr hF1 (by omega)
  have hlt : ∀ k, k < 121 → al k = upd al (121 + 3 * v + 2) x k := fun k hk => by unfold upd; rw [if_neg (by omega)]
  have hW1 : wfP (upd al (121 + 3 * v + 2) x) N := wfP_congr hlt hP.1
  have hR1 : PgR ρ 13 (upd al (121 + 3 * v + 2) x) N := hP1.2.1.congr hlt hN
  have e1 : ρ.2.2.1 101 = upd (σ.2.2.1 101) v x := by rw [hρ, gA]
  have hT1 : TI ρ al v := fun j hj hn => by
    rw [e1, hρ, gA' (by omega), gA' (by omega)]; unfold upd; rw [if_neg hn]; exact hT j hj hn
  have hV1 : InV ρ 98 (upd al (121 + 3 * v + 2) x) := by
    intro j hj
    rw [show (98 + 3 : Nat) = 101 from rfl, e1]
    unfold upd
    by_cases e : j = v
    · rw [if_pos e, if_pos (by omega)]
    · rw [if_neg e, if_neg (by omega)]
      exact (hT j hj e).2.2
  have hgo := x_goPlain (l := l) (G := G) (adr := adr) (Lf := Lf) (Rt := Rt) (σ := ρ) (b := 112) (p := 13) (a := 98) (al := upd al (121 + 3 * v + 2) x) (N := N) rfl rfl rfl (by decide) (by decide) hW1 hR1 hV1
  by_cases h0 : (cRun (upd al (121 + 3 * v + 2) x) N).2.2.1 = -1
  · refine pw_aload_n dX10_failsWith_0 rfl ?_
    refine lp_getr 98 dX10_failsWith_1 fp_RX10_80.FL rfl rfl rfl ?_
    refine lp_getr 101 dX10_failsWith_4 fp_RX10_150.FL rfl rfl rfl ?_
    refine pw_iload_n dX10_failsWith_7 rfl ?_
    refine pw_iload_n dX10_failsWith_8 rfl ?_
    refine lp_iast dX10_failsWith_9 rfl hv8 ?_
    rw [ev, ← hρ]
    refine pw_aload_n dX10_failsWith_10 rfl ?_
    refine lp_getr 112 dX10_failsWith_11 fp_RX10_87.FL rfl rfl rfl ?_
    refine pw_aload_n dX10_failsWith_14 rfl ?_
    refine lp_getr 12 dX10_failsWith_15 fp_RX10_35.FL rfl rfl rfl ?_
    refine lp_getr 13 dX10_failsWith_18 fp_RX10_117.FL rfl rfl rfl ?_
    refine pw_aload_n dX10_failsWith_21 rfl ?_
    refine lp_getr 98 dX10_failsWith_22 fp_RX10_80.FL rfl rfl rfl ?_
    refine lp_rV0 (mi' := mX7_goPlain) (As := [_, _]) (q := (RX7, TX7, 6)) dX10_failsWith_25 lk_RX10_313 mk_X7_goPlain mi_X7_goPlain me_X7_goPlain ⟨by decide, by decide⟩ rfl rfl (Nat.le_of_ble_eq_true rfl) rfl rfl ⟨rfl, rfl⟩ ⟨Nat.zero_le _, Nat.zero_le _⟩ hgo (fun ρ2 hG => ?_)
    refine pw_aload_n dX10_failsWith_28 rfl ?_
    refine lp_getr 112 dX10_failsWith_29 fp_RX10_87.FL rfl rfl rfl ?_
    refine lp_geti dX10_failsWith_32 fp_RX10_219.FL rfl rfl ?_
    refine pw_top (-1) (hG.2.2.2.1.trans h0) ?_
    refine pw_iconst (v := -1) dX10_failsWith_35 rfl ?_
    refine pw_icmp_eq 43 dX10_failsWith_36 (by decide) (fun c_36 => ?_) (fun c_36 => absurd rfl c_36)
    refine pw_iconst (v := 0) dX10_failsWith_43 rfl ?_
    exact pw_iret rfl rfl dX10_failsWith_44 (Nat.zero_le _) (Nat.zero_le _) ⟨_, ρ2, rfl, by rw [decide_eq_true h0]; rfl, hF1.tr (hG.1.mono (by omega) (by omega)), hT1.fr hG.1 (by omega)⟩
  · refine pw_aload_n dX10_failsWith_0 rfl ?_
    refine lp_getr 98 dX10_failsWith_1 fp_RX10_80.FL rfl rfl rfl ?_
    refine lp_getr 101 dX10_failsWith_4 fp_RX10_150.FL rfl rfl rfl ?_
    refine pw_iload_n dX10_failsWith_7 rfl ?_
    refine pw_iload_n dX10_failsWith_8 rfl ?_
    refine lp_iast dX10_failsWith_9 rfl hv8 ?_
    rw [ev, ← hρ]
    refine pw_aload_n dX10_failsWith_10 rfl ?_
    refine lp_getr 112 dX10_failsWith_11 fp_RX10_87.FL rfl rfl rfl ?_
    refine pw_aload_n dX10_failsWith_14 rfl ?_
    refine lp_getr 12 dX10_failsWith_15 fp_RX10_35.FL rfl rfl rfl ?_
    refine lp_getr 13 dX10_failsWith_18 fp_RX10_117.FL rfl rfl rfl ?_
    refine pw_aload_n dX10_failsWith_21 rfl ?_
    refine lp_getr 98 dX10_failsWith_22 fp_RX10_80.FL rfl rfl rfl ?_
    refine lp_rV0 (mi' := mX7_goPlain) (As := [_, _]) (q := (RX7, TX7, 6)) dX10_failsWith_25 lk_RX10_313 mk_X7_goPlain mi_X7_goPlain me_X7_goPlain ⟨by decide, by decide⟩ rfl rfl (Nat.le_of_ble_eq_true rfl) rfl rfl ⟨rfl, rfl⟩ ⟨Nat.zero_le _, Nat.zero_le _⟩ hgo (fun ρ2 hG => ?_)
    refine pw_aload_n dX10_failsWith_28 rfl ?_
    refine lp_getr 112 dX10_failsWith_29 fp_RX10_87.FL rfl rfl rfl ?_
    refine lp_geti dX10_failsWith_32 fp_RX10_219.FL rfl rfl ?_
    refine pw_top _ hG.2.2.2.1 ?_
    refine pw_iconst (v := -1) dX10_failsWith_35 rfl ?_
    refine pw_icmp_eq 43 dX10_failsWith_36 (by decide) (fun c_36 => absurd c_36 h0) (fun c_36 => ?_)
    refine pw_iconst (v := 1) dX10_failsWith_39 rfl ?_
    refine pw_goto (tgt := 44) dX10_failsWith_40 (by decide) ?_
    exact pw_iret rfl rfl dX10_failsWith_44 (Nat.zero_le _) (Nat.zero_le _) ⟨_, ρ2, rfl, by rw [decide_eq_false h0]; rfl, hF1.tr (hG.1.mono (by omega) (by omega)), hT1.fr hG.1 (by omega)⟩
theorem wid {W : Int32} {h : Nat} (h0 : 0 ≤ W.toInt) (h1 : W.toInt < 2 ^ (h + 1)) : 0 ≤ (W / 2).toInt ∧ (W / 2).toInt < 2 ^ h := by
  have e : (W / 2).toInt = W.toInt / 2 := by
    rw [Int32.toInt_div_of_ne_right _ _ (by decide), show (2 : Int32).toInt = 2 from rfl, Int.tdiv_eq_ediv_of_nonneg h0]
  rw [e]
  rw [Int.pow_succ] at h1
  omega
theorem xfi_loop {sz : Nat} {w0 : va_W} {fin : OC → Prop} (hP : PI σ al N) (v : Nat) (hv : v < 8) (had hi : Int32) (L : Int64) (hL : L.toInt = min (had.toInt + 200) hi.toInt)
    (kk : ∀ τ r, Fr 98 117 σ τ → (FS al N v → r = fiL al N v had hi 201 0) → fin (.inl (some (.int r), wp G adr LX Lf Rt τ))) :
    ∀ (r t : Nat), t + r = 456 → ∀ (k h : Nat) (x : Int64) (W : Int32) (τ : St), t + h ≤ k + 8 → k ≤ 201 → x = had.toInt64 + lN k → 0 ≤ W.toInt → W.toInt < 2 ^ h → h ≤ 8 → Fr 98 117 σ τ → TI τ al v → (FS al N v → ∀ j, j < k → NF al N v had j) →
    PW l G mX10_failingInput w0 sz fin 63 [(0, .ref (adr 0)), (1, .int (nI v)), (2, .long x), (4, .long L), (6, .int W), (7, .int (nI t))] [] 0 0 (wp G adr LX Lf Rt τ) := by
  intro r
  induction r with
  | zero => intro t ht k h x W τ h1 h2; omega
  | succ r ih =>
    intro t ht k h x W τ h1 h2 hx hW0 hW1 hh hF hT hNF
    have hP1 := hP.fr hF (by omega)
    have c68 : ¬ (455 : Int32) < nI t := Int32.not_lt.mpr (by rw [show (455 : Int32) = nI 455 from rfl]; exact nI_le (by omega) (by decide))
    have hxI : x.toInt = had.toInt + k := by rw [hx]; exact addK had k (by omega)
    have hb1 := Int32.le_toInt had
    have hb2 := Int32.toInt_lt had
    have hb3 := Int32.le_toInt hi
    have hb4 := Int32.toInt_lt hi
    have hW2 : W.toInt ≤ 255 := by
      have : (2 : Int) ^ h ≤ 2 ^ 8 := by exact_mod_cast Nat.pow_le_pow_right (by decide) hh
      omega
    by_cases h75 : L < x
    · have h75' := Int64.lt_iff_toInt_lt.mp h75
      refine pw_iload dX10_failingInput_63 rfl ?_
      refine pw_sipush (v := 455) dX10_failingInput_65 rfl ?_
      refine pw_icmp_gt 150 dX10_failingInput_68 (by decide) (fun c_68 => absurd c_68 c68) (fun c_68 => ?_)
      refine pw_lload_n dX10_failingInput_71 rfl ?_
      refine pw_lload dX10_failingInput_72 rfl ?_
      refine pw_lcmp dX10_failingInput_74 ?_
      refine pw_if_gt 150 dX10_failingInput_75 (by decide) (fun c_75 => ?_) (fun c_75 => absurd ((lg_cmp_gt _ _).mpr h75) c_75)
      refine pw_ldcw dX10_failingInput_150 kc_RX10_256 ?_
      exact pw_iret rfl rfl dX10_failingInput_153 (Nat.zero_le _) (Nat.zero_le _) (by
        refine kk τ _ hF (fun hs => (xfi_none 201 0 (fun j _ hj hc => hNF hs j ?_)).symm)
        have hc := Int64.le_iff_toInt_le.mp hc
        rw [addK had j (by omega), Int32.toInt_toInt64] at hc
        omega)
    · have h75' : x.toInt ≤ L.toInt := Int64.le_iff_toInt_le.mp (Int64.not_lt.mp h75)
      have hk2 : k ≤ 200 := by omega
      have eW : (x + W.toInt64).toInt = x.toInt + W.toInt := by
        rw [Int64.toInt_add, Int32.toInt_toInt64]
        apply Int.bmod_eq_of_le <;> omega
      obtain ⟨y, hy⟩ : ∃ y, y = (if L < x + W.toInt64 then L else x + W.toInt64) := ⟨_, rfl⟩
      have hyI : y.toInt = min L.toInt (x.toInt + W.toInt) := by
        rw [hy]
        split
        · rename_i q; rw [Int64.lt_iff_toInt_lt, eW] at q; omega
        · rename_i q; rw [Int64.lt_iff_toInt_lt, eW] at q; rw [eW]; omega
      have hxr : iR x := ⟨by omega, by omega⟩
      have hyr : iR y := ⟨by omega, by omega⟩
      by_cases hxy : x = y
      · have hf := x_failsW (l := l) (G := G) (adr := adr) (Lf := Lf) (Rt := Rt) (σ := τ) hP1 v hv hT x.toInt32
        by_cases hn : (cRun (upd al (121 + 3 * v + 2) x.toInt32) N).2.2.1 = -1
        · rw [decide_eq_true hn] at hf
          refine pw_iload dX10_failingInput_63 rfl ?_
          refine pw_sipush (v := 455) dX10_failingInput_65 rfl ?_
          refine pw_icmp_gt 150 dX10_failingInput_68 (by decide) (fun c_68 => absurd c_68 c68) (fun c_68 => ?_)
          refine pw_lload_n dX10_failingInput_71 rfl ?_
          refine pw_lload dX10_failingInput_72 rfl ?_
          refine pw_lcmp dX10_failingInput_74 ?_
          refine pw_if_gt 150 dX10_failingInput_75 (by decide) (fun c_75 => absurd ((lg_cmp_gt _ _).mp c_75) h75) (fun c_75 => ?_)
          refine pw_lload_n dX10_failingInput_78 rfl ?_
          refine pw_iload dX10_failingInput_79 rfl ?_
          refine pw_i2l dX10_failingInput_81 ?_
          refine pw_ladd dX10_failingInput_82 ?_
          refine pw_lload dX10_failingInput_83 rfl ?_
          refine pw_lmin dX10_failingInput_85 ma_RX10_240 ma_s_min ma_i ma_c_min (by decide) (Nat.le_of_ble_eq_true rfl) (Nat.zero_le _) (Nat.zero_le _) ?_
          refine pw_topl y hy.symm ?_
          refine pw_lstore dX10_failingInput_88 (by decide) ?_
          refine pw_lload_n dX10_failingInput_90 rfl ?_
          refine pw_lload dX10_failingInput_91 rfl ?_
          refine pw_lcmp dX10_failingInput_93 ?_
          refine pw_if_ne 117 dX10_failingInput_94 (by decide) (fun c_94 => absurd c_94 (fun z => z (lg_eq0.mpr hxy))) (fun c_94 => ?_)
          refine pw_aload_n dX10_failingInput_97 rfl ?_
          refine pw_iload_n dX10_failingInput_98 rfl ?_
          refine pw_lload_n dX10_failingInput_99 rfl ?_
          refine pw_l2i dX10_failingInput_100 ?_
          refine lp_rV1 (mi' := mX10_failsWith) (As := [_, _]) (q := (RX10, TX10, 14)) dX10_failingInput_101 lk_RX10_246 mk_X10_failsWith mi_X10_failsWith me_X10_failsWith ⟨by decide, by decide⟩ rfl rfl (Nat.le_of_ble_eq_true rfl) rfl rfl ⟨rfl, rfl⟩ ⟨Nat.zero_le _, Nat.zero_le _⟩ hf (fun w ρ hQ => ?_)
          obtain ⟨rfl, hQ, hT2⟩ := hQ
          refine pw_if_eq 110 dX10_failingInput_104 (by decide) (fun c_104 => ?_) (fun c_104 => absurd rfl c_104)
          refine pw_lload_n dX10_failingInput_110 rfl ?_
          refine pw_lconst (v := 1) dX10_failingInput_111 rfl ?_
          refine pw_ladd dX10_failingInput_112 ?_
          refine pw_lstore_n dX10_failingInput_113 (by decide) ?_
          refine pw_goto (tgt := 144) dX10_failingInput_114 (by decide) ?_
          refine pw_iinc dX10_failingInput_144 rfl (by decide) ?_
          refine pw_goto (tgt := 63) dX10_failingInput_147 (by decide) ?_
          exact pw_lk [(0, .ref (adr 0)), (1, .int (nI v)), (2, .long (x + 1)), (4, .long L), (6, .int W), (7, .int (nI (t + 1)))] ⟨rfl, rfl, rfl, rfl, rfl, congrArg (fun x => some (Value.int x)) (nI_1 t), trivial⟩ (ih (t + 1) (by omega) (k + 1) h (x + 1) W ρ (by omega) (by omega) (by rw [hx]; exact addK1 had k) hW0 hW1 hh (hF.tr hQ) hT2 (fun hs j hj => by
            rcases Nat.lt_or_ge j k with q | q
            · exact hNF hs j q
            · rw [show j = k by omega]; unfold NF; rw [← hx]; exact hn))
        · rw [decide_eq_false hn] at hf
          refine pw_iload dX10_failingInput_63 rfl ?_
          refine pw_sipush (v := 455) dX10_failingInput_65 rfl ?_
          refine pw_icmp_gt 150 dX10_failingInput_68 (by decide) (fun c_68 => absurd c_68 c68) (fun c_68 => ?_)
          refine pw_lload_n dX10_failingInput_71 rfl ?_
          refine pw_lload dX10_failingInput_72 rfl ?_
          refine pw_lcmp dX10_failingInput_74 ?_
          refine pw_if_gt 150 dX10_failingInput_75 (by decide) (fun c_75 => absurd ((lg_cmp_gt _ _).mp c_75) h75) (fun c_75 => ?_)
          refine pw_lload_n dX10_failingInput_78 rfl ?_
          refine pw_iload dX10_failingInput_79 rfl ?_
          refine pw_i2l dX10_failingInput_81 ?_
          refine pw_ladd dX10_failingInput_82 ?_
          refine pw_lload dX10_failingInput_83 rfl ?_
          refine pw_lmin dX10_failingInput_85 ma_RX10_240 ma_s_min ma_i ma_c_min (by decide) (Nat.le_of_ble_eq_true rfl) (Nat.zero_le _) (Nat.zero_le _) ?_
          refine pw_topl y hy.symm ?_
          refine pw_lstore dX10_failingInput_88 (by decide) ?_
          refine pw_lload_n dX10_failingInput_90 rfl ?_
          refine pw_lload dX10_failingInput_91 rfl ?_
          refine pw_lcmp dX10_failingInput_93 ?_
          refine pw_if_ne 117 dX10_failingInput_94 (by decide) (fun c_94 => absurd c_94 (fun z => z (lg_eq0.mpr hxy))) (fun c_94 => ?_)
          refine pw_aload_n dX10_failingInput_97 rfl ?_
          refine pw_iload_n dX10_failingInput_98 rfl ?_
          refine pw_lload_n dX10_failingInput_99 rfl ?_
          refine pw_l2i dX10_failingInput_100 ?_
          refine lp_rV1 (mi' := mX10_failsWith) (As := [_, _]) (q := (RX10, TX10, 14)) dX10_failingInput_101 lk_RX10_246 mk_X10_failsWith mi_X10_failsWith me_X10_failsWith ⟨by decide, by decide⟩ rfl rfl (Nat.le_of_ble_eq_true rfl) rfl rfl ⟨rfl, rfl⟩ ⟨Nat.zero_le _, Nat.zero_le _⟩ hf (fun w ρ hQ => ?_)
          obtain ⟨rfl, hQ, hT2⟩ := hQ
          refine pw_if_eq 110 dX10_failingInput_104 (by decide) (fun c_104 => absurd c_104 (by decide)) (fun c_104 => ?_)
          refine pw_lload_n dX10_failingInput_107 rfl ?_
          refine pw_l2i dX10_failingInput_108 ?_
          exact pw_iret rfl rfl dX10_failingInput_109 (Nat.zero_le _) (Nat.zero_le _) (by
            refine kk ρ _ (hF.tr hQ) (fun hs => ?_)
            rw [xfi_hit (m := k) (by omega) ?_ ?_ 201 0 (by omega) (by omega) (fun j _ hj => hNF hs j hj), ← hx]
            · rw [Int64.le_iff_toInt_le, ← hx, Int32.toInt_toInt64]; omega
            · unfold NF; rw [← hx]; exact hn)
      · have hlt : x.toInt < y.toInt := by
          have : ¬ x.toInt = y.toInt := fun q => hxy (Int64.toInt_inj.mp q)
          omega
        have hle : x.toInt32 ≤ y.toInt32 := by rw [Int32.le_iff_toInt_le, i32 hxr, i32 hyr]; omega
        have hf := x_canFail (l := l) (G := G) (adr := adr) (Lf := Lf) (Rt := Rt) (σ := τ) hP1 v hv hT x.toInt32 y.toInt32 hle
        by_cases hn : 0 < opnC (alW (alN al) v x.toInt32 y.toInt32) N
        · rw [decide_eq_true hn] at hf
          obtain ⟨h', rfl⟩ : ∃ h', h = h' + 1 := ⟨h - 1, by
            rcases Nat.eq_zero_or_pos h with q | q
            · subst q; rw [Int.pow_zero] at hW1; omega
            · omega⟩
          obtain ⟨w1, w2⟩ := wid hW0 hW1
          refine pw_iload dX10_failingInput_63 rfl ?_
          refine pw_sipush (v := 455) dX10_failingInput_65 rfl ?_
          refine pw_icmp_gt 150 dX10_failingInput_68 (by decide) (fun c_68 => absurd c_68 c68) (fun c_68 => ?_)
          refine pw_lload_n dX10_failingInput_71 rfl ?_
          refine pw_lload dX10_failingInput_72 rfl ?_
          refine pw_lcmp dX10_failingInput_74 ?_
          refine pw_if_gt 150 dX10_failingInput_75 (by decide) (fun c_75 => absurd ((lg_cmp_gt _ _).mp c_75) h75) (fun c_75 => ?_)
          refine pw_lload_n dX10_failingInput_78 rfl ?_
          refine pw_iload dX10_failingInput_79 rfl ?_
          refine pw_i2l dX10_failingInput_81 ?_
          refine pw_ladd dX10_failingInput_82 ?_
          refine pw_lload dX10_failingInput_83 rfl ?_
          refine pw_lmin dX10_failingInput_85 ma_RX10_240 ma_s_min ma_i ma_c_min (by decide) (Nat.le_of_ble_eq_true rfl) (Nat.zero_le _) (Nat.zero_le _) ?_
          refine pw_topl y hy.symm ?_
          refine pw_lstore dX10_failingInput_88 (by decide) ?_
          refine pw_lload_n dX10_failingInput_90 rfl ?_
          refine pw_lload dX10_failingInput_91 rfl ?_
          refine pw_lcmp dX10_failingInput_93 ?_
          refine pw_if_ne 117 dX10_failingInput_94 (by decide) (fun c_94 => ?_) (fun c_94 => absurd c_94 (fun z => hxy (lg_eq0.mp z)))
          refine pw_aload_n dX10_failingInput_117 rfl ?_
          refine pw_iload_n dX10_failingInput_118 rfl ?_
          refine pw_lload_n dX10_failingInput_119 rfl ?_
          refine pw_l2i dX10_failingInput_120 ?_
          refine pw_lload dX10_failingInput_121 rfl ?_
          refine pw_l2i dX10_failingInput_123 ?_
          refine lp_rV1 (mi' := mX10_canFailBetween) (As := [_, _, _]) (q := (RX10, TX10, 14)) dX10_failingInput_124 lk_RX10_250 mk_X10_canFailBetween mi_X10_canFailBetween me_X10_canFailBetween ⟨by decide, by decide⟩ rfl rfl (Nat.le_of_ble_eq_true rfl) rfl rfl ⟨rfl, rfl⟩ ⟨Nat.zero_le _, Nat.zero_le _⟩ hf (fun w ρ hQ => ?_)
          obtain ⟨rfl, hQ, hT2⟩ := hQ
          refine pw_if_eq 139 dX10_failingInput_127 (by decide) (fun c_127 => absurd c_127 (by decide)) (fun c_127 => ?_)
          refine pw_iload dX10_failingInput_130 rfl ?_
          refine pw_iconst (v := 2) dX10_failingInput_132 rfl ?_
          refine pw_idiv dX10_failingInput_133 (by decide) ?_
          refine pw_istore dX10_failingInput_134 (by decide) ?_
          refine pw_goto (tgt := 144) dX10_failingInput_136 (by decide) ?_
          refine pw_iinc dX10_failingInput_144 rfl (by decide) ?_
          refine pw_goto (tgt := 63) dX10_failingInput_147 (by decide) ?_
          exact pw_lk [(0, .ref (adr 0)), (1, .int (nI v)), (2, .long x), (4, .long L), (6, .int (W / 2)), (7, .int (nI (t + 1)))] ⟨rfl, rfl, rfl, rfl, rfl, congrArg (fun x => some (Value.int x)) (nI_1 t), trivial⟩ (ih (t + 1) (by omega) k h' x (W / 2) ρ (by omega) h2 hx w1 w2 (by omega) (hF.tr hQ) hT2 hNF)
        · rw [decide_eq_false hn] at hf
          obtain ⟨m, hm⟩ : ∃ m : Nat, y.toInt = had.toInt + m := ⟨(y.toInt - had.toInt).toNat, by omega⟩
          have hm2 : m ≤ 200 := by omega
          have hyN := yN m (by omega) hm
          refine pw_iload dX10_failingInput_63 rfl ?_
          refine pw_sipush (v := 455) dX10_failingInput_65 rfl ?_
          refine pw_icmp_gt 150 dX10_failingInput_68 (by decide) (fun c_68 => absurd c_68 c68) (fun c_68 => ?_)
          refine pw_lload_n dX10_failingInput_71 rfl ?_
          refine pw_lload dX10_failingInput_72 rfl ?_
          refine pw_lcmp dX10_failingInput_74 ?_
          refine pw_if_gt 150 dX10_failingInput_75 (by decide) (fun c_75 => absurd ((lg_cmp_gt _ _).mp c_75) h75) (fun c_75 => ?_)
          refine pw_lload_n dX10_failingInput_78 rfl ?_
          refine pw_iload dX10_failingInput_79 rfl ?_
          refine pw_i2l dX10_failingInput_81 ?_
          refine pw_ladd dX10_failingInput_82 ?_
          refine pw_lload dX10_failingInput_83 rfl ?_
          refine pw_lmin dX10_failingInput_85 ma_RX10_240 ma_s_min ma_i ma_c_min (by decide) (Nat.le_of_ble_eq_true rfl) (Nat.zero_le _) (Nat.zero_le _) ?_
          refine pw_topl y hy.symm ?_
          refine pw_lstore dX10_failingInput_88 (by decide) ?_
          refine pw_lload_n dX10_failingInput_90 rfl ?_
          refine pw_lload dX10_failingInput_91 rfl ?_
          refine pw_lcmp dX10_failingInput_93 ?_
          refine pw_if_ne 117 dX10_failingInput_94 (by decide) (fun c_94 => ?_) (fun c_94 => absurd c_94 (fun z => hxy (lg_eq0.mp z)))
          refine pw_aload_n dX10_failingInput_117 rfl ?_
          refine pw_iload_n dX10_failingInput_118 rfl ?_
          refine pw_lload_n dX10_failingInput_119 rfl ?_
          refine pw_l2i dX10_failingInput_120 ?_
          refine pw_lload dX10_failingInput_121 rfl ?_
          refine pw_l2i dX10_failingInput_123 ?_
          refine lp_rV1 (mi' := mX10_canFailBetween) (As := [_, _, _]) (q := (RX10, TX10, 14)) dX10_failingInput_124 lk_RX10_250 mk_X10_canFailBetween mi_X10_canFailBetween me_X10_canFailBetween ⟨by decide, by decide⟩ rfl rfl (Nat.le_of_ble_eq_true rfl) rfl rfl ⟨rfl, rfl⟩ ⟨Nat.zero_le _, Nat.zero_le _⟩ hf (fun w ρ hQ => ?_)
          obtain ⟨rfl, hQ, hT2⟩ := hQ
          refine pw_if_eq 139 dX10_failingInput_127 (by decide) (fun c_127 => ?_) (fun c_127 => absurd rfl c_127)
          refine pw_lload dX10_failingInput_139 rfl ?_
          refine pw_lconst (v := 1) dX10_failingInput_141 rfl ?_
          refine pw_ladd dX10_failingInput_142 ?_
          refine pw_lstore_n dX10_failingInput_143 (by decide) ?_
          refine pw_iinc dX10_failingInput_144 rfl (by decide) ?_
          refine pw_goto (tgt := 63) dX10_failingInput_147 (by decide) ?_
          exact pw_lk [(0, .ref (adr 0)), (1, .int (nI v)), (2, .long (y + 1)), (4, .long L), (6, .int W), (7, .int (nI (t + 1)))] ⟨rfl, rfl, rfl, rfl, rfl, congrArg (fun x => some (Value.int x)) (nI_1 t), trivial⟩ (ih (t + 1) (by omega) (m + 1) h (y + 1) W ρ (by omega) (by omega) (by rw [hyN]; exact addK1 had m) hW0 hW1 hh (hF.tr hQ) hT2 (fun hs j hj => by
            rcases Nat.lt_or_ge j k with q | q
            · exact hNF hs j q
            · have hj2 := addK had j (by omega)
              have hjr : iR (had.toInt64 + lN j) := ⟨by omega, by omega⟩
              exact hs _ _ _ (by rw [Int32.le_iff_toInt_le, i32 hxr, i32 hjr]; omega) (by rw [Int32.le_iff_toInt_le, i32 hyr, i32 hjr]; omega) hn))
theorem x_failG (hP : PI σ al N) (v : Nat) (hv : v < 8) : SpR1 l G mX10_failingInput [.ref (adr 0), .int (nI v)] adr LX Lf Rt σ (fun r τ => ∃ w, r = .int w ∧ Fr 98 117 σ τ ∧ (FS al N v → w = fiL al N v (al (121 + 3 * v + 2)) (al (121 + 3 * v + 1)) 201 0)) := by
  refine spec_of (by decide) (Nat.le_of_ble_eq_true rfl) (fun sz => ?_)
  have hv1 : (0 : Int32) ≤ nI v ∧ nI v < 8 := ⟨nI_pos' (by omega), nI_lt (b := 8) hv (by decide)⟩
  have hv8 : vp_in (nI v) 8 := vp_in_nI hv (by decide)
  have ev : (nI v).toNatClampNeg = v := nI_clamp (by omega)
  have hb1 := Int32.le_toInt (al (121 + 3 * v + 2))
  have hb2 := Int32.toInt_lt (al (121 + 3 * v + 2))
  refine pw_iload_n dX10_failingInput_0 rfl ?_
  refine lp_cS0 (mi' := mX10_requireVariable0) (As := [_]) dX10_failingInput_1 lk_RX10_127 mk_X10_requireVariable ms_X10_requireVariable ⟨by decide, by decide⟩ rfl rfl (Nat.le_of_ble_eq_true rfl) ⟨rfl, rfl⟩ ⟨Nat.zero_le _, Nat.zero_le _⟩ (x_reqV (nI v) hv1 _) ?_
  refine pw_aload_n dX10_failingInput_4 rfl ?_
  refine lp_getr 98 dX10_failingInput_5 fp_RX10_80.FL rfl rfl rfl ?_
  refine pw_aload_n dX10_failingInput_8 rfl ?_
  refine lp_getr 12 dX10_failingInput_9 fp_RX10_35.FL rfl rfl rfl ?_
  refine lp_getr 20 dX10_failingInput_12 fp_RX10_134.FL rfl rfl rfl ?_
  refine lp_rV0 (mi' := mX3_narrowTo) (As := [_]) (q := (RX3, TX3, 3)) dX10_failingInput_15 lk_RX10_234 mk_X3_narrowTo mi_X3_narrowTo me_X3_narrowTo ⟨by decide, by decide⟩ rfl rfl (Nat.le_of_ble_eq_true rfl) rfl rfl ⟨rfl, rfl⟩ ⟨Nat.zero_le _, Nat.zero_le _⟩ (x_narrow (a := 20) (b := 98) rfl rfl (by decide)) (fun τ hQ => ?_)
  refine pw_aload_n dX10_failingInput_18 rfl ?_
  refine lp_getr 12 dX10_failingInput_19 fp_RX10_35.FL rfl rfl rfl ?_
  refine lp_getr 20 dX10_failingInput_22 fp_RX10_134.FL rfl rfl rfl ?_
  refine lp_getr 23 dX10_failingInput_25 fp_RX10_150.FL rfl rfl rfl ?_
  refine pw_iload_n dX10_failingInput_28 rfl ?_
  refine lp_iald dX10_failingInput_29 rfl hv8 ?_
  refine pw_top (al (121 + 3 * v + 2)) (by rw [ev, (hQ.1 23 (by omega)).2.2.1]; exact hP.2.2.2.1 v hv) ?_
  refine pw_i2l dX10_failingInput_30 ?_
  refine pw_lstore_n dX10_failingInput_31 (by decide) ?_
  refine pw_lload_n dX10_failingInput_32 rfl ?_
  refine pw_ldc2 dX10_failingInput_33 kc_RX10_238 ?_
  refine pw_ladd dX10_failingInput_36 ?_
  refine pw_aload_n dX10_failingInput_37 rfl ?_
  refine lp_getr 12 dX10_failingInput_38 fp_RX10_35.FL rfl rfl rfl ?_
  refine lp_getr 20 dX10_failingInput_41 fp_RX10_134.FL rfl rfl rfl ?_
  refine lp_getr 22 dX10_failingInput_44 fp_RX10_145.FL rfl rfl rfl ?_
  refine pw_iload_n dX10_failingInput_47 rfl ?_
  refine lp_iald dX10_failingInput_48 rfl hv8 ?_
  refine pw_top (al (121 + 3 * v + 1)) (by rw [ev, (hQ.1 22 (by omega)).2.2.1]; exact (hP.2.2.1 v hv).2) ?_
  refine pw_i2l dX10_failingInput_49 ?_
  refine pw_lmin dX10_failingInput_50 ma_RX10_240 ma_s_min ma_i ma_c_min (by decide) (Nat.le_of_ble_eq_true rfl) (Nat.zero_le _) (Nat.zero_le _) ?_
  refine pw_lstore dX10_failingInput_53 (by decide) ?_
  refine pw_sipush (v := 255) dX10_failingInput_55 rfl ?_
  refine pw_istore dX10_failingInput_58 (by decide) ?_
  refine pw_iconst (v := 0) dX10_failingInput_60 rfl ?_
  refine pw_istore dX10_failingInput_61 (by decide) ?_
  refine pw_lk [(0, .ref (adr 0)), (1, .int (nI v)), (2, .long (al (121 + 3 * v + 2)).toInt64), (4, .long _), (6, .int 255), (7, .int (nI 0))] ⟨rfl, rfl, rfl, rfl, rfl, rfl, trivial⟩ (xfi_loop hP v hv (al (121 + 3 * v + 2)) (al (121 + 3 * v + 1)) _ ?_ (fun τ r h1 h2 => ⟨_, τ, rfl, r, rfl, h1, h2⟩) 456 0 rfl 0 8 _ 255 τ (by omega) (by omega) ?_ (by decide) (by decide) (by omega) (hQ.1.mono (by omega) (by omega)) (fun j hj hn => ⟨(hQ.2 j hj).1.trans (hP.2.2.2.1 j hj), (hQ.2 j hj).2.1.trans (hP.2.2.2.1 j hj), (hQ.2 j hj).2.2.trans (hP.2.2.2.1 j hj)⟩) (fun _ j hj => absurd hj (Nat.not_lt_zero j)))
  · have e : ((al (121 + 3 * v + 2)).toInt64 + 200).toInt = (al (121 + 3 * v + 2)).toInt + 200 := by
      rw [Int64.toInt_add, Int32.toInt_toInt64, show (200 : Int64).toInt = 200 from rfl]
      apply Int.bmod_eq_of_le <;> omega
    split
    · rename_i q; rw [Int64.lt_iff_toInt_lt, e, Int32.toInt_toInt64] at q; rw [Int32.toInt_toInt64]; omega
    · rename_i q; rw [Int64.lt_iff_toInt_lt, e, Int32.toInt_toInt64] at q; rw [e]; omega
  · exact (Int64.add_zero _).symm
end XF
