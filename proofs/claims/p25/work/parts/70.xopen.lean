/-! THE CLASS: what-if calls of ranges -/
theorem lpt_congr {al al' : Nat → Int32} (h : ∀ i, i < 30 → kdA al i = kdA al' i) (f0 : Nat → Int32) : ∀ n, n ≤ 30 → lpt al f0 n = lpt al' f0 n := by
  intro n
  induction n with
  | zero => intro _; rfl
  | succ n ih =>
    intro hn
    rw [lpt, lpt, ih (by omega), h n (by omega), lsc_congr h n (by omega)]
theorem PgR.congr {σ : St} {p N : Nat} {al al' : Nat → Int32} (h : ∀ k, k < 121 → al k = al' k) (hN : N ≤ 30) (hR : PgR σ p al N) : PgR σ p al' N := by
  have hk : ∀ i, i < 30 → kdA al i = kdA al' i := fun i hi => h (1 + 4 * i) (by omega)
  refine ⟨hR.1, fun i hi => ?_⟩
  obtain ⟨h1, h2, h3, h4, h5, h6⟩ := hR.2 i hi
  refine ⟨h1.trans (hk i (by omega)), h2.trans (h _ (by omega)), h3.trans (h _ (by omega)), h4.trans (h _ (by omega)), h5.trans ?_, h6.trans ?_⟩
  · unfold lmd lmid
    rw [hk i (by omega), lsc_congr hk i (by omega)]
  · unfold cPt
    rw [lpt_congr hk _ N hN]
theorem cntB_F {f : Nat → Bool} {fa : Nat → Int32} {N : Nat} (h : ∀ j, j < N → (f j = true ↔ ¬ fa j = 0)) : ∀ (r i : Nat), i + r = N → cntB f r i (nI (cntF fa i)) = nI (cntF fa N) := by
  intro r
  induction r with
  | zero => intro i hi; rw [show i = N by omega]; rfl
  | succ r ih =>
    intro i hi
    show cntB f r (i + 1) (nI (cntF fa i) + bI (f i)) = _
    have e : nI (cntF fa i) + bI (f i) = nI (cntF fa (i + 1)) := by
      show _ = nI (cntF fa i + _)
      by_cases h0 : fa i = 0
      · have : f i = false := by
          cases hf : f i
          · rfl
          · exact absurd h0 ((h i (by omega)).mp hf)
        rw [this, if_pos h0]; exact Int32.add_zero _
      · rw [(h i (by omega)).mpr h0, if_neg h0]; exact nI_1 _
    rw [e]
    exact ih (i + 1) (by omega)
theorem cntF_ext {f : Nat → Int32} {N : Nat} : ∀ m, (∀ j, N ≤ j → j < N + m → f j = 0) → cntF f (N + m) = cntF f N := by
  intro m
  induction m with
  | zero => intro _; rfl
  | succ m ih =>
    intro h
    show cntF f (N + m) + (if f (N + m) = 0 then 0 else 1) = _
    rw [if_pos (h (N + m) (by omega) (by omega)), Nat.add_zero]
    exact ih (fun j h1 h2 => h j h1 (by omega))
theorem opn_cnt {al : Nat → Int32} {N : Nat} (hN : N ≤ 30) (hI : AInv al N (cAna al N)) : opnC al N = nI (cntF (cAna al N).2.2.2.2.1 30) := by
  have e : cntF (cAna al N).2.2.2.2.1 30 = cntF (cAna al N).2.2.2.2.1 N := by
    have h := cntF_ext (f := (cAna al N).2.2.2.2.1) (N := N) (30 - N) (fun j h1 h2 => Decidable.byContradiction (fun h => by
      have := ((hI.2.1 j (by omega)).2.2.2 h).1
      omega))
    rw [show N + (30 - N) = 30 by omega] at h
    exact h
  rw [e]
  unfold opnC
  refine cntB_F (f := oC al N) (fun j hj => ?_) N 0 (by omega)
  unfold oC
  constructor
  · intro h
    simp only [Bool.and_eq_true, Bool.not_eq_true', decide_eq_false_iff_not] at h
    exact h.2
  · intro h
    obtain ⟨-, k1, k2⟩ := (hI.2.1 j (by omega)).2.2.2 h
    simp only [Bool.and_eq_true, Bool.not_eq_true', decide_eq_false_iff_not]
    exact ⟨⟨k1, k2⟩, h⟩
section XW
variable {l : Launch} {G : cxG} {adr : Nat → Nat} {Lf Rt : va_W} {σ : St} {al : Nat → Int32} {N : Nat}
theorem alW_v {al : Nat → Int32} {v : Nat} {lo hi : Int32} (j : Nat) : alW al v lo hi (121 + 3 * j) = (if j = v then lo else al (121 + 3 * j)) ∧ alW al v lo hi (121 + 3 * j + 1) = (if j = v then hi else al (121 + 3 * j + 1)) := by
  unfold alW upd
  by_cases h : j = v
  · subst h
    rw [if_neg (by omega), if_pos rfl, if_pos rfl, if_pos rfl, if_pos rfl]; exact ⟨rfl, rfl⟩
  · rw [if_neg (by omega), if_neg (by omega), if_neg h, if_neg (by omega), if_neg (by omega), if_neg h]; exact ⟨rfl, rfl⟩
theorem alW_ok {al : Nat → Int32} {v : Nat} {lo hi : Int32} (h : inOK al) (hlh : lo ≤ hi) : inOK (alW al v lo hi) := by
  intro j hj
  obtain ⟨a, b⟩ := alW_v (al := al) (v := v) (lo := lo) (hi := hi) j
  rw [a, b]
  by_cases e : j = v
  · rw [if_pos e, if_pos e]; exact hlh
  · rw [if_neg e, if_neg e]; exact h j hj
theorem x_openC (hP : PI σ al N) (v : Nat) (hv : v < 8) (lo hi : Int32) (hlh : lo ≤ hi) : SpR1 l G mX10_openChecksWith [.ref (adr 0), .int (nI v), .int lo, .int hi] adr LX Lf Rt σ (fun r τ => r = .int (opnC (alW al v lo hi) N) ∧ Fr 98 112 σ τ) := by
  refine spec_of (by decide) (Nat.le_of_ble_eq_true rfl) (fun sz => ?_)
  have hN := hP.1.1
  have hv8 : vp_in (nI v) 8 := vp_in_nI hv (by decide)
  have ev : (nI v).toNatClampNeg = v := nI_clamp (by omega)
  refine pw_aload_n dX10_openChecksWith_0 rfl ?_
  refine lp_getr 98 dX10_openChecksWith_1 fp_RX10_80.FL rfl rfl rfl ?_
  refine pw_aload_n dX10_openChecksWith_4 rfl ?_
  refine lp_getr 12 dX10_openChecksWith_5 fp_RX10_35.FL rfl rfl rfl ?_
  refine lp_getr 20 dX10_openChecksWith_8 fp_RX10_134.FL rfl rfl rfl ?_
  refine lp_rV0 (mi' := mX3_copyFrom) (As := [_]) (q := (RX3, TX3, 3)) dX10_openChecksWith_11 lk_RX10_320 mk_X3_copyFrom mi_X3_copyFrom me_X3_copyFrom ⟨by decide, by decide⟩ rfl rfl (Nat.le_of_ble_eq_true rfl) rfl rfl ⟨rfl, rfl⟩ ⟨Nat.zero_le _, Nat.zero_le _⟩ (x_Icopy (a := 20) (b := 98) rfl rfl (by decide)) (fun τ hQ => ?_)
  refine pw_aload_n dX10_openChecksWith_14 rfl ?_
  refine lp_getr 98 dX10_openChecksWith_15 fp_RX10_80.FL rfl rfl rfl ?_
  refine lp_getr 99 dX10_openChecksWith_18 fp_RX10_141.FL rfl rfl rfl ?_
  refine pw_iload_n dX10_openChecksWith_21 rfl ?_
  refine pw_iload_n dX10_openChecksWith_22 rfl ?_
  refine lp_iast dX10_openChecksWith_23 rfl hv8 ?_
  refine pw_aload_n dX10_openChecksWith_24 rfl ?_
  refine lp_getr 98 dX10_openChecksWith_25 fp_RX10_80.FL rfl rfl rfl ?_
  refine lp_getr 100 dX10_openChecksWith_28 fp_RX10_145.FL rfl rfl rfl ?_
  refine pw_iload_n dX10_openChecksWith_31 rfl ?_
  refine pw_iload_n dX10_openChecksWith_32 rfl ?_
  refine lp_iast dX10_openChecksWith_33 rfl hv8 ?_
  rw [ev]
  obtain ⟨ρ, hρ⟩ : ∃ ρ, ρ = sA (sA τ 99 (upd (τ.2.2.1 99) v lo)) 100 (upd ((sA τ 99 (upd (τ.2.2.1 99) v lo)).2.2.1 100) v hi) := ⟨_, rfl⟩
  rw [← hρ]
  have hF1 : Fr 98 112 σ ρ := by rw [hρ]; exact Fr.A (Fr.A (hQ.1.mono (by omega) (by omega)) (by omega) (by omega)) (by omega) (by omega)
  have hP1 := hP.fr hF1 (by omega)
  have hW1 : wfP (alW al v lo hi) N := wfP_congr alW_lt hP.1
  have hR1 : PgR ρ 13 (alW al v lo hi) N := hP1.2.1.congr alW_lt hN
  have hL1 : InL ρ 98 (alW al v lo hi) := by
    intro j hj
    obtain ⟨a1, a2⟩ := alW_v (al := al) (v := v) (lo := lo) (hi := hi) j
    obtain ⟨i1, i2, -⟩ := hQ.2 j hj
    have e1 : ρ.2.2.1 99 = upd (τ.2.2.1 99) v lo := by rw [hρ, gA' (by omega), gA]
    have e2 : ρ.2.2.1 100 = upd (τ.2.2.1 100) v hi := by rw [hρ, gA, gA' (by omega)]
    rw [show (98 + 1 : Nat) = 99 from rfl, show (98 + 2 : Nat) = 100 from rfl, e1, e2, a1, a2]
    unfold upd
    by_cases e : j = v
    · rw [if_pos e, if_pos e, if_pos e, if_pos e]; exact ⟨rfl, rfl⟩
    · rw [if_neg e, if_neg e, if_neg e, if_neg e]
      exact ⟨i1.trans (hP.2.2.1 j hj).1, i2.trans (hP.2.2.1 j hj).2⟩
  refine pw_aload_n dX10_openChecksWith_34 rfl ?_
  refine lp_getr 102 dX10_openChecksWith_35 fp_RX10_84.FL rfl rfl rfl ?_
  refine pw_aload_n dX10_openChecksWith_38 rfl ?_
  refine lp_getr 12 dX10_openChecksWith_39 fp_RX10_35.FL rfl rfl rfl ?_
  refine lp_getr 13 dX10_openChecksWith_42 fp_RX10_117.FL rfl rfl rfl ?_
  refine pw_aload_n dX10_openChecksWith_45 rfl ?_
  refine lp_getr 98 dX10_openChecksWith_46 fp_RX10_80.FL rfl rfl rfl ?_
  refine lp_rV0 (mi' := mX0_go) (As := [_, _]) (q := (RX0, TX0, 13)) dX10_openChecksWith_49 lk_RX10_305 mk_X0_go mi_X0_go me_X0_go ⟨by decide, by decide⟩ rfl rfl (Nat.le_of_ble_eq_true rfl) rfl rfl ⟨rfl, rfl⟩ ⟨Nat.zero_le _, Nat.zero_le _⟩ (x_go (σ := ρ) (b := 102) (p := 13) (a := 98) (al := alW al v lo hi) (N := N) rfl rfl rfl (by decide) (by decide) hW1 hR1 hL1 (alW_ok hP.2.2.2.2 hlh)) (fun ρ2 hG => ?_)
  refine pw_aload_n dX10_openChecksWith_52 rfl ?_
  refine lp_getr 102 dX10_openChecksWith_53 fp_RX10_84.FL rfl rfl rfl ?_
  refine lp_geti dX10_openChecksWith_56 fp_RX10_322.FL rfl rfl ?_
  exact pw_iret rfl rfl dX10_openChecksWith_59 (Nat.zero_le _) (Nat.zero_le _) ⟨_, _, rfl, congrArg Value.int (hG.2.1.2.2.2.2.trans (opn_cnt hN hG.2.2).symm), hF1.tr (hG.1.mono (by omega) (by omega))⟩
theorem x_openWith (hP : PI σ al N) (v : Nat) (hv : v < 8) (lo hi : Int32) (hlh : lo ≤ hi) : SpR1 l G mX10_openWith [.ref (adr 0), .int (nI v), .int lo, .int hi] adr LX Lf Rt σ (fun r τ => r = .int (opnC (alW al v lo hi) N) ∧ Fr 98 112 σ τ) := by
  refine spec_of (by decide) (Nat.le_of_ble_eq_true rfl) (fun sz => ?_)
  have hv1 : (0 : Int32) ≤ nI v ∧ nI v < 8 := ⟨nI_pos' (by omega), nI_lt (b := 8) hv (by decide)⟩
  refine pw_iload_n dX10_openWith_0 rfl ?_
  refine lp_cS0 (mi' := mX10_requireVariable0) (As := [_]) dX10_openWith_1 lk_RX10_127 mk_X10_requireVariable ms_X10_requireVariable ⟨by decide, by decide⟩ rfl rfl (Nat.le_of_ble_eq_true rfl) ⟨rfl, rfl⟩ ⟨Nat.zero_le _, Nat.zero_le _⟩ (x_reqV (nI v) hv1 _) ?_
  refine pw_iload_n dX10_openWith_4 rfl ?_
  refine pw_iload_n dX10_openWith_5 rfl ?_
  refine lp_cS0 (mi' := mX10_requireOrder0) (As := [_, _]) dX10_openWith_6 lk_RX10_130 mk_X10_requireOrder ms_X10_requireOrder ⟨by decide, by decide⟩ rfl rfl (Nat.le_of_ble_eq_true rfl) ⟨rfl, rfl⟩ ⟨Nat.zero_le _, Nat.zero_le _⟩ (x_reqO lo hi hlh _) ?_
  refine pw_aload_n dX10_openWith_9 rfl ?_
  refine pw_iload_n dX10_openWith_10 rfl ?_
  refine pw_iload_n dX10_openWith_11 rfl ?_
  refine pw_iload_n dX10_openWith_12 rfl ?_
  refine lp_rV1 (mi' := mX10_openChecksWith) (As := [_, _, _]) (q := (RX10, TX10, 14)) dX10_openWith_13 lk_RX10_231 mk_X10_openChecksWith mi_X10_openChecksWith me_X10_openChecksWith ⟨by decide, by decide⟩ rfl rfl (Nat.le_of_ble_eq_true rfl) rfl rfl ⟨rfl, rfl⟩ ⟨Nat.zero_le _, Nat.zero_le _⟩ (x_openC hP v hv lo hi hlh) (fun r τ hQ => ?_)
  obtain ⟨rfl, hQ⟩ := hQ
  exact pw_iret rfl rfl dX10_openWith_16 (Nat.zero_le _) (Nat.zero_le _) ⟨_, _, rfl, rfl, hQ⟩
theorem pw2 {k : Nat} (hk : k < 31) (lo : Int32) : lo ≤ (1 : Int32) <<< (nI k &&& 31) - 1 ↔ lo.toInt64 + 1 ≤ ((1 : Int32) <<< (nI k &&& 31)).toInt64 := by
  have h1 : 1 ≤ ((1 : Int32) <<< (nI k &&& 31)).toInt := (by decide +kernel : ∀ k, k < 31 → 1 ≤ ((1 : Int32) <<< (nI k &&& 31)).toInt) k hk
  generalize (1 : Int32) <<< (nI k &&& 31) = P at h1
  have hP := Int32.toInt_lt P
  have hl1 := Int32.toInt_lt lo
  have hl2 := Int32.le_toInt lo
  have e1 : (P - 1).toInt = P.toInt - 1 := by
    rw [Int32.toInt_sub, show (1 : Int32).toInt = 1 from by decide, Int.bmod_eq_of_le (by omega) (by omega)]
  have e2 : (lo.toInt64 + 1).toInt = lo.toInt + 1 := by
    rw [add_I (iR_32 lo) (show iR 1 by unfold iR; decide), Int32.toInt_toInt64, show (1 : Int64).toInt = 1 from by decide]
  rw [Int32.le_iff_toInt_le, Int64.le_iff_toInt_le, e1, e2, Int32.toInt_toInt64]
  omega
theorem spw_loop {sz : Nat} {w0 : va_W} {fin : OC → Prop} (hP : PI σ al N) (v : Nat) (hv : v < 8) (lo : Int32) (kk : ∀ τ, Fr 98 112 σ τ → fin (.inl (some (.int (spL al N v lo 31 0 0)), wp G adr LX Lf Rt τ))) :
    ∀ (r k : Nat), k + r = 31 → ∀ (s : Int32) (τ : St), Fr 98 112 σ τ → spL al N v lo r k s = spL al N v lo 31 0 0 → PW l G mX10_safePower w0 sz fin 22 [(0, .ref (adr 0)), (1, .int (nI v)), (2, .int lo), (3, .int s), (4, .int (nI k))] [] 0 0 (wp G adr LX Lf Rt τ) := by
  intro r
  induction r with
  | zero =>
    intro k hk s τ hF hs
    have hk : k = 31 := by omega
    subst hk
    have hs : s = spL al N v lo 31 0 0 := hs
    refine pw_iload dX10_safePower_22 rfl ?_
    refine pw_bipush (v := 30) dX10_safePower_24 rfl ?_
    refine pw_icmp_gt 67 dX10_safePower_26 (by decide) (fun c_26 => ?_) (fun c_26 => absurd (by decide) c_26)
    refine pw_iload_n dX10_safePower_67 rfl ?_
    exact pw_iret rfl rfl dX10_safePower_68 (Nat.zero_le _) (Nat.zero_le _) (by rw [hs]; exact kk τ hF)
  | succ r ih =>
    intro k hk s τ hF hs
    have hk31 : k < 31 := by omega
    have hP1 := hP.fr hF (by omega)
    have c26 : ¬ (30 : Int32) < nI k := Int32.not_lt.mpr (by rw [show (30 : Int32) = nI 30 from rfl]; exact nI_le (by omega) (by decide))
    rw [spL] at hs
    by_cases hc : lo.toInt64 + 1 ≤ ((1 : Int32) <<< (nI k &&& 31)).toInt64
    · rw [if_pos hc] at hs
      have hc2 := (pw2 hk31 lo).mpr hc
      have ho := x_openC (l := l) (G := G) (adr := adr) (Lf := Lf) (Rt := Rt) (σ := τ) hP1 v hv lo _ hc2
      by_cases h0 : 0 < opnC (alW al v lo ((1 : Int32) <<< (nI k &&& 31) - 1)) N
      · rw [if_pos h0] at hs
        refine pw_iload dX10_safePower_22 rfl ?_
        refine pw_bipush (v := 30) dX10_safePower_24 rfl ?_
        refine pw_icmp_gt 67 dX10_safePower_26 (by decide) (fun c_26 => absurd c_26 c26) (fun c_26 => ?_)
        refine pw_iconst (v := 1) dX10_safePower_29 rfl ?_
        refine pw_iload dX10_safePower_30 rfl ?_
        refine pw_ishl dX10_safePower_32 ?_
        refine pw_istore dX10_safePower_33 (by decide) ?_
        refine pw_iload dX10_safePower_35 rfl ?_
        refine pw_iconst (v := 1) dX10_safePower_37 rfl ?_
        refine pw_isub dX10_safePower_38 ?_
        refine pw_iload_n dX10_safePower_39 rfl ?_
        refine pw_icmp_lt 61 dX10_safePower_40 (by decide) (fun c_40 => absurd c_40 (Int32.not_lt.mpr hc2)) (fun c_40 => ?_)
        refine pw_aload_n dX10_safePower_43 rfl ?_
        refine pw_iload_n dX10_safePower_44 rfl ?_
        refine pw_iload_n dX10_safePower_45 rfl ?_
        refine pw_iload dX10_safePower_46 rfl ?_
        refine pw_iconst (v := 1) dX10_safePower_48 rfl ?_
        refine pw_isub dX10_safePower_49 ?_
        refine lp_rV1 (mi' := mX10_openChecksWith) (As := [_, _, _]) (q := (RX10, TX10, 14)) dX10_safePower_50 lk_RX10_231 mk_X10_openChecksWith mi_X10_openChecksWith me_X10_openChecksWith ⟨by decide, by decide⟩ rfl rfl (Nat.le_of_ble_eq_true rfl) rfl rfl ⟨rfl, rfl⟩ ⟨Nat.zero_le _, Nat.zero_le _⟩ ho (fun w ρ hQ => ?_)
        obtain ⟨rfl, hQ⟩ := hQ
        refine pw_if_le 58 dX10_safePower_53 (by decide) (fun c_53 => absurd h0 (Int32.not_lt.mpr c_53)) (fun c_53 => ?_)
        refine pw_iload_n dX10_safePower_56 rfl ?_
        exact pw_iret rfl rfl dX10_safePower_57 (Nat.zero_le _) (Nat.zero_le _) (by rw [hs]; exact kk ρ (hF.tr hQ))
      · rw [if_neg h0] at hs
        refine pw_iload dX10_safePower_22 rfl ?_
        refine pw_bipush (v := 30) dX10_safePower_24 rfl ?_
        refine pw_icmp_gt 67 dX10_safePower_26 (by decide) (fun c_26 => absurd c_26 c26) (fun c_26 => ?_)
        refine pw_iconst (v := 1) dX10_safePower_29 rfl ?_
        refine pw_iload dX10_safePower_30 rfl ?_
        refine pw_ishl dX10_safePower_32 ?_
        refine pw_istore dX10_safePower_33 (by decide) ?_
        refine pw_iload dX10_safePower_35 rfl ?_
        refine pw_iconst (v := 1) dX10_safePower_37 rfl ?_
        refine pw_isub dX10_safePower_38 ?_
        refine pw_iload_n dX10_safePower_39 rfl ?_
        refine pw_icmp_lt 61 dX10_safePower_40 (by decide) (fun c_40 => absurd c_40 (Int32.not_lt.mpr hc2)) (fun c_40 => ?_)
        refine pw_aload_n dX10_safePower_43 rfl ?_
        refine pw_iload_n dX10_safePower_44 rfl ?_
        refine pw_iload_n dX10_safePower_45 rfl ?_
        refine pw_iload dX10_safePower_46 rfl ?_
        refine pw_iconst (v := 1) dX10_safePower_48 rfl ?_
        refine pw_isub dX10_safePower_49 ?_
        refine lp_rV1 (mi' := mX10_openChecksWith) (As := [_, _, _]) (q := (RX10, TX10, 14)) dX10_safePower_50 lk_RX10_231 mk_X10_openChecksWith mi_X10_openChecksWith me_X10_openChecksWith ⟨by decide, by decide⟩ rfl rfl (Nat.le_of_ble_eq_true rfl) rfl rfl ⟨rfl, rfl⟩ ⟨Nat.zero_le _, Nat.zero_le _⟩ ho (fun w ρ hQ => ?_)
        obtain ⟨rfl, hQ⟩ := hQ
        refine pw_if_le 58 dX10_safePower_53 (by decide) (fun c_53 => ?_) (fun c_53 => absurd (Int32.not_lt.mp h0) c_53)
        refine pw_iload dX10_safePower_58 rfl ?_
        refine pw_istore_n dX10_safePower_60 (by decide) ?_
        refine pw_iinc dX10_safePower_61 rfl (by decide) ?_
        refine pw_goto (tgt := 22) dX10_safePower_64 (by decide) ?_
        exact pw_lk [(0, .ref (adr 0)), (1, .int (nI v)), (2, .int lo), (3, .int ((1 : Int32) <<< (nI k &&& 31))), (4, .int (nI (k + 1)))] ⟨rfl, rfl, rfl, rfl, congrArg (fun x => some (Value.int x)) (nI_1 k), trivial⟩ (ih (k + 1) (by omega) _ ρ (hF.tr hQ) hs)
    · rw [if_neg hc] at hs
      refine pw_iload dX10_safePower_22 rfl ?_
      refine pw_bipush (v := 30) dX10_safePower_24 rfl ?_
      refine pw_icmp_gt 67 dX10_safePower_26 (by decide) (fun c_26 => absurd c_26 c26) (fun c_26 => ?_)
      refine pw_iconst (v := 1) dX10_safePower_29 rfl ?_
      refine pw_iload dX10_safePower_30 rfl ?_
      refine pw_ishl dX10_safePower_32 ?_
      refine pw_istore dX10_safePower_33 (by decide) ?_
      refine pw_iload dX10_safePower_35 rfl ?_
      refine pw_iconst (v := 1) dX10_safePower_37 rfl ?_
      refine pw_isub dX10_safePower_38 ?_
      refine pw_iload_n dX10_safePower_39 rfl ?_
      refine pw_icmp_lt 61 dX10_safePower_40 (by decide) (fun c_40 => ?_) (fun c_40 => absurd (Int32.not_le.mp (fun h => hc ((pw2 hk31 lo).mp h))) c_40)
      refine pw_iinc dX10_safePower_61 rfl (by decide) ?_
      refine pw_goto (tgt := 22) dX10_safePower_64 (by decide) ?_
      exact pw_lk [(0, .ref (adr 0)), (1, .int (nI v)), (2, .int lo), (3, .int s), (4, .int (nI (k + 1)))] ⟨rfl, rfl, rfl, rfl, congrArg (fun x => some (Value.int x)) (nI_1 k), trivial⟩ (ih (k + 1) (by omega) s τ hF hs)
theorem x_safePower (hP : PI σ al N) (v : Nat) (hv : v < 8) : SpR1 l G mX10_safePower [.ref (adr 0), .int (nI v)] adr LX Lf Rt σ (fun r τ => r = .int (spL al N v (al (121 + 3 * v)) 31 0 0) ∧ Fr 98 112 σ τ) := by
  refine spec_of (by decide) (Nat.le_of_ble_eq_true rfl) (fun sz => ?_)
  have hv1 : (0 : Int32) ≤ nI v ∧ nI v < 8 := ⟨nI_pos' (by omega), nI_lt (b := 8) hv (by decide)⟩
  have hv8 : vp_in (nI v) 8 := vp_in_nI hv (by decide)
  have ev : (nI v).toNatClampNeg = v := nI_clamp (by omega)
  refine pw_iload_n dX10_safePower_0 rfl ?_
  refine lp_cS0 (mi' := mX10_requireVariable0) (As := [_]) dX10_safePower_1 lk_RX10_127 mk_X10_requireVariable ms_X10_requireVariable ⟨by decide, by decide⟩ rfl rfl (Nat.le_of_ble_eq_true rfl) ⟨rfl, rfl⟩ ⟨Nat.zero_le _, Nat.zero_le _⟩ (x_reqV (nI v) hv1 _) ?_
  refine pw_aload_n dX10_safePower_4 rfl ?_
  refine lp_getr 12 dX10_safePower_5 fp_RX10_35.FL rfl rfl rfl ?_
  refine lp_getr 20 dX10_safePower_8 fp_RX10_134.FL rfl rfl rfl ?_
  refine lp_getr 21 dX10_safePower_11 fp_RX10_141.FL rfl rfl rfl ?_
  refine pw_iload_n dX10_safePower_14 rfl ?_
  refine lp_iald dX10_safePower_15 rfl hv8 ?_
  refine pw_top (al (121 + 3 * v)) (by rw [ev]; exact (hP.2.2.1 v hv).1) ?_
  refine pw_istore_n dX10_safePower_16 (by decide) ?_
  refine pw_iconst (v := 0) dX10_safePower_17 rfl ?_
  refine pw_istore_n dX10_safePower_18 (by decide) ?_
  refine pw_iconst (v := 0) dX10_safePower_19 rfl ?_
  refine pw_istore dX10_safePower_20 (by decide) ?_
  exact pw_lk [(0, .ref (adr 0)), (1, .int (nI v)), (2, .int (al (121 + 3 * v))), (3, .int 0), (4, .int (nI 0))] ⟨rfl, rfl, rfl, rfl, rfl, trivial⟩ (spw_loop hP v hv _ (fun τ h => ⟨_, τ, rfl, rfl, h⟩) 31 0 rfl 0 σ Fr.rf rfl)
end XW
