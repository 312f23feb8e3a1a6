section XG
variable {l : Launch} {G : cxG} {adr : Nat → Nat} {Lf Rt : va_W} {σ : St}
theorem x_read0 (ht : σ.1 1 1 = 0) : SpR1 l G mX4_read [.ref (adr 10)] adr LX Lf Rt σ (fun r τ => r = .int (-1) ∧ Fr 3 12 σ τ ∧ τ.1 3 0 = 0) := by
  refine spec_of (by decide) (Nat.le_of_ble_eq_true rfl) (fun sz => ?_)
  refine pw_aload_n dX4_read_0 rfl ?_
  refine lp_getr 3 dX4_read_1 fp_RX4_29.FL rfl rfl rfl ?_
  refine pw_iconst (v := 0) dX4_read_4 rfl ?_
  refine lp_puti dX4_read_5 fp_RX4_33 rfl rfl rfl rfl ?_
  refine pw_aload_n dX4_read_8 rfl ?_
  refine pw_iconst (v := 0) dX4_read_9 rfl ?_
  refine lp_puti dX4_read_10 fp_RX4_9 rfl rfl rfl rfl ?_
  refine pw_aload_n dX4_read_13 rfl ?_
  refine pw_iconst (v := -1) dX4_read_14 rfl ?_
  refine lp_puti dX4_read_15 fp_RX4_15 rfl rfl rfl rfl ?_
  refine pw_aload_n dX4_read_18 rfl ?_
  refine pw_iconst (v := 0) dX4_read_19 rfl ?_
  refine lp_puti dX4_read_20 fp_RX4_18 rfl rfl rfl rfl ?_
  refine pw_iconst (v := 0) dX4_read_23 rfl ?_
  refine pw_istore_n dX4_read_24 (by decide) ?_
  refine pw_iload_n dX4_read_25 rfl ?_
  refine pw_sipush (v := 200) dX4_read_26 rfl ?_
  refine pw_icmp_ge 64 dX4_read_29 (by decide) (fun c_29 => absurd c_29 (by decide)) (fun c_29 => ?_)
  refine pw_aload_n dX4_read_32 rfl ?_
  refine lp_geti dX4_read_33 fp_RX4_15.FL rfl rfl ?_
  refine pw_iconst (v := -1) dX4_read_36 rfl ?_
  refine pw_icmp_ne 64 dX4_read_37 (by decide) (fun c_37 => absurd c_37 (fun z => z rfl)) (fun c_37 => ?_)
  refine pw_aload_n dX4_read_40 rfl ?_
  refine lp_geti dX4_read_41 fp_RX4_9.FL rfl rfl ?_
  refine pw_aload_n dX4_read_44 rfl ?_
  refine lp_getr 1 dX4_read_45 fp_RX4_25.FL rfl rfl rfl ?_
  refine lp_geti dX4_read_48 fp_RX4_38.FL rfl rfl ?_
  refine pw_icmp_ge 64 dX4_read_51 (by decide) (fun c_51 => ?_) (fun c_51 => absurd (show σ.1 1 1 ≤ 0 by rw [ht]; decide) c_51)
  refine pw_aload_n dX4_read_64 rfl ?_
  refine lp_geti dX4_read_65 fp_RX4_15.FL rfl rfl ?_
  refine pw_iconst (v := -1) dX4_read_68 rfl ?_
  refine pw_icmp_ne 90 dX4_read_69 (by decide) (fun c_69 => absurd c_69 (fun z => z rfl)) (fun c_69 => ?_)
  refine pw_aload_n dX4_read_72 rfl ?_
  refine lp_geti dX4_read_73 fp_RX4_18.FL rfl rfl ?_
  refine pw_if_le 90 dX4_read_76 (by decide) (fun c_76 => ?_) (fun c_76 => absurd (show (0 : Int32) ≤ 0 by decide) c_76)
  refine pw_aload_n dX4_read_90 rfl ?_
  refine lp_geti dX4_read_91 fp_RX4_15.FL rfl rfl ?_
  exact pw_iret rfl rfl dX4_read_94 (Nat.zero_le _) (Nat.zero_le _) ⟨_, _, rfl, rfl, Fr.I (Fr.I (Fr.I (Fr.I Fr.rf (by decide) (by decide)) (by decide) (by decide)) (by decide) (by decide)) (by decide) (by decide), rfl⟩
theorem x_parse0 {m s n : Nat} (hm : m < 4) (h2 : σ.1 24 0 = nI m) (hs : σ.2.2.2.2 25 m = s) (hk : LX.1[s]? = some (.inl 8)) (hs2 : 24 ≤ s) (hn : n ≤ 30) (h0 : σ.1 13 0 = nI n) (ht : σ.1 1 1 = 0) : SpR1 l G mX10_parse [.ref (adr 0)] adr LX Lf Rt σ (fun r _ => r = .int 0) := by
  refine spec_of (by decide) (Nat.le_of_ble_eq_true rfl) (fun sz => ?_)
  refine pw_aload_n dX10_parse_0 rfl ?_
  refine lp_getr 10 dX10_parse_1 fp_RX10_28.FL rfl rfl rfl ?_
  refine lp_rV1 (mi' := mX4_read) (As := []) (q := (RX4, TX4, 6)) dX10_parse_4 lk_RX10_110 mk_X4_read mi_X4_read me_X4_read ⟨by decide, by decide⟩ rfl rfl (Nat.le_of_ble_eq_true rfl) rfl rfl ⟨rfl, rfl⟩ ⟨Nat.zero_le _, Nat.zero_le _⟩ (x_read0 ht) (fun r τ hQ => ?_)
  obtain ⟨hr, hQ2⟩ := hQ
  subst hr
  refine pw_istore_n dX10_parse_7 (by decide) ?_
  refine pw_iload_n dX10_parse_8 rfl ?_
  refine pw_iconst (v := -1) dX10_parse_9 rfl ?_
  refine pw_icmp_eq 18 dX10_parse_10 (by decide) (fun c_10 => ?_) (fun c_10 => absurd rfl c_10)
  refine pw_aload_n dX10_parse_18 rfl ?_
  refine lp_rV0 (mi' := mX10_saveForUndo) (As := []) (q := (RX10, TX10, 14)) dX10_parse_19 lk_RX10_114 mk_X10_saveForUndo mi_X10_saveForUndo me_X10_saveForUndo ⟨by decide, by decide⟩ rfl rfl (Nat.le_of_ble_eq_true rfl) rfl rfl ⟨rfl, rfl⟩ ⟨Nat.zero_le _, Nat.zero_le _⟩ (x_saveForUndo hm (show τ.1 24 0 = nI m by rw [(hQ2.1 24 (by omega)).1]; exact h2) (show τ.2.2.2.2 25 m = s by rw [(hQ2.1 25 (by omega)).2.2.2.2]; exact hs) hk hs2 hn (show τ.1 13 0 = nI n by rw [(hQ2.1 13 (by omega)).1]; exact h0)) (fun ρ hR => ?_)
  have e3 : ρ.1 3 0 = nI 0 := by
    obtain ⟨⟨τ2, hF, rfl⟩, -⟩ := hR
    exact (congrFun (hF 3 (by omega)).1 0).trans hQ2.2
  refine pw_aload_n dX10_parse_22 rfl ?_
  refine lp_getr 12 dX10_parse_23 fp_RX10_35.FL rfl rfl rfl ?_
  refine lp_getr 13 dX10_parse_26 fp_RX10_117.FL rfl rfl rfl ?_
  refine pw_aload_n dX10_parse_29 rfl ?_
  refine lp_getr 3 dX10_parse_30 fp_RX10_19.FL rfl rfl rfl ?_
  refine lp_rV0 (mi' := mX6_copyFrom) (As := [_]) (q := (RX6, TX6, 7)) dX10_parse_33 lk_RX10_120 mk_X6_copyFrom mi_X6_copyFrom me_X6_copyFrom ⟨by decide, by decide⟩ rfl rfl (Nat.le_of_ble_eq_true rfl) rfl rfl ⟨rfl, rfl⟩ ⟨Nat.zero_le _, Nat.zero_le _⟩ (x_Pcopy (a := 3) (b := 13) (n := 0) rfl rfl (by decide) (by decide) e3) (fun ξ hX => ?_)
  refine pw_aload_n dX10_parse_36 rfl ?_
  refine lp_getr 3 dX10_parse_37 fp_RX10_19.FL rfl rfl rfl ?_
  refine lp_geti dX10_parse_40 fp_RX10_124.FL rfl rfl ?_
  exact pw_iret rfl rfl dX10_parse_43 (Nat.zero_le _) (Nat.zero_le _) (by refine ⟨_, _, rfl, ?_⟩; rw [(hX.1 3 (by omega)).1, e3]; rfl)
def mx (h v : Int64) : Int64 := 31 * h + v
theorem x_mixed (h v : Int64) (ws : va_W) : SpecD l G mX10_mixed [.long h, .long v] ws (some (.long (mx h v))) ws := by
  refine spec_of (by decide) (Nat.le_of_ble_eq_true rfl) (fun sz => ?_)
  refine pw_ldc2 dX10_mixed_0 kc_RX10_285 ?_
  refine pw_lload_n dX10_mixed_3 rfl ?_
  refine pw_lmul dX10_mixed_4 ?_
  refine pw_lload_n dX10_mixed_5 rfl ?_
  refine pw_ladd dX10_mixed_6 ?_
  exact pw_lret rfl dX10_mixed_7 (Nat.zero_le _) (Nat.zero_le _) rfl
def mxV (σ : St) (v : Nat) (h : Int64) : Int64 := mx (mx (mx (mx (mx h (σ.2.2.1 21 v).toInt64) (σ.2.2.1 22 v).toInt64) (σ.2.2.1 23 v).toInt64) (if σ.1 74 1 = 0 then (σ.2.2.2.1 77 v).toInt32 else 0).toInt64) (if σ.1 74 1 = 0 then (σ.2.2.2.1 78 v).toInt32 else 0).toInt64
theorem x_mixedVar (v : Nat) (hv : v < 8) (h : Int64) : SpecD l G mX10_mixedVariable [.ref (adr 0), .long h, .int (nI v)] (wp G adr LX Lf Rt σ) (some (.long (mxV σ v h))) (wp G adr LX Lf Rt σ) := by
  refine spec_of (by decide) (Nat.le_of_ble_eq_true rfl) (fun sz => ?_)
  have hv8 : vp_in (nI v) 8 := vp_in_nI hv (by decide)
  have ev : (nI v).toNatClampNeg = v := nI_clamp (by omega)
  refine pw_aload_n dX10_mixedVariable_0 rfl ?_
  refine lp_getr 12 dX10_mixedVariable_1 fp_RX10_35.FL rfl rfl rfl ?_
  refine lp_getr 20 dX10_mixedVariable_4 fp_RX10_134.FL rfl rfl rfl ?_
  refine pw_astore dX10_mixedVariable_7 (by decide) ?_
  refine pw_lload_n dX10_mixedVariable_9 rfl ?_
  refine pw_aload dX10_mixedVariable_10 rfl ?_
  refine lp_getr 21 dX10_mixedVariable_12 fp_RX10_141.FL rfl rfl rfl ?_
  refine pw_iload_n dX10_mixedVariable_15 rfl ?_
  refine lp_iald dX10_mixedVariable_16 rfl (by assumption) ?_
  refine pw_i2l dX10_mixedVariable_17 ?_
  refine lp_cS1 (mi' := mX10_mixed) (As := [_, _]) dX10_mixedVariable_18 lk_RX10_271 mk_X10_mixed ms_X10_mixed ⟨by decide, by decide⟩ rfl rfl (Nat.le_of_ble_eq_true rfl) ⟨rfl, rfl⟩ ⟨Nat.zero_le _, Nat.zero_le _⟩ (x_mixed _ _ _) ?_
  refine pw_lstore dX10_mixedVariable_21 (by decide) ?_
  refine pw_lload dX10_mixedVariable_23 rfl ?_
  refine pw_aload dX10_mixedVariable_25 rfl ?_
  refine lp_getr 22 dX10_mixedVariable_27 fp_RX10_145.FL rfl rfl rfl ?_
  refine pw_iload_n dX10_mixedVariable_30 rfl ?_
  refine lp_iald dX10_mixedVariable_31 rfl (by assumption) ?_
  refine pw_i2l dX10_mixedVariable_32 ?_
  refine lp_cS1 (mi' := mX10_mixed) (As := [_, _]) dX10_mixedVariable_33 lk_RX10_271 mk_X10_mixed ms_X10_mixed ⟨by decide, by decide⟩ rfl rfl (Nat.le_of_ble_eq_true rfl) ⟨rfl, rfl⟩ ⟨Nat.zero_le _, Nat.zero_le _⟩ (x_mixed _ _ _) ?_
  refine pw_lstore dX10_mixedVariable_36 (by decide) ?_
  refine pw_lload dX10_mixedVariable_38 rfl ?_
  refine pw_aload dX10_mixedVariable_40 rfl ?_
  refine lp_getr 23 dX10_mixedVariable_42 fp_RX10_150.FL rfl rfl rfl ?_
  refine pw_iload_n dX10_mixedVariable_45 rfl ?_
  refine lp_iald dX10_mixedVariable_46 rfl (by assumption) ?_
  refine pw_i2l dX10_mixedVariable_47 ?_
  refine lp_cS1 (mi' := mX10_mixed) (As := [_, _]) dX10_mixedVariable_48 lk_RX10_271 mk_X10_mixed ms_X10_mixed ⟨by decide, by decide⟩ rfl rfl (Nat.le_of_ble_eq_true rfl) ⟨rfl, rfl⟩ ⟨Nat.zero_le _, Nat.zero_le _⟩ (x_mixed _ _ _) ?_
  refine pw_lstore dX10_mixedVariable_51 (by decide) ?_
  refine pw_lload dX10_mixedVariable_53 rfl ?_
  refine pw_aload_n dX10_mixedVariable_55 rfl ?_
  refine lp_getr 74 dX10_mixedVariable_56 fp_RX10_49.FL rfl rfl rfl ?_
  refine pw_iload_n dX10_mixedVariable_59 rfl ?_
  refine lp_cV1 (mi' := mX0_finalLow) (As := [_]) (q := (RX0, TX0, 13)) dX10_mixedVariable_60 lk_RX10_206 mk_X0_finalLow mi_X0_finalLow me_X0_finalLow ⟨by decide, by decide⟩ rfl rfl (Nat.le_of_ble_eq_true rfl) rfl rfl ⟨rfl, rfl⟩ ⟨Nat.zero_le _, Nat.zero_le _⟩ (x_finalLow (b := 74) rfl v hv) ?_
  refine pw_i2l dX10_mixedVariable_63 ?_
  refine lp_cS1 (mi' := mX10_mixed) (As := [_, _]) dX10_mixedVariable_64 lk_RX10_271 mk_X10_mixed ms_X10_mixed ⟨by decide, by decide⟩ rfl rfl (Nat.le_of_ble_eq_true rfl) ⟨rfl, rfl⟩ ⟨Nat.zero_le _, Nat.zero_le _⟩ (x_mixed _ _ _) ?_
  refine pw_lstore dX10_mixedVariable_67 (by decide) ?_
  refine pw_lload dX10_mixedVariable_69 rfl ?_
  refine pw_aload_n dX10_mixedVariable_71 rfl ?_
  refine lp_getr 74 dX10_mixedVariable_72 fp_RX10_49.FL rfl rfl rfl ?_
  refine pw_iload_n dX10_mixedVariable_75 rfl ?_
  refine lp_cV1 (mi' := mX0_finalHigh) (As := [_]) (q := (RX0, TX0, 13)) dX10_mixedVariable_76 lk_RX10_202 mk_X0_finalHigh mi_X0_finalHigh me_X0_finalHigh ⟨by decide, by decide⟩ rfl rfl (Nat.le_of_ble_eq_true rfl) rfl rfl ⟨rfl, rfl⟩ ⟨Nat.zero_le _, Nat.zero_le _⟩ (x_finalHigh (b := 74) rfl v hv) ?_
  refine pw_i2l dX10_mixedVariable_79 ?_
  refine lp_cS1 (mi' := mX10_mixed) (As := [_, _]) dX10_mixedVariable_80 lk_RX10_271 mk_X10_mixed ms_X10_mixed ⟨by decide, by decide⟩ rfl rfl (Nat.le_of_ble_eq_true rfl) ⟨rfl, rfl⟩ ⟨Nat.zero_le _, Nat.zero_le _⟩ (x_mixed _ _ _) ?_
  exact pw_lret rfl dX10_mixedVariable_83 (Nat.zero_le _) (Nat.zero_le _) (by rw [ev]; rfl)
def mrL (f : Nat → Int64) (h : Int64) : Nat → Int64
  | 0 => h
  | i + 1 => mx (mrL f h i) (f i).toInt32.toInt64
theorem mr_loop {sz : Nat} {w0 : va_W} {fin : OC → Prop} {b : Nat} (hb : LX.1[b]? = some (.inl 7)) (h : Int64) (ck : Int32)
    (kk : fin (.inl (some (.long (mx (mrL (σ.2.2.2.1 (b + 3)) h 8) ck.toInt64)), wp G adr LX Lf Rt σ))) :
    ∀ (r i : Nat), i + r = 8 → PW l G mX10_mixedRun w0 sz fin 14 [(2, .ref (adr b)), (3, .int ck), (4, .long (mrL (σ.2.2.2.1 (b + 3)) h i)), (6, .int (nI i))] [] 0 0 (wp G adr LX Lf Rt σ) := by
  intro r
  induction r with
  | zero =>
    intro i hi
    have hi : i = 8 := by omega
    subst hi
    refine pw_iload dX10_mixedRun_14 rfl ?_
    refine pw_bipush (v := 8) dX10_mixedRun_16 rfl ?_
    refine pw_icmp_ge 43 dX10_mixedRun_18 (by decide) (fun c_18 => ?_) (fun c_18 => absurd (nI_le (Nat.le_refl 8) (by decide)) c_18)
    refine pw_lload dX10_mixedRun_43 rfl ?_
    refine pw_iload_n dX10_mixedRun_45 rfl ?_
    refine pw_i2l dX10_mixedRun_46 ?_
    refine lp_cS1 (mi' := mX10_mixed) (As := [_, _]) dX10_mixedRun_47 lk_RX10_271 mk_X10_mixed ms_X10_mixed ⟨by decide, by decide⟩ rfl rfl (Nat.le_of_ble_eq_true rfl) ⟨rfl, rfl⟩ ⟨Nat.zero_le _, Nat.zero_le _⟩ (x_mixed _ _ _) ?_
    exact pw_lret rfl dX10_mixedRun_50 (Nat.zero_le _) (Nat.zero_le _) kk
  | succ r ih =>
    intro i hi
    have hv8 : vp_in (nI i) 8 := vp_in_nI (by omega) (by decide)
    have ev : (nI i).toNatClampNeg = i := nI_clamp (by omega)
    refine pw_iload dX10_mixedRun_14 rfl ?_
    refine pw_bipush (v := 8) dX10_mixedRun_16 rfl ?_
    refine pw_icmp_ge 43 dX10_mixedRun_18 (by decide) (fun c_18 => absurd c_18 (nI_ge (a := i) (b := 8) (by omega) (by decide))) (fun c_18 => ?_)
    refine pw_lload dX10_mixedRun_21 rfl ?_
    refine pw_aload_n dX10_mixedRun_23 rfl ?_
    refine lp_getr (b + 3) dX10_mixedRun_24 fp_RX10_222.FL hb rfl (rX7_1 hb) ?_
    refine pw_iload dX10_mixedRun_27 rfl ?_
    refine lp_lald dX10_mixedRun_29 (kX7_1 hb) (by assumption) ?_
    rw [ev]
    refine pw_l2i dX10_mixedRun_30 ?_
    refine pw_i2l dX10_mixedRun_31 ?_
    refine lp_cS1 (mi' := mX10_mixed) (As := [_, _]) dX10_mixedRun_32 lk_RX10_271 mk_X10_mixed ms_X10_mixed ⟨by decide, by decide⟩ rfl rfl (Nat.le_of_ble_eq_true rfl) ⟨rfl, rfl⟩ ⟨Nat.zero_le _, Nat.zero_le _⟩ (x_mixed _ _ _) ?_
    refine pw_lstore dX10_mixedRun_35 (by decide) ?_
    refine pw_iinc dX10_mixedRun_37 rfl (by decide) ?_
    refine pw_goto (tgt := 14) dX10_mixedRun_40 (by decide) ?_
    exact pw_lk [(2, .ref (adr b)), (3, .int ck), (4, .long (mrL (σ.2.2.2.1 (b + 3)) h (i + 1))), (6, .int (nI (i + 1)))] ⟨rfl, rfl, rfl, congrArg (fun x => some (Value.int x)) (nI_1 i), trivial⟩ (ih (i + 1) (by omega))
theorem x_mixedRun {b : Nat} (hb : LX.1[b]? = some (.inl 7)) (h : Int64) (ck : Int32) : SpecD l G mX10_mixedRun [.long h, .ref (adr b), .int ck] (wp G adr LX Lf Rt σ) (some (.long (mx (mrL (σ.2.2.2.1 (b + 3)) (mx h (σ.1 b 2).toInt64) 8) ck.toInt64))) (wp G adr LX Lf Rt σ) := by
  refine spec_of (by decide) (Nat.le_of_ble_eq_true rfl) (fun sz => ?_)
  refine pw_lload_n dX10_mixedRun_0 rfl ?_
  refine pw_aload_n dX10_mixedRun_1 rfl ?_
  refine lp_geti dX10_mixedRun_2 fp_RX10_219.FL hb rfl ?_
  refine pw_i2l dX10_mixedRun_5 ?_
  refine lp_cS1 (mi' := mX10_mixed) (As := [_, _]) dX10_mixedRun_6 lk_RX10_271 mk_X10_mixed ms_X10_mixed ⟨by decide, by decide⟩ rfl rfl (Nat.le_of_ble_eq_true rfl) ⟨rfl, rfl⟩ ⟨Nat.zero_le _, Nat.zero_le _⟩ (x_mixed _ _ _) ?_
  refine pw_lstore dX10_mixedRun_9 (by decide) ?_
  refine pw_iconst (v := 0) dX10_mixedRun_11 rfl ?_
  refine pw_istore dX10_mixedRun_12 (by decide) ?_
  exact pw_lk [(2, .ref (adr b)), (3, .int ck), (4, .long (mrL (σ.2.2.2.1 (b + 3)) (mx h (σ.1 b 2).toInt64) 0)), (6, .int (nI 0))] ⟨rfl, rfl, rfl, rfl, trivial⟩ (mr_loop (σ := σ) hb (mx h (σ.1 b 2).toInt64) ck (by rfl) 8 0 rfl)
def vhL (σ : St) (h : Int64) : Nat → Int64
  | 0 => h
  | i + 1 => mxV σ i (vhL σ h i)
theorem dg_loop {sz : Nat} {w0 : va_W} {fin : OC → Prop} (h : Int64)
    (kk : PW l G mX10_digest w0 sz fin 85 [(0, .ref (adr 0)), (1, .long (vhL σ h 8))] [] 0 0 (wp G adr LX Lf Rt σ)) :
    ∀ (r i : Nat), i + r = 8 → PW l G mX10_digest w0 sz fin 66 [(0, .ref (adr 0)), (1, .long (vhL σ h i)), (3, .int (nI i))] [] 0 0 (wp G adr LX Lf Rt σ) := by
  intro r
  induction r with
  | zero =>
    intro i hi
    have hi : i = 8 := by omega
    subst hi
    refine pw_iload_n dX10_digest_66 rfl ?_
    refine pw_bipush (v := 8) dX10_digest_67 rfl ?_
    refine pw_icmp_ge 85 dX10_digest_69 (by decide) (fun c_69 => ?_) (fun c_69 => absurd (nI_le (Nat.le_refl 8) (by decide)) c_69)
    exact pw_lk [(0, .ref (adr 0)), (1, .long (vhL σ h 8))] ⟨rfl, rfl, trivial⟩ kk
  | succ r ih =>
    intro i hi
    refine pw_iload_n dX10_digest_66 rfl ?_
    refine pw_bipush (v := 8) dX10_digest_67 rfl ?_
    refine pw_icmp_ge 85 dX10_digest_69 (by decide) (fun c_69 => absurd c_69 (nI_ge (a := i) (b := 8) (by omega) (by decide))) (fun c_69 => ?_)
    refine pw_aload_n dX10_digest_72 rfl ?_
    refine pw_lload_n dX10_digest_73 rfl ?_
    refine pw_iload_n dX10_digest_74 rfl ?_
    refine lp_cV1 (mi' := mX10_mixedVariable) (As := [_, _]) (q := (RX10, TX10, 14)) dX10_digest_75 lk_RX10_278 mk_X10_mixedVariable mi_X10_mixedVariable me_X10_mixedVariable ⟨by decide, by decide⟩ rfl rfl (Nat.le_of_ble_eq_true rfl) rfl rfl ⟨rfl, rfl⟩ ⟨Nat.zero_le _, Nat.zero_le _⟩ (x_mixedVar i (by omega) _) ?_
    refine pw_lstore_n dX10_digest_78 (by decide) ?_
    refine pw_iinc dX10_digest_79 rfl (by decide) ?_
    refine pw_goto (tgt := 66) dX10_digest_82 (by decide) ?_
    exact pw_lk [(0, .ref (adr 0)), (1, .long (vhL σ h (i + 1))), (3, .int (nI (i + 1)))] ⟨rfl, rfl, congrArg (fun x => some (Value.int x)) (nI_1 i), trivial⟩ (ih (i + 1) (by omega))
def dgR (h : Int64) : Int64 := mx (mrL (fun _ => 0) (mx h (-1)) 8) 0
def dgV (h : Int64) : Nat → Int64
  | 0 => h
  | i + 1 => mx (mx (mx (mx (mx (dgV h i) 0) 100) 0) 0) 100
def dg0 : Int64 := mx (mx (dgR (dgR (dgV (mx (mx 2953 0) 0) 8))) 0) 0
theorem mrL_0 {f : Nat → Int64} {h : Int64} : ∀ n, (∀ j, j < n → f j = 0) → mrL f h n = mrL (fun _ => 0) h n := by
  intro n
  induction n with
  | zero => intro _; rfl
  | succ n ih => intro hf; unfold mrL; rw [ih (fun j hj => hf j (by omega)), hf n (by omega)]
def FreshI (σ : St) : Prop := ∀ j, j < 8 → σ.2.2.1 21 j = 0 ∧ σ.2.2.1 22 j = 100 ∧ σ.2.2.1 23 j = 0
theorem vhL_0 {σ : St} {h : Int64} (h1 : FreshI σ) (h2 : σ.1 74 1 = 0) (h3 : ∀ j, j < 8 → σ.2.2.2.1 77 j = 0 ∧ σ.2.2.2.1 78 j = 100) : ∀ n, n ≤ 8 → vhL σ h n = dgV h n := by
  intro n
  induction n with
  | zero => intro _; rfl
  | succ n ih =>
    intro hn
    unfold vhL dgV mxV
    obtain ⟨a1, a2, a3⟩ := h1 n (by omega)
    obtain ⟨a4, a5⟩ := h3 n (by omega)
    rw [ih (by omega), a1, a2, a3, if_pos h2, if_pos h2, a4, a5]
    rfl
theorem x_digest0 (h9 : σ.1 0 9 = 0) (h10 : σ.1 0 10 = 0) (h0 : σ.1 13 0 = 0) (ht : σ.1 1 1 = 0) (hs : σ.1 24 0 = 0) (hi : FreshI σ) : SpR1 l G mX10_digest [.ref (adr 0)] adr LX Lf Rt σ (fun r _ => r = .long dg0) := by
  refine spec_of (by decide) (Nat.le_of_ble_eq_true rfl) (fun sz => ?_)
  have hk : ∀ {P : Prop} [Decidable P], LX.1[if P then 93 else 88]? = some (.inl 7) := fun {P} _ => by by_cases h : P <;> simp only [h, if_true, if_false] <;> rfl
  refine pw_aload_n dX10_digest_0 rfl ?_
  refine lp_rV0 (mi' := mX10_freshenRuns) (As := []) (q := (RX10, TX10, 14)) dX10_digest_1 lk_RX10_212 mk_X10_freshenRuns mi_X10_freshenRuns me_X10_freshenRuns ⟨by decide, by decide⟩ rfl rfl (Nat.le_of_ble_eq_true rfl) rfl rfl ⟨rfl, rfl⟩ ⟨Nat.zero_le _, Nat.zero_le _⟩ (x_freshR0 h9 h10 h0) (fun τ hQ => ?_)
  have hT : τ.1 1 1 = 0 ∧ τ.1 13 0 = 0 ∧ τ.1 24 0 = 0 ∧ FreshI τ ∧ τ.1 74 1 = 0 ∧ (∀ j, j < 8 → τ.2.2.2.1 77 j = 0 ∧ τ.2.2.2.1 78 j = 100) ∧ RunE σ τ 88 ∧ RunE σ τ 93 := by
    obtain ⟨τ1, rfl, ρ, hR, rfl⟩ := hQ
    refine ⟨(congrFun (hR.1 1 (by omega)).1 1).trans ht, (congrFun (hR.1 13 (by omega)).1 0).trans h0, (congrFun (hR.1 24 (by omega)).1 0).trans hs, fun j hj => ?_, hR.2.1, fun j hj => ?_, hR.2.2.2.1, hR.2.2.2.2⟩
    · obtain ⟨b1, b2, b3⟩ := hi j hj
      exact ⟨(congrFun (hR.1 21 (by omega)).2.2.1 j).trans b1, (congrFun (hR.1 22 (by omega)).2.2.1 j).trans b2, (congrFun (hR.1 23 (by omega)).2.2.1 j).trans b3⟩
    · obtain ⟨b1, b2, b3⟩ := hi j hj
      obtain ⟨c1, c2⟩ := hR.2.2.1 j hj
      exact ⟨c1.trans (by rw [b1]; rfl), c2.trans (by rw [b2]; rfl)⟩
  obtain ⟨t1, t2, t3, t4, t5, t6, t7, t8⟩ := hT
  have v88 : ∀ x, mrL (τ.2.2.2.1 (88 + 3)) x 8 = mrL (fun _ => 0) x 8 := fun x => mrL_0 8 (fun j hj => (t7.2.2.2 j hj).trans (by rw [(hi j hj).2.2]; rfl))
  have v93 : ∀ x, mrL (τ.2.2.2.1 (93 + 3)) x 8 = mrL (fun _ => 0) x 8 := fun x => mrL_0 8 (fun j hj => (t8.2.2.2 j hj).trans (by rw [(hi j hj).2.2]; rfl))
  refine pw_ldc2 dX10_digest_4 kc_RX10_269 ?_
  refine pw_aload_n dX10_digest_7 rfl ?_
  refine lp_getr 1 dX10_digest_8 fp_RX10_10.FL rfl rfl rfl ?_
  refine lp_geti dX10_digest_11 fp_RX10_97.FL rfl rfl ?_
  refine pw_top 0 t1 ?_
  refine pw_i2l dX10_digest_14 ?_
  refine lp_cS1 (mi' := mX10_mixed) (As := [_, _]) dX10_digest_15 lk_RX10_271 mk_X10_mixed ms_X10_mixed ⟨by decide, by decide⟩ rfl rfl (Nat.le_of_ble_eq_true rfl) ⟨rfl, rfl⟩ ⟨Nat.zero_le _, Nat.zero_le _⟩ (x_mixed _ _ _) ?_
  refine pw_lstore_n dX10_digest_18 (by decide) ?_
  refine pw_lload_n dX10_digest_19 rfl ?_
  refine pw_aload_n dX10_digest_20 rfl ?_
  refine lp_getr 12 dX10_digest_21 fp_RX10_35.FL rfl rfl rfl ?_
  refine lp_getr 13 dX10_digest_24 fp_RX10_117.FL rfl rfl rfl ?_
  refine lp_geti dX10_digest_27 fp_RX10_124.FL rfl rfl ?_
  refine pw_top 0 t2 ?_
  refine pw_i2l dX10_digest_30 ?_
  refine lp_cS1 (mi' := mX10_mixed) (As := [_, _]) dX10_digest_31 lk_RX10_271 mk_X10_mixed ms_X10_mixed ⟨by decide, by decide⟩ rfl rfl (Nat.le_of_ble_eq_true rfl) ⟨rfl, rfl⟩ ⟨Nat.zero_le _, Nat.zero_le _⟩ (x_mixed _ _ _) ?_
  refine pw_lstore_n dX10_digest_34 (by decide) ?_
  refine pw_iconst (v := 0) dX10_digest_35 rfl ?_
  refine pw_istore_n dX10_digest_36 (by decide) ?_
  refine pw_iload_n dX10_digest_37 rfl ?_
  refine pw_aload_n dX10_digest_38 rfl ?_
  refine lp_getr 12 dX10_digest_39 fp_RX10_35.FL rfl rfl rfl ?_
  refine lp_getr 13 dX10_digest_42 fp_RX10_117.FL rfl rfl rfl ?_
  refine lp_geti dX10_digest_45 fp_RX10_124.FL rfl rfl ?_
  refine pw_icmp_ge 64 dX10_digest_48 (by decide) (fun c_48 => ?_) (fun c_48 => absurd (show τ.1 13 0 ≤ 0 by rw [t2]; decide) c_48)
  refine pw_iconst (v := 0) dX10_digest_64 rfl ?_
  refine pw_istore_n dX10_digest_65 (by decide) ?_
  refine pw_lk [(0, .ref (adr 0)), (1, .long (vhL τ (mx (mx 2953 0) 0) 0)), (3, .int (nI 0))] ⟨rfl, rfl, rfl, trivial⟩ (dg_loop (mx (mx 2953 0) 0) ?_ 8 0 rfl)
  refine pw_lload_n dX10_digest_85 rfl ?_
  refine pw_aload_n dX10_digest_86 rfl ?_
  refine lp_getr 88 dX10_digest_87 fp_RX10_63.FL rfl rfl rfl ?_
  refine pw_aload_n dX10_digest_90 rfl ?_
  refine lp_getr 88 dX10_digest_91 fp_RX10_63.FL rfl rfl rfl ?_
  refine lp_geti dX10_digest_94 fp_RX10_225.FL rfl rfl ?_
  refine pw_top 0 t7.2.1 ?_
  refine lp_cS1 (mi' := mX10_mixedRun) (As := [_, _, _]) dX10_digest_97 lk_RX10_281 mk_X10_mixedRun ms_X10_mixedRun ⟨by decide, by decide⟩ rfl rfl (Nat.le_of_ble_eq_true rfl) ⟨rfl, rfl⟩ ⟨Nat.zero_le _, Nat.zero_le _⟩ (x_mixedRun (b := 88) rfl _ _) ?_
  refine pw_topl (dgR (dgV (mx (mx 2953 0) 0) 8)) (by rw [v88, t7.1, vhL_0 t4 t5 t6 8 (Nat.le_refl _)]; rfl) ?_
  refine pw_lstore_n dX10_digest_100 (by decide) ?_
  refine pw_lload_n dX10_digest_101 rfl ?_
  refine pw_aload_n dX10_digest_102 rfl ?_
  refine pw_iconst (v := 1) dX10_digest_103 rfl ?_
  refine lp_cV1 (mi' := mX10_outcomeOf) (As := [_]) (q := (RX10, TX10, 14)) dX10_digest_104 lk_RX10_215 mk_X10_outcomeOf mi_X10_outcomeOf me_X10_outcomeOf ⟨by decide, by decide⟩ rfl rfl (Nat.le_of_ble_eq_true rfl) rfl rfl ⟨rfl, rfl⟩ ⟨Nat.zero_le _, Nat.zero_le _⟩ (x_outcomeOf true) ?_
  rw [if_pos ⟨rfl, t8.1⟩]
  refine pw_aload_n dX10_digest_107 rfl ?_
  refine lp_getr 93 dX10_digest_108 fp_RX10_67.FL rfl rfl rfl ?_
  refine lp_geti dX10_digest_111 fp_RX10_225.FL rfl rfl ?_
  refine pw_top 0 t8.2.1 ?_
  refine lp_cS1 (mi' := mX10_mixedRun) (As := [_, _, _]) dX10_digest_114 lk_RX10_281 mk_X10_mixedRun ms_X10_mixedRun ⟨by decide, by decide⟩ rfl rfl (Nat.le_of_ble_eq_true rfl) ⟨rfl, rfl⟩ ⟨Nat.zero_le _, Nat.zero_le _⟩ (x_mixedRun (b := 93) rfl _ _) ?_
  refine pw_topl (dgR (dgR (dgV (mx (mx 2953 0) 0) 8))) (by rw [v93, t8.1]; rfl) ?_
  refine pw_lstore_n dX10_digest_117 (by decide) ?_
  refine pw_lload_n dX10_digest_118 rfl ?_
  refine pw_aload_n dX10_digest_119 rfl ?_
  refine lp_getr 88 dX10_digest_120 fp_RX10_63.FL rfl rfl rfl ?_
  refine lp_geti dX10_digest_123 fp_RX10_228.FL rfl rfl ?_
  refine pw_top 0 t7.2.2.1 ?_
  refine pw_i2l dX10_digest_126 ?_
  refine lp_cS1 (mi' := mX10_mixed) (As := [_, _]) dX10_digest_127 lk_RX10_271 mk_X10_mixed ms_X10_mixed ⟨by decide, by decide⟩ rfl rfl (Nat.le_of_ble_eq_true rfl) ⟨rfl, rfl⟩ ⟨Nat.zero_le _, Nat.zero_le _⟩ (x_mixed _ _ _) ?_
  refine pw_lstore_n dX10_digest_130 (by decide) ?_
  refine pw_lload_n dX10_digest_131 rfl ?_
  refine pw_aload_n dX10_digest_132 rfl ?_
  refine lp_getr 24 dX10_digest_133 fp_RX10_42.FL rfl rfl rfl ?_
  refine lp_geti dX10_digest_136 fp_RX10_257.FL rfl rfl ?_
  refine pw_top 0 t3 ?_
  refine pw_i2l dX10_digest_139 ?_
  refine lp_cS1 (mi' := mX10_mixed) (As := [_, _]) dX10_digest_140 lk_RX10_271 mk_X10_mixed ms_X10_mixed ⟨by decide, by decide⟩ rfl rfl (Nat.le_of_ble_eq_true rfl) ⟨rfl, rfl⟩ ⟨Nat.zero_le _, Nat.zero_le _⟩ (x_mixed _ _ _) ?_
  exact pw_lret rfl dX10_digest_143 (Nat.zero_le _) (Nat.zero_le _) ⟨_, _, rfl, rfl⟩
end XG
