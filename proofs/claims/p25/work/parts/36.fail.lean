section F1
variable {l : Launch} {G : cxG} {adr : Nat → Nat} {Lf Rt : va_W} {σ : St}
theorem r_safePower_ok {N : Nat} (hP : wfP (σ.2.2.1 1) N) (v : Nat) (hv : v < 8) : SpR1 l G mX11_safePower [.ref (adr 0), .int (nI v)] adr LM Lf Rt σ (fun v' σ' => v' = .int (spL (σ.2.2.1 1) N v (σ.2.2.1 1 (121 + 3 * v)) 31 0 0) ∧ pers σ' = pers (sI σ 0 3 0)) := by
  refine spec_of (by decide) (Nat.le_of_ble_eq_true rfl) (fun sz => ?_)
  have n7 : (0 : Int32) ≤ nI v ∧ nI v ≤ 7 := nIr (show v ≤ 7 by omega) (by decide)
  have b0 := nI121' (v := v) (by omega)
  refine pw_aload_n dX11_safePower_0 rfl ?_
  refine pw_iload_n dX11_safePower_1 rfl ?_
  refine lp_cS1 (mi' := mX11_isName) (As := [_]) dX11_safePower_2 lk_RX11_154 mk_X11_isName ms_X11_isName ⟨by decide, by decide⟩ rfl rfl (Nat.le_of_ble_eq_true rfl) ⟨rfl, rfl⟩ ⟨Nat.zero_le _, Nat.zero_le _⟩ (r_isName (nI v) _) ?_
  rw [decide_eq_true n7]
  refine pw_iconst (v := 1) dX11_safePower_5 rfl ?_
  refine lp_cV1 (mi' := mX11_goes) (As := [_, _]) (q := (RX11, TX11, 33)) dX11_safePower_6 lk_RX11_101 mk_X11_goes mi_X11_goes me_X11_goes ⟨by decide, by decide⟩ rfl rfl (Nat.le_of_ble_eq_true rfl) rfl rfl ⟨rfl, rfl⟩ ⟨Nat.zero_le _, Nat.zero_le _⟩ (r_goes true true) ?_
  refine pw_if_ne 14 dX11_safePower_9 (by decide) (fun c_9 => ?_) (fun c_9 => absurd (show (1 : Int32) = 0 from c_9) (by decide))
  refine pw_aload_n dX11_safePower_14 rfl ?_
  refine lp_getr 1 dX11_safePower_15 fp_RX11_7.FL rfl rfl rfl ?_
  refine pw_bipush (v := 121) dX11_safePower_18 rfl ?_
  refine pw_iconst (v := 3) dX11_safePower_20 rfl ?_
  refine pw_iload_n dX11_safePower_21 rfl ?_
  refine pw_imul dX11_safePower_22 ?_
  refine pw_iadd dX11_safePower_23 ?_
  refine lp_iald dX11_safePower_24 rfl b0.1 ?_
  rw [b0.2]
  refine pw_istore_n dX11_safePower_25 (by decide) ?_
  refine pw_iconst (v := 0) dX11_safePower_26 rfl ?_
  refine pw_istore_n dX11_safePower_27 (by decide) ?_
  refine pw_iconst (v := 0) dX11_safePower_28 rfl ?_
  refine pw_istore dX11_safePower_29 (by decide) ?_
  refine pw_lk [(0, .ref (adr 0)), (1, .int (nI v)), (2, .int (σ.2.2.1 1 (121 + 3 * v))), (3, .int 0), (4, .int (nI 0))] ⟨rfl, rfl, rfl, rfl, rfl, trivial⟩ ?_
  exact sp_loop (P0 := pers (sI σ 0 3 0)) (al := σ.2.2.1 1) rfl hP v hv (σ.2.2.1 1 (121 + 3 * v)) 31 0 0 (sI σ 0 3 0) rfl rfl rfl
theorem r_safePower_no (v : Int32) (hv : ¬ (0 ≤ v ∧ v ≤ 7)) : SpecD l G mX11_safePower [.ref (adr 0), .int v] (wp G adr LM Lf Rt σ) (some (.int 0)) (wp G adr LM Lf Rt (sI σ 0 3 1)) := by
  refine spec_of (by decide) (Nat.le_of_ble_eq_true rfl) (fun sz => ?_)
  refine pw_aload_n dX11_safePower_0 rfl ?_
  refine pw_iload_n dX11_safePower_1 rfl ?_
  refine lp_cS1 (mi' := mX11_isName) (As := [_]) dX11_safePower_2 lk_RX11_154 mk_X11_isName ms_X11_isName ⟨by decide, by decide⟩ rfl rfl (Nat.le_of_ble_eq_true rfl) ⟨rfl, rfl⟩ ⟨Nat.zero_le _, Nat.zero_le _⟩ (r_isName v _) ?_
  rw [decide_eq_false hv]
  refine pw_iconst (v := 1) dX11_safePower_5 rfl ?_
  refine lp_cV1 (mi' := mX11_goes) (As := [_, _]) (q := (RX11, TX11, 33)) dX11_safePower_6 lk_RX11_101 mk_X11_goes mi_X11_goes me_X11_goes ⟨by decide, by decide⟩ rfl rfl (Nat.le_of_ble_eq_true rfl) rfl rfl ⟨rfl, rfl⟩ ⟨Nat.zero_le _, Nat.zero_le _⟩ (r_goes false true) ?_
  refine pw_if_ne 14 dX11_safePower_9 (by decide) (fun c_9 => absurd c_9 (fun z => z rfl)) (fun c_9 => ?_)
  refine pw_iconst (v := 0) dX11_safePower_12 rfl ?_
  exact pw_iret rfl rfl dX11_safePower_13 (Nat.zero_le _) (Nat.zero_le _) rfl
end F1
theorem addK (h : Int32) (k : Nat) (hk : k ≤ 1000) : (h.toInt64 + lN k).toInt = h.toInt + k := by
  have h1 := Int32.le_toInt h
  have h2 := Int32.toInt_lt h
  rw [Int64.toInt_add, Int32.toInt_toInt64, lN_toInt (by omega)]
  apply Int.bmod_eq_of_le <;> omega
theorem addK1 (h : Int32) (k : Nat) : h.toInt64 + lN k + 1 = h.toInt64 + lN (k + 1) := by rw [Int64.add_assoc, lN_1]
theorem addKm (h : Int32) (k : Nat) : h.toInt64 + lN (k + 1) - 1 = h.toInt64 + lN k := by rw [← addK1, Int64.add_sub_cancel]
def fiL (al : Nat → Int32) (N v : Nat) (had hi : Int32) : Nat → Nat → Int32
  | 0, _ => -2147483648
  | r + 1, k => if had.toInt64 + lN k ≤ hi.toInt64 then (if (cRun (upd al (121 + 3 * v + 2) (had.toInt64 + lN k).toInt32) N).2.2.1 = -1 then fiL al N v had hi r (k + 1) else (had.toInt64 + lN k).toInt32) else -2147483648
abbrev PP : Type := Int32 × Int32 × Int32 × (Nat → Int32) × (Nat → Int32) × (Nat → Int32)
def ppA (P : PP) (f : Nat → Int32) : PP := (P.1, P.2.1, P.2.2.1, f, P.2.2.2.2)
section F2
variable {l : Launch} {G : cxG} {adr : Nat → Nat} {Lf Rt : va_W} {σ : St}
theorem fi_exit {sz : Nat} {w0 : va_W} {P0 : PP} {al : Nat → Int32} {res : Int32} (hal : P0.2.2.2.1 = al) (v : Nat) (hv : v < 8) (x : Int64) (z : Bool) (y : Int32) (τ : St) (hp : pers τ = ppA P0 (upd al (121 + 3 * v + 2) y)) (hres : (if z = true then (x - 1).toInt32 else -2147483648) = res) :
    PW l G mX11_failingInput w0 sz (fun o => ∃ v' σ', o = .inl (some v', wp G adr LM Lf Rt σ') ∧ (v' = .int res ∧ pers σ' = P0)) 109 [(0, .ref (adr 0)), (2, .int (121 + 3 * nI v)), (3, .int (al (121 + 3 * v + 2))), (4, .long x), (6, .int (bI z))] [] 0 0 (wp G adr LM Lf Rt τ) := by
  have b2 : vp_in (121 + 3 * nI v + 2) 145 ∧ (121 + 3 * nI v + 2).toNatClampNeg = 121 + 3 * v + 2 := nI121 (v := v) (w := 2) (by omega)
  have ea : τ.2.2.1 1 = upd al (121 + 3 * v + 2) y := congrArg (fun x => x.2.2.2.1) hp
  have eu : upd (upd al (121 + 3 * v + 2) y) (121 + 3 * v + 2) (al (121 + 3 * v + 2)) = al := by
    funext q
    unfold upd
    by_cases hq : q = 121 + 3 * v + 2
    · rw [if_pos hq, hq]
    · rw [if_neg hq, if_neg hq]
  have hp2 : pers (sA τ 1 al) = P0 := by
    have h1 := congrArg (fun x => x.1) hp
    have h2 := congrArg (fun x => x.2.1) hp
    have h3 := congrArg (fun x => x.2.2.1) hp
    have h4 := congrArg (fun x => x.2.2.2.2) hp
    show (τ.1 0 2, τ.1 0 3, τ.1 0 5, al, τ.2.2.1 2, τ.2.2.1 3) = P0
    rw [← hal]
    exact Prod.ext h1 (Prod.ext h2 (Prod.ext h3 (Prod.ext rfl h4)))
  cases z
  · refine pw_aload_n dX11_failingInput_109 rfl ?_
    refine lp_getr 1 dX11_failingInput_110 fp_RX11_7.FL rfl rfl rfl ?_
    refine pw_iload_n dX11_failingInput_113 rfl ?_
    refine pw_iconst (v := 2) dX11_failingInput_114 rfl ?_
    refine pw_iadd dX11_failingInput_115 ?_
    refine pw_iload_n dX11_failingInput_116 rfl ?_
    refine lp_iast dX11_failingInput_117 rfl b2.1 ?_
    refine pw_st (σ' := sA τ 1 al) ?_ ?_
    · rw [b2.2, ea, eu]
    refine pw_iload dX11_failingInput_118 rfl ?_
    refine pw_if_eq 131 dX11_failingInput_120 (by decide) (fun c_120 => ?_) (fun c_120 => absurd rfl c_120)
    refine pw_ldcw dX11_failingInput_131 kc_RX11_280 ?_
    exact pw_iret rfl rfl dX11_failingInput_134 (Nat.zero_le _) (Nat.zero_le _) ⟨_, _, rfl, congrArg Value.int hres, hp2⟩
  · refine pw_aload_n dX11_failingInput_109 rfl ?_
    refine lp_getr 1 dX11_failingInput_110 fp_RX11_7.FL rfl rfl rfl ?_
    refine pw_iload_n dX11_failingInput_113 rfl ?_
    refine pw_iconst (v := 2) dX11_failingInput_114 rfl ?_
    refine pw_iadd dX11_failingInput_115 ?_
    refine pw_iload_n dX11_failingInput_116 rfl ?_
    refine lp_iast dX11_failingInput_117 rfl b2.1 ?_
    refine pw_st (σ' := sA τ 1 al) ?_ ?_
    · rw [b2.2, ea, eu]
    refine pw_iload dX11_failingInput_118 rfl ?_
    refine pw_if_eq 131 dX11_failingInput_120 (by decide) (fun c_120 => absurd (show (1 : Int32) = 0 from c_120) (by decide)) (fun c_120 => ?_)
    refine pw_lload dX11_failingInput_123 rfl ?_
    refine pw_lconst (v := 1) dX11_failingInput_125 rfl ?_
    refine pw_lsub dX11_failingInput_126 ?_
    refine pw_l2i dX11_failingInput_127 ?_
    refine pw_goto (tgt := 134) dX11_failingInput_128 (by decide) ?_
    exact pw_iret rfl rfl dX11_failingInput_134 (Nat.zero_le _) (Nat.zero_le _) ⟨_, _, rfl, congrArg Value.int hres, hp2⟩
theorem fi_loop {sz : Nat} {w0 : va_W} {P0 : PP} {al : Nat → Int32} {res : Int32} {N : Nat} (hal : P0.2.2.2.1 = al) (hP : wfP al N) (v : Nat) (hv : v < 8) :
    ∀ (r k : Nat) (y : Int32) (τ : St), k + r = 201 → pers τ = ppA P0 (upd al (121 + 3 * v + 2) y) → fiL al N v (al (121 + 3 * v + 2)) (al (121 + 3 * v + 1)) r k = res →
      PW l G mX11_failingInput w0 sz (fun o => ∃ v' σ', o = .inl (some v', wp G adr LM Lf Rt σ') ∧ (v' = .int res ∧ pers σ' = P0)) 37 [(0, .ref (adr 0)), (2, .int (121 + 3 * nI v)), (3, .int (al (121 + 3 * v + 2))), (4, .long ((al (121 + 3 * v + 2)).toInt64 + lN k)), (6, .int (bI false))] [] 0 0 (wp G adr LM Lf Rt τ) := by
  have b1 : vp_in (121 + 3 * nI v + 1) 145 ∧ (121 + 3 * nI v + 1).toNatClampNeg = 121 + 3 * v + 1 := nI121 (v := v) (w := 1) (by omega)
  have b2 : vp_in (121 + 3 * nI v + 2) 145 ∧ (121 + 3 * nI v + 2).toNatClampNeg = 121 + 3 * v + 2 := nI121 (v := v) (w := 2) (by omega)
  have e200 : (al (121 + 3 * v + 2)).toInt64 + 200 = (al (121 + 3 * v + 2)).toInt64 + lN 200 := rfl
  intro r
  induction r with
  | zero =>
    intro k y τ hk hp hres
    have hk : k = 201 := by omega
    subst hk
    have kk := fi_exit (l := l) (G := G) (adr := adr) (Lf := Lf) (Rt := Rt) (sz := sz) (w0 := w0) hal v hv ((al (121 + 3 * v + 2)).toInt64 + lN 201) false y τ hp hres
    refine pw_iload dX11_failingInput_37 rfl ?_
    refine pw_if_ne 109 dX11_failingInput_39 (by decide) (fun c_39 => absurd c_39 (fun z => z rfl)) (fun c_39 => ?_)
    refine pw_lload dX11_failingInput_42 rfl ?_
    refine pw_iload_n dX11_failingInput_44 rfl ?_
    refine pw_i2l dX11_failingInput_45 ?_
    refine pw_ldc2 dX11_failingInput_46 kc_RX11_278 ?_
    refine pw_ladd dX11_failingInput_49 ?_
    refine pw_lcmp dX11_failingInput_50 ?_
    refine pw_if_gt 109 dX11_failingInput_51 (by decide) (fun c_51 => ?_) (fun c_51 => absurd ((lg_cmp_gt _ _).mpr (by rw [e200, Int64.lt_iff_toInt_lt, addK _ _ (by omega), addK _ _ (by omega)]; omega)) c_51)
    exact kk
  | succ r ih =>
    intro k y τ hk hp hres
    have ea : τ.2.2.1 1 = upd al (121 + 3 * v + 2) y := congrArg (fun x => x.2.2.2.1) hp
    have eh : τ.2.2.1 1 (121 + 3 * v + 1) = al (121 + 3 * v + 1) := by rw [ea]; unfold upd; rw [if_neg (by omega)]
    have c51 : ¬ 0 < lg_cmp ((al (121 + 3 * v + 2)).toInt64 + lN k) ((al (121 + 3 * v + 2)).toInt64 + 200) := by
      rw [lg_cmp_gt, e200, Int64.lt_iff_toInt_lt, addK _ _ (by omega), addK _ _ (by omega)]; omega
    unfold fiL at hres
    by_cases hle : (al (121 + 3 * v + 2)).toInt64 + lN k ≤ (al (121 + 3 * v + 1)).toInt64
    · rw [if_pos hle] at hres
      have eu : ∀ x : Int32, upd (upd al (121 + 3 * v + 2) y) (121 + 3 * v + 2) x = upd al (121 + 3 * v + 2) x := by
        intro x
        funext q
        unfold upd
        by_cases hq : q = 121 + 3 * v + 2
        · rw [if_pos hq, if_pos hq]
        · rw [if_neg hq, if_neg hq, if_neg hq]
      generalize hxx : ((al (121 + 3 * v + 2)).toInt64 + lN k).toInt32 = xi at hres
      have hP2 : wfP ((sA τ 1 (upd al (121 + 3 * v + 2) xi)).2.2.1 1) N := wfP_congr (fun q hq => by show al q = upd al _ _ q; unfold upd; rw [if_neg (by omega)]) hP
      have hrun := r_runs (l := l) (G := G) (adr := adr) (Lf := Lf) (Rt := Rt) hP2 false (fun q => absurd q (by decide))
      have hrc : (mRuns (sA τ 1 (upd al (121 + 3 * v + 2) xi)) false N).1 0 30 = (cRun (upd al (121 + 3 * v + 2) xi) N).2.2.1 := (rFin_c hP2).2.2.1
      have hp2 : pers (mRuns (sA τ 1 (upd al (121 + 3 * v + 2) xi)) false N) = ppA P0 (upd al (121 + 3 * v + 2) xi) := by
        have h1 := congrArg (fun x => x.1) hp
        have h2 := congrArg (fun x => x.2.1) hp
        have h3 := congrArg (fun x => x.2.2.1) hp
        have h4 := congrArg (fun x => x.2.2.2.2) hp
        exact Prod.ext h1 (Prod.ext h2 (Prod.ext h3 (Prod.ext rfl h4)))
      by_cases hfl : (cRun (upd al (121 + 3 * v + 2) xi) N).2.2.1 = -1
      · rw [if_pos hfl] at hres
        have ih1 := ih (k + 1) xi _ (by omega) hp2 hres
        refine pw_iload dX11_failingInput_37 rfl ?_
        refine pw_if_ne 109 dX11_failingInput_39 (by decide) (fun c_39 => absurd c_39 (fun z => z rfl)) (fun c_39 => ?_)
        refine pw_lload dX11_failingInput_42 rfl ?_
        refine pw_iload_n dX11_failingInput_44 rfl ?_
        refine pw_i2l dX11_failingInput_45 ?_
        refine pw_ldc2 dX11_failingInput_46 kc_RX11_278 ?_
        refine pw_ladd dX11_failingInput_49 ?_
        refine pw_lcmp dX11_failingInput_50 ?_
        refine pw_if_gt 109 dX11_failingInput_51 (by decide) (fun c_51 => absurd c_51 c51) (fun c_51 => ?_)
        refine pw_lload dX11_failingInput_54 rfl ?_
        refine pw_aload_n dX11_failingInput_56 rfl ?_
        refine lp_getr 1 dX11_failingInput_57 fp_RX11_7.FL rfl rfl rfl ?_
        refine pw_iload_n dX11_failingInput_60 rfl ?_
        refine pw_iconst (v := 1) dX11_failingInput_61 rfl ?_
        refine pw_iadd dX11_failingInput_62 ?_
        refine lp_iald dX11_failingInput_63 rfl b1.1 ?_
        refine pw_top (al (121 + 3 * v + 1)) (by rw [b1.2]; exact eh) ?_
        refine pw_i2l dX11_failingInput_64 ?_
        refine pw_lcmp dX11_failingInput_65 ?_
        refine pw_if_gt 109 dX11_failingInput_66 (by decide) (fun c_66 => absurd ((lg_cmp_gt _ _).mp c_66) (Int64.not_lt.mpr hle)) (fun c_66 => ?_)
        refine pw_aload_n dX11_failingInput_69 rfl ?_
        refine lp_getr 1 dX11_failingInput_70 fp_RX11_7.FL rfl rfl rfl ?_
        refine pw_iload_n dX11_failingInput_73 rfl ?_
        refine pw_iconst (v := 2) dX11_failingInput_74 rfl ?_
        refine pw_iadd dX11_failingInput_75 ?_
        refine pw_lload dX11_failingInput_76 rfl ?_
        refine pw_l2i dX11_failingInput_78 ?_
        refine pw_top xi hxx ?_
        refine lp_iast dX11_failingInput_79 rfl b2.1 ?_
        refine pw_st (σ' := sA τ 1 (upd al (121 + 3 * v + 2) xi)) ?_ ?_
        · rw [b2.2, ea, eu]
        refine pw_aload_n dX11_failingInput_80 rfl ?_
        refine pw_iconst (v := 0) dX11_failingInput_81 rfl ?_
        refine lp_cV0 (mi' := mX11_runs) (As := [_]) (q := (RX11, TX11, 33)) dX11_failingInput_82 lk_RX11_266 mk_X11_runs mi_X11_runs me_X11_runs ⟨by decide, by decide⟩ rfl rfl (Nat.le_of_ble_eq_true rfl) rfl rfl ⟨rfl, rfl⟩ ⟨Nat.zero_le _, Nat.zero_le _⟩ hrun ?_
        refine pw_aload_n dX11_failingInput_85 rfl ?_
        refine lp_geti dX11_failingInput_86 fp_RX11_249.FL rfl rfl ?_
        refine pw_iconst (v := -1) dX11_failingInput_89 rfl ?_
        refine pw_icmp_eq 97 dX11_failingInput_90 (by decide) (fun c_90 => ?_) (fun c_90 => absurd (hrc.trans hfl) c_90)
        refine pw_iconst (v := 0) dX11_failingInput_97 rfl ?_
        refine pw_istore dX11_failingInput_98 (by decide) ?_
        refine pw_lload dX11_failingInput_100 rfl ?_
        refine pw_lconst (v := 1) dX11_failingInput_102 rfl ?_
        refine pw_ladd dX11_failingInput_103 ?_
        refine pw_lstore dX11_failingInput_104 (by decide) ?_
        refine pw_goto (tgt := 37) dX11_failingInput_106 (by decide) ?_
        refine pw_lk _ ?_ ih1
        exact ⟨rfl, rfl, rfl, congrArg (fun x => some (Value.long x)) (addK1 _ k), rfl, trivial⟩
      · rw [if_neg hfl] at hres
        have kk := fi_exit (l := l) (G := G) (adr := adr) (Lf := Lf) (Rt := Rt) (sz := sz) (w0 := w0) (res := res) hal v hv ((al (121 + 3 * v + 2)).toInt64 + lN (k + 1)) true xi _ hp2 (by rw [if_pos rfl, addKm, hxx]; exact hres)
        have kk2 : PW l G mX11_failingInput w0 sz (fun o => ∃ v' σ', o = .inl (some v', wp G adr LM Lf Rt σ') ∧ (v' = .int res ∧ pers σ' = P0)) 37 [(0, .ref (adr 0)), (2, .int (121 + 3 * nI v)), (3, .int (al (121 + 3 * v + 2))), (4, .long ((al (121 + 3 * v + 2)).toInt64 + lN (k + 1))), (6, .int (bI true))] [] 0 0 (wp G adr LM Lf Rt (mRuns (sA τ 1 (upd al (121 + 3 * v + 2) xi)) false N)) := by
          refine pw_iload dX11_failingInput_37 rfl ?_
          refine pw_if_ne 109 dX11_failingInput_39 (by decide) (fun c_39 => ?_) (fun c_39 => absurd (show (1 : Int32) = 0 from c_39) (by decide))
          exact kk
        refine pw_iload dX11_failingInput_37 rfl ?_
        refine pw_if_ne 109 dX11_failingInput_39 (by decide) (fun c_39 => absurd c_39 (fun z => z rfl)) (fun c_39 => ?_)
        refine pw_lload dX11_failingInput_42 rfl ?_
        refine pw_iload_n dX11_failingInput_44 rfl ?_
        refine pw_i2l dX11_failingInput_45 ?_
        refine pw_ldc2 dX11_failingInput_46 kc_RX11_278 ?_
        refine pw_ladd dX11_failingInput_49 ?_
        refine pw_lcmp dX11_failingInput_50 ?_
        refine pw_if_gt 109 dX11_failingInput_51 (by decide) (fun c_51 => absurd c_51 c51) (fun c_51 => ?_)
        refine pw_lload dX11_failingInput_54 rfl ?_
        refine pw_aload_n dX11_failingInput_56 rfl ?_
        refine lp_getr 1 dX11_failingInput_57 fp_RX11_7.FL rfl rfl rfl ?_
        refine pw_iload_n dX11_failingInput_60 rfl ?_
        refine pw_iconst (v := 1) dX11_failingInput_61 rfl ?_
        refine pw_iadd dX11_failingInput_62 ?_
        refine lp_iald dX11_failingInput_63 rfl b1.1 ?_
        refine pw_top (al (121 + 3 * v + 1)) (by rw [b1.2]; exact eh) ?_
        refine pw_i2l dX11_failingInput_64 ?_
        refine pw_lcmp dX11_failingInput_65 ?_
        refine pw_if_gt 109 dX11_failingInput_66 (by decide) (fun c_66 => absurd ((lg_cmp_gt _ _).mp c_66) (Int64.not_lt.mpr hle)) (fun c_66 => ?_)
        refine pw_aload_n dX11_failingInput_69 rfl ?_
        refine lp_getr 1 dX11_failingInput_70 fp_RX11_7.FL rfl rfl rfl ?_
        refine pw_iload_n dX11_failingInput_73 rfl ?_
        refine pw_iconst (v := 2) dX11_failingInput_74 rfl ?_
        refine pw_iadd dX11_failingInput_75 ?_
        refine pw_lload dX11_failingInput_76 rfl ?_
        refine pw_l2i dX11_failingInput_78 ?_
        refine pw_top xi hxx ?_
        refine lp_iast dX11_failingInput_79 rfl b2.1 ?_
        refine pw_st (σ' := sA τ 1 (upd al (121 + 3 * v + 2) xi)) ?_ ?_
        · rw [b2.2, ea, eu]
        refine pw_aload_n dX11_failingInput_80 rfl ?_
        refine pw_iconst (v := 0) dX11_failingInput_81 rfl ?_
        refine lp_cV0 (mi' := mX11_runs) (As := [_]) (q := (RX11, TX11, 33)) dX11_failingInput_82 lk_RX11_266 mk_X11_runs mi_X11_runs me_X11_runs ⟨by decide, by decide⟩ rfl rfl (Nat.le_of_ble_eq_true rfl) rfl rfl ⟨rfl, rfl⟩ ⟨Nat.zero_le _, Nat.zero_le _⟩ hrun ?_
        refine pw_aload_n dX11_failingInput_85 rfl ?_
        refine lp_geti dX11_failingInput_86 fp_RX11_249.FL rfl rfl ?_
        refine pw_iconst (v := -1) dX11_failingInput_89 rfl ?_
        refine pw_icmp_eq 97 dX11_failingInput_90 (by decide) (fun c_90 => absurd c_90 (fun q => hfl (hrc.symm.trans q))) (fun c_90 => ?_)
        refine pw_iconst (v := 1) dX11_failingInput_93 rfl ?_
        refine pw_goto (tgt := 98) dX11_failingInput_94 (by decide) ?_
        refine pw_istore dX11_failingInput_98 (by decide) ?_
        refine pw_lload dX11_failingInput_100 rfl ?_
        refine pw_lconst (v := 1) dX11_failingInput_102 rfl ?_
        refine pw_ladd dX11_failingInput_103 ?_
        refine pw_lstore dX11_failingInput_104 (by decide) ?_
        refine pw_goto (tgt := 37) dX11_failingInput_106 (by decide) ?_
        refine pw_lk _ ?_ kk2
        exact ⟨rfl, rfl, rfl, congrArg (fun x => some (Value.long x)) (addK1 _ k), rfl, trivial⟩
    · rw [if_neg hle] at hres
      have kk := fi_exit (l := l) (G := G) (adr := adr) (Lf := Lf) (Rt := Rt) (sz := sz) (w0 := w0) hal v hv ((al (121 + 3 * v + 2)).toInt64 + lN k) false y τ hp hres
      refine pw_iload dX11_failingInput_37 rfl ?_
      refine pw_if_ne 109 dX11_failingInput_39 (by decide) (fun c_39 => absurd c_39 (fun z => z rfl)) (fun c_39 => ?_)
      refine pw_lload dX11_failingInput_42 rfl ?_
      refine pw_iload_n dX11_failingInput_44 rfl ?_
      refine pw_i2l dX11_failingInput_45 ?_
      refine pw_ldc2 dX11_failingInput_46 kc_RX11_278 ?_
      refine pw_ladd dX11_failingInput_49 ?_
      refine pw_lcmp dX11_failingInput_50 ?_
      refine pw_if_gt 109 dX11_failingInput_51 (by decide) (fun c_51 => absurd c_51 c51) (fun c_51 => ?_)
      refine pw_lload dX11_failingInput_54 rfl ?_
      refine pw_aload_n dX11_failingInput_56 rfl ?_
      refine lp_getr 1 dX11_failingInput_57 fp_RX11_7.FL rfl rfl rfl ?_
      refine pw_iload_n dX11_failingInput_60 rfl ?_
      refine pw_iconst (v := 1) dX11_failingInput_61 rfl ?_
      refine pw_iadd dX11_failingInput_62 ?_
      refine lp_iald dX11_failingInput_63 rfl b1.1 ?_
      refine pw_top (al (121 + 3 * v + 1)) (by rw [b1.2]; exact eh) ?_
      refine pw_i2l dX11_failingInput_64 ?_
      refine pw_lcmp dX11_failingInput_65 ?_
      refine pw_if_gt 109 dX11_failingInput_66 (by decide) (fun c_66 => ?_) (fun c_66 => absurd ((lg_cmp_gt _ _).mpr (Int64.not_le.mp hle)) c_66)
      exact kk
theorem r_failingInput_ok {N : Nat} (hP : wfP (σ.2.2.1 1) N) (v : Nat) (hv : v < 8) : SpR1 l G mX11_failingInput [.ref (adr 0), .int (nI v)] adr LM Lf Rt σ (fun v' σ' => v' = .int (fiL (σ.2.2.1 1) N v (σ.2.2.1 1 (121 + 3 * v + 2)) (σ.2.2.1 1 (121 + 3 * v + 1)) 201 0) ∧ pers σ' = pers (sI σ 0 3 0)) := by
  refine spec_of (by decide) (Nat.le_of_ble_eq_true rfl) (fun sz => ?_)
  have n7 : (0 : Int32) ≤ nI v ∧ nI v ≤ 7 := nIr (show v ≤ 7 by omega) (by decide)
  have b2 : vp_in (121 + 3 * nI v + 2) 145 ∧ (121 + 3 * nI v + 2).toNatClampNeg = 121 + 3 * v + 2 := nI121 (v := v) (w := 2) (by omega)
  have eu : upd (σ.2.2.1 1) (121 + 3 * v + 2) (σ.2.2.1 1 (121 + 3 * v + 2)) = σ.2.2.1 1 := by
    funext q
    unfold upd
    by_cases hq : q = 121 + 3 * v + 2
    · rw [if_pos hq, hq]
    · rw [if_neg hq]
  have kk := fi_loop (l := l) (G := G) (adr := adr) (Lf := Lf) (Rt := Rt) (sz := sz) (w0 := wp G adr LM Lf Rt σ) (P0 := pers (sI σ 0 3 0)) (al := σ.2.2.1 1) rfl hP v hv 201 0 (σ.2.2.1 1 (121 + 3 * v + 2)) (sI σ 0 3 0) rfl (by rw [eu]; rfl) rfl
  refine pw_aload_n dX11_failingInput_0 rfl ?_
  refine pw_iload_n dX11_failingInput_1 rfl ?_
  refine lp_cS1 (mi' := mX11_isName) (As := [_]) dX11_failingInput_2 lk_RX11_154 mk_X11_isName ms_X11_isName ⟨by decide, by decide⟩ rfl rfl (Nat.le_of_ble_eq_true rfl) ⟨rfl, rfl⟩ ⟨Nat.zero_le _, Nat.zero_le _⟩ (r_isName (nI v) _) ?_
  rw [decide_eq_true n7]
  refine pw_iconst (v := 1) dX11_failingInput_5 rfl ?_
  refine lp_cV1 (mi' := mX11_goes) (As := [_, _]) (q := (RX11, TX11, 33)) dX11_failingInput_6 lk_RX11_101 mk_X11_goes mi_X11_goes me_X11_goes ⟨by decide, by decide⟩ rfl rfl (Nat.le_of_ble_eq_true rfl) rfl rfl ⟨rfl, rfl⟩ ⟨Nat.zero_le _, Nat.zero_le _⟩ (r_goes true true) ?_
  refine pw_if_ne 14 dX11_failingInput_9 (by decide) (fun c_9 => ?_) (fun c_9 => absurd (show (1 : Int32) = 0 from c_9) (by decide))
  refine pw_bipush (v := 121) dX11_failingInput_14 rfl ?_
  refine pw_iconst (v := 3) dX11_failingInput_16 rfl ?_
  refine pw_iload_n dX11_failingInput_17 rfl ?_
  refine pw_imul dX11_failingInput_18 ?_
  refine pw_iadd dX11_failingInput_19 ?_
  refine pw_istore_n dX11_failingInput_20 (by decide) ?_
  refine pw_aload_n dX11_failingInput_21 rfl ?_
  refine lp_getr 1 dX11_failingInput_22 fp_RX11_7.FL rfl rfl rfl ?_
  refine pw_iload_n dX11_failingInput_25 rfl ?_
  refine pw_iconst (v := 2) dX11_failingInput_26 rfl ?_
  refine pw_iadd dX11_failingInput_27 ?_
  refine lp_iald dX11_failingInput_28 rfl b2.1 ?_
  rw [b2.2]
  refine pw_istore_n dX11_failingInput_29 (by decide) ?_
  refine pw_iload_n dX11_failingInput_30 rfl ?_
  refine pw_i2l dX11_failingInput_31 ?_
  refine pw_lstore dX11_failingInput_32 (by decide) ?_
  refine pw_iconst (v := 0) dX11_failingInput_34 rfl ?_
  refine pw_istore dX11_failingInput_35 (by decide) ?_
  refine pw_lk _ ?_ kk
  exact ⟨rfl, rfl, rfl, congrArg (fun x => some (Value.long x)) (show (σ.2.2.1 1 (121 + 3 * v + 2)).toInt64 = (σ.2.2.1 1 (121 + 3 * v + 2)).toInt64 + lN 0 by rw [show lN 0 = 0 from rfl, Int64.add_zero]), rfl, trivial⟩
theorem r_failingInput_no (v : Int32) (hv : ¬ (0 ≤ v ∧ v ≤ 7)) : SpecD l G mX11_failingInput [.ref (adr 0), .int v] (wp G adr LM Lf Rt σ) (some (.int 0)) (wp G adr LM Lf Rt (sI σ 0 3 1)) := by
  refine spec_of (by decide) (Nat.le_of_ble_eq_true rfl) (fun sz => ?_)
  refine pw_aload_n dX11_failingInput_0 rfl ?_
  refine pw_iload_n dX11_failingInput_1 rfl ?_
  refine lp_cS1 (mi' := mX11_isName) (As := [_]) dX11_failingInput_2 lk_RX11_154 mk_X11_isName ms_X11_isName ⟨by decide, by decide⟩ rfl rfl (Nat.le_of_ble_eq_true rfl) ⟨rfl, rfl⟩ ⟨Nat.zero_le _, Nat.zero_le _⟩ (r_isName v _) ?_
  rw [decide_eq_false hv]
  refine pw_iconst (v := 1) dX11_failingInput_5 rfl ?_
  refine lp_cV1 (mi' := mX11_goes) (As := [_, _]) (q := (RX11, TX11, 33)) dX11_failingInput_6 lk_RX11_101 mk_X11_goes mi_X11_goes me_X11_goes ⟨by decide, by decide⟩ rfl rfl (Nat.le_of_ble_eq_true rfl) rfl rfl ⟨rfl, rfl⟩ ⟨Nat.zero_le _, Nat.zero_le _⟩ (r_goes false true) ?_
  refine pw_if_ne 14 dX11_failingInput_9 (by decide) (fun c_9 => absurd c_9 (fun z => z rfl)) (fun c_9 => ?_)
  refine pw_iconst (v := 0) dX11_failingInput_12 rfl ?_
  exact pw_iret rfl rfl dX11_failingInput_13 (Nat.zero_le _) (Nat.zero_le _) rfl
end F2
