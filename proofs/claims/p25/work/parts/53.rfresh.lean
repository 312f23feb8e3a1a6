/-! the reference on a fresh object -/
theorem spec_mono {l : Launch} {G : cxG} {mi : MI} {As : List Value} {ws : va_W} {fin fin' : OC → Prop} (h : Spec l G mi As ws fin) (hf : ∀ o, fin o → fin' o) : Spec l G mi As ws fin' := by
  intro sz p e ha hc hk s m args below h1 h2 h3 h4
  obtain ⟨n, o, a1, a2, a3, a4⟩ := h sz p e ha hc hk s m args below h1 h2 h3 h4
  refine ⟨n, o, a1, a2, a3, ?_⟩
  rcases a4 with ⟨⟨v, w, b1, b2, b3⟩, b4⟩ | ⟨q, b1, E, ce, L, ⟨w, c1, c2⟩, c3⟩
  · exact Or.inl ⟨⟨v, w, b1, hf _ b2, b3⟩, b4⟩
  · exact Or.inr ⟨q, b1, E, ce, L, ⟨w, hf _ c1, c2⟩, c3⟩
theorem specD_r1 {l : Launch} {G : cxG} {mi : MI} {As : List Value} {adr : Nat → Nat} {Λ : Lay} {Lf Rt : va_W} {σ τ : St} {v : Value} {Q : Value → St → Prop} (h : SpecD l G mi As (wp G adr Λ Lf Rt σ) (some v) (wp G adr Λ Lf Rt τ)) (hQ : Q v τ) : SpR1 l G mi As adr Λ Lf Rt σ Q := spec_mono h (fun o ho => ⟨v, τ, ho, hQ⟩)
theorem r1_mono {l : Launch} {G : cxG} {mi : MI} {As : List Value} {adr : Nat → Nat} {Λ : Lay} {Lf Rt : va_W} {σ : St} {Q Q' : Value → St → Prop} (h : SpR1 l G mi As adr Λ Lf Rt σ Q) (hQ : ∀ v τ, Q v τ → Q' v τ) : SpR1 l G mi As adr Λ Lf Rt σ Q' := spec_mono h (fun o ho => by obtain ⟨v, τ, h1, h2⟩ := ho; exact ⟨v, τ, h1, hQ v τ h2⟩)
def sM0 : St := sA z0 1 (al0 8)
theorem wf0 {σ : St} (h : σ.2.2.1 1 = al0 8) : wfP (σ.2.2.1 1) 0 := by
  rw [h]
  exact ⟨by decide, by decide, ⟨fun i hi => absurd hi (Nat.not_lt_zero i), rfl⟩, fun i hi => absurd hi (Nat.not_lt_zero i), fun i hi => absurd hi (Nat.not_lt_zero i), fun i hi => absurd hi (Nat.not_lt_zero i)⟩
theorem al0_v : ∀ v, v < 8 → al0 8 (121 + 3 * v) = 0 ∧ al0 8 (121 + 3 * v + 1) = 100 ∧ al0 8 (121 + 3 * v + 2) = 0 := by decide
theorem aFin0 (σ : St) : aFin σ 0 = aIni σ := by
  unfold aFin
  show aIter _ _ 0 1 _ = _
  unfold aIter
  rw [if_neg (fun h => absurd h.1 (Nat.not_lt_zero _))]
theorem rIter0 {al pt inr stt : Nat → Int32} {opt : Bool} {x : AR} : rIter al pt inr stt opt 0 (1600 * 0 + 1) x = x := by
  show rIter _ _ _ _ _ 0 1 _ = _
  unfold rIter
  rw [if_neg (fun h => absurd h.1 (Nat.not_lt_zero _))]
theorem mRuns0 (σ : St) (opt : Bool) : (mRuns σ opt 0).1 0 30 = -1 ∧ (mRuns σ opt 0).1 0 31 = 0 ∧ (mRuns σ opt 0).1 0 32 = 0 ∧ (mRuns σ opt 0).1 0 3 = σ.1 0 3 ∧ (mRuns σ opt 0).2.2.1 1 = σ.2.2.1 1 ∧ (mRuns σ opt 0).1 0 2 = σ.1 0 2 ∧ ∀ v, v < 8 → (mRuns σ opt 0).2.2.2.1 20 v = (σ.2.2.1 1 (121 + 3 * v + 2)).toInt64 := by
  unfold mRuns
  rw [rIter0]
  refine ⟨rfl, rfl, rfl, rfl, rfl, rfl, fun v hv => ?_⟩
  show pfxL 8 (inV (σ.2.2.1 1)) (σ.2.2.2.1 20) v = _
  unfold pfxL
  rw [if_pos hv]; rfl
theorem mAna0 (σ : St) : (mAna σ 0).1 0 3 = σ.1 0 3 ∧ (mAna σ 0).2.2.1 1 = σ.2.2.1 1 ∧ (mAna σ 0).1 0 24 = 1 ∧ (mAna σ 0).1 0 5 = σ.1 0 5 ∧ (mAna σ 0).1 0 2 = σ.1 0 2 ∧ ∀ v, v < 8 → (mAna σ 0).2.2.2.1 9 v = (σ.2.2.1 1 (121 + 3 * v)).toInt64 ∧ (mAna σ 0).2.2.2.1 10 v = (σ.2.2.1 1 (121 + 3 * v + 1)).toInt64 := by
  unfold mAna
  rw [aFin0]
  refine ⟨rfl, rfl, rfl, rfl, rfl, fun v hv => ⟨?_, ?_⟩⟩
  · show pfxL 8 (inL (σ.2.2.1 1)) (σ.2.2.2.1 9) v = _
    unfold pfxL
    rw [if_pos hv]; rfl
  · show pfxL 8 (inH (σ.2.2.1 1)) (σ.2.2.2.1 10) v = _
    unfold pfxL
    rw [if_pos hv]; rfl
/-- an empty program's outcome -/
theorem mOut0 (σ : St) (opt : Bool) : mOutC σ opt 0 = 0 ∧ (mOut σ opt 0).1 0 30 = -1 ∧ (mOut σ opt 0).1 0 3 = σ.1 0 3 ∧ (mOut σ opt 0).2.2.1 1 = σ.2.2.1 1 ∧ (mOut σ opt 0).1 0 2 = σ.1 0 2 ∧ ∀ v, v < 8 → (mOut σ opt 0).2.2.2.1 20 v = (σ.2.2.1 1 (121 + 3 * v + 2)).toInt64 := by
  unfold mOutC mOut
  cases opt
  · rw [if_neg (by decide), if_neg (by decide)]
    obtain ⟨a1, a2, a3, a4, a5, a6, a7⟩ := mRuns0 σ false
    exact ⟨a2, a1, a4, a5, a6, a7⟩
  · obtain ⟨a1, a2, a3, a4, a5, a6, a7⟩ := mRuns0 (mAna σ 0) true
    obtain ⟨b1, b2, b3, b4, b5, b6⟩ := mAna0 σ
    rw [if_pos rfl, if_pos rfl, if_pos a1]
    refine ⟨a2, a1, a4.trans b1, a5.trans b2, a6.trans b5, fun v hv => ?_⟩
    rw [a7 v hv, b2]
section RF
variable {l : Launch} {G : cxG} {adr : Nat → Nat} {Lf Rt : va_W} {σ : St}
theorem sr0_loop {sz : Nat} {w0 : va_W} {fin : OC → Prop} (h dn : Int64) (dn0 : Int32) (hdn : dn = dn0.toInt64)
    (kk : fin (.inl (some (.long (mx (mrL (σ.2.2.2.1 20) h 8) dn)), wp G adr LM Lf Rt σ))) :
    ∀ (r i : Nat), i + r = 8 → PW l G mX11_sumsRun w0 sz fin 23 [(0, .ref (adr 0)), (4, .int dn0), (5, .long (mrL (σ.2.2.2.1 20) h i)), (7, .int (nI i))] [] 0 0 (wp G adr LM Lf Rt σ) := by
  intro r
  induction r with
  | zero =>
    intro i hi
    have hi : i = 8 := by omega
    subst hi
    refine pw_iload dX11_sumsRun_23 rfl ?_
    refine pw_bipush (v := 8) dX11_sumsRun_25 rfl ?_
    refine pw_icmp_ge 54 dX11_sumsRun_27 (by decide) (fun c_27 => ?_) (fun c_27 => absurd (nI_le (Nat.le_refl 8) (by decide)) c_27)
    refine pw_ldc2 dX11_sumsRun_54 kc_RX11_281 ?_
    refine pw_lload dX11_sumsRun_57 rfl ?_
    refine pw_lmul dX11_sumsRun_59 ?_
    refine pw_iload dX11_sumsRun_60 rfl ?_
    refine pw_i2l dX11_sumsRun_62 ?_
    refine pw_ladd dX11_sumsRun_63 ?_
    exact pw_lret rfl dX11_sumsRun_64 (Nat.zero_le _) (Nat.zero_le _) (by rw [hdn] at kk; exact kk)
  | succ r ih =>
    intro i hi
    have hv8 : vp_in (nI i) 8 := vp_in_nI (by omega) (by decide)
    have ev : (nI i).toNatClampNeg = i := nI_clamp (by omega)
    refine pw_iload dX11_sumsRun_23 rfl ?_
    refine pw_bipush (v := 8) dX11_sumsRun_25 rfl ?_
    refine pw_icmp_ge 54 dX11_sumsRun_27 (by decide) (fun c_27 => absurd c_27 (nI_ge (a := i) (b := 8) (by omega) (by decide))) (fun c_27 => ?_)
    refine pw_ldc2 dX11_sumsRun_30 kc_RX11_281 ?_
    refine pw_lload dX11_sumsRun_33 rfl ?_
    refine pw_lmul dX11_sumsRun_35 ?_
    refine pw_aload_n dX11_sumsRun_36 rfl ?_
    refine lp_getr 20 dX11_sumsRun_37 fp_RX11_69.FL rfl rfl rfl ?_
    refine pw_iload dX11_sumsRun_40 rfl ?_
    refine lp_lald dX11_sumsRun_42 rfl (by assumption) ?_
    rw [ev]
    refine pw_l2i dX11_sumsRun_43 ?_
    refine pw_i2l dX11_sumsRun_44 ?_
    refine pw_ladd dX11_sumsRun_45 ?_
    refine pw_lstore dX11_sumsRun_46 (by decide) ?_
    refine pw_iinc dX11_sumsRun_48 rfl (by decide) ?_
    refine pw_goto (tgt := 23) dX11_sumsRun_51 (by decide) ?_
    exact pw_lk [(0, .ref (adr 0)), (4, .int dn0), (5, .long (mrL (σ.2.2.2.1 20) h (i + 1))), (7, .int (nI (i + 1)))] ⟨rfl, rfl, rfl, congrArg (fun x => some (Value.int x)) (nI_1 i), trivial⟩ (ih (i + 1) (by omega))
theorem r_sumsRun0 (hal : σ.2.2.1 1 = al0 8) (fr : Int64) (opt : Bool) : SpR1 l G mX11_sumsRun [.ref (adr 0), .long fr, .int (bI opt)] adr LM Lf Rt σ (fun v τ => v = .long (dgR fr) ∧ τ.2.2.1 1 = al0 8 ∧ τ.1 0 3 = σ.1 0 3 ∧ τ.1 0 2 = σ.1 0 2) := by
  refine spec_of (by decide) (Nat.le_of_ble_eq_true rfl) (fun sz => ?_)
  obtain ⟨m1, m2, m3, m4, m5, m6⟩ := mOut0 σ opt
  have hz : ∀ x, mrL ((mOut σ opt 0).2.2.2.1 20) x 8 = mrL (fun _ => 0) x 8 := fun x => mrL_0 8 (fun j hj => by rw [m6 j hj, hal, (al0_v j hj).2.2]; rfl)
  refine pw_aload_n dX11_sumsRun_0 rfl ?_
  refine pw_iload_n dX11_sumsRun_1 rfl ?_
  refine lp_cV1 (mi' := mX11_outcome) (As := [_]) (q := (RX11, TX11, 33)) dX11_sumsRun_2 lk_RX11_270 mk_X11_outcome mi_X11_outcome me_X11_outcome ⟨by decide, by decide⟩ rfl rfl (Nat.le_of_ble_eq_true rfl) rfl rfl ⟨rfl, rfl⟩ ⟨Nat.zero_le _, Nat.zero_le _⟩ (r_outcome (wf0 hal) opt) ?_
  refine pw_istore dX11_sumsRun_5 (by decide) ?_
  refine pw_ldc2 dX11_sumsRun_7 kc_RX11_281 ?_
  refine pw_lload_n dX11_sumsRun_10 rfl ?_
  refine pw_lmul dX11_sumsRun_11 ?_
  refine pw_aload_n dX11_sumsRun_12 rfl ?_
  refine lp_geti dX11_sumsRun_13 fp_RX11_249.FL rfl rfl ?_
  refine pw_i2l dX11_sumsRun_16 ?_
  refine pw_ladd dX11_sumsRun_17 ?_
  refine pw_lstore dX11_sumsRun_18 (by decide) ?_
  refine pw_iconst (v := 0) dX11_sumsRun_20 rfl ?_
  refine pw_istore dX11_sumsRun_21 (by decide) ?_
  refine pw_lk [(0, .ref (adr 0)), (4, .int (mOutC σ opt 0)), (5, .long (mrL ((mOut σ opt 0).2.2.2.1 20) (mx fr ((mOut σ opt 0).1 0 30).toInt64) 0)), (7, .int (nI 0))] ⟨rfl, rfl, rfl, rfl, trivial⟩ ?_
  refine sr0_loop (σ := mOut σ opt 0) _ _ _ rfl ⟨_, _, rfl, ?_, by rw [m4, hal], m3, m5⟩ 8 0 rfl
  rw [hz, m2, m1]
  rfl
theorem dg0_var {sz : Nat} {w0 : va_W} {fin : OC → Prop} (hal : σ.2.2.1 1 = al0 8) (h24 : σ.1 0 24 = 1) (h9 : ∀ v, v < 8 → σ.2.2.2.1 9 v = 0 ∧ σ.2.2.2.1 10 v = 100) (h : Int64)
    (kk : PW l G mX11_digest w0 sz fin 208 [(0, .ref (adr 0)), (1, .long (dgV h 8))] [] 0 0 (wp G adr LM Lf Rt σ)) :
    ∀ (r v : Nat), v + r = 8 → PW l G mX11_digest w0 sz fin 133 [(0, .ref (adr 0)), (1, .long (dgV h v)), (3, .int (nI v))] [] 0 0 (wp G adr LM Lf Rt σ) := by
  intro r
  induction r with
  | zero =>
    intro v hv
    have hv : v = 8 := by omega
    subst hv
    refine pw_iload_n dX11_digest_133 rfl ?_
    refine pw_bipush (v := 8) dX11_digest_134 rfl ?_
    refine pw_icmp_ge 208 dX11_digest_136 (by decide) (fun c_136 => ?_) (fun c_136 => absurd (nI_le (Nat.le_refl 8) (by decide)) c_136)
    exact pw_lk [(0, .ref (adr 0)), (1, .long (dgV h 8))] ⟨rfl, rfl, trivial⟩ kk
  | succ r ih =>
    intro v hv
    have hv8 : v < 8 := by omega
    obtain ⟨a0, a1, a2⟩ := al0_v v hv8
    obtain ⟨f0, f1⟩ := h9 v hv8
    have b0 := nI121 (v := v) (w := 0) (by omega)
    have b1 := nI121 (v := v) (w := 1) (by omega)
    have b2 := nI121 (v := v) (w := 2) (by omega)
    refine pw_iload_n dX11_digest_133 rfl ?_
    refine pw_bipush (v := 8) dX11_digest_134 rfl ?_
    refine pw_icmp_ge 208 dX11_digest_136 (by decide) (fun c_136 => absurd c_136 (nI_ge (a := v) (b := 8) (by omega) (by decide))) (fun c_136 => ?_)
    refine pw_iconst (v := 0) dX11_digest_139 rfl ?_
    refine pw_istore dX11_digest_140 (by decide) ?_
    refine pw_lk [(0, .ref (adr 0)), (1, .long (dgV h v)), (3, .int (nI v)), (4, .int (nI 0))] ⟨rfl, rfl, rfl, rfl, trivial⟩ ?_
    refine pw_iload dX11_digest_142 rfl ?_
    refine pw_iconst (v := 3) dX11_digest_144 rfl ?_
    refine pw_icmp_ge 176 dX11_digest_145 (by decide) (fun c => absurd c (by decide)) (fun c => ?_)
    refine pw_ldc2 dX11_digest_148 kc_RX11_281 ?_
    refine pw_lload_n dX11_digest_151 rfl ?_
    refine pw_lmul dX11_digest_152 ?_
    refine pw_aload_n dX11_digest_153 rfl ?_
    refine lp_getr 1 dX11_digest_154 fp_RX11_7.FL rfl rfl rfl ?_
    refine pw_bipush (v := 121) dX11_digest_157 rfl ?_
    refine pw_iconst (v := 3) dX11_digest_159 rfl ?_
    refine pw_iload_n dX11_digest_160 rfl ?_
    refine pw_imul dX11_digest_161 ?_
    refine pw_iadd dX11_digest_162 ?_
    refine pw_iload dX11_digest_163 rfl ?_
    refine pw_iadd dX11_digest_165 ?_
    refine lp_iald dX11_digest_166 rfl b0.1 ?_
    refine pw_top 0 (by rw [b0.2, hal]; exact a0) ?_
    refine pw_i2l dX11_digest_167 ?_
    refine pw_ladd dX11_digest_168 ?_
    refine pw_lstore_n dX11_digest_169 (by decide) ?_
    refine pw_iinc dX11_digest_170 rfl (by decide) ?_
    refine pw_goto (tgt := 142) dX11_digest_173 (by decide) ?_
    refine pw_lk [(0, .ref (adr 0)), (1, .long (mx (dgV h v) 0)), (3, .int (nI v)), (4, .int (nI 1))] ⟨rfl, rfl, rfl, rfl, trivial⟩ ?_
    refine pw_iload dX11_digest_142 rfl ?_
    refine pw_iconst (v := 3) dX11_digest_144 rfl ?_
    refine pw_icmp_ge 176 dX11_digest_145 (by decide) (fun c => absurd c (by decide)) (fun c => ?_)
    refine pw_ldc2 dX11_digest_148 kc_RX11_281 ?_
    refine pw_lload_n dX11_digest_151 rfl ?_
    refine pw_lmul dX11_digest_152 ?_
    refine pw_aload_n dX11_digest_153 rfl ?_
    refine lp_getr 1 dX11_digest_154 fp_RX11_7.FL rfl rfl rfl ?_
    refine pw_bipush (v := 121) dX11_digest_157 rfl ?_
    refine pw_iconst (v := 3) dX11_digest_159 rfl ?_
    refine pw_iload_n dX11_digest_160 rfl ?_
    refine pw_imul dX11_digest_161 ?_
    refine pw_iadd dX11_digest_162 ?_
    refine pw_iload dX11_digest_163 rfl ?_
    refine pw_iadd dX11_digest_165 ?_
    refine lp_iald dX11_digest_166 rfl b1.1 ?_
    refine pw_top 100 (by rw [b1.2, hal]; exact a1) ?_
    refine pw_i2l dX11_digest_167 ?_
    refine pw_ladd dX11_digest_168 ?_
    refine pw_lstore_n dX11_digest_169 (by decide) ?_
    refine pw_iinc dX11_digest_170 rfl (by decide) ?_
    refine pw_goto (tgt := 142) dX11_digest_173 (by decide) ?_
    refine pw_lk [(0, .ref (adr 0)), (1, .long (mx (mx (dgV h v) 0) 100)), (3, .int (nI v)), (4, .int (nI 2))] ⟨rfl, rfl, rfl, rfl, trivial⟩ ?_
    refine pw_iload dX11_digest_142 rfl ?_
    refine pw_iconst (v := 3) dX11_digest_144 rfl ?_
    refine pw_icmp_ge 176 dX11_digest_145 (by decide) (fun c => absurd c (by decide)) (fun c => ?_)
    refine pw_ldc2 dX11_digest_148 kc_RX11_281 ?_
    refine pw_lload_n dX11_digest_151 rfl ?_
    refine pw_lmul dX11_digest_152 ?_
    refine pw_aload_n dX11_digest_153 rfl ?_
    refine lp_getr 1 dX11_digest_154 fp_RX11_7.FL rfl rfl rfl ?_
    refine pw_bipush (v := 121) dX11_digest_157 rfl ?_
    refine pw_iconst (v := 3) dX11_digest_159 rfl ?_
    refine pw_iload_n dX11_digest_160 rfl ?_
    refine pw_imul dX11_digest_161 ?_
    refine pw_iadd dX11_digest_162 ?_
    refine pw_iload dX11_digest_163 rfl ?_
    refine pw_iadd dX11_digest_165 ?_
    refine lp_iald dX11_digest_166 rfl b2.1 ?_
    refine pw_top 0 (by rw [b2.2, hal]; exact a2) ?_
    refine pw_i2l dX11_digest_167 ?_
    refine pw_ladd dX11_digest_168 ?_
    refine pw_lstore_n dX11_digest_169 (by decide) ?_
    refine pw_iinc dX11_digest_170 rfl (by decide) ?_
    refine pw_goto (tgt := 142) dX11_digest_173 (by decide) ?_
    refine pw_lk [(0, .ref (adr 0)), (1, .long (mx (mx (mx (dgV h v) 0) 100) 0)), (3, .int (nI v)), (4, .int (nI 3))] ⟨rfl, rfl, rfl, rfl, trivial⟩ ?_
    refine pw_iload dX11_digest_142 rfl ?_
    refine pw_iconst (v := 3) dX11_digest_144 rfl ?_
    refine pw_icmp_ge 176 dX11_digest_145 (by decide) (fun c => ?_) (fun c => absurd (by decide) c)
    refine pw_ldc2 dX11_digest_176 kc_RX11_281 ?_
    refine pw_ldc2 dX11_digest_179 kc_RX11_281 ?_
    refine pw_lload_n dX11_digest_182 rfl ?_
    refine pw_lmul dX11_digest_183 ?_
    refine pw_aload_n dX11_digest_184 rfl ?_
    refine pw_iload_n dX11_digest_185 rfl ?_
    refine pw_iconst (v := 0) dX11_digest_186 rfl ?_
    refine lp_cV1 (mi' := mX11_finalOf) (As := [_, _]) (q := (RX11, TX11, 33)) dX11_digest_187 lk_RX11_235 mk_X11_finalOf mi_X11_finalOf me_X11_finalOf ⟨by decide, by decide⟩ rfl rfl (Nat.le_of_ble_eq_true rfl) rfl rfl ⟨rfl, rfl⟩ ⟨Nat.zero_le _, Nat.zero_le _⟩ (r_finalOf v hv8 false) ?_
    refine pw_top 0 (by rw [h24, if_neg (by decide), if_neg (by decide), f0]; rfl) ?_
    refine pw_i2l dX11_digest_190 ?_
    refine pw_ladd dX11_digest_191 ?_
    refine pw_lmul dX11_digest_192 ?_
    refine pw_aload_n dX11_digest_193 rfl ?_
    refine pw_iload_n dX11_digest_194 rfl ?_
    refine pw_iconst (v := 1) dX11_digest_195 rfl ?_
    refine lp_cV1 (mi' := mX11_finalOf) (As := [_, _]) (q := (RX11, TX11, 33)) dX11_digest_196 lk_RX11_235 mk_X11_finalOf mi_X11_finalOf me_X11_finalOf ⟨by decide, by decide⟩ rfl rfl (Nat.le_of_ble_eq_true rfl) rfl rfl ⟨rfl, rfl⟩ ⟨Nat.zero_le _, Nat.zero_le _⟩ (r_finalOf v hv8 true) ?_
    refine pw_top 100 (by rw [h24, if_neg (by decide), if_pos rfl, f1]; rfl) ?_
    refine pw_i2l dX11_digest_199 ?_
    refine pw_ladd dX11_digest_200 ?_
    refine pw_lstore_n dX11_digest_201 (by decide) ?_
    refine pw_iinc dX11_digest_202 rfl (by decide) ?_
    refine pw_goto (tgt := 133) dX11_digest_205 (by decide) ?_
    exact pw_lk [(0, .ref (adr 0)), (1, .long (dgV h (v + 1))), (3, .int (nI (v + 1)))] ⟨rfl, rfl, congrArg (fun x => some (Value.int x)) (nI_1 v), trivial⟩ (ih (v + 1) (by omega))
theorem r_digest0 (hal : σ.2.2.1 1 = al0 8) (h5 : σ.1 0 5 = 0) (h2 : σ.1 0 2 = 0) : SpR1 l G mX11_digest [.ref (adr 0)] adr LM Lf Rt σ (fun v τ => v = .long dg0) := by
  refine spec_of (by decide) (Nat.le_of_ble_eq_true rfl) (fun sz => ?_)
  obtain ⟨b1, b2, b3, b4, b5, b6⟩ := mAna0 (sI σ 0 3 0)
  have e0 : (mAna (sI σ 0 3 0) 0).2.2.1 1 = al0 8 := b2.trans hal
  refine pw_aload_n dX11_digest_0 rfl ?_
  refine pw_iconst (v := 0) dX11_digest_1 rfl ?_
  refine lp_puti dX11_digest_2 fp_RX11_75 rfl rfl rfl rfl ?_
  refine pw_aload_n dX11_digest_5 rfl ?_
  refine lp_cV0 (mi' := mX11_analyses) (As := []) (q := (RX11, TX11, 33)) dX11_digest_6 lk_RX11_227 mk_X11_analyses mi_X11_analyses me_X11_analyses ⟨by decide, by decide⟩ rfl rfl (Nat.le_of_ble_eq_true rfl) rfl rfl ⟨rfl, rfl⟩ ⟨Nat.zero_le _, Nat.zero_le _⟩ (r_analyses (σ := sI σ 0 3 0) (wf0 hal)) ?_
  refine pw_ldc2 dX11_digest_9 kc_RX11_281 ?_
  refine pw_ldc2 dX11_digest_12 kc_RX11_283 ?_
  refine pw_aload_n dX11_digest_15 rfl ?_
  refine lp_geti dX11_digest_16 fp_RX11_98.FL rfl rfl ?_
  refine pw_top 0 (b4.trans h5) ?_
  refine pw_i2l dX11_digest_19 ?_
  refine pw_ladd dX11_digest_20 ?_
  refine pw_lmul dX11_digest_21 ?_
  refine pw_aload_n dX11_digest_22 rfl ?_
  refine lp_getr 1 dX11_digest_23 fp_RX11_7.FL rfl rfl rfl ?_
  refine pw_iconst (v := 0) dX11_digest_26 rfl ?_
  refine lp_iald dX11_digest_27 rfl (vp_in_nI (n := 0) (by decide) (by decide)) ?_
  refine pw_top 0 (by rw [show (mAna (sI σ 0 3 0) 0).2.2.1 1 = al0 8 from e0]; decide) ?_
  refine pw_i2l dX11_digest_28 ?_
  refine pw_ladd dX11_digest_29 ?_
  refine pw_lstore_n dX11_digest_30 (by decide) ?_
  refine pw_iconst (v := 0) dX11_digest_31 rfl ?_
  refine pw_istore_n dX11_digest_32 (by decide) ?_
  refine pw_iload_n dX11_digest_33 rfl ?_
  refine pw_aload_n dX11_digest_34 rfl ?_
  refine lp_getr 1 dX11_digest_35 fp_RX11_7.FL rfl rfl rfl ?_
  refine pw_iconst (v := 0) dX11_digest_38 rfl ?_
  refine lp_iald dX11_digest_39 rfl (vp_in_nI (n := 0) (by decide) (by decide)) ?_
  refine pw_icmp_ge 131 dX11_digest_40 (by decide) (fun c_40 => ?_) (fun c_40 => absurd (show (mAna (sI σ 0 3 0) 0).2.2.1 1 0 ≤ 0 by rw [e0]; decide) c_40)
  refine pw_iconst (v := 0) dX11_digest_131 rfl ?_
  refine pw_istore_n dX11_digest_132 (by decide) ?_
  refine pw_lk [(0, .ref (adr 0)), (1, .long (dgV (mx (mx 2953 0) 0) 0)), (3, .int (nI 0))] ⟨rfl, congrArg (fun x => some (Value.long x)) (by decide), rfl, trivial⟩ (dg0_var e0 b3 (fun v hv => by rw [(b6 v hv).1, (b6 v hv).2, show (sI σ 0 3 0).2.2.1 1 = al0 8 from hal, (al0_v v hv).1, (al0_v v hv).2.1]; decide) _ ?_ 8 0 rfl)
  refine pw_aload_n dX11_digest_208 rfl ?_
  refine pw_aload_n dX11_digest_209 rfl ?_
  refine pw_lload_n dX11_digest_210 rfl ?_
  refine pw_iconst (v := 0) dX11_digest_211 rfl ?_
  refine lp_rV1 (mi' := mX11_sumsRun) (As := [_, _]) (q := (RX11, TX11, 33)) dX11_digest_212 lk_RX11_285 mk_X11_sumsRun mi_X11_sumsRun me_X11_sumsRun ⟨by decide, by decide⟩ rfl rfl (Nat.le_of_ble_eq_true rfl) rfl rfl ⟨rfl, rfl⟩ ⟨Nat.zero_le _, Nat.zero_le _⟩ (r_sumsRun0 (σ := mAna (sI σ 0 3 0) 0) e0 _ false) (fun v1 τ1 q1 => ?_)
  obtain ⟨hv1, q1⟩ := q1
  subst hv1
  refine pw_iconst (v := 1) dX11_digest_215 rfl ?_
  refine lp_rV1 (mi' := mX11_sumsRun) (As := [_, _]) (q := (RX11, TX11, 33)) dX11_digest_216 lk_RX11_285 mk_X11_sumsRun mi_X11_sumsRun me_X11_sumsRun ⟨by decide, by decide⟩ rfl rfl (Nat.le_of_ble_eq_true rfl) rfl rfl ⟨rfl, rfl⟩ ⟨Nat.zero_le _, Nat.zero_le _⟩ (r_sumsRun0 (σ := τ1) q1.1 _ true) (fun v2 τ2 q2 => ?_)
  obtain ⟨hv2, q2a⟩ := q2
  have q2 : True ∧ τ2.2.2.1 1 = al0 8 ∧ τ2.1 0 2 = 0 := ⟨trivial, q2a.1, by rw [q2a.2.2, q1.2.2, b5]; exact h2⟩
  subst hv2
  refine pw_lstore_n dX11_digest_219 (by decide) ?_
  refine pw_aload_n dX11_digest_220 rfl ?_
  refine pw_iconst (v := 0) dX11_digest_221 rfl ?_
  refine lp_cV0 (mi' := mX11_runs) (As := [_]) (q := (RX11, TX11, 33)) dX11_digest_222 lk_RX11_266 mk_X11_runs mi_X11_runs me_X11_runs ⟨by decide, by decide⟩ rfl rfl (Nat.le_of_ble_eq_true rfl) rfl rfl ⟨rfl, rfl⟩ ⟨Nat.zero_le _, Nat.zero_le _⟩ (r_runs (σ := τ2) (N := 0) (wf0 q2.2.1) false (fun q => absurd q (by decide))) ?_
  refine pw_ldc2 dX11_digest_225 kc_RX11_281 ?_
  refine pw_ldc2 dX11_digest_228 kc_RX11_281 ?_
  refine pw_lload_n dX11_digest_231 rfl ?_
  refine pw_lmul dX11_digest_232 ?_
  refine pw_aload_n dX11_digest_233 rfl ?_
  refine lp_geti dX11_digest_234 fp_RX11_252.FL rfl rfl ?_
  refine pw_i2l dX11_digest_237 ?_
  refine pw_ladd dX11_digest_238 ?_
  refine pw_lmul dX11_digest_239 ?_
  refine pw_aload_n dX11_digest_240 rfl ?_
  refine lp_geti dX11_digest_241 fp_RX11_79.FL rfl rfl ?_
  refine pw_i2l dX11_digest_244 ?_
  refine pw_ladd dX11_digest_245 ?_
  exact pw_lret rfl dX11_digest_246 (Nat.zero_le _) (Nat.zero_le _) (by obtain ⟨a1, a2, a3, a4, a5, a6, a7⟩ := mRuns0 τ2 false; refine ⟨_, _, rfl, ?_⟩; rw [a3, a6, q2.2.2]; rfl)
theorem r_saving0 (hal : σ.2.2.1 1 = al0 8) : SpR1 l G mX11_saving [.ref (adr 0)] adr LM Lf Rt σ (fun v τ => v = .double FP.dconst0) := by
  refine spec_of (by decide) (Nat.le_of_ble_eq_true rfl) (fun sz => ?_)
  obtain ⟨m1, m2, m3, m4, m5, m6⟩ := mOut0 (sI σ 0 3 0) false
  refine pw_aload_n dX11_saving_0 rfl ?_
  refine pw_iconst (v := 0) dX11_saving_1 rfl ?_
  refine lp_puti dX11_saving_2 fp_RX11_75 rfl rfl rfl rfl ?_
  refine pw_aload_n dX11_saving_5 rfl ?_
  refine pw_iconst (v := 0) dX11_saving_6 rfl ?_
  refine lp_cV1 (mi' := mX11_outcome) (As := [_]) (q := (RX11, TX11, 33)) dX11_saving_7 lk_RX11_270 mk_X11_outcome mi_X11_outcome me_X11_outcome ⟨by decide, by decide⟩ rfl rfl (Nat.le_of_ble_eq_true rfl) rfl rfl ⟨rfl, rfl⟩ ⟨Nat.zero_le _, Nat.zero_le _⟩ (r_outcome (σ := sI σ 0 3 0) (wf0 hal) false) ?_
  refine pw_istore_n dX11_saving_10 (by decide) ?_
  refine pw_aload_n dX11_saving_11 rfl ?_
  refine pw_iconst (v := 1) dX11_saving_12 rfl ?_
  refine lp_cV1 (mi' := mX11_outcome) (As := [_]) (q := (RX11, TX11, 33)) dX11_saving_13 lk_RX11_270 mk_X11_outcome mi_X11_outcome me_X11_outcome ⟨by decide, by decide⟩ rfl rfl (Nat.le_of_ble_eq_true rfl) rfl rfl ⟨rfl, rfl⟩ ⟨Nat.zero_le _, Nat.zero_le _⟩ (r_outcome (N := 0) (wf0 (m4.trans hal)) true) ?_
  refine pw_istore_n dX11_saving_16 (by decide) ?_
  refine pw_iload_n dX11_saving_17 rfl ?_
  refine pw_if_ne 25 dX11_saving_18 (by decide) (fun c_18 => absurd c_18 (fun z => z m1)) (fun c_18 => ?_)
  refine pw_dconst0 dX11_saving_21 ?_
  refine pw_goto (tgt := 32) dX11_saving_22 (by decide) ?_
  exact pw_dret rfl dX11_saving_32 (Nat.zero_le _) (Nat.zero_le _) ⟨_, _, rfl, rfl⟩
end RF
