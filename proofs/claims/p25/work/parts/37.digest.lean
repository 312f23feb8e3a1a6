/-! digest: only that it returns -/
def anyL (P0 : PP) (adr : Nat → Nat) (G : cxG) (Lf Rt : va_W) : OC → Prop := fun o => ∃ v σ', o = .inl (some v, wp G adr LM Lf Rt σ') ∧ ((∃ x : Int64, v = .long x) ∧ pers σ' = P0)
section D1
variable {l : Launch} {G : cxG} {adr : Nat → Nat} {Lf Rt : va_W} {σ : St}
theorem sr_loop {sz : Nat} {w0 : va_W} {P0 : PP} (τ : St) (hp : pers τ = P0) (dn : Int32) :
    ∀ (r i : Nat) (h : Int64), i + r = 8 → PW l G mX11_sumsRun w0 sz (anyL P0 adr G Lf Rt) 23 [(0, .ref (adr 0)), (4, .int dn), (5, .long h), (7, .int (nI i))] [] 0 0 (wp G adr LM Lf Rt τ) := by
  intro r
  induction r with
  | zero =>
    intro i h hi
    have hi : i = 8 := by omega
    subst hi
    refine pw_iload dX11_sumsRun_23 rfl ?_
    refine pw_bipush (v := 8) dX11_sumsRun_25 rfl ?_
    refine pw_icmp_ge 54 dX11_sumsRun_27 (by decide) (fun c_27 => ?_) (fun c_27 => absurd (nI_le (Nat.le_refl 8) (by decide)) c_27)
    refine pw_ldc2 dX11_sumsRun_54 kc_RX11_281 ?_
    refine pw_lload dX11_sumsRun_57 rfl ?_
    refine pw_lmul dX11_sumsRun_59 ?_
    refine pw_iload dX11_sumsRun_60 rfl ?_
    refine pw_i2l dX11_sumsRun_62 ?_
    refine pw_ladd dX11_sumsRun_63 ?_
    exact pw_lret rfl dX11_sumsRun_64 (Nat.zero_le _) (Nat.zero_le _) ⟨_, τ, rfl, ⟨_, rfl⟩, hp⟩
  | succ r ih =>
    intro i h hi
    refine pw_iload dX11_sumsRun_23 rfl ?_
    refine pw_bipush (v := 8) dX11_sumsRun_25 rfl ?_
    refine pw_icmp_ge 54 dX11_sumsRun_27 (by decide) (fun c_27 => absurd c_27 (nI_ge (a := i) (b := 8) (by omega) (by decide))) (fun c_27 => ?_)
    refine pw_ldc2 dX11_sumsRun_30 kc_RX11_281 ?_
    refine pw_lload dX11_sumsRun_33 rfl ?_
    refine pw_lmul dX11_sumsRun_35 ?_
    refine pw_aload_n dX11_sumsRun_36 rfl ?_
    refine lp_getr 20 dX11_sumsRun_37 fp_RX11_69.FL rfl rfl rfl ?_
    refine pw_iload dX11_sumsRun_40 rfl ?_
    refine lp_lald dX11_sumsRun_42 rfl (vp_in_nI (by omega) (by decide)) ?_
    refine pw_l2i dX11_sumsRun_43 ?_
    refine pw_i2l dX11_sumsRun_44 ?_
    refine pw_ladd dX11_sumsRun_45 ?_
    refine pw_lstore dX11_sumsRun_46 (by decide) ?_
    refine pw_iinc dX11_sumsRun_48 rfl (by decide) ?_
    refine pw_goto (tgt := 23) dX11_sumsRun_51 (by decide) ?_
    refine pw_lk [(0, .ref (adr 0)), (4, .int dn), (5, .long _), (7, .int (nI (i + 1)))] ⟨rfl, rfl, rfl, congrArg (fun x => some (Value.int x)) (nI_1 i), trivial⟩ (ih (i + 1) _ (by omega))
theorem r_sumsRun {N : Nat} (hP : wfP (σ.2.2.1 1) N) (fr : Int64) (opt : Bool) : SpR1 l G mX11_sumsRun [.ref (adr 0), .long fr, .int (bI opt)] adr LM Lf Rt σ (fun v σ' => (∃ x : Int64, v = .long x) ∧ pers σ' = pers σ) := by
  refine spec_of (by decide) (Nat.le_of_ble_eq_true rfl) (fun sz => ?_)
  have hp := (mOut_pers σ opt N).1
  refine pw_aload_n dX11_sumsRun_0 rfl ?_
  refine pw_iload_n dX11_sumsRun_1 rfl ?_
  refine lp_cV1 (mi' := mX11_outcome) (As := [_]) (q := (RX11, TX11, 33)) dX11_sumsRun_2 lk_RX11_270 mk_X11_outcome mi_X11_outcome me_X11_outcome ⟨by decide, by decide⟩ rfl rfl (Nat.le_of_ble_eq_true rfl) rfl rfl ⟨rfl, rfl⟩ ⟨Nat.zero_le _, Nat.zero_le _⟩ (r_outcome hP opt) ?_
  refine pw_istore dX11_sumsRun_5 (by decide) ?_
  refine pw_ldc2 dX11_sumsRun_7 kc_RX11_281 ?_
  refine pw_lload_n dX11_sumsRun_10 rfl ?_
  refine pw_lmul dX11_sumsRun_11 ?_
  refine pw_aload_n dX11_sumsRun_12 rfl ?_
  refine lp_geti dX11_sumsRun_13 fp_RX11_249.FL rfl rfl ?_
  refine pw_i2l dX11_sumsRun_16 ?_
  refine pw_ladd dX11_sumsRun_17 ?_
  refine pw_lstore dX11_sumsRun_18 (by decide) ?_
  refine pw_iconst (v := 0) dX11_sumsRun_20 rfl ?_
  refine pw_istore dX11_sumsRun_21 (by decide) ?_
  refine pw_lk [(0, .ref (adr 0)), (4, .int (mOutC σ opt N)), (5, .long _), (7, .int (nI 0))] ⟨rfl, rfl, rfl, rfl, trivial⟩ ?_
  exact sr_loop (P0 := pers σ) (mOut σ opt N) hp _ 8 0 _ rfl
theorem dg_what {sz : Nat} {w0 : va_W} {fin : OC → Prop} (τ : St) (i : Nat) (hi : i < 30)
    (kk : ∀ h, PW l G mX11_digest w0 sz fin 73 [(0, .ref (adr 0)), (1, .long h), (3, .int (nI i))] [] 0 0 (wp G adr LM Lf Rt τ)) :
    ∀ (r c : Nat) (h : Int64), c + r = 4 → PW l G mX11_digest w0 sz fin 46 [(0, .ref (adr 0)), (1, .long h), (3, .int (nI i)), (4, .int (nI c))] [] 0 0 (wp G adr LM Lf Rt τ) := by
  intro r
  induction r with
  | zero =>
    intro c h hc
    have hc : c = 4 := by omega
    subst hc
    refine pw_iload dX11_digest_46 rfl ?_
    refine pw_iconst (v := 4) dX11_digest_48 rfl ?_
    refine pw_icmp_ge 73 dX11_digest_49 (by decide) (fun c_49 => ?_) (fun c_49 => absurd (nI_le (Nat.le_refl 4) (by decide)) c_49)
    exact pw_lk [(0, .ref (adr 0)), (1, .long h), (3, .int (nI i))] ⟨rfl, rfl, rfl, trivial⟩ (kk h)
  | succ r ih =>
    intro c h hc
    refine pw_iload dX11_digest_46 rfl ?_
    refine pw_iconst (v := 4) dX11_digest_48 rfl ?_
    refine pw_icmp_ge 73 dX11_digest_49 (by decide) (fun c_49 => absurd c_49 (nI_ge (a := c) (b := 4) (by omega) (by decide))) (fun c_49 => ?_)
    refine pw_ldc2 dX11_digest_52 kc_RX11_281 ?_
    refine pw_lload_n dX11_digest_55 rfl ?_
    refine pw_lmul dX11_digest_56 ?_
    refine pw_aload_n dX11_digest_57 rfl ?_
    refine pw_iload_n dX11_digest_58 rfl ?_
    refine pw_iload dX11_digest_59 rfl ?_
    refine lp_cV1 (mi' := mX11_told) (As := [_, _]) (q := (RX11, TX11, 33)) dX11_digest_61 lk_RX11_171 mk_X11_told mi_X11_told me_X11_told ⟨by decide, by decide⟩ rfl rfl (Nat.le_of_ble_eq_true rfl) rfl rfl ⟨rfl, rfl⟩ ⟨Nat.zero_le _, Nat.zero_le _⟩ (r_told i c hi (by omega)) ?_
    refine pw_i2l dX11_digest_64 ?_
    refine pw_ladd dX11_digest_65 ?_
    refine pw_lstore_n dX11_digest_66 (by decide) ?_
    refine pw_iinc dX11_digest_67 rfl (by decide) ?_
    refine pw_goto (tgt := 46) dX11_digest_70 (by decide) ?_
    refine pw_lk [(0, .ref (adr 0)), (1, .long _), (3, .int (nI i)), (4, .int (nI (c + 1)))] ⟨rfl, rfl, rfl, congrArg (fun x => some (Value.int x)) (nI_1 c), trivial⟩ (ih (c + 1) _ (by omega))
theorem dg_ins {sz : Nat} {w0 : va_W} {fin : OC → Prop} {N : Nat} (τ : St) (hN : N ≤ 30) (h0 : τ.2.2.1 1 0 = nI N)
    (kk : ∀ h, PW l G mX11_digest w0 sz fin 131 [(0, .ref (adr 0)), (1, .long h)] [] 0 0 (wp G adr LM Lf Rt τ)) :
    ∀ (r i : Nat) (h : Int64), i + r = N → PW l G mX11_digest w0 sz fin 33 [(0, .ref (adr 0)), (1, .long h), (3, .int (nI i))] [] 0 0 (wp G adr LM Lf Rt τ) := by
  intro r
  induction r with
  | zero =>
    intro i h hi
    have hi : i = N := by omega
    subst hi
    refine pw_iload_n dX11_digest_33 rfl ?_
    refine pw_aload_n dX11_digest_34 rfl ?_
    refine lp_getr 1 dX11_digest_35 fp_RX11_7.FL rfl rfl rfl ?_
    refine pw_iconst (v := 0) dX11_digest_38 rfl ?_
    refine lp_iald dX11_digest_39 rfl (vp_in_nI (n := 0) (by decide) (by decide)) ?_
    refine pw_icmp_ge 131 dX11_digest_40 (by decide) (fun c_40 => ?_) (fun c_40 => absurd (by show τ.2.2.1 1 0 ≤ nI i; rw [h0]; exact Int32.le_refl _) c_40)
    exact pw_lk [(0, .ref (adr 0)), (1, .long h)] ⟨rfl, rfl, trivial⟩ (kk h)
  | succ r ih =>
    intro i h hi
    have c40 : ¬ τ.2.2.1 1 0 ≤ nI i := by rw [h0]; exact nI_ge (by omega) (by omega)
    have bi : vp_in (nI i) 30 := vp_in_nI (by omega) (by decide)
    refine pw_iload_n dX11_digest_33 rfl ?_
    refine pw_aload_n dX11_digest_34 rfl ?_
    refine lp_getr 1 dX11_digest_35 fp_RX11_7.FL rfl rfl rfl ?_
    refine pw_iconst (v := 0) dX11_digest_38 rfl ?_
    refine lp_iald dX11_digest_39 rfl (vp_in_nI (n := 0) (by decide) (by decide)) ?_
    refine pw_icmp_ge 131 dX11_digest_40 (by decide) (fun c_40 => absurd c_40 c40) (fun c_40 => ?_)
    refine pw_iconst (v := 0) dX11_digest_43 rfl ?_
    refine pw_istore dX11_digest_44 (by decide) ?_
    refine pw_lk [(0, .ref (adr 0)), (1, .long h), (3, .int (nI i)), (4, .int (nI 0))] ⟨rfl, rfl, rfl, rfl, trivial⟩ (dg_what τ i (by omega) (fun h2 => ?_) 4 0 h rfl)
    refine pw_ldc2 dX11_digest_73 kc_RX11_281 ?_
    refine pw_ldc2 dX11_digest_76 kc_RX11_281 ?_
    refine pw_lload_n dX11_digest_79 rfl ?_
    refine pw_lmul dX11_digest_80 ?_
    refine pw_aload_n dX11_digest_81 rfl ?_
    refine pw_iload_n dX11_digest_82 rfl ?_
    refine pw_iconst (v := 2) dX11_digest_83 rfl ?_
    refine lp_cV1 (mi' := mX11_of) (As := [_, _]) (q := (RX11, TX11, 33)) dX11_digest_84 lk_RX11_82 mk_X11_of mi_X11_of me_X11_of ⟨by decide, by decide⟩ rfl rfl (Nat.le_of_ble_eq_true rfl) rfl rfl ⟨rfl, rfl⟩ ⟨Nat.zero_le _, Nat.zero_le _⟩ (r_of i 2 (by omega)) ?_
    refine pw_i2l dX11_digest_87 ?_
    refine pw_ladd dX11_digest_88 ?_
    refine pw_lmul dX11_digest_89 ?_
    refine pw_aload_n dX11_digest_90 rfl ?_
    refine pw_iload_n dX11_digest_91 rfl ?_
    refine pw_iconst (v := 3) dX11_digest_92 rfl ?_
    refine lp_cV1 (mi' := mX11_of) (As := [_, _]) (q := (RX11, TX11, 33)) dX11_digest_93 lk_RX11_82 mk_X11_of mi_X11_of me_X11_of ⟨by decide, by decide⟩ rfl rfl (Nat.le_of_ble_eq_true rfl) rfl rfl ⟨rfl, rfl⟩ ⟨Nat.zero_le _, Nat.zero_le _⟩ (r_of i 3 (by omega)) ?_
    refine pw_i2l dX11_digest_96 ?_
    refine pw_ladd dX11_digest_97 ?_
    refine pw_lstore_n dX11_digest_98 (by decide) ?_
    refine pw_ldc2 dX11_digest_99 kc_RX11_281 ?_
    refine pw_ldc2 dX11_digest_102 kc_RX11_281 ?_
    refine pw_lload_n dX11_digest_105 rfl ?_
    refine pw_lmul dX11_digest_106 ?_
    refine pw_aload_n dX11_digest_107 rfl ?_
    refine lp_getr 19 dX11_digest_108 fp_RX11_66.FL rfl rfl rfl ?_
    refine pw_iload_n dX11_digest_111 rfl ?_
    refine lp_iald dX11_digest_112 rfl bi ?_
    refine pw_i2l dX11_digest_113 ?_
    refine pw_ladd dX11_digest_114 ?_
    refine pw_lmul dX11_digest_115 ?_
    refine pw_aload_n dX11_digest_116 rfl ?_
    refine lp_getr 17 dX11_digest_117 fp_RX11_60.FL rfl rfl rfl ?_
    refine pw_iload_n dX11_digest_120 rfl ?_
    refine lp_iald dX11_digest_121 rfl bi ?_
    refine pw_i2l dX11_digest_122 ?_
    refine pw_ladd dX11_digest_123 ?_
    refine pw_lstore_n dX11_digest_124 (by decide) ?_
    refine pw_iinc dX11_digest_125 rfl (by decide) ?_
    refine pw_goto (tgt := 33) dX11_digest_128 (by decide) ?_
    refine pw_lk [(0, .ref (adr 0)), (1, .long _), (3, .int (nI (i + 1)))] ⟨rfl, rfl, congrArg (fun x => some (Value.int x)) (nI_1 i), trivial⟩ (ih (i + 1) _ (by omega))
theorem dg_inp {sz : Nat} {w0 : va_W} {fin : OC → Prop} (τ : St) (v : Nat) (hv : v < 8)
    (kk : ∀ h, PW l G mX11_digest w0 sz fin 176 [(0, .ref (adr 0)), (1, .long h), (3, .int (nI v))] [] 0 0 (wp G adr LM Lf Rt τ)) :
    ∀ (r c : Nat) (h : Int64), c + r = 3 → PW l G mX11_digest w0 sz fin 142 [(0, .ref (adr 0)), (1, .long h), (3, .int (nI v)), (4, .int (nI c))] [] 0 0 (wp G adr LM Lf Rt τ) := by
  intro r
  induction r with
  | zero =>
    intro c h hc
    have hc : c = 3 := by omega
    subst hc
    refine pw_iload dX11_digest_142 rfl ?_
    refine pw_iconst (v := 3) dX11_digest_144 rfl ?_
    refine pw_icmp_ge 176 dX11_digest_145 (by decide) (fun c_145 => ?_) (fun c_145 => absurd (nI_le (Nat.le_refl 3) (by decide)) c_145)
    exact pw_lk [(0, .ref (adr 0)), (1, .long h), (3, .int (nI v))] ⟨rfl, rfl, rfl, trivial⟩ (kk h)
  | succ r ih =>
    intro c h hc
    have hb := nI121 (v := v) (w := c) (by omega)
    refine pw_iload dX11_digest_142 rfl ?_
    refine pw_iconst (v := 3) dX11_digest_144 rfl ?_
    refine pw_icmp_ge 176 dX11_digest_145 (by decide) (fun c_145 => absurd c_145 (nI_ge (a := c) (b := 3) (by omega) (by decide))) (fun c_145 => ?_)
    refine pw_ldc2 dX11_digest_148 kc_RX11_281 ?_
    refine pw_lload_n dX11_digest_151 rfl ?_
    refine pw_lmul dX11_digest_152 ?_
    refine pw_aload_n dX11_digest_153 rfl ?_
    refine lp_getr 1 dX11_digest_154 fp_RX11_7.FL rfl rfl rfl ?_
    refine pw_bipush (v := 121) dX11_digest_157 rfl ?_
    refine pw_iconst (v := 3) dX11_digest_159 rfl ?_
    refine pw_iload_n dX11_digest_160 rfl ?_
    refine pw_imul dX11_digest_161 ?_
    refine pw_iadd dX11_digest_162 ?_
    refine pw_iload dX11_digest_163 rfl ?_
    refine pw_iadd dX11_digest_165 ?_
    refine lp_iald dX11_digest_166 rfl hb.1 ?_
    refine pw_i2l dX11_digest_167 ?_
    refine pw_ladd dX11_digest_168 ?_
    refine pw_lstore_n dX11_digest_169 (by decide) ?_
    refine pw_iinc dX11_digest_170 rfl (by decide) ?_
    refine pw_goto (tgt := 142) dX11_digest_173 (by decide) ?_
    refine pw_lk [(0, .ref (adr 0)), (1, .long _), (3, .int (nI v)), (4, .int (nI (c + 1)))] ⟨rfl, rfl, rfl, congrArg (fun x => some (Value.int x)) (nI_1 c), trivial⟩ (ih (c + 1) _ (by omega))
theorem dg_var {sz : Nat} {w0 : va_W} {fin : OC → Prop} (τ : St)
    (kk : ∀ h, PW l G mX11_digest w0 sz fin 208 [(0, .ref (adr 0)), (1, .long h)] [] 0 0 (wp G adr LM Lf Rt τ)) :
    ∀ (r v : Nat) (h : Int64), v + r = 8 → PW l G mX11_digest w0 sz fin 133 [(0, .ref (adr 0)), (1, .long h), (3, .int (nI v))] [] 0 0 (wp G adr LM Lf Rt τ) := by
  intro r
  induction r with
  | zero =>
    intro v h hv
    have hv : v = 8 := by omega
    subst hv
    refine pw_iload_n dX11_digest_133 rfl ?_
    refine pw_bipush (v := 8) dX11_digest_134 rfl ?_
    refine pw_icmp_ge 208 dX11_digest_136 (by decide) (fun c_136 => ?_) (fun c_136 => absurd (nI_le (Nat.le_refl 8) (by decide)) c_136)
    exact pw_lk [(0, .ref (adr 0)), (1, .long h)] ⟨rfl, rfl, trivial⟩ (kk h)
  | succ r ih =>
    intro v h hv
    refine pw_iload_n dX11_digest_133 rfl ?_
    refine pw_bipush (v := 8) dX11_digest_134 rfl ?_
    refine pw_icmp_ge 208 dX11_digest_136 (by decide) (fun c_136 => absurd c_136 (nI_ge (a := v) (b := 8) (by omega) (by decide))) (fun c_136 => ?_)
    refine pw_iconst (v := 0) dX11_digest_139 rfl ?_
    refine pw_istore dX11_digest_140 (by decide) ?_
    refine pw_lk [(0, .ref (adr 0)), (1, .long h), (3, .int (nI v)), (4, .int (nI 0))] ⟨rfl, rfl, rfl, rfl, trivial⟩ (dg_inp τ v (by omega) (fun h2 => ?_) 3 0 h rfl)
    refine pw_ldc2 dX11_digest_176 kc_RX11_281 ?_
    refine pw_ldc2 dX11_digest_179 kc_RX11_281 ?_
    refine pw_lload_n dX11_digest_182 rfl ?_
    refine pw_lmul dX11_digest_183 ?_
    refine pw_aload_n dX11_digest_184 rfl ?_
    refine pw_iload_n dX11_digest_185 rfl ?_
    refine pw_iconst (v := 0) dX11_digest_186 rfl ?_
    refine lp_cV1 (mi' := mX11_finalOf) (As := [_, _]) (q := (RX11, TX11, 33)) dX11_digest_187 lk_RX11_235 mk_X11_finalOf mi_X11_finalOf me_X11_finalOf ⟨by decide, by decide⟩ rfl rfl (Nat.le_of_ble_eq_true rfl) rfl rfl ⟨rfl, rfl⟩ ⟨Nat.zero_le _, Nat.zero_le _⟩ (r_finalOf v (by omega) false) ?_
    refine pw_i2l dX11_digest_190 ?_
    refine pw_ladd dX11_digest_191 ?_
    refine pw_lmul dX11_digest_192 ?_
    refine pw_aload_n dX11_digest_193 rfl ?_
    refine pw_iload_n dX11_digest_194 rfl ?_
    refine pw_iconst (v := 1) dX11_digest_195 rfl ?_
    refine lp_cV1 (mi' := mX11_finalOf) (As := [_, _]) (q := (RX11, TX11, 33)) dX11_digest_196 lk_RX11_235 mk_X11_finalOf mi_X11_finalOf me_X11_finalOf ⟨by decide, by decide⟩ rfl rfl (Nat.le_of_ble_eq_true rfl) rfl rfl ⟨rfl, rfl⟩ ⟨Nat.zero_le _, Nat.zero_le _⟩ (r_finalOf v (by omega) true) ?_
    refine pw_i2l dX11_digest_199 ?_
    refine pw_ladd dX11_digest_200 ?_
    refine pw_lstore_n dX11_digest_201 (by decide) ?_
    refine pw_iinc dX11_digest_202 rfl (by decide) ?_
    refine pw_goto (tgt := 133) dX11_digest_205 (by decide) ?_
    refine pw_lk [(0, .ref (adr 0)), (1, .long _), (3, .int (nI (v + 1)))] ⟨rfl, rfl, congrArg (fun x => some (Value.int x)) (nI_1 v), trivial⟩ (ih (v + 1) _ (by omega))
theorem r_digest {N : Nat} (hP : wfP (σ.2.2.1 1) N) : SpR1 l G mX11_digest [.ref (adr 0)] adr LM Lf Rt σ (fun v σ' => (∃ x : Int64, v = .long x) ∧ pers σ' = pers (sI σ 0 3 0)) := by
  refine spec_of (by decide) (Nat.le_of_ble_eq_true rfl) (fun sz => ?_)
  have wf_of : ∀ τ : St, pers τ = pers (sI σ 0 3 0) → wfP (τ.2.2.1 1) N := by
    intro τ hp
    have e : τ.2.2.1 1 = σ.2.2.1 1 := congrArg (fun x => x.2.2.2.1) hp
    rw [e]; exact hP
  refine pw_aload_n dX11_digest_0 rfl ?_
  refine pw_iconst (v := 0) dX11_digest_1 rfl ?_
  refine lp_puti dX11_digest_2 fp_RX11_75 rfl rfl rfl rfl ?_
  refine pw_aload_n dX11_digest_5 rfl ?_
  refine lp_cV0 (mi' := mX11_analyses) (As := []) (q := (RX11, TX11, 33)) dX11_digest_6 lk_RX11_227 mk_X11_analyses mi_X11_analyses me_X11_analyses ⟨by decide, by decide⟩ rfl rfl (Nat.le_of_ble_eq_true rfl) rfl rfl ⟨rfl, rfl⟩ ⟨Nat.zero_le _, Nat.zero_le _⟩ (r_analyses (σ := sI σ 0 3 0) hP) ?_
  refine pw_ldc2 dX11_digest_9 kc_RX11_281 ?_
  refine pw_ldc2 dX11_digest_12 kc_RX11_283 ?_
  refine pw_aload_n dX11_digest_15 rfl ?_
  refine lp_geti dX11_digest_16 fp_RX11_98.FL rfl rfl ?_
  refine pw_i2l dX11_digest_19 ?_
  refine pw_ladd dX11_digest_20 ?_
  refine pw_lmul dX11_digest_21 ?_
  refine pw_aload_n dX11_digest_22 rfl ?_
  refine lp_getr 1 dX11_digest_23 fp_RX11_7.FL rfl rfl rfl ?_
  refine pw_iconst (v := 0) dX11_digest_26 rfl ?_
  refine lp_iald dX11_digest_27 rfl (vp_in_nI (n := 0) (by decide) (by decide)) ?_
  refine pw_i2l dX11_digest_28 ?_
  refine pw_ladd dX11_digest_29 ?_
  refine pw_lstore_n dX11_digest_30 (by decide) ?_
  refine pw_iconst (v := 0) dX11_digest_31 rfl ?_
  refine pw_istore_n dX11_digest_32 (by decide) ?_
  refine pw_lk [(0, .ref (adr 0)), (1, .long _), (3, .int (nI 0))] ⟨rfl, rfl, rfl, trivial⟩ (dg_ins (mAna (sI σ 0 3 0) N) hP.1 hP.2.1 (fun h2 => ?_) N 0 _ (by omega))
  refine pw_iconst (v := 0) dX11_digest_131 rfl ?_
  refine pw_istore_n dX11_digest_132 (by decide) ?_
  refine pw_lk [(0, .ref (adr 0)), (1, .long h2), (3, .int (nI 0))] ⟨rfl, rfl, rfl, trivial⟩ (dg_var (mAna (sI σ 0 3 0) N) (fun h3 => ?_) 8 0 h2 rfl)
  refine pw_aload_n dX11_digest_208 rfl ?_
  refine pw_aload_n dX11_digest_209 rfl ?_
  refine pw_lload_n dX11_digest_210 rfl ?_
  refine pw_iconst (v := 0) dX11_digest_211 rfl ?_
  refine lp_rV1 (mi' := mX11_sumsRun) (As := [_, _]) (q := (RX11, TX11, 33)) dX11_digest_212 lk_RX11_285 mk_X11_sumsRun mi_X11_sumsRun me_X11_sumsRun ⟨by decide, by decide⟩ rfl rfl (Nat.le_of_ble_eq_true rfl) rfl rfl ⟨rfl, rfl⟩ ⟨Nat.zero_le _, Nat.zero_le _⟩ (r_sumsRun (σ := mAna (sI σ 0 3 0) N) hP _ false) (fun v1 τ1 q1 => ?_)
  obtain ⟨x1, hx1⟩ := q1.1
  subst hx1
  refine pw_iconst (v := 1) dX11_digest_215 rfl ?_
  refine lp_rV1 (mi' := mX11_sumsRun) (As := [_, _]) (q := (RX11, TX11, 33)) dX11_digest_216 lk_RX11_285 mk_X11_sumsRun mi_X11_sumsRun me_X11_sumsRun ⟨by decide, by decide⟩ rfl rfl (Nat.le_of_ble_eq_true rfl) rfl rfl ⟨rfl, rfl⟩ ⟨Nat.zero_le _, Nat.zero_le _⟩ (r_sumsRun (σ := τ1) (wf_of τ1 q1.2) x1 true) (fun v2 τ2 q2 => ?_)
  obtain ⟨x2, hx2⟩ := q2.1
  subst hx2
  have hp2 : pers τ2 = pers (sI σ 0 3 0) := q2.2.trans q1.2
  refine pw_lstore_n dX11_digest_219 (by decide) ?_
  refine pw_aload_n dX11_digest_220 rfl ?_
  refine pw_iconst (v := 0) dX11_digest_221 rfl ?_
  refine lp_cV0 (mi' := mX11_runs) (As := [_]) (q := (RX11, TX11, 33)) dX11_digest_222 lk_RX11_266 mk_X11_runs mi_X11_runs me_X11_runs ⟨by decide, by decide⟩ rfl rfl (Nat.le_of_ble_eq_true rfl) rfl rfl ⟨rfl, rfl⟩ ⟨Nat.zero_le _, Nat.zero_le _⟩ (r_runs (σ := τ2) (wf_of τ2 hp2) false (fun q => absurd q (by decide))) ?_
  refine pw_ldc2 dX11_digest_225 kc_RX11_281 ?_
  refine pw_ldc2 dX11_digest_228 kc_RX11_281 ?_
  refine pw_lload_n dX11_digest_231 rfl ?_
  refine pw_lmul dX11_digest_232 ?_
  refine pw_aload_n dX11_digest_233 rfl ?_
  refine lp_geti dX11_digest_234 fp_RX11_252.FL rfl rfl ?_
  refine pw_i2l dX11_digest_237 ?_
  refine pw_ladd dX11_digest_238 ?_
  refine pw_lmul dX11_digest_239 ?_
  refine pw_aload_n dX11_digest_240 rfl ?_
  refine lp_geti dX11_digest_241 fp_RX11_79.FL rfl rfl ?_
  refine pw_i2l dX11_digest_244 ?_
  refine pw_ladd dX11_digest_245 ?_
  exact pw_lret rfl dX11_digest_246 (Nat.zero_le _) (Nat.zero_le _) ⟨_, _, rfl, ⟨_, rfl⟩, hp2⟩
end D1
