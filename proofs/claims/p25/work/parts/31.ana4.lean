def st789 (ρ : St) (f g h : Nat → Int32) : St := sA (sA (sA ρ 17 f) 18 g) 19 h
theorem st7_ (ρ : St) (f g h f' : Nat → Int32) : sA (st789 ρ f g h) 17 f' = st789 ρ f' g h := by
  unfold st789; rw [sA_comm _ 19 17 _ _ (by decide), sA_comm _ 18 17 _ _ (by decide), sA_sA]
theorem st8_ (ρ : St) (f g h g' : Nat → Int32) : sA (st789 ρ f g h) 18 g' = st789 ρ f g' h := by
  unfold st789; rw [sA_comm _ 19 18 _ _ (by decide), sA_sA]
theorem st9_ (ρ : St) (f g h h' : Nat → Int32) : sA (st789 ρ f g h) 19 h' = st789 ρ f g h' := by
  unfold st789; rw [sA_sA]
/-- which ones cover another -/
def csF (cv : Nat → Int32) (o : Nat → Int32) : Nat → (Nat → Int32)
  | 0 => pfx 30 (fun _ => 0) o
  | i + 1 => if cv i = -1 then csF cv o i else upd (csF cv o i) (tN (cv i)) 1
def stF (al rc fa cv cs inr pt : Nat → Int32) (i : Nat) : Int32 := if 4 ≤ kdA al i ∨ kdA al i = 0 then -1 else if rc i = 0 then 0 else if fa i = 0 then 1 else if ¬ cv i = -1 then 2 else if hoA al cs inr pt i = true then 3 else 4
theorem covL_r {al fa nf ns : Nat → Int32} {i : Nat} : ∀ (r j : Nat) (rs : Int32), covL al fa nf ns i r j rs = -1 ∨ ∃ m, j ≤ m ∧ m < j + r ∧ covL al fa nf ns i r j rs = nI m ∧ ¬ fa m = 0 ∧ kdA al m = 1 := by
  intro r
  induction r with
  | zero => intro j rs; exact Or.inl rfl
  | succ r ih =>
    intro j rs
    unfold covL
    by_cases h1 : 4 ≤ kdA al j
    · rw [if_pos h1]; exact Or.inl rfl
    · rw [if_neg h1]
      by_cases h2 : fa j = 0
      · rw [if_pos h2]
        split
        · exact Or.inl rfl
        · rcases ih (j + 1) (rs ||| (1 <<< (al (1 + 4 * j + 1) &&& 31))) with h | ⟨m, g1, g2, g3⟩
          · exact Or.inl h
          · exact Or.inr ⟨m, by omega, by omega, g3⟩
      · rw [if_neg h2]
        cases hc : covC al nf ns (al (1 + 4 * i + 1)) j rs
        · exact Or.inl rfl
        · refine Or.inr ⟨j, Nat.le_refl _, by omega, rfl, h2, ?_⟩
          unfold covC at hc
          simp only [Bool.and_eq_true, decide_eq_true_eq] at hc
          exact hc.1.1.1
theorem covA_r {al fa nf ns : Nat → Int32} {N i : Nat} (hi : i < N) : covA al fa nf ns N i = -1 ∨ ∃ m, i < m ∧ m < N ∧ covA al fa nf ns N i = nI m ∧ ¬ fa m = 0 ∧ kdA al m = 1 := by
  unfold covA
  split
  · exact Or.inl rfl
  · rcases covL_r (al := al) (fa := fa) (nf := nf) (ns := ns) (i := i) (N - (i + 1)) (i + 1) 0 with h | ⟨m, g1, g2, g3⟩
    · exact Or.inl h
    · exact Or.inr ⟨m, by omega, by omega, g3⟩
section A4
variable {l : Launch} {G : cxG} {adr : Nat → Nat} {Lf Rt : va_W} {ρ σ : St}
theorem an_cov0 {sz : Nat} {w0 : va_W} {fin : OC → Prop} (f o h : Nat → Int32)
    (kk : PW l G mX11_analyses w0 sz fin 162 [(0, .ref (adr 0))] [] 0 0 (wp G adr LM Lf Rt (st789 ρ f (pfx 30 (fun _ => 0) o) h))) :
    ∀ (r i : Nat), i + r = 30 → PW l G mX11_analyses w0 sz fin 143 [(0, .ref (adr 0)), (1, .int (nI i))] [] 0 0 (wp G adr LM Lf Rt (st789 ρ f (pfx i (fun _ => 0) o) h)) := by
  intro r
  induction r with
  | zero =>
    intro i hi
    have hi : i = 30 := by omega
    subst hi
    refine pw_iload_n dX11_analyses_143 rfl ?_
    refine pw_bipush (v := 30) dX11_analyses_144 rfl ?_
    refine pw_icmp_ge 162 dX11_analyses_146 (by decide) (fun c_146 => ?_) (fun c_146 => absurd (nI_le (Nat.le_refl 30) (by decide)) c_146)
    refine pw_lk _ ?_ kk
    exact ⟨rfl, trivial⟩
  | succ r ih =>
    intro i hi
    have ei : (nI i).toNatClampNeg = i := nI_clamp (by omega)
    refine pw_iload_n dX11_analyses_143 rfl ?_
    refine pw_bipush (v := 30) dX11_analyses_144 rfl ?_
    refine pw_icmp_ge 162 dX11_analyses_146 (by decide) (fun c_146 => absurd c_146 (nI_ge (a := i) (b := 30) (by omega) (by decide))) (fun c_146 => ?_)
    refine pw_aload_n dX11_analyses_149 rfl ?_
    refine lp_getr 18 dX11_analyses_150 fp_RX11_63.FL rfl rfl rfl ?_
    refine pw_iload_n dX11_analyses_153 rfl ?_
    refine pw_iconst (v := 0) dX11_analyses_154 rfl ?_
    refine lp_zast dX11_analyses_155 rfl (vp_in_nI (by omega) (by decide)) rfl ?_
    refine pw_st (σ' := st789 ρ f (pfx (i + 1) (fun _ => 0) o) h) ?_ ?_
    · rw [ei, st8_]
      exact congrArg (fun z => st789 ρ f z h) (pfx_upd i (fun _ => 0) o)
    refine pw_iinc dX11_analyses_156 rfl (by decide) ?_
    refine pw_goto (tgt := 143) dX11_analyses_159 (by decide) ?_
    exact pw_lk [(0, .ref (adr 0)), (1, .int (nI (i + 1)))] ⟨rfl, congrArg (fun x => some (Value.int x)) (nI_1 i), trivial⟩ (ih (i + 1) (by omega))
theorem an_cov {sz : Nat} {w0 : va_W} {fin : OC → Prop} {N : Nat} (hN : N ≤ 30) (h0 : ρ.2.2.1 1 0 = nI N) (cv o17 o18 h : Nat → Int32) (hcv : cv = covA (ρ.2.2.1 1) (ρ.2.2.1 12) (ρ.2.2.1 13) (ρ.2.2.1 14) N)
    (kk : PW l G mX11_analyses w0 sz fin 213 [(0, .ref (adr 0))] [] 0 0 (wp G adr LM Lf Rt (st789 ρ (pfx N cv o17) (csF cv o18 N) h))) :
    ∀ (r i : Nat), i + r = N → PW l G mX11_analyses w0 sz fin 164 [(0, .ref (adr 0)), (1, .int (nI i))] [] 0 0 (wp G adr LM Lf Rt (st789 ρ (pfx i cv o17) (csF cv o18 i) h)) := by
  intro r
  induction r with
  | zero =>
    intro i hi
    have hi : i = N := by omega
    subst hi
    refine pw_iload_n dX11_analyses_164 rfl ?_
    refine pw_aload_n dX11_analyses_165 rfl ?_
    refine lp_getr 1 dX11_analyses_166 fp_RX11_7.FL rfl rfl rfl ?_
    refine pw_iconst (v := 0) dX11_analyses_169 rfl ?_
    refine lp_iald dX11_analyses_170 rfl (vp_in_nI (n := 0) (by decide) (by decide)) ?_
    refine pw_icmp_ge 213 dX11_analyses_171 (by decide) (fun c_171 => ?_) (fun c_171 => absurd (by show ρ.2.2.1 1 0 ≤ nI i; rw [h0]; exact Int32.le_refl _) c_171)
    refine pw_lk _ ?_ kk
    exact ⟨rfl, trivial⟩
  | succ r ih =>
    intro i hi
    have ei : (nI i).toNatClampNeg = i := nI_clamp (by omega)
    have bi : vp_in (nI i) 30 := vp_in_nI (by omega) (by decide)
    have c171 : ¬ ρ.2.2.1 1 0 ≤ nI i := by rw [h0]; exact nI_ge (by omega) (by omega)
    have hco := r_coverOf (l := l) (G := G) (adr := adr) (Lf := Lf) (Rt := Rt) (σ := st789 ρ (pfx i cv o17) (csF cv o18 i) h) hN h0 i (by omega)
    have ecv : covA ((st789 ρ (pfx i cv o17) (csF cv o18 i) h).2.2.1 1) ((st789 ρ (pfx i cv o17) (csF cv o18 i) h).2.2.1 12) ((st789 ρ (pfx i cv o17) (csF cv o18 i) h).2.2.1 13) ((st789 ρ (pfx i cv o17) (csF cv o18 i) h).2.2.1 14) N i = cv i := by rw [hcv]; rfl
    rw [ecv] at hco
    have e17 : pfx (i + 1) cv o17 i = cv i := by unfold pfx; rw [if_pos (by omega)]
    have ih1 := ih (i + 1) (by omega)
    unfold csF at ih1
    have hcr : cv i = -1 ∨ ∃ m, i < m ∧ m < N ∧ cv i = nI m := by
      rw [hcv]
      rcases covA_r (al := ρ.2.2.1 1) (fa := ρ.2.2.1 12) (nf := ρ.2.2.1 13) (ns := ρ.2.2.1 14) (N := N) (i := i) (by omega) with q | ⟨m, g1, g2, g3, -⟩
      · exact Or.inl q
      · exact Or.inr ⟨m, g1, g2, g3⟩
    rcases hcr with hc | ⟨m, g1, g2, g3⟩
    · rw [if_pos hc] at ih1
      refine pw_iload_n dX11_analyses_164 rfl ?_
      refine pw_aload_n dX11_analyses_165 rfl ?_
      refine lp_getr 1 dX11_analyses_166 fp_RX11_7.FL rfl rfl rfl ?_
      refine pw_iconst (v := 0) dX11_analyses_169 rfl ?_
      refine lp_iald dX11_analyses_170 rfl (vp_in_nI (n := 0) (by decide) (by decide)) ?_
      refine pw_icmp_ge 213 dX11_analyses_171 (by decide) (fun c_171 => absurd c_171 c171) (fun c_171 => ?_)
      refine pw_aload_n dX11_analyses_174 rfl ?_
      refine lp_getr 17 dX11_analyses_175 fp_RX11_60.FL rfl rfl rfl ?_
      refine pw_iload_n dX11_analyses_178 rfl ?_
      refine pw_aload_n dX11_analyses_179 rfl ?_
      refine pw_iload_n dX11_analyses_180 rfl ?_
      refine lp_cV1 (mi' := mX11_coverOf) (As := [_]) (q := (RX11, TX11, 33)) dX11_analyses_181 lk_RX11_214 mk_X11_coverOf mi_X11_coverOf me_X11_coverOf ⟨by decide, by decide⟩ rfl rfl (Nat.le_of_ble_eq_true rfl) rfl rfl ⟨rfl, rfl⟩ ⟨Nat.zero_le _, Nat.zero_le _⟩ hco ?_
      refine lp_iast dX11_analyses_184 rfl bi ?_
      refine pw_st (σ' := st789 ρ (pfx (i + 1) cv o17) (csF cv o18 i) h) ?_ ?_
      · rw [ei, st7_]
        exact congrArg (fun z => st789 ρ z (csF cv o18 i) h) (pfx_upd i cv o17)
      refine pw_aload_n dX11_analyses_185 rfl ?_
      refine lp_getr 17 dX11_analyses_186 fp_RX11_60.FL rfl rfl rfl ?_
      refine pw_iload_n dX11_analyses_189 rfl ?_
      refine lp_iald dX11_analyses_190 rfl bi ?_
      refine pw_top (cv i) (by rw [ei]; exact e17) ?_
      refine pw_iconst (v := -1) dX11_analyses_191 rfl ?_
      refine pw_icmp_eq 207 dX11_analyses_192 (by decide) (fun c_192 => ?_) (fun c_192 => absurd hc c_192)
      refine pw_iinc dX11_analyses_207 rfl (by decide) ?_
      refine pw_goto (tgt := 164) dX11_analyses_210 (by decide) ?_
      exact pw_lk [(0, .ref (adr 0)), (1, .int (nI (i + 1)))] ⟨rfl, congrArg (fun x => some (Value.int x)) (nI_1 i), trivial⟩ ih1
    · have hc : ¬ cv i = -1 := by rw [g3]; exact fun q => nI_nm1 (by omega) q.symm
      have em : (nI m).toNatClampNeg = m := nI_clamp (by omega)
      have etm : tN (cv i) = m := by rw [g3]; exact em
      rw [if_neg hc, etm] at ih1
      refine pw_iload_n dX11_analyses_164 rfl ?_
      refine pw_aload_n dX11_analyses_165 rfl ?_
      refine lp_getr 1 dX11_analyses_166 fp_RX11_7.FL rfl rfl rfl ?_
      refine pw_iconst (v := 0) dX11_analyses_169 rfl ?_
      refine lp_iald dX11_analyses_170 rfl (vp_in_nI (n := 0) (by decide) (by decide)) ?_
      refine pw_icmp_ge 213 dX11_analyses_171 (by decide) (fun c_171 => absurd c_171 c171) (fun c_171 => ?_)
      refine pw_aload_n dX11_analyses_174 rfl ?_
      refine lp_getr 17 dX11_analyses_175 fp_RX11_60.FL rfl rfl rfl ?_
      refine pw_iload_n dX11_analyses_178 rfl ?_
      refine pw_aload_n dX11_analyses_179 rfl ?_
      refine pw_iload_n dX11_analyses_180 rfl ?_
      refine lp_cV1 (mi' := mX11_coverOf) (As := [_]) (q := (RX11, TX11, 33)) dX11_analyses_181 lk_RX11_214 mk_X11_coverOf mi_X11_coverOf me_X11_coverOf ⟨by decide, by decide⟩ rfl rfl (Nat.le_of_ble_eq_true rfl) rfl rfl ⟨rfl, rfl⟩ ⟨Nat.zero_le _, Nat.zero_le _⟩ hco ?_
      refine lp_iast dX11_analyses_184 rfl bi ?_
      refine pw_st (σ' := st789 ρ (pfx (i + 1) cv o17) (csF cv o18 i) h) ?_ ?_
      · rw [ei, st7_]
        exact congrArg (fun z => st789 ρ z (csF cv o18 i) h) (pfx_upd i cv o17)
      refine pw_aload_n dX11_analyses_185 rfl ?_
      refine lp_getr 17 dX11_analyses_186 fp_RX11_60.FL rfl rfl rfl ?_
      refine pw_iload_n dX11_analyses_189 rfl ?_
      refine lp_iald dX11_analyses_190 rfl bi ?_
      refine pw_top (cv i) (by rw [ei]; exact e17) ?_
      refine pw_iconst (v := -1) dX11_analyses_191 rfl ?_
      refine pw_icmp_eq 207 dX11_analyses_192 (by decide) (fun c_192 => absurd c_192 hc) (fun c_192 => ?_)
      refine pw_aload_n dX11_analyses_195 rfl ?_
      refine lp_getr 18 dX11_analyses_196 fp_RX11_63.FL rfl rfl rfl ?_
      refine pw_aload_n dX11_analyses_199 rfl ?_
      refine lp_getr 17 dX11_analyses_200 fp_RX11_60.FL rfl rfl rfl ?_
      refine pw_iload_n dX11_analyses_203 rfl ?_
      refine lp_iald dX11_analyses_204 rfl bi ?_
      refine pw_top (nI m) (by rw [ei]; exact e17.trans g3) ?_
      refine pw_iconst (v := 1) dX11_analyses_205 rfl ?_
      refine lp_zast dX11_analyses_206 rfl (vp_in_nI (show m < 30 by omega) (by decide)) rfl ?_
      rw [em, st8_]
      refine pw_iinc dX11_analyses_207 rfl (by decide) ?_
      refine pw_goto (tgt := 164) dX11_analyses_210 (by decide) ?_
      exact pw_lk [(0, .ref (adr 0)), (1, .int (nI (i + 1)))] ⟨rfl, congrArg (fun x => some (Value.int x)) (nI_1 i), trivial⟩ ih1
theorem an_st {sz : Nat} {w0 : va_W} {fin : OC → Prop} {N : Nat} (hP : wfP (ρ.2.2.1 1) N) (f0 : Nat → Int32) (hpt : ρ.2.2.1 5 = lpt (ρ.2.2.1 1) f0 N) (hin : ∀ i, i < N → ρ.2.2.1 7 i = (lmd (ρ.2.2.1 1) i).2.2) (cv o17 cs o19 : Nat → Int32)
    (hf : fin (.inl (none, wp G adr LM Lf Rt (st789 ρ (pfx N cv o17) cs (pfx N (stF (ρ.2.2.1 1) (ρ.2.2.1 11) (ρ.2.2.1 12) cv cs (ρ.2.2.1 7) (ρ.2.2.1 5)) o19))))) :
    ∀ (r i : Nat), i + r = N → PW l G mX11_analyses w0 sz fin 215 [(0, .ref (adr 0)), (1, .int (nI i))] [] 0 0 (wp G adr LM Lf Rt (st789 ρ (pfx N cv o17) cs (pfx i (stF (ρ.2.2.1 1) (ρ.2.2.1 11) (ρ.2.2.1 12) cv cs (ρ.2.2.1 7) (ρ.2.2.1 5)) o19))) := by
  have hN := hP.1
  have h0 := hP.2.1
  intro r
  induction r with
  | zero =>
    intro i hi
    have hi : i = N := by omega
    subst hi
    refine pw_iload_n dX11_analyses_215 rfl ?_
    refine pw_aload_n dX11_analyses_216 rfl ?_
    refine lp_getr 1 dX11_analyses_217 fp_RX11_7.FL rfl rfl rfl ?_
    refine pw_iconst (v := 0) dX11_analyses_220 rfl ?_
    refine lp_iald dX11_analyses_221 rfl (vp_in_nI (n := 0) (by decide) (by decide)) ?_
    refine pw_icmp_ge 310 dX11_analyses_222 (by decide) (fun c_222 => ?_) (fun c_222 => absurd (by show ρ.2.2.1 1 0 ≤ nI i; rw [h0]; exact Int32.le_refl _) c_222)
    exact pw_vret rfl dX11_analyses_310 (Nat.zero_le _) (Nat.zero_le _) hf
  | succ r ih =>
    intro i hi
    have hi30 : i < 30 := by omega
    have ei : (nI i).toNatClampNeg = i := nI_clamp (by omega)
    have bi : vp_in (nI i) 30 := vp_in_nI hi30 (by decide)
    have c222 : ¬ ρ.2.2.1 1 0 ≤ nI i := by rw [h0]; exact nI_ge (by omega) (by omega)
    have ih1 := ih (i + 1) (by omega)
    rw [← pfx_upd] at ih1
    generalize hg : pfx i (stF (ρ.2.2.1 1) (ρ.2.2.1 11) (ρ.2.2.1 12) cv cs (ρ.2.2.1 7) (ρ.2.2.1 5)) o19 = g19 at ih1 ⊢
    have tail : ∀ v : Int32, stF (ρ.2.2.1 1) (ρ.2.2.1 11) (ρ.2.2.1 12) cv cs (ρ.2.2.1 7) (ρ.2.2.1 5) i = v → PW l G mX11_analyses w0 sz fin 303 [(0, .ref (adr 0)), (1, .int (nI i))] [.int v, .int (nI i), .ref (adr 19)] 0 0 (wp G adr LM Lf Rt (st789 ρ (pfx N cv o17) cs g19)) := by
      intro v hv
      rw [hv] at ih1
      refine lp_iast dX11_analyses_303 rfl bi ?_
      rw [ei, st9_]
      refine pw_iinc dX11_analyses_304 rfl (by decide) ?_
      refine pw_goto (tgt := 215) dX11_analyses_307 (by decide) ?_
      exact pw_lk [(0, .ref (adr 0)), (1, .int (nI (i + 1)))] ⟨rfl, congrArg (fun x => some (Value.int x)) (nI_1 i), trivial⟩ ih1
    have hil := r_isLoop (l := l) (G := G) (adr := adr) (Lf := Lf) (Rt := Rt) (σ := st789 ρ (pfx N cv o17) cs g19) i hi30
    have hkd := r_kind (l := l) (G := G) (adr := adr) (Lf := Lf) (Rt := Rt) (σ := st789 ρ (pfx N cv o17) cs g19) i hi30
    have e17 : pfx N cv o17 i = cv i := by unfold pfx; rw [if_pos (by omega)]
    unfold stF at tail
    by_cases hl : 4 ≤ kdA (ρ.2.2.1 1) i
    · have kk := tail _ (if_pos (Or.inl hl))
      refine pw_iload_n dX11_analyses_215 rfl ?_
      refine pw_aload_n dX11_analyses_216 rfl ?_
      refine lp_getr 1 dX11_analyses_217 fp_RX11_7.FL rfl rfl rfl ?_
      refine pw_iconst (v := 0) dX11_analyses_220 rfl ?_
      refine lp_iald dX11_analyses_221 rfl (vp_in_nI (n := 0) (by decide) (by decide)) ?_
      refine pw_icmp_ge 310 dX11_analyses_222 (by decide) (fun c_222 => absurd c_222 c222) (fun c_222 => ?_)
      refine pw_aload_n dX11_analyses_225 rfl ?_
      refine lp_getr 19 dX11_analyses_226 fp_RX11_66.FL rfl rfl rfl ?_
      refine pw_iload_n dX11_analyses_229 rfl ?_
      refine pw_aload_n dX11_analyses_230 rfl ?_
      refine pw_iload_n dX11_analyses_231 rfl ?_
      refine lp_cV1 (mi' := mX11_isLoop) (As := [_]) (q := (RX11, TX11, 33)) dX11_analyses_232 lk_RX11_163 mk_X11_isLoop mi_X11_isLoop me_X11_isLoop ⟨by decide, by decide⟩ rfl rfl (Nat.le_of_ble_eq_true rfl) rfl rfl ⟨rfl, rfl⟩ ⟨Nat.zero_le _, Nat.zero_le _⟩ hil ?_
      rw [decide_eq_true (show 4 ≤ (st789 ρ (pfx N cv o17) cs g19).2.2.1 1 (1 + 4 * i) from hl)]
      refine pw_if_ne 246 dX11_analyses_235 (by decide) (fun c_235 => ?_) (fun c_235 => absurd (show (1 : Int32) = 0 from c_235) (by decide))
      refine pw_iconst (v := -1) dX11_analyses_246 rfl ?_
      refine pw_goto (tgt := 303) dX11_analyses_247 (by decide) ?_
      exact kk
    · by_cases k0 : kdA (ρ.2.2.1 1) i = 0
      · have kk := tail _ (if_pos (Or.inr k0))
        refine pw_iload_n dX11_analyses_215 rfl ?_
        refine pw_aload_n dX11_analyses_216 rfl ?_
        refine lp_getr 1 dX11_analyses_217 fp_RX11_7.FL rfl rfl rfl ?_
        refine pw_iconst (v := 0) dX11_analyses_220 rfl ?_
        refine lp_iald dX11_analyses_221 rfl (vp_in_nI (n := 0) (by decide) (by decide)) ?_
        refine pw_icmp_ge 310 dX11_analyses_222 (by decide) (fun c_222 => absurd c_222 c222) (fun c_222 => ?_)
        refine pw_aload_n dX11_analyses_225 rfl ?_
        refine lp_getr 19 dX11_analyses_226 fp_RX11_66.FL rfl rfl rfl ?_
        refine pw_iload_n dX11_analyses_229 rfl ?_
        refine pw_aload_n dX11_analyses_230 rfl ?_
        refine pw_iload_n dX11_analyses_231 rfl ?_
        refine lp_cV1 (mi' := mX11_isLoop) (As := [_]) (q := (RX11, TX11, 33)) dX11_analyses_232 lk_RX11_163 mk_X11_isLoop mi_X11_isLoop me_X11_isLoop ⟨by decide, by decide⟩ rfl rfl (Nat.le_of_ble_eq_true rfl) rfl rfl ⟨rfl, rfl⟩ ⟨Nat.zero_le _, Nat.zero_le _⟩ hil ?_
        rw [decide_eq_false (show ¬ 4 ≤ (st789 ρ (pfx N cv o17) cs g19).2.2.1 1 (1 + 4 * i) from hl)]
        refine pw_if_ne 246 dX11_analyses_235 (by decide) (fun c_235 => absurd c_235 (fun z => z rfl)) (fun c_235 => ?_)
        refine pw_aload_n dX11_analyses_238 rfl ?_
        refine pw_iload_n dX11_analyses_239 rfl ?_
        refine lp_cV1 (mi' := mX11_kind) (As := [_]) (q := (RX11, TX11, 33)) dX11_analyses_240 lk_RX11_86 mk_X11_kind mi_X11_kind me_X11_kind ⟨by decide, by decide⟩ rfl rfl (Nat.le_of_ble_eq_true rfl) rfl rfl ⟨rfl, rfl⟩ ⟨Nat.zero_le _, Nat.zero_le _⟩ hkd ?_
        refine pw_if_ne 250 dX11_analyses_243 (by decide) (fun c_243 => absurd c_243 (fun z => z k0)) (fun c_243 => ?_)
        refine pw_iconst (v := -1) dX11_analyses_246 rfl ?_
        refine pw_goto (tgt := 303) dX11_analyses_247 (by decide) ?_
        exact kk
      · rw [if_neg (show ¬ (4 ≤ kdA (ρ.2.2.1 1) i ∨ kdA (ρ.2.2.1 1) i = 0) from fun z => z.elim hl k0)] at tail
        have pre : ∀ kk : PW l G mX11_analyses w0 sz fin 250 [(0, .ref (adr 0)), (1, .int (nI i))] [.int (nI i), .ref (adr 19)] 0 0 (wp G adr LM Lf Rt (st789 ρ (pfx N cv o17) cs g19)), PW l G mX11_analyses w0 sz fin 215 [(0, .ref (adr 0)), (1, .int (nI i))] [] 0 0 (wp G adr LM Lf Rt (st789 ρ (pfx N cv o17) cs g19)) := by
          intro kk
          refine pw_iload_n dX11_analyses_215 rfl ?_
          refine pw_aload_n dX11_analyses_216 rfl ?_
          refine lp_getr 1 dX11_analyses_217 fp_RX11_7.FL rfl rfl rfl ?_
          refine pw_iconst (v := 0) dX11_analyses_220 rfl ?_
          refine lp_iald dX11_analyses_221 rfl (vp_in_nI (n := 0) (by decide) (by decide)) ?_
          refine pw_icmp_ge 310 dX11_analyses_222 (by decide) (fun c_222 => absurd c_222 c222) (fun c_222 => ?_)
          refine pw_aload_n dX11_analyses_225 rfl ?_
          refine lp_getr 19 dX11_analyses_226 fp_RX11_66.FL rfl rfl rfl ?_
          refine pw_iload_n dX11_analyses_229 rfl ?_
          refine pw_aload_n dX11_analyses_230 rfl ?_
          refine pw_iload_n dX11_analyses_231 rfl ?_
          refine lp_cV1 (mi' := mX11_isLoop) (As := [_]) (q := (RX11, TX11, 33)) dX11_analyses_232 lk_RX11_163 mk_X11_isLoop mi_X11_isLoop me_X11_isLoop ⟨by decide, by decide⟩ rfl rfl (Nat.le_of_ble_eq_true rfl) rfl rfl ⟨rfl, rfl⟩ ⟨Nat.zero_le _, Nat.zero_le _⟩ hil ?_
          rw [decide_eq_false (show ¬ 4 ≤ (st789 ρ (pfx N cv o17) cs g19).2.2.1 1 (1 + 4 * i) from hl)]
          refine pw_if_ne 246 dX11_analyses_235 (by decide) (fun c_235 => absurd c_235 (fun z => z rfl)) (fun c_235 => ?_)
          refine pw_aload_n dX11_analyses_238 rfl ?_
          refine pw_iload_n dX11_analyses_239 rfl ?_
          refine lp_cV1 (mi' := mX11_kind) (As := [_]) (q := (RX11, TX11, 33)) dX11_analyses_240 lk_RX11_86 mk_X11_kind mi_X11_kind me_X11_kind ⟨by decide, by decide⟩ rfl rfl (Nat.le_of_ble_eq_true rfl) rfl rfl ⟨rfl, rfl⟩ ⟨Nat.zero_le _, Nat.zero_le _⟩ hkd ?_
          refine pw_if_ne 250 dX11_analyses_243 (by decide) (fun c_243 => ?_) (fun c_243 => absurd c_243 k0)
          exact kk
        refine pre ?_
        by_cases hr : ρ.2.2.1 11 i = 0
        · have kk := tail _ (if_pos hr)
          refine pw_aload_n dX11_analyses_250 rfl ?_
          refine lp_getr 11 dX11_analyses_251 fp_RX11_41.FL rfl rfl rfl ?_
          refine pw_iload_n dX11_analyses_254 rfl ?_
          refine lp_zald dX11_analyses_255 rfl bi ?_
          rw [ei]
          refine pw_if_ne 263 dX11_analyses_256 (by decide) (fun c_256 => absurd c_256 (fun z => z hr)) (fun c_256 => ?_)
          refine pw_iconst (v := 0) dX11_analyses_259 rfl ?_
          refine pw_goto (tgt := 303) dX11_analyses_260 (by decide) ?_
          exact kk
        · rw [if_neg hr] at tail
          by_cases hfa : ρ.2.2.1 12 i = 0
          · have kk := tail _ (if_pos hfa)
            refine pw_aload_n dX11_analyses_250 rfl ?_
            refine lp_getr 11 dX11_analyses_251 fp_RX11_41.FL rfl rfl rfl ?_
            refine pw_iload_n dX11_analyses_254 rfl ?_
            refine lp_zald dX11_analyses_255 rfl bi ?_
            rw [ei]
            refine pw_if_ne 263 dX11_analyses_256 (by decide) (fun c_256 => ?_) (fun c_256 => absurd c_256 hr)
            refine pw_aload_n dX11_analyses_263 rfl ?_
            refine lp_getr 12 dX11_analyses_264 fp_RX11_45.FL rfl rfl rfl ?_
            refine pw_iload_n dX11_analyses_267 rfl ?_
            refine lp_zald dX11_analyses_268 rfl bi ?_
            rw [ei]
            refine pw_if_ne 276 dX11_analyses_269 (by decide) (fun c_269 => absurd c_269 (fun z => z hfa)) (fun c_269 => ?_)
            refine pw_iconst (v := 1) dX11_analyses_272 rfl ?_
            refine pw_goto (tgt := 303) dX11_analyses_273 (by decide) ?_
            exact kk
          · rw [if_neg hfa] at tail
            by_cases hc : cv i = -1
            · rw [if_neg (show ¬ ¬ cv i = -1 from fun z => z hc)] at tail
              have k4 : ¬ kdA (ρ.2.2.1 1) i = 4 := fun q => hl (by rw [q]; decide)
              have k5 : ¬ kdA (ρ.2.2.1 1) i = 5 := fun q => hl (by rw [q]; decide)
              have hho := r_isHoisted (l := l) (G := G) (adr := adr) (Lf := Lf) (Rt := Rt) (σ := st789 ρ (pfx N cv o17) cs g19) i hi30 (by
                intro hn
                have hn : ¬ ρ.2.2.1 7 i = -1 := hn
                have e7 : ρ.2.2.1 7 i = (lsc (ρ.2.2.1 1) i).2.2 := by rw [hin i (by omega)]; unfold lmd lmid; rw [if_neg k5]
                have hd : 0 < (lsc (ρ.2.2.1 1) i).1 := by
                  rcases Nat.eq_zero_or_pos (lsc (ρ.2.2.1 1) i).1 with q | q
                  · exact absurd (e7.trans ((lsc_inv hP.2.2.1 i (by omega)).2.1 q).2) hn
                  · exact q
                obtain ⟨b, e, s1, s2, s3, s4, s5, s6, s7, -⟩ := lsc_span hP.2.2.1 hN f0 (show i ≤ N by omega) hd
                exact ⟨b, e, by omega, by omega, e7.trans s4, by show ρ.2.2.1 5 b = _; rw [hpt]; exact s7⟩)
              have eho : hoA ((st789 ρ (pfx N cv o17) cs g19).2.2.1 1) ((st789 ρ (pfx N cv o17) cs g19).2.2.1 18) ((st789 ρ (pfx N cv o17) cs g19).2.2.1 7) ((st789 ρ (pfx N cv o17) cs g19).2.2.1 5) i = hoA (ρ.2.2.1 1) cs (ρ.2.2.1 7) (ρ.2.2.1 5) i := rfl
              rw [eho] at hho
              cases hh : hoA (ρ.2.2.1 1) cs (ρ.2.2.1 7) (ρ.2.2.1 5) i
              · have kk := tail 4 (by rw [hh]; rfl)
                rw [hh] at hho
                refine pw_aload_n dX11_analyses_250 rfl ?_
                refine lp_getr 11 dX11_analyses_251 fp_RX11_41.FL rfl rfl rfl ?_
                refine pw_iload_n dX11_analyses_254 rfl ?_
                refine lp_zald dX11_analyses_255 rfl bi ?_
                rw [ei]
                refine pw_if_ne 263 dX11_analyses_256 (by decide) (fun c_256 => ?_) (fun c_256 => absurd c_256 hr)
                refine pw_aload_n dX11_analyses_263 rfl ?_
                refine lp_getr 12 dX11_analyses_264 fp_RX11_45.FL rfl rfl rfl ?_
                refine pw_iload_n dX11_analyses_267 rfl ?_
                refine lp_zald dX11_analyses_268 rfl bi ?_
                rw [ei]
                refine pw_if_ne 276 dX11_analyses_269 (by decide) (fun c_269 => ?_) (fun c_269 => absurd c_269 hfa)
                refine pw_aload_n dX11_analyses_276 rfl ?_
                refine lp_getr 17 dX11_analyses_277 fp_RX11_60.FL rfl rfl rfl ?_
                refine pw_iload_n dX11_analyses_280 rfl ?_
                refine lp_iald dX11_analyses_281 rfl bi ?_
                refine pw_top (cv i) (by rw [ei]; exact e17) ?_
                refine pw_iconst (v := -1) dX11_analyses_282 rfl ?_
                refine pw_icmp_eq 290 dX11_analyses_283 (by decide) (fun c_283 => ?_) (fun c_283 => absurd hc c_283)
                refine pw_aload_n dX11_analyses_290 rfl ?_
                refine pw_iload_n dX11_analyses_291 rfl ?_
                refine lp_cV1 (mi' := mX11_isHoisted) (As := [_]) (q := (RX11, TX11, 33)) dX11_analyses_292 lk_RX11_217 mk_X11_isHoisted mi_X11_isHoisted me_X11_isHoisted ⟨by decide, by decide⟩ rfl rfl (Nat.le_of_ble_eq_true rfl) rfl rfl ⟨rfl, rfl⟩ ⟨Nat.zero_le _, Nat.zero_le _⟩ hho ?_
                refine pw_if_eq 302 dX11_analyses_295 (by decide) (fun c_295 => ?_) (fun c_295 => absurd rfl c_295)
                refine pw_iconst (v := 4) dX11_analyses_302 rfl ?_
                exact kk
              · have kk := tail 3 (by rw [hh]; rfl)
                rw [hh] at hho
                refine pw_aload_n dX11_analyses_250 rfl ?_
                refine lp_getr 11 dX11_analyses_251 fp_RX11_41.FL rfl rfl rfl ?_
                refine pw_iload_n dX11_analyses_254 rfl ?_
                refine lp_zald dX11_analyses_255 rfl bi ?_
                rw [ei]
                refine pw_if_ne 263 dX11_analyses_256 (by decide) (fun c_256 => ?_) (fun c_256 => absurd c_256 hr)
                refine pw_aload_n dX11_analyses_263 rfl ?_
                refine lp_getr 12 dX11_analyses_264 fp_RX11_45.FL rfl rfl rfl ?_
                refine pw_iload_n dX11_analyses_267 rfl ?_
                refine lp_zald dX11_analyses_268 rfl bi ?_
                rw [ei]
                refine pw_if_ne 276 dX11_analyses_269 (by decide) (fun c_269 => ?_) (fun c_269 => absurd c_269 hfa)
                refine pw_aload_n dX11_analyses_276 rfl ?_
                refine lp_getr 17 dX11_analyses_277 fp_RX11_60.FL rfl rfl rfl ?_
                refine pw_iload_n dX11_analyses_280 rfl ?_
                refine lp_iald dX11_analyses_281 rfl bi ?_
                refine pw_top (cv i) (by rw [ei]; exact e17) ?_
                refine pw_iconst (v := -1) dX11_analyses_282 rfl ?_
                refine pw_icmp_eq 290 dX11_analyses_283 (by decide) (fun c_283 => ?_) (fun c_283 => absurd hc c_283)
                refine pw_aload_n dX11_analyses_290 rfl ?_
                refine pw_iload_n dX11_analyses_291 rfl ?_
                refine lp_cV1 (mi' := mX11_isHoisted) (As := [_]) (q := (RX11, TX11, 33)) dX11_analyses_292 lk_RX11_217 mk_X11_isHoisted mi_X11_isHoisted me_X11_isHoisted ⟨by decide, by decide⟩ rfl rfl (Nat.le_of_ble_eq_true rfl) rfl rfl ⟨rfl, rfl⟩ ⟨Nat.zero_le _, Nat.zero_le _⟩ hho ?_
                refine pw_if_eq 302 dX11_analyses_295 (by decide) (fun c_295 => absurd (show (1 : Int32) = 0 from c_295) (by decide)) (fun c_295 => ?_)
                refine pw_iconst (v := 3) dX11_analyses_298 rfl ?_
                refine pw_goto (tgt := 303) dX11_analyses_299 (by decide) ?_
                exact kk
            · have kk := tail _ (if_pos hc)
              refine pw_aload_n dX11_analyses_250 rfl ?_
              refine lp_getr 11 dX11_analyses_251 fp_RX11_41.FL rfl rfl rfl ?_
              refine pw_iload_n dX11_analyses_254 rfl ?_
              refine lp_zald dX11_analyses_255 rfl bi ?_
              rw [ei]
              refine pw_if_ne 263 dX11_analyses_256 (by decide) (fun c_256 => ?_) (fun c_256 => absurd c_256 hr)
              refine pw_aload_n dX11_analyses_263 rfl ?_
              refine lp_getr 12 dX11_analyses_264 fp_RX11_45.FL rfl rfl rfl ?_
              refine pw_iload_n dX11_analyses_267 rfl ?_
              refine lp_zald dX11_analyses_268 rfl bi ?_
              rw [ei]
              refine pw_if_ne 276 dX11_analyses_269 (by decide) (fun c_269 => ?_) (fun c_269 => absurd c_269 hfa)
              refine pw_aload_n dX11_analyses_276 rfl ?_
              refine lp_getr 17 dX11_analyses_277 fp_RX11_60.FL rfl rfl rfl ?_
              refine pw_iload_n dX11_analyses_280 rfl ?_
              refine lp_iald dX11_analyses_281 rfl bi ?_
              refine pw_top (cv i) (by rw [ei]; exact e17) ?_
              refine pw_iconst (v := -1) dX11_analyses_282 rfl ?_
              refine pw_icmp_eq 290 dX11_analyses_283 (by decide) (fun c_283 => absurd c_283 hc) (fun c_283 => ?_)
              refine pw_iconst (v := 2) dX11_analyses_286 rfl ?_
              refine pw_goto (tgt := 303) dX11_analyses_287 (by decide) ?_
              exact kk
/-- what the analysis starts with, where it ends -/
def aIni (σ : St) : AN := ((0, 0, σ.2.2.1 8), pfxL 8 (inL (σ.2.2.1 1)) (σ.2.2.2.1 9), pfxL 8 (inH (σ.2.2.1 1)) (σ.2.2.2.1 10), pfx 30 (fun _ => 0) (σ.2.2.1 11), pfx 30 (fun _ => 0) (σ.2.2.1 12), σ.2.2.1 13, σ.2.2.1 14, σ.2.2.2.1 15, σ.2.2.2.1 16, 1)
def aFin (σ : St) (N : Nat) : AN := aIter (σ.2.2.1 1) (lpt (σ.2.2.1 1) (σ.2.2.1 5) N) N (1600 * N + 1) (aIni σ)
def aCov (σ : St) (N : Nat) : Nat → Int32 := covA (σ.2.2.1 1) (aFin σ N).2.2.2.2.1 (aFin σ N).2.2.2.2.2.1 (aFin σ N).2.2.2.2.2.2.1 N
def mAna (σ : St) (N : Nat) : St := st789 (stN (mLays σ N) (aFin σ N)) (pfx N (aCov σ N) (σ.2.2.1 17)) (csF (aCov σ N) (σ.2.2.1 18) N) (pfx N (stF (σ.2.2.1 1) (aFin σ N).2.2.2.1 (aFin σ N).2.2.2.2.1 (aCov σ N) (csF (aCov σ N) (σ.2.2.1 18) N) ((mLays σ N).2.2.1 7) ((mLays σ N).2.2.1 5)) (σ.2.2.1 19))
theorem r_analyses {N : Nat} (hP : wfP (σ.2.2.1 1) N) : SpecD l G mX11_analyses [.ref (adr 0)] (wp G adr LM Lf Rt σ) none (wp G adr LM Lf Rt (mAna σ N)) := by
  refine spec_of (by decide) (Nat.le_of_ble_eq_true rfl) (fun sz => ?_)
  have hI : WInv (σ.2.2.1 1) N (0, 0, σ.2.2.1 8) := ⟨Nat.zero_le _, rfl, fun q => absurd q (Nat.lt_irrefl 0), fun q => absurd q (show ¬ (0 : Nat) = 2 by decide)⟩
  have hm : wmu (σ.2.2.1 1) (lpt (σ.2.2.1 1) (σ.2.2.1 5) N) N (0, 0, σ.2.2.1 8) < 1600 * N + 1 := by
    unfold wmu
    rw [if_pos (show (lsc (σ.2.2.1 1) 0).1 = 0 from rfl)]
    dsimp only
    omega
  have hin : ∀ i, i < N → (stN (mLays σ N) (aFin σ N)).2.2.1 7 i = (lmd (σ.2.2.1 1) i).2.2 := by
    intro i hi
    show pfx N (fun j => (lmd (σ.2.2.1 1) j).2.2) (σ.2.2.1 7) i = _
    unfold pfx
    rw [if_pos hi]
  refine pw_aload_n dX11_analyses_0 rfl ?_
  refine lp_cV0 (mi' := mX11_startsWalk) (As := []) (q := (RX11, TX11, 33)) dX11_analyses_1 lk_RX11_198 mk_X11_startsWalk mi_X11_startsWalk me_X11_startsWalk ⟨by decide, by decide⟩ rfl rfl (Nat.le_of_ble_eq_true rfl) rfl rfl ⟨rfl, rfl⟩ ⟨Nat.zero_le _, Nat.zero_le _⟩ (r_startsWalk hP.1 hP.2.1 hP.2.2.1) ?_
  refine pw_iconst (v := 0) dX11_analyses_4 rfl ?_
  refine pw_istore_n dX11_analyses_5 (by decide) ?_
  refine pw_lk [(0, .ref (adr 0)), (1, .int (nI 0))] ⟨rfl, rfl, trivial⟩ (pw_st ?_ (ana_in (τ := mLays σ N) (0, 0, σ.2.2.1 8) (σ.2.2.2.1 9) (σ.2.2.2.1 10) (σ.2.2.1 11) (σ.2.2.1 12) (σ.2.2.1 13) (σ.2.2.1 14) (σ.2.2.2.1 15) (σ.2.2.2.1 16) (σ.1 0 24) ?_ 8 0 rfl))
  · rw [stN_of, pfxL_0, pfxL_0]
    rfl
  · refine pw_iconst (v := 0) dX11_analyses_56 rfl ?_
    refine pw_istore_n dX11_analyses_57 (by decide) ?_
    refine pw_lk [(0, .ref (adr 0)), (1, .int (nI 0))] ⟨rfl, rfl, trivial⟩ (pw_st ?_ (ana_cl (τ := mLays σ N) (0, 0, σ.2.2.1 8) (pfxL 8 (inL (σ.2.2.1 1)) (σ.2.2.2.1 9)) (pfxL 8 (inH (σ.2.2.1 1)) (σ.2.2.2.1 10)) (σ.2.2.1 11) (σ.2.2.1 12) (σ.2.2.1 13) (σ.2.2.1 14) (σ.2.2.2.1 15) (σ.2.2.2.1 16) (σ.1 0 24) ?_ 30 0 rfl))
    · rw [pfx_0, pfx_0]
      rfl
    · refine pw_aload_n dX11_analyses_84 rfl ?_
      refine pw_iconst (v := 1) dX11_analyses_85 rfl ?_
      refine lp_puti dX11_analyses_86 fp_RX11_201 rfl rfl rfl rfl ?_
      refine pw_st (σ' := stN (mLays σ N) (aIni σ)) (stN_24 ..) (ana_loop (τ := mLays σ N) (f0 := σ.2.2.1 5) hP rfl (1600 * N + 1) (aIni σ) hI hm ?_)
      refine pw_iconst (v := 0) dX11_analyses_141 rfl ?_
      refine pw_istore_n dX11_analyses_142 (by decide) ?_
      refine pw_lk [(0, .ref (adr 0)), (1, .int (nI 0))] ⟨rfl, rfl, trivial⟩ (pw_st ?_ (an_cov0 (ρ := stN (mLays σ N) (aFin σ N)) (σ.2.2.1 17) (σ.2.2.1 18) (σ.2.2.1 19) ?_ 30 0 rfl))
      · rw [pfx_0]
        show stN (mLays σ N) (aFin σ N) = sA (sA (sA (stN (mLays σ N) (aFin σ N)) 17 ((stN (mLays σ N) (aFin σ N)).2.2.1 17)) 18 ((stN (mLays σ N) (aFin σ N)).2.2.1 18)) 19 ((stN (mLays σ N) (aFin σ N)).2.2.1 19)
        rw [sA_self, sA_self, sA_self]
      · refine pw_iconst (v := 0) dX11_analyses_162 rfl ?_
        refine pw_istore_n dX11_analyses_163 (by decide) ?_
        refine pw_lk [(0, .ref (adr 0)), (1, .int (nI 0))] ⟨rfl, rfl, trivial⟩ (pw_st ?_ (an_cov (ρ := stN (mLays σ N) (aFin σ N)) hP.1 hP.2.1 (aCov σ N) (σ.2.2.1 17) (σ.2.2.1 18) (σ.2.2.1 19) rfl ?_ N 0 (by omega)))
        · rw [pfx_0]
          rfl
        · refine pw_iconst (v := 0) dX11_analyses_213 rfl ?_
          refine pw_istore_n dX11_analyses_214 (by decide) ?_
          refine pw_lk [(0, .ref (adr 0)), (1, .int (nI 0))] ⟨rfl, rfl, trivial⟩ (pw_st ?_ (an_st (ρ := stN (mLays σ N) (aFin σ N)) hP (σ.2.2.1 5) rfl hin (aCov σ N) (σ.2.2.1 17) (csF (aCov σ N) (σ.2.2.1 18) N) (σ.2.2.1 19) ?_ N 0 (by omega)))
          · rw [pfx_0]
          · rfl
end A4
