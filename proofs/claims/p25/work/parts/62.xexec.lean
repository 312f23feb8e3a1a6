/-! THE CLASS: an instruction with ranges; the whole analysis -/
def cntF (f : Nat → Int32) : Nat → Nat
  | 0 => 0
  | n + 1 => cntF f n + (if f n = 0 then 0 else 1)
theorem cntF_congr {f g : Nat → Int32} : ∀ n, (∀ j, j < n → (f j = 0 ↔ g j = 0)) → cntF f n = cntF g n := by
  intro n
  induction n with
  | zero => intro _; rfl
  | succ n ih =>
    intro h
    show cntF f n + _ = cntF g n + _
    rw [ih (fun j hj => h j (by omega))]
    by_cases h0 : f n = 0
    · rw [if_pos h0, if_pos ((h n (by omega)).mp h0)]
    · rw [if_neg h0, if_neg (fun q => h0 ((h n (by omega)).mpr q))]
theorem cntF_up {f : Nat → Int32} {i : Nat} (h0 : f i = 0) : ∀ n, cntF (upd f i 1) n = cntF f n + (if i < n then 1 else 0) := by
  intro n
  induction n with
  | zero => rw [if_neg (Nat.not_lt_zero _)]; rfl
  | succ n ih =>
    show cntF (upd f i 1) n + _ = cntF f n + _ + _
    rw [ih]
    by_cases hn : n = i
    · subst hn
      rw [upd_s, if_neg (Nat.lt_irrefl n), if_neg (by decide), if_pos h0, if_pos (by omega)]
    · rw [upd_n hn]
      by_cases hi : i < n
      · rw [if_pos hi, if_pos (show i < n + 1 by omega)]; omega
      · rw [if_neg hi, if_neg (show ¬ i < n + 1 by omega), Nat.add_zero, Nat.add_zero]
theorem cntF_le {f : Nat → Int32} : ∀ n, cntF f n ≤ n := by
  intro n
  induction n with
  | zero => exact Nat.le_refl _
  | succ n ih =>
    show cntF f n + _ ≤ _
    split <;> omega
/-- what the analysis at b holds -/
def AnD (σ : St) (b : Nat) (x : AN) : Prop :=
  (∀ v, v < 8 → σ.2.2.2.1 (b + 3) v = x.2.1 v ∧ σ.2.2.2.1 (b + 4) v = x.2.2.1 v) ∧
  (∀ i, i < 30 → σ.2.2.1 (b + 5) i = x.2.2.2.1 i ∧ σ.2.2.1 (b + 6) i = x.2.2.2.2.1 i ∧ σ.2.2.2.1 (b + 7) i = (if x.2.2.2.1 i = 0 then 0 else x.2.2.2.2.2.2.2.1 i) ∧ σ.2.2.2.1 (b + 8) i = (if x.2.2.2.1 i = 0 then 0 else x.2.2.2.2.2.2.2.2.1 i)) ∧
  σ.1 b 1 = (if x.2.2.2.2.2.2.2.2.2 = 0 then 1 else 0) ∧ σ.1 b 2 = nI (cntF x.2.2.2.2.1 30)
def AnR (σ : St) (b : Nat) (x : AN) : Prop := CuR σ (b + 1) x.1 ∧ AnD σ b x
theorem AnD.fr {lo hi b : Nat} {σ τ : St} {x : AN} (h : AnD σ b x) (hF : Fr lo hi σ τ) (hd : b + 10 ≤ lo ∨ hi ≤ b) : AnD τ b x := by
  obtain ⟨h1, h2, h3, h4⟩ := h
  refine ⟨fun v hv => ?_, fun i hi => ?_, (congrFun (hF b (by omega)).1 1).trans h3, (congrFun (hF b (by omega)).1 2).trans h4⟩
  · exact ⟨(congrFun (hF (b + 3) (by omega)).2.2.2.1 v).trans (h1 v hv).1, (congrFun (hF (b + 4) (by omega)).2.2.2.1 v).trans (h1 v hv).2⟩
  · obtain ⟨q1, q2, q3, q4⟩ := h2 i hi
    exact ⟨(congrFun (hF (b + 5) (by omega)).2.2.1 i).trans q1, (congrFun (hF (b + 6) (by omega)).2.2.1 i).trans q2, (congrFun (hF (b + 7) (by omega)).2.2.2.1 i).trans q3, (congrFun (hF (b + 8) (by omega)).2.2.2.1 i).trans q4⟩
theorem AnR.fr {lo hi b : Nat} {σ τ : St} {x : AN} (h : AnR σ b x) (hF : Fr lo hi σ τ) (hd : b + 10 ≤ lo ∨ hi ≤ b) : AnR τ b x := ⟨h.1.fr hF (by omega), h.2.fr hF hd⟩
/-- what is known of an analysis on its way -/
def AInv (al : Nat → Int32) (N : Nat) (x : AN) : Prop := lhOK x.2.1 x.2.2.1 ∧ (∀ i, i < 30 → (x.2.2.2.1 i = 0 ∨ x.2.2.2.1 i = 1) ∧ (x.2.2.2.2.1 i = 0 ∨ x.2.2.2.2.1 i = 1) ∧ (¬ x.2.2.2.2.1 i = 0 → ¬ x.2.2.2.1 i = 0) ∧ (¬ x.2.2.2.2.1 i = 0 → i < N ∧ ¬ 4 ≤ kdA al i ∧ ¬ kdA al i = 0)) ∧ (x.2.2.2.2.2.2.2.2.2 = 0 ∨ x.2.2.2.2.2.2.2.2.2 = 1)
theorem rng_in {F T : Int64} (h : F.toInt ≤ T.toInt) : (iR F ∧ iR T) ↔ ¬ (F < -2147483648 ∨ 2147483647 < T) := by
  unfold iR
  rw [Int64.lt_iff_toInt_lt, Int64.lt_iff_toInt_lt, lMin, lMax]
  omega
theorem cut_id {F T : Int64} (hF : iR F) (hT : iR T) : gtr F (-2147483648) = F ∧ lsr T 2147483647 = T := by
  constructor
  · apply Int64.toInt_inj.mp; rw [gtr_I, lMin]; have := hF.1; omega
  · apply Int64.toInt_inj.mp; rw [lsr_I, lMax]; have := hT.2; omega
theorem cut_R {F T : Int64} (h : gtr F (-2147483648) ≤ lsr T 2147483647) : iR (gtr F (-2147483648)) ∧ iR (lsr T 2147483647) ∧ (gtr F (-2147483648)).toInt ≤ (lsr T 2147483647).toInt := by
  have := Int64.le_iff_toInt_le.mp h
  unfold iR
  rw [gtr_I, lsr_I, lMin, lMax] at this ⊢
  omega
/-- ranges of an instruction -/
theorem rg_le {al : Nat → Int32} {N i : Nat} {lo hi : Nat → Int64} (hW : wfP al N) (hi' : i < N) (hl : ¬ 4 ≤ kdA al i) (h : lhOK lo hi) : (rgF al lo hi i).toInt ≤ (rgT al lo hi i).toInt := by
  obtain ⟨-, g2, g3⟩ := hW.2.2.2.2.1 i hi' hl
  obtain ⟨e1, e2⟩ := rgF_cm (lo := lo) (hi := hi) hW hi' hl
  obtain ⟨a1, a2, a3⟩ := vOf_lh h g2
  rw [e1, e2]
  refine cm_le a1 a2 a3 (fun k => vOf_lh h (g3 (fun k0 => ?_)))
  rw [k0] at k
  rcases k with k | k | k <;> exact absurd k (by decide)
theorem rg_copy {al : Nat → Int32} {N i : Nat} {lo hi : Nat → Int64} (hW : wfP al N) (hi' : i < N) (hl : ¬ 4 ≤ kdA al i) (h : lhOK lo hi) (k0 : kdA al i = 0) : iR (rgF al lo hi i) ∧ iR (rgT al lo hi i) := by
  obtain ⟨-, g2, g3⟩ := hW.2.2.2.2.1 i hi' hl
  obtain ⟨e1, e2⟩ := rgF_cm (lo := lo) (hi := hi) hW hi' hl
  obtain ⟨a1, a2, a3⟩ := vOf_lh h g2
  rw [e1, e2, k0]
  exact ⟨a1, a2⟩
theorem AInv_mid {al : Nat → Int32} {N : Nat} {x : AN} (hW : wfP al N) (hx : x.1.1 < N) (hI : AInv al N x) : AInv al N (aMid al x) := by
  obtain ⟨s, lo, hi, rc, fa, nf, ns, le, gr, cp⟩ := x
  obtain ⟨i1, i2, i3⟩ := hI
  dsimp only at hx i1 i2 i3
  unfold aMid
  by_cases hl : 4 ≤ kdA al s.1
  · rw [if_pos hl]
    exact ⟨i1, i2, Or.inr rfl⟩
  · rw [if_neg hl]
    unfold rngS
    dsimp only
    obtain ⟨⟨w, hw, hres⟩, -, -⟩ := hW.2.2.2.2.1 s.1 hx hl
    have etw : tN (al (1 + 4 * s.1 + 1)) = w := by rw [hres]; exact nI_clamp (by omega)
    have hle := rg_le hW hx hl i1
    have hcp := rg_copy hW hx hl i1
    rw [etw]
    generalize rgF al lo hi s.1 = F at hle hcp ⊢
    generalize rgT al lo hi s.1 = T at hle hcp ⊢
    refine ⟨?_, ?_, ?_⟩
    · intro v hv
      dsimp only
      by_cases h : gtr F (-2147483648) ≤ lsr T 2147483647
      · rw [if_pos h, if_pos h]
        unfold vp_updL
        by_cases e : v = w
        · rw [if_pos e, if_pos e]; exact cut_R h
        · rw [if_neg e, if_neg e]; exact i1 v hv
      · rw [if_neg h, if_neg h]; exact i1 v hv
    · intro j hj
      obtain ⟨j1, j2, j3, j4⟩ := i2 j hj
      dsimp only
      unfold upd
      by_cases e : j = s.1
      · subst e
        rw [if_pos rfl, if_pos rfl]
        refine ⟨Or.inr rfl, ?_, fun _ => by decide, fun h => ?_⟩
        · cases decide ((¬ rc s.1 = 0 ∧ ¬ fa s.1 = 0) ∨ F < -2147483648 ∨ 2147483647 < T) <;> simp [bI]
        · by_cases hd : (¬ rc s.1 = 0 ∧ ¬ fa s.1 = 0) ∨ F < -2147483648 ∨ 2147483647 < T
          · rcases hd with hd | hd
            · exact j4 hd.2
            · exact ⟨hx, hl, fun k0 => (rng_in hle).mp (hcp k0) hd⟩
          · rw [decide_eq_false hd] at h; exact absurd rfl h
      · rw [if_neg e, if_neg e]; exact ⟨j1, j2, j3, j4⟩
    · dsimp only
      cases decide (gtr F (-2147483648) ≤ lsr T 2147483647)
      · exact Or.inl rfl
      · exact Or.inr rfl
/-- behind noting: what has changed -/
def Ex3 (σ : St) (b i : Nat) (F T : Int64) (τ : St) : Prop := Fr b (b + 10) σ τ ∧ τ.1 (b + 1) = σ.1 (b + 1) ∧ τ.2.2.1 (b + 2) = σ.2.2.1 (b + 2) ∧ τ.2.1 b 11 = F ∧ τ.2.1 b 12 = T ∧ τ.2.2.1 (b + 5) = upd (σ.2.2.1 (b + 5)) i 1 ∧ τ.2.2.1 (b + 6) = σ.2.2.1 (b + 6) ∧ τ.2.2.2.1 (b + 7) = vp_updL (σ.2.2.2.1 (b + 7)) i (if σ.2.2.1 (b + 5) i = 0 then F else lsr (σ.2.2.2.1 (b + 7) i) F) ∧ τ.2.2.2.1 (b + 8) = vp_updL (σ.2.2.2.1 (b + 8)) i (if σ.2.2.1 (b + 5) i = 0 then T else gtr (σ.2.2.2.1 (b + 8) i) T) ∧ τ.2.2.2.1 (b + 3) = σ.2.2.2.1 (b + 3) ∧ τ.2.2.2.1 (b + 4) = σ.2.2.2.1 (b + 4) ∧ τ.1 b 1 = σ.1 b 1 ∧ τ.1 b 2 = σ.1 b 2
theorem ex3_of {σ : St} {b i : Nat} {F T : Int64} {f9 : Nat → Int32} : Ex3 σ b i F T (noteS (nwS (sA σ (b + 9) f9) b F T) b i) := by
  unfold noteS nwS
  have e5 : (sA σ (b + 9) f9).2.2.1 (b + 5) = σ.2.2.1 (b + 5) := gA' (by omega)
  have e11 : (sJ (sJ (sA σ (b + 9) f9) b 11 F) b 12 T).2.1 b 11 = F := by rw [gJ' (by omega), gJ]
  have e12 : (sJ (sJ (sA σ (b + 9) f9) b 11 F) b 12 T).2.1 b 12 = T := gJ
  refine ⟨?_, rfl, ?_, ?_, ?_, ?_, ?_, ?_, ?_, ?_, ?_, rfl, rfl⟩
  · refine Fr.L (Fr.L (Fr.A (Fr.J (Fr.J (Fr.A Fr.rf ?_ ?_) ?_ ?_) ?_ ?_) ?_ ?_) ?_ ?_) ?_ ?_ <;> omega
  · simp only [L3]; rw [gA' (by omega)]; simp only [J3]; rw [gA' (by omega)]
  · exact e11
  · exact e12
  · simp only [L3, J3]; rw [gA, gA' (by omega)]
  · simp only [L3]; rw [gA' (by omega)]; simp only [J3]; rw [gA' (by omega)]
  · rw [gL' (by omega), gL]; simp only [J3, J4, A4, e5, e11]
  · rw [gL]; simp only [J3, J4, A4, e5, e12]
  · rw [gL' (by omega), gL' (by omega)]; rfl
  · rw [gL' (by omega), gL' (by omega)]; rfl
def exO (σ : St) (b i : Nat) : St := if σ.2.2.1 (b + 6) i = 0 then sI (sA σ (b + 6) (upd (σ.2.2.1 (b + 6)) i 1)) b 2 (σ.1 b 2 + 1) else σ
def asS (σ : St) (b w : Nat) (L H : Int64) (z : Int32) : St := sI (sL (sL σ (b + 3) (vp_updL (σ.2.2.2.1 (b + 3)) w L)) (b + 4) (vp_updL (σ.2.2.2.1 (b + 4)) w H)) b 5 z
section XX
variable {l : Launch} {G : cxG} {adr : Nat → Nat} {Lf Rt : va_W} {σ : St}
theorem exA_tail {sz : Nat} {w0 : va_W} {fin : OC → Prop} {b p i w : Nat} (hb : LX.1[b]? = some (.inl 0)) (hp : LX.1[p]? = some (.inl 6)) (hi : i < 30) (hw : w < 8) (L H : Int64) (n1 : σ.2.1 b 11 = L) (n2 : σ.2.1 b 12 = H) (ht : σ.2.2.1 (p + 2) i = nI w)
    (k1 : L ≤ H → ∀ z, fin (.inl (none, wp G adr LX Lf Rt (asS σ b w L H z)))) (k0 : ¬ L ≤ H → fin (.inl (none, wp G adr LX Lf Rt (sI σ b 1 1)))) :
    PW l G mX0_execute w0 sz fin 114 [(0, .ref (adr b)), (1, .ref (adr p)), (2, .int (nI i))] [] 0 0 (wp G adr LX Lf Rt σ) := by
  have bi : vp_in (nI i) 30 := vp_in_nI hi (by decide)
  have ei : (nI i).toNatClampNeg = i := nI_clamp (by omega)
  by_cases hle : L ≤ H
  · refine pw_aload_n dX0_execute_114 rfl ?_
    refine lp_getj dX0_execute_115 fp_RX0_53.FL hb rfl ?_
    refine pw_topl L n1 ?_
    refine pw_aload_n dX0_execute_118 rfl ?_
    refine lp_getj dX0_execute_119 fp_RX0_57.FL hb rfl ?_
    refine pw_topl H n2 ?_
    refine pw_lcmp dX0_execute_122 ?_
    refine pw_if_le 134 dX0_execute_123 (by decide) (fun c_123 => ?_) (fun c_123 => absurd ((lg_cmp_le _ _).mpr hle) c_123)
    refine pw_aload_n dX0_execute_134 rfl ?_
    refine pw_aload_n dX0_execute_135 rfl ?_
    refine lp_getr (p + 2) dX0_execute_136 fp_RX0_131.FL hp rfl (rX6_2 hp) ?_
    refine pw_iload_n dX0_execute_139 rfl ?_
    refine lp_iald dX0_execute_140 (kX6_2 hp) (by assumption) ?_
    refine pw_top (nI w) (by rw [ei]; exact ht) ?_
    refine pw_aload_n dX0_execute_141 rfl ?_
    refine lp_getj dX0_execute_142 fp_RX0_53.FL hb rfl ?_
    refine pw_topl L n1 ?_
    refine pw_aload_n dX0_execute_145 rfl ?_
    refine lp_getj dX0_execute_146 fp_RX0_57.FL hb rfl ?_
    refine pw_topl H n2 ?_
    refine lp_rV0 (mi' := mX0_assign) (As := [_, _, _]) (q := (RX0, TX0, 13)) dX0_execute_149 lk_RX0_91 mk_X0_assign mi_X0_assign me_X0_assign ⟨by decide, by decide⟩ rfl rfl (Nat.le_of_ble_eq_true rfl) hb rfl ⟨rfl, rfl⟩ ⟨Nat.zero_le _, Nat.zero_le _⟩ (x_assign hb w hw _ _) (fun ρ hR => ?_)
    exact pw_vret rfl dX0_execute_152 (Nat.zero_le _) (Nat.zero_le _) (by obtain ⟨z, hR⟩ := hR; rw [hR]; exact k1 hle z)
  · refine pw_aload_n dX0_execute_114 rfl ?_
    refine lp_getj dX0_execute_115 fp_RX0_53.FL hb rfl ?_
    refine pw_topl L n1 ?_
    refine pw_aload_n dX0_execute_118 rfl ?_
    refine lp_getj dX0_execute_119 fp_RX0_57.FL hb rfl ?_
    refine pw_topl H n2 ?_
    refine pw_lcmp dX0_execute_122 ?_
    refine pw_if_le 134 dX0_execute_123 (by decide) (fun c_123 => absurd ((lg_cmp_le _ _).mp c_123) hle) (fun c_123 => ?_)
    refine pw_aload_n dX0_execute_126 rfl ?_
    refine pw_iconst (v := 1) dX0_execute_127 rfl ?_
    refine lp_puti dX0_execute_128 fp_RX0_18 hb rfl rfl rfl ?_
    refine pw_goto (tgt := 152) dX0_execute_131 (by decide) ?_
    exact pw_vret rfl dX0_execute_152 (Nat.zero_le _) (Nat.zero_le _) (k0 hle)
theorem exA_out {sz : Nat} {w0 : va_W} {fin : OC → Prop} {b p i : Nat} (hb : LX.1[b]? = some (.inl 0)) (hp : LX.1[p]? = some (.inl 6)) (hi : i < 30) (F T : Int64) (n1 : σ.2.1 b 11 = F) (n2 : σ.2.1 b 12 = T)
    (kk : PW l G mX0_execute w0 sz fin 114 [(0, .ref (adr b)), (1, .ref (adr p)), (2, .int (nI i))] [] 0 0 (wp G adr LX Lf Rt (nwS (exO σ b i) b (gtr F (-2147483648)) (lsr T 2147483647)))) :
    PW l G mX0_execute w0 sz fin 60 [(0, .ref (adr b)), (1, .ref (adr p)), (2, .int (nI i))] [] 0 0 (wp G adr LX Lf Rt σ) := by
  have bi : vp_in (nI i) 30 := vp_in_nI hi (by decide)
  have ei : (nI i).toNatClampNeg = i := nI_clamp (by omega)
  unfold exO at kk
  by_cases h0 : σ.2.2.1 (b + 6) i = 0
  · rw [if_pos h0] at kk
    refine pw_aload_n dX0_execute_60 rfl ?_
    refine lp_getr (b + 6) dX0_execute_61 fp_RX0_40.FL hb rfl (rX0_7 hb) ?_
    refine pw_iload_n dX0_execute_64 rfl ?_
    refine lp_zald dX0_execute_65 (kX0_7 hb) (by assumption) ?_
    rw [ei]
    refine pw_if_ne 86 dX0_execute_66 (by decide) (fun c_66 => absurd c_66 (fun z => z h0)) (fun c_66 => ?_)
    refine pw_aload_n dX0_execute_69 rfl ?_
    refine lp_getr (b + 6) dX0_execute_70 fp_RX0_40.FL hb rfl (rX0_7 hb) ?_
    refine pw_iload_n dX0_execute_73 rfl ?_
    refine pw_iconst (v := 1) dX0_execute_74 rfl ?_
    refine lp_zast dX0_execute_75 (kX0_7 hb) (by assumption) rfl ?_
    rw [ei]
    refine pw_aload_n dX0_execute_76 rfl ?_
    refine pw_dup dX0_execute_77 rfl ?_
    refine lp_geti dX0_execute_78 fp_RX0_22.FL hb rfl ?_
    refine pw_iconst (v := 1) dX0_execute_81 rfl ?_
    refine pw_iadd dX0_execute_82 ?_
    refine lp_puti dX0_execute_83 fp_RX0_22 hb rfl rfl rfl ?_
    refine pw_aload_n dX0_execute_86 rfl ?_
    refine pw_aload_n dX0_execute_87 rfl ?_
    refine lp_getj dX0_execute_88 fp_RX0_53.FL hb rfl ?_
    refine pw_topl F n1 ?_
    refine pw_ldc2 dX0_execute_91 kc_RX0_118 ?_
    refine pw_lmax dX0_execute_94 ma_RX0_120 ma_s_max ma_i ma_c_max (by decide) (Nat.le_of_ble_eq_true rfl) (Nat.zero_le _) (Nat.zero_le _) ?_
    refine pw_topl (gtr F (-2147483648)) rfl ?_
    refine lp_putj dX0_execute_97 fp_RX0_53 hb rfl ?_
    refine pw_aload_n dX0_execute_100 rfl ?_
    refine pw_aload_n dX0_execute_101 rfl ?_
    refine lp_getj dX0_execute_102 fp_RX0_57.FL hb rfl ?_
    refine pw_topl T ((gJ' (by omega)).trans n2) ?_
    refine pw_ldc2 dX0_execute_105 kc_RX0_126 ?_
    refine pw_lmin dX0_execute_108 ma_RX0_128 ma_s_min ma_i ma_c_min (by decide) (Nat.le_of_ble_eq_true rfl) (Nat.zero_le _) (Nat.zero_le _) ?_
    refine pw_topl (lsr T 2147483647) (lmin_lsr _ _) ?_
    refine lp_putj dX0_execute_111 fp_RX0_57 hb rfl ?_
    exact pw_lk [(0, .ref (adr b)), (1, .ref (adr p)), (2, .int (nI i))] ⟨rfl, rfl, rfl, trivial⟩ kk
  · rw [if_neg h0] at kk
    refine pw_aload_n dX0_execute_60 rfl ?_
    refine lp_getr (b + 6) dX0_execute_61 fp_RX0_40.FL hb rfl (rX0_7 hb) ?_
    refine pw_iload_n dX0_execute_64 rfl ?_
    refine lp_zald dX0_execute_65 (kX0_7 hb) (by assumption) ?_
    rw [ei]
    refine pw_if_ne 86 dX0_execute_66 (by decide) (fun c_66 => ?_) (fun c_66 => absurd c_66 h0)
    refine pw_aload_n dX0_execute_86 rfl ?_
    refine pw_aload_n dX0_execute_87 rfl ?_
    refine lp_getj dX0_execute_88 fp_RX0_53.FL hb rfl ?_
    refine pw_topl F n1 ?_
    refine pw_ldc2 dX0_execute_91 kc_RX0_118 ?_
    refine pw_lmax dX0_execute_94 ma_RX0_120 ma_s_max ma_i ma_c_max (by decide) (Nat.le_of_ble_eq_true rfl) (Nat.zero_le _) (Nat.zero_le _) ?_
    refine pw_topl (gtr F (-2147483648)) rfl ?_
    refine lp_putj dX0_execute_97 fp_RX0_53 hb rfl ?_
    refine pw_aload_n dX0_execute_100 rfl ?_
    refine pw_aload_n dX0_execute_101 rfl ?_
    refine lp_getj dX0_execute_102 fp_RX0_57.FL hb rfl ?_
    refine pw_topl T ((gJ' (by omega)).trans n2) ?_
    refine pw_ldc2 dX0_execute_105 kc_RX0_126 ?_
    refine pw_lmin dX0_execute_108 ma_RX0_128 ma_s_min ma_i ma_c_min (by decide) (Nat.le_of_ble_eq_true rfl) (Nat.zero_le _) (Nat.zero_le _) ?_
    refine pw_topl (lsr T 2147483647) (lmin_lsr _ _) ?_
    refine lp_putj dX0_execute_111 fp_RX0_57 hb rfl ?_
    exact pw_lk [(0, .ref (adr b)), (1, .ref (adr p)), (2, .int (nI i))] ⟨rfl, rfl, rfl, trivial⟩ kk
theorem exA_mid {sz : Nat} {w0 : va_W} {fin : OC → Prop} {b p i : Nat} (hb : LX.1[b]? = some (.inl 0)) (hp : LX.1[p]? = some (.inl 6)) (hi : i < 30) (F T : Int64) (n1 : σ.2.1 b 11 = F) (n2 : σ.2.1 b 12 = T)
    (kA : iR F ∧ iR T → PW l G mX0_execute w0 sz fin 114 [(0, .ref (adr b)), (1, .ref (adr p)), (2, .int (nI i))] [] 0 0 (wp G adr LX Lf Rt σ))
    (kB : ¬ (iR F ∧ iR T) → PW l G mX0_execute w0 sz fin 114 [(0, .ref (adr b)), (1, .ref (adr p)), (2, .int (nI i))] [] 0 0 (wp G adr LX Lf Rt (nwS (exO σ b i) b (gtr F (-2147483648)) (lsr T 2147483647)))) :
    PW l G mX0_execute w0 sz fin 40 [(0, .ref (adr b)), (1, .ref (adr p)), (2, .int (nI i))] [] 0 0 (wp G adr LX Lf Rt σ) := by
  by_cases hF : iR F
  · have eF : isI F = true := (isI_iff F).mpr hF
    by_cases hT : iR T
    · have eT : isI T = true := (isI_iff T).mpr hT
      have kk := kA ⟨hF, hT⟩
      refine pw_aload_n dX0_execute_40 rfl ?_
      refine lp_getj dX0_execute_41 fp_RX0_53.FL hb rfl ?_
      refine pw_topl F n1 ?_
      refine lp_cS1 (mi' := mX10_isInt) (As := [_]) dX0_execute_44 lk_RX0_112 mk_X10_isInt ms_X10_isInt ⟨by decide, by decide⟩ rfl rfl (Nat.le_of_ble_eq_true rfl) ⟨rfl, rfl⟩ ⟨Nat.zero_le _, Nat.zero_le _⟩ (x_isInt _ _) ?_
      rw [eF]
      refine pw_if_eq 60 dX0_execute_47 (by decide) (fun c_47 => absurd (show (1 : Int32) = 0 from c_47) (by decide)) (fun c_47 => ?_)
      refine pw_aload_n dX0_execute_50 rfl ?_
      refine lp_getj dX0_execute_51 fp_RX0_57.FL hb rfl ?_
      refine pw_topl T n2 ?_
      refine lp_cS1 (mi' := mX10_isInt) (As := [_]) dX0_execute_54 lk_RX0_112 mk_X10_isInt ms_X10_isInt ⟨by decide, by decide⟩ rfl rfl (Nat.le_of_ble_eq_true rfl) ⟨rfl, rfl⟩ ⟨Nat.zero_le _, Nat.zero_le _⟩ (x_isInt _ _) ?_
      rw [eT]
      refine pw_if_ne 114 dX0_execute_57 (by decide) (fun c_57 => ?_) (fun c_57 => absurd c_57 (by decide))
      exact pw_lk [(0, .ref (adr b)), (1, .ref (adr p)), (2, .int (nI i))] ⟨rfl, rfl, rfl, trivial⟩ kk
    · have eT : isI T = false := by
        cases h : isI T
        · rfl
        · exact absurd ((isI_iff T).mp h) hT
      have kk := kB (fun h => hT h.2)
      refine pw_aload_n dX0_execute_40 rfl ?_
      refine lp_getj dX0_execute_41 fp_RX0_53.FL hb rfl ?_
      refine pw_topl F n1 ?_
      refine lp_cS1 (mi' := mX10_isInt) (As := [_]) dX0_execute_44 lk_RX0_112 mk_X10_isInt ms_X10_isInt ⟨by decide, by decide⟩ rfl rfl (Nat.le_of_ble_eq_true rfl) ⟨rfl, rfl⟩ ⟨Nat.zero_le _, Nat.zero_le _⟩ (x_isInt _ _) ?_
      rw [eF]
      refine pw_if_eq 60 dX0_execute_47 (by decide) (fun c_47 => absurd (show (1 : Int32) = 0 from c_47) (by decide)) (fun c_47 => ?_)
      refine pw_aload_n dX0_execute_50 rfl ?_
      refine lp_getj dX0_execute_51 fp_RX0_57.FL hb rfl ?_
      refine pw_topl T n2 ?_
      refine lp_cS1 (mi' := mX10_isInt) (As := [_]) dX0_execute_54 lk_RX0_112 mk_X10_isInt ms_X10_isInt ⟨by decide, by decide⟩ rfl rfl (Nat.le_of_ble_eq_true rfl) ⟨rfl, rfl⟩ ⟨Nat.zero_le _, Nat.zero_le _⟩ (x_isInt _ _) ?_
      rw [eT]
      refine pw_if_ne 114 dX0_execute_57 (by decide) (fun c_57 => absurd c_57 (fun z => z rfl)) (fun c_57 => ?_)
      exact pw_lk [(0, .ref (adr b)), (1, .ref (adr p)), (2, .int (nI i))] ⟨rfl, rfl, rfl, trivial⟩ (exA_out hb hp hi F T n1 n2 kk)
  · have eF : isI F = false := by
      cases h : isI F
      · rfl
      · exact absurd ((isI_iff F).mp h) hF
    have kk := kB (fun h => hF h.1)
    refine pw_aload_n dX0_execute_40 rfl ?_
    refine lp_getj dX0_execute_41 fp_RX0_53.FL hb rfl ?_
    refine pw_topl F n1 ?_
    refine lp_cS1 (mi' := mX10_isInt) (As := [_]) dX0_execute_44 lk_RX0_112 mk_X10_isInt ms_X10_isInt ⟨by decide, by decide⟩ rfl rfl (Nat.le_of_ble_eq_true rfl) ⟨rfl, rfl⟩ ⟨Nat.zero_le _, Nat.zero_le _⟩ (x_isInt _ _) ?_
    rw [eF]
    refine pw_if_eq 60 dX0_execute_47 (by decide) (fun c_47 => ?_) (fun c_47 => absurd rfl c_47)
    exact pw_lk [(0, .ref (adr b)), (1, .ref (adr p)), (2, .int (nI i))] ⟨rfl, rfl, rfl, trivial⟩ (exA_out hb hp hi F T n1 n2 kk)
end XX
