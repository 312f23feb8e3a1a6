/-! THE CLASS: the saved states -/
section FRS
variable {lo hi : Nat} {σ τ : St}
theorem Fr.S {id : Nat} {f : Nat → Nat} (h : Fr lo hi σ τ) (h1 : lo ≤ id) (h2 : id < hi) : Fr lo hi σ (sS τ id f) := fun i hi => by
  obtain ⟨a, b, c, d, e⟩ := h i hi
  refine ⟨a, b, c, d, ?_⟩
  rw [← e]
  show (if i = id then f else τ.2.2.2.2 i) = _
  rw [if_neg (by omega)]
theorem gS {id : Nat} {f : Nat → Nat} : (sS σ id f).2.2.2.2 id = f := if_pos rfl
theorem sS_sS (σ : St) (id : Nat) (f g : Nat → Nat) : sS (sS σ id f) id g = sS σ id g := by
  unfold sS; congr 4; funext a; by_cases h : a = id <;> simp [h]
theorem sS_self (σ : St) (id : Nat) : sS σ id (σ.2.2.2.2 id) = σ := by
  unfold sS
  have e : (fun a => if a = id then σ.2.2.2.2 id else σ.2.2.2.2 a) = σ.2.2.2.2 := by funext a; by_cases h : a = id <;> simp [h]
  rw [e]
end FRS
/-- the four slots hold the four situations -/
def SlO (f : Nat → Nat) : Prop := (∀ j, j < 4 → f j = 26 ∨ f j = 38 ∨ f j = 50 ∨ f j = 62) ∧ ∀ i j, i < 4 → j < 4 → f i = f j → i = j
theorem SlO.k {f : Nat → Nat} (h : SlO f) {j : Nat} (hj : j < 4) : LX.1[f j]? = some (.inl 8) := by
  rcases h.1 j hj with e | e | e | e <;> rw [e] <;> rfl
theorem SlO.ge {f : Nat → Nat} (h : SlO f) {j : Nat} (hj : j < 4) : 26 ≤ f j ∧ f j + 12 ≤ 74 := by
  rcases h.1 j hj with e | e | e | e <;> rw [e] <;> decide
theorem SlO.ap {f : Nat → Nat} (h : SlO f) {i j : Nat} (hi : i < 4) (hj : j < 4) (hne : i ≠ j) : f i + 12 ≤ f j ∨ f j + 12 ≤ f i := by
  have hn : f i ≠ f j := fun e => hne (h.2 i j hi hj e)
  rcases h.1 i hi with e | e | e | e <;> rcases h.1 j hj with e' | e' | e' | e' <;> rw [e, e'] at hn ⊢ <;> first | omega | exact absurd rfl hn
/-- the situation at s is al's -/
def SvR (σ : St) (s : Nat) (al : Nat → Int32) : Prop := ∃ N, wfP al N ∧ PgR σ (s + 1) al N ∧ InL σ (s + 8) al ∧ InV σ (s + 8) al ∧ inOK al
theorem InL.fr {lo hi a : Nat} {σ τ : St} {al : Nat → Int32} (h : InL σ a al) (hF : Fr lo hi σ τ) (hd : a + 4 ≤ lo ∨ hi ≤ a) : InL τ a al := fun v hv => ⟨(congrFun (hF (a + 1) (by omega)).2.2.1 v).trans (h v hv).1, (congrFun (hF (a + 2) (by omega)).2.2.1 v).trans (h v hv).2⟩
theorem InV.fr {lo hi a : Nat} {σ τ : St} {al : Nat → Int32} (h : InV σ a al) (hF : Fr lo hi σ τ) (hd : a + 4 ≤ lo ∨ hi ≤ a) : InV τ a al := fun v hv => (congrFun (hF (a + 3) (by omega)).2.2.1 v).trans (h v hv)
theorem SvR.fr {lo hi s : Nat} {σ τ : St} {al : Nat → Int32} (h : SvR σ s al) (hF : Fr lo hi σ τ) (hd : s + 12 ≤ lo ∨ hi ≤ s) : SvR τ s al := by
  obtain ⟨N, h1, h2, h3, h4, h5⟩ := h
  exact ⟨N, h1, h2.fr hF (by omega), h3.fr hF (by omega), h4.fr hF (by omega), h5⟩
theorem SvR.congr {s : Nat} {σ : St} {al al' : Nat → Int32} (h : SvR σ s al) (he : ∀ k, k < 145 → al k = al' k) : SvR σ s al' := by
  obtain ⟨N, h1, h2, h3, h4, h5⟩ := h
  exact ⟨N, wfP_congr (fun k hk => he k (by omega)) h1, h2.congr (fun k hk => he k (by omega)) h1.1, fun v hv => ⟨(h3 v hv).1.trans (he _ (by omega)), (h3 v hv).2.trans (he _ (by omega))⟩, fun v hv => (h4 v hv).trans (he _ (by omega)), fun v hv => by rw [← he _ (by omega), ← he _ (by omega)]; exact h5 v hv⟩
/-- a copied situation -/
theorem SvR.copy {a b N : Nat} {σ τ : St} {al : Nat → Int32} (hW : wfP al N) (hR : PgR σ (a + 1) al N) (hL : InL σ (a + 8) al) (hV : InV σ (a + 8) al) (hO : inOK al) (hp : PEq σ (a + 1) τ (b + 1) N) (hi : IEq σ (a + 8) τ (b + 8)) : PgR τ (b + 1) al N ∧ InL τ (b + 8) al ∧ InV τ (b + 8) al := by
  refine ⟨⟨hp.1.trans hR.1, fun i hi2 => ?_⟩, fun v hv => ?_, fun v hv => ?_⟩
  · obtain ⟨c1, c2, c3, c4, c5, c6⟩ := hp.2 i hi2
    obtain ⟨r1, r2, r3, r4, r5, r6⟩ := hR.2 i hi2
    exact ⟨c1.trans r1, c2.trans r2, c3.trans r3, c4.trans r4, c5.trans r5, c6.trans r6⟩
  · obtain ⟨c1, c2, c3⟩ := hi v hv
    exact ⟨c1.trans (hL v hv).1, c2.trans (hL v hv).2⟩
  · obtain ⟨c1, c2, c3⟩ := hi v hv
    exact c3.trans (hV v hv)
def HiR (σ : St) (m : Nat) (sv : Nat → Int32) : Prop := σ.1 24 0 = nI m ∧ m ≤ 4 ∧ SlO (σ.2.2.2.2 25) ∧ ∀ k, k < m → SvR σ (σ.2.2.2.2 25 k) (fun i => sv (145 * k + i))
theorem HiR.fr {lo hi m : Nat} {σ τ : St} {sv : Nat → Int32} (h : HiR σ m sv) (hF : Fr lo hi σ τ) (hd : 74 ≤ lo ∨ hi ≤ 24) : HiR τ m sv := by
  obtain ⟨h1, h2, h3, h4⟩ := h
  have e : τ.2.2.2.2 25 = σ.2.2.2.2 25 := (hF 25 (by omega)).2.2.2.2
  refine ⟨(congrFun (hF 24 (by omega)).1 0).trans h1, h2, by rw [e]; exact h3, fun k hk => ?_⟩
  rw [e]
  have := h3.ge (show k < 4 by omega)
  exact (h4 k hk).fr hF (by omega)
section XH
variable {l : Launch} {G : cxG} {adr : Nat → Nat} {Lf Rt : va_W} {σ : St} {al sv : Nat → Int32} {N m : Nat}
theorem sv_tail {sz : Nat} {w0 : va_W} {fin : OC → Prop} (hP : PI σ al N) (hm : m < 4) (h1 : σ.1 24 0 = nI m) (hS : SlO (σ.2.2.2.2 25))
    (kk : ∀ τ, Fr 24 74 σ (sI τ 24 0 (nI (m + 1))) → (sI τ 24 0 (nI (m + 1))).2.2.2.2 25 = σ.2.2.2.2 25 → Fr (σ.2.2.2.2 25 m) (σ.2.2.2.2 25 m + 12) σ τ → SvR τ (σ.2.2.2.2 25 m) al → fin (.inl (none, wp G adr LX Lf Rt (sI τ 24 0 (nI (m + 1)))))) :
    PW l G mX2_save w0 sz fin 12 [(0, .ref (adr 24)), (1, .ref (adr 12))] [] 0 0 (wp G adr LX Lf Rt σ) := by
  have em : (nI m).toNatClampNeg = m := nI_clamp (by omega)
  have hk := hS.k hm
  have hg := hS.ge hm
  obtain ⟨p1, p2, p3, p4, p5⟩ := hP
  refine pw_aload_n dX2_save_12 rfl ?_
  refine lp_getr 25 dX2_save_13 fp_RX2_17.FL rfl rfl rfl ?_
  refine pw_aload_n dX2_save_16 rfl ?_
  refine lp_geti dX2_save_17 fp_RX2_9.FL rfl rfl ?_
  refine pw_top (nI m) h1 ?_
  refine lp_aald dX2_save_20 rfl (vp_in_nI hm (by decide)) ?_
  rw [em]
  refine pw_aload_n dX2_save_21 rfl ?_
  refine lp_rV0 (mi' := mX8_copyFrom) (As := [_]) (q := (RX8, TX8, 2)) dX2_save_22 lk_RX2_25 mk_X8_copyFrom mi_X8_copyFrom me_X8_copyFrom ⟨by decide, by decide⟩ rfl rfl (Nat.le_of_ble_eq_true rfl) hk rfl ⟨rfl, rfl⟩ ⟨Nat.zero_le _, Nat.zero_le _⟩ (x_Scopy (a := 12) (n := N) rfl hk (by omega) p1.1 p2.1) (fun τ hQ => ?_)
  refine pw_aload_n dX2_save_25 rfl ?_
  refine pw_dup dX2_save_26 rfl ?_
  refine lp_geti dX2_save_27 fp_RX2_9.FL rfl rfl ?_
  refine pw_top (nI m) ((congrFun (hQ.1 24 (by omega)).1 0).trans h1) ?_
  refine pw_iconst (v := 1) dX2_save_30 rfl ?_
  refine pw_iadd dX2_save_31 ?_
  refine pw_top (nI (m + 1)) (nI_1 m) ?_
  refine lp_puti dX2_save_32 fp_RX2_9 rfl rfl rfl rfl ?_
  exact pw_vret rfl dX2_save_35 (Nat.zero_le _) (Nat.zero_le _) (by
    refine kk τ (Fr.I (hQ.1.mono (by omega) (by omega)) (by omega) (by omega)) ((hQ.1 25 (by omega)).2.2.2.2) hQ.1 ?_
    obtain ⟨c1, c2, c3⟩ := SvR.copy (a := 12) p1 p2 p3 p4 p5 hQ.2.1 hQ.2.2
    exact ⟨N, p1, c1, c2, c3, p5⟩)
theorem dr_loop {sz : Nat} {w0 : va_W} {fin : OC → Prop} {f : Nat → Nat} (hS : SlO f) (kk : ∀ g : Nat → Nat, g 0 = f 1 → g 1 = f 2 → g 2 = f 3 → g 3 = f 3 → PW l G mX2_dropOldest w0 sz fin 34 [(0, .ref (adr 24)), (1, .ref (adr (f 0)))] [] 0 0 (wp G adr LX Lf Rt (sS σ 25 g))) :
    ∀ (r i : Nat), i + r = 4 → 1 ≤ i → ∀ g : Nat → Nat, (∀ j, j + 1 < i → g j = f (j + 1)) → (∀ j, i ≤ j + 1 → j < 4 → g j = f j) → PW l G mX2_dropOldest w0 sz fin 9 [(0, .ref (adr 24)), (1, .ref (adr (f 0))), (2, .int (nI i))] [] 0 0 (wp G adr LX Lf Rt (sS σ 25 g)) := by
  intro r
  induction r with
  | zero =>
    intro i hi h1 g g1 g2
    have hi : i = 4 := by omega
    subst hi
    refine pw_iload_n dX2_dropOldest_9 rfl ?_
    refine pw_iconst (v := 4) dX2_dropOldest_10 rfl ?_
    refine pw_icmp_ge 34 dX2_dropOldest_11 (by decide) (fun c_11 => ?_) (fun c_11 => absurd (by decide) c_11)
    exact pw_lk [(0, .ref (adr 24)), (1, .ref (adr (f 0)))] ⟨rfl, rfl, trivial⟩ (kk g (g1 0 (by omega)) (g1 1 (by omega)) (g1 2 (by omega)) (g2 3 (by omega) (by omega)))
  | succ r ih =>
    intro i hi h1 g g1 g2
    have hi4 : i < 4 := by omega
    have ei : (nI i).toNatClampNeg = i := nI_clamp (by omega)
    have bi : vp_in (nI i) 4 := vp_in_nI hi4 (by decide)
    have e1 : nI i - 1 = nI (i - 1) := nI_m1 h1
    have ei1 : (nI (i - 1)).toNatClampNeg = i - 1 := nI_clamp (by omega)
    have bi1 : vp_in (nI (i - 1)) 4 := vp_in_nI (by omega) (by decide)
    have egi : (sS σ 25 g).2.2.2.2 25 (nI i).toNatClampNeg = f i := by rw [gS, ei]; exact g2 i (by omega) hi4
    refine pw_iload_n dX2_dropOldest_9 rfl ?_
    refine pw_iconst (v := 4) dX2_dropOldest_10 rfl ?_
    refine pw_icmp_ge 34 dX2_dropOldest_11 (by decide) (fun c_11 => absurd c_11 (nI_ge (a := i) (b := 4) hi4 (by decide))) (fun c_11 => ?_)
    refine pw_aload_n dX2_dropOldest_14 rfl ?_
    refine lp_getr 25 dX2_dropOldest_15 fp_RX2_17.FL rfl rfl rfl ?_
    refine pw_iload_n dX2_dropOldest_18 rfl ?_
    refine pw_iconst (v := 1) dX2_dropOldest_19 rfl ?_
    refine pw_isub dX2_dropOldest_20 ?_
    refine pw_top (nI (i - 1)) e1 ?_
    refine pw_aload_n dX2_dropOldest_21 rfl ?_
    refine lp_getr 25 dX2_dropOldest_22 fp_RX2_17.FL rfl rfl rfl ?_
    refine pw_iload_n dX2_dropOldest_25 rfl ?_
    refine lp_aald dX2_dropOldest_26 rfl bi ?_
    rw [egi]
    refine lp_aast dX2_dropOldest_27 rfl (hS.k hi4) rfl bi1 ?_
    rw [sS_sS, gS, ei1]
    refine pw_iinc dX2_dropOldest_28 rfl (by decide) ?_
    refine pw_goto (tgt := 9) dX2_dropOldest_31 (by decide) ?_
    refine pw_lk [(0, .ref (adr 24)), (1, .ref (adr (f 0))), (2, .int (nI (i + 1)))] ⟨rfl, rfl, congrArg (fun x => some (Value.int x)) (nI_1 i), trivial⟩ (ih (i + 1) (by omega) (by omega) _ ?_ ?_)
    · intro j hj
      unfold va_up
      by_cases e : j = i - 1
      · rw [if_pos e, e, show i - 1 + 1 = i by omega]
      · rw [if_neg e]; exact g1 j (by omega)
    · intro j h1 h2
      unfold va_up
      rw [if_neg (by omega)]
      exact g2 j (by omega) h2
theorem x_drop (h4 : σ.1 24 0 = nI 4) (hS : SlO (σ.2.2.2.2 25)) : SpR0 l G mX2_dropOldest [.ref (adr 24)] adr LX Lf Rt σ (fun τ => Fr 24 26 σ τ ∧ τ.1 24 0 = nI 3 ∧ τ.2.2.2.2 25 0 = σ.2.2.2.2 25 1 ∧ τ.2.2.2.2 25 1 = σ.2.2.2.2 25 2 ∧ τ.2.2.2.2 25 2 = σ.2.2.2.2 25 3 ∧ τ.2.2.2.2 25 3 = σ.2.2.2.2 25 0) := by
  refine spec_of (by decide) (Nat.le_of_ble_eq_true rfl) (fun sz => ?_)
  have b3 : vp_in (3 : Int32) 4 := vp_in_nI (n := 3) (by decide) (by decide)
  refine pw_aload_n dX2_dropOldest_0 rfl ?_
  refine lp_getr 25 dX2_dropOldest_1 fp_RX2_17.FL rfl rfl rfl ?_
  refine pw_iconst (v := 0) dX2_dropOldest_4 rfl ?_
  refine lp_aald dX2_dropOldest_5 rfl (vp_in_nI (n := 0) (by decide) (by decide)) ?_
  rw [show (0 : Int32).toNatClampNeg = 0 from rfl]
  refine pw_astore_n dX2_dropOldest_6 (by decide) ?_
  refine pw_iconst (v := 1) dX2_dropOldest_7 rfl ?_
  refine pw_istore_n dX2_dropOldest_8 (by decide) ?_
  refine pw_lk [(0, .ref (adr 24)), (1, .ref (adr (σ.2.2.2.2 25 0))), (2, .int (nI 1))] ⟨rfl, rfl, rfl, trivial⟩ (pw_st (sS_self σ 25).symm (dr_loop hS (fun g k0 k1 k2 k3 => ?_) 3 1 rfl (Nat.le_refl 1) _ (fun j hj => absurd hj (by omega)) (fun j _ _ => rfl)))
  refine pw_aload_n dX2_dropOldest_34 rfl ?_
  refine lp_getr 25 dX2_dropOldest_35 fp_RX2_17.FL rfl rfl rfl ?_
  refine pw_iconst (v := 3) dX2_dropOldest_38 rfl ?_
  refine pw_aload_n dX2_dropOldest_39 rfl ?_
  refine lp_aast dX2_dropOldest_40 rfl (hS.k (show 0 < 4 by decide)) rfl b3 ?_
  rw [sS_sS, gS, show (3 : Int32).toNatClampNeg = 3 from rfl]
  refine pw_aload_n dX2_dropOldest_41 rfl ?_
  refine pw_dup dX2_dropOldest_42 rfl ?_
  refine lp_geti dX2_dropOldest_43 fp_RX2_9.FL rfl rfl ?_
  refine pw_top (nI 4) h4 ?_
  refine pw_iconst (v := 1) dX2_dropOldest_46 rfl ?_
  refine pw_isub dX2_dropOldest_47 ?_
  refine lp_puti dX2_dropOldest_48 fp_RX2_9 rfl rfl rfl rfl ?_
  exact pw_vret rfl dX2_dropOldest_51 (Nat.zero_le _) (Nat.zero_le _) ⟨_, rfl, Fr.I (Fr.S Fr.rf (by omega) (by omega)) (by omega) (by omega), by rw [gI]; decide, (congrFun gS 0).trans k0, (congrFun gS 1).trans k1, (congrFun gS 2).trans k2, congrFun gS 3⟩
theorem SlO.rot {f g : Nat → Nat} (h : SlO f) (h0 : g 0 = f 1) (h1 : g 1 = f 2) (h2 : g 2 = f 3) (h3 : g 3 = f 0) : SlO g := by
  have q : ∀ j, j < 4 → ∃ k, k < 4 ∧ g j = f k ∧ (k = j + 1 ∨ (j = 3 ∧ k = 0)) := by
    intro j hj
    rcases (show j = 0 ∨ j = 1 ∨ j = 2 ∨ j = 3 by omega) with e | e | e | e <;> subst e
    · exact ⟨1, by omega, h0, Or.inl rfl⟩
    · exact ⟨2, by omega, h1, Or.inl rfl⟩
    · exact ⟨3, by omega, h2, Or.inl rfl⟩
    · exact ⟨0, by omega, h3, Or.inr ⟨rfl, rfl⟩⟩
  refine ⟨fun j hj => ?_, fun i j hi hj e => ?_⟩
  · obtain ⟨k, k1, k2, -⟩ := q j hj
    rw [k2]; exact h.1 k k1
  · obtain ⟨a, a1, a2, a3⟩ := q i hi
    obtain ⟨b, b1, b2, b3⟩ := q j hj
    have := h.2 a b a1 b1 (by rw [← a2, ← b2]; exact e)
    omega
theorem x_saveG (hP : PI σ al N) (hH : HiR σ m sv) : SpR0 l G mX2_save [.ref (adr 24), .ref (adr 12)] adr LX Lf Rt σ (fun τ => Fr 24 74 σ τ ∧ HiR τ (mSaveM m + 1) (mSaveF al sv m)) := by
  refine spec_of (by decide) (Nat.le_of_ble_eq_true rfl) (fun sz => ?_)
  obtain ⟨h1, h2, h3, h4⟩ := hH
  by_cases hm : m = 4
  · subst hm
    refine pw_aload_n dX2_save_0 rfl ?_
    refine lp_geti dX2_save_1 fp_RX2_9.FL rfl rfl ?_
    refine pw_top (nI 4) h1 ?_
    refine pw_iconst (v := 4) dX2_save_4 rfl ?_
    refine pw_icmp_ne 12 dX2_save_5 (by decide) (fun c_5 => absurd c_5 (fun z => z rfl)) (fun c_5 => ?_)
    refine pw_aload_n dX2_save_8 rfl ?_
    refine lp_rV0 (mi' := mX2_dropOldest) (As := []) (q := (RX2, TX2, 2)) dX2_save_9 lk_RX2_22 mk_X2_dropOldest mi_X2_dropOldest me_X2_dropOldest ⟨by decide, by decide⟩ rfl rfl (Nat.le_of_ble_eq_true rfl) rfl rfl ⟨rfl, rfl⟩ ⟨Nat.zero_le _, Nat.zero_le _⟩ (x_drop h1 h3) (fun ρ hD => ?_)
    obtain ⟨d1, d2, d3, d4, d5, d6⟩ := hD
    have hS := h3.rot d3 d4 d5 d6
    refine pw_lk [(0, .ref (adr 24)), (1, .ref (adr 12))] ⟨rfl, rfl, trivial⟩ (sv_tail (σ := ρ) (al := al) (N := N) (m := 3) (hP.fr d1 (by omega)) (by decide) d2 hS (fun τ k1 k2 k3 k4 => ⟨_, rfl, (d1.mono (by omega) (by omega)).tr k1, gI, by decide, by rw [k2]; exact hS, fun k hk => ?_⟩))
    have hk : k < 4 := hk
    rw [k2]
    have hg := hS.ge hk
    by_cases e : k = 3
    · subst e
      refine SvR.congr (SvR.fr k4 (Fr.I (lo := 24) (hi := 25) Fr.rf (by omega) (by omega)) (by omega)) (fun i hi => ?_)
      show al i = mSaveF al sv 4 (145 * 3 + i)
      unfold mSaveF mSaveM
      rw [if_pos rfl, if_pos ⟨by omega, by omega⟩]
      exact congrArg al (by omega)
    · have hap := hS.ap hk (show 3 < 4 by decide) e
      have e1 : ρ.2.2.2.2 25 k = σ.2.2.2.2 25 (k + 1) := by
        rcases (show k = 0 ∨ k = 1 ∨ k = 2 by omega) with q | q | q <;> subst q
        · exact d3
        · exact d4
        · exact d5
      have s1 := (h4 (k + 1) (by omega))
      rw [← e1] at s1
      refine SvR.congr (SvR.fr ((s1.fr d1 (by omega)).fr k3 (by omega)) (Fr.I (lo := 24) (hi := 25) Fr.rf (by omega) (by omega)) (by omega)) (fun i hi => ?_)
      show sv (145 * (k + 1) + i) = mSaveF al sv 4 (145 * k + i)
      unfold mSaveF mSaveM mSaveB
      rw [if_pos rfl, if_neg (by omega), if_pos rfl, if_pos (by omega)]
      exact congrArg sv (by omega)
  · have hM : mSaveM m = m := by unfold mSaveM; rw [if_neg hm]
    rw [hM]
    refine pw_aload_n dX2_save_0 rfl ?_
    refine lp_geti dX2_save_1 fp_RX2_9.FL rfl rfl ?_
    refine pw_top (nI m) h1 ?_
    refine pw_iconst (v := 4) dX2_save_4 rfl ?_
    refine pw_icmp_ne 12 dX2_save_5 (by decide) (fun c_5 => ?_) (fun c_5 => absurd c_5 (fun q => hm ((nI_eq (a := m) (b := 4) (by omega) (by decide)).mp q)))
    refine pw_lk [(0, .ref (adr 24)), (1, .ref (adr 12))] ⟨rfl, rfl, trivial⟩ (sv_tail (al := al) (N := N) (m := m) hP (by omega) h1 h3 (fun τ k1 k2 k3 k4 => ⟨_, rfl, k1, gI, by omega, by rw [k2]; exact h3, fun k hk => ?_⟩))
    rw [k2]
    have hg := h3.ge (show k < 4 by omega)
    by_cases e : k = m
    · subst e
      refine SvR.congr (SvR.fr k4 (Fr.I (lo := 24) (hi := 25) Fr.rf (by omega) (by omega)) (by omega)) (fun i hi => ?_)
      show al i = mSaveF al sv k (145 * k + i)
      unfold mSaveF
      rw [hM, if_pos ⟨by omega, by omega⟩]
      exact congrArg al (by omega)
    · have hap := h3.ap (show k < 4 by omega) (show m < 4 by omega) e
      refine SvR.congr (SvR.fr ((h4 k (by omega)).fr k3 (by omega)) (Fr.I (lo := 24) (hi := 25) Fr.rf (by omega) (by omega)) (by omega)) (fun i hi => ?_)
      show sv (145 * k + i) = mSaveF al sv m (145 * k + i)
      unfold mSaveF mSaveB
      rw [hM, if_neg (by omega), if_neg hm]
end XH
