/-! THE CLASS: Plan.make, Run.goOptimized: they return; freshening -/
def PlR (σ : St) (q : Nat) (al : Nat → Int32) (N : Nat) : Prop := ∀ i, i < N → σ.2.2.1 (q + 1) i = 3 → ¬ 4 ≤ kdA al i
theorem PlR.fr {lo hi q N : Nat} {σ τ : St} {al : Nat → Int32} (h : PlR σ q al N) (hF : Fr lo hi σ τ) (hd : q + 4 ≤ lo ∨ hi ≤ q) : PlR τ q al N := fun i hi h3 => h i hi ((congrFun (hF (q + 1) (by omega)).2.2.1 i).symm.trans h3)
section XM
variable {l : Launch} {G : cxG} {adr : Nat → Nat} {Lf Rt : va_W} {σ : St}
theorem mk_1 {sz : Nat} {w0 : va_W} {fin : OC → Prop} {q p b : Nat} (hq : LX.1[q]? = some (.inl 5))
    (kk : ∀ τ, Fr q (q + 4) σ τ → PW l G mX5_make w0 sz fin 21 [(0, .ref (adr q)), (1, .ref (adr p)), (2, .ref (adr b))] [] 0 0 (wp G adr LX Lf Rt τ)) :
    ∀ (r i : Nat), i + r = 30 → ∀ τ, Fr q (q + 4) σ τ → PW l G mX5_make w0 sz fin 2 [(0, .ref (adr q)), (1, .ref (adr p)), (2, .ref (adr b)), (3, .int (nI i))] [] 0 0 (wp G adr LX Lf Rt τ) := by
  intro r
  induction r with
  | zero =>
    intro i hi τ hF
    have hi : i = 30 := by omega
    subst hi
    refine pw_iload_n dX5_make_2 rfl ?_
    refine pw_bipush (v := 30) dX5_make_3 rfl ?_
    refine pw_icmp_ge 21 dX5_make_5 (by decide) (fun c_5 => ?_) (fun c_5 => absurd (nI_le (Nat.le_refl 30) (by decide)) c_5)
    exact pw_lk [(0, .ref (adr q)), (1, .ref (adr p)), (2, .ref (adr b))] ⟨rfl, rfl, rfl, trivial⟩ (kk τ hF)
  | succ r ih =>
    intro i hi τ hF
    have bi : vp_in (nI i) 30 := vp_in_nI (by omega) (by decide)
    refine pw_iload_n dX5_make_2 rfl ?_
    refine pw_bipush (v := 30) dX5_make_3 rfl ?_
    refine pw_icmp_ge 21 dX5_make_5 (by decide) (fun c_5 => absurd c_5 (nI_ge (a := i) (b := 30) (by omega) (by decide))) (fun c_5 => ?_)
    refine pw_aload_n dX5_make_8 rfl ?_
    refine lp_getr (q + 3) dX5_make_9 fp_RX5_18.FL hq rfl (rX5_2 hq) ?_
    refine pw_iload_n dX5_make_12 rfl ?_
    refine pw_iconst (v := 0) dX5_make_13 rfl ?_
    refine lp_zast dX5_make_14 (kX5_2 hq) bi rfl ?_
    refine pw_iinc dX5_make_15 rfl (by decide) ?_
    refine pw_goto (tgt := 2) dX5_make_18 (by decide) ?_
    exact pw_lk [(0, .ref (adr q)), (1, .ref (adr p)), (2, .ref (adr b)), (3, .int (nI (i + 1)))] ⟨rfl, rfl, rfl, congrArg (fun x => some (Value.int x)) (nI_1 i), trivial⟩ (ih (i + 1) (by omega) _ (Fr.A hF (by omega) (by omega)))
theorem mk_2 {sz : Nat} {w0 : va_W} {fin : OC → Prop} {q p b N : Nat} {al : Nat → Int32} (hq : LX.1[q]? = some (.inl 5)) (hp : LX.1[p]? = some (.inl 6)) (hb : LX.1[b]? = some (.inl 0)) (hpq : p + 7 ≤ q ∨ q + 4 ≤ p) (hN : N ≤ 30) (hR : PgR σ p al N)
    (kk : ∀ τ, Fr q (q + 4) σ τ → PW l G mX5_make w0 sz fin 71 [(0, .ref (adr q)), (1, .ref (adr p)), (2, .ref (adr b))] [] 0 0 (wp G adr LX Lf Rt τ)) :
    ∀ (r i : Nat), i + r = N → ∀ τ, Fr q (q + 4) σ τ → PW l G mX5_make w0 sz fin 23 [(0, .ref (adr q)), (1, .ref (adr p)), (2, .ref (adr b)), (3, .int (nI i))] [] 0 0 (wp G adr LX Lf Rt τ) := by
  intro r
  induction r with
  | zero =>
    intro i hi τ hF
    have hi : i = N := by omega
    subst hi
    have ecnt : τ.1 p 0 = nI i := (hR.fr hF (by omega)).1
    refine pw_iload_n dX5_make_23 rfl ?_
    refine pw_aload_n dX5_make_24 rfl ?_
    refine lp_geti dX5_make_25 fp_RX5_22.FL hp rfl ?_
    refine pw_top (nI i) ecnt ?_
    refine pw_icmp_ge 71 dX5_make_28 (by decide) (fun c_28 => ?_) (fun c_28 => absurd (nI_le (Nat.le_refl i) (by omega)) c_28)
    exact pw_lk [(0, .ref (adr q)), (1, .ref (adr p)), (2, .ref (adr b))] ⟨rfl, rfl, rfl, trivial⟩ (kk τ hF)
  | succ r ih =>
    intro i hi τ hF
    have ecnt : τ.1 p 0 = nI N := (hR.fr hF (by omega)).1
    have bi : vp_in (nI i) 30 := vp_in_nI (by omega) (by decide)
    have hfc := x_findCover (l := l) (G := G) (adr := adr) (Lf := Lf) (Rt := Rt) (σ := τ) hb hp hN ecnt i (by omega)
    refine pw_iload_n dX5_make_23 rfl ?_
    refine pw_aload_n dX5_make_24 rfl ?_
    refine lp_geti dX5_make_25 fp_RX5_22.FL hp rfl ?_
    refine pw_top (nI N) ecnt ?_
    refine pw_icmp_ge 71 dX5_make_28 (by decide) (fun c_28 => absurd c_28 (nI_ge (by omega) (by omega))) (fun c_28 => ?_)
    refine pw_aload_n dX5_make_31 rfl ?_
    refine lp_getr (q + 2) dX5_make_32 fp_RX5_15.FL hq rfl (rX5_1 hq) ?_
    refine pw_iload_n dX5_make_35 rfl ?_
    refine pw_aload_n dX5_make_36 rfl ?_
    refine pw_aload_n dX5_make_37 rfl ?_
    refine pw_iload_n dX5_make_38 rfl ?_
    refine lp_rS1 (mi' := mX5_findCover) (As := [_, _, _]) dX5_make_39 lk_RX5_28 mk_X5_findCover ms_X5_findCover ⟨by decide, by decide⟩ rfl rfl (Nat.le_of_ble_eq_true rfl) ⟨rfl, rfl⟩ ⟨Nat.zero_le _, Nat.zero_le _⟩ hfc (fun v ρ hv => ?_)
    obtain ⟨rfl, x, rfl, hx⟩ := hv
    refine lp_iast dX5_make_42 (kX5_1 hq) bi ?_
    refine pw_aload_n dX5_make_43 rfl ?_
    refine lp_getr (q + 2) dX5_make_44 fp_RX5_15.FL hq rfl (rX5_1 hq) ?_
    refine pw_iload_n dX5_make_47 rfl ?_
    refine lp_iald dX5_make_48 (kX5_1 hq) bi ?_
    refine pw_top x (by rw [gA]; exact upd_s) ?_
    refine pw_iconst (v := -1) dX5_make_49 rfl ?_
    refine pw_icmp_eq 65 dX5_make_50 (by decide) (fun c_50 => ?_) (fun c_50 => ?_)
    · refine pw_iinc dX5_make_65 rfl (by decide) ?_
      refine pw_goto (tgt := 23) dX5_make_68 (by decide) ?_
      first
        | exact pw_lk [(0, .ref (adr q)), (1, .ref (adr p)), (2, .ref (adr b)), (3, .int (nI (i + 1)))] ⟨rfl, rfl, rfl, congrArg (fun x => some (Value.int x)) (nI_1 i), trivial⟩ (ih (i + 1) (by omega) _ (Fr.A (Fr.A hF (by omega) (by omega)) (by omega) (by omega)))
        | exact pw_lk [(0, .ref (adr q)), (1, .ref (adr p)), (2, .ref (adr b)), (3, .int (nI (i + 1)))] ⟨rfl, rfl, rfl, congrArg (fun x => some (Value.int x)) (nI_1 i), trivial⟩ (ih (i + 1) (by omega) _ (Fr.A hF (by omega) (by omega)))
    · refine pw_aload_n dX5_make_53 rfl ?_
      refine lp_getr (q + 3) dX5_make_54 fp_RX5_18.FL hq rfl (rX5_2 hq) ?_
      refine pw_aload_n dX5_make_57 rfl ?_
      refine lp_getr (q + 2) dX5_make_58 fp_RX5_15.FL hq rfl (rX5_1 hq) ?_
      refine pw_iload_n dX5_make_61 rfl ?_
      refine lp_iald dX5_make_62 (kX5_1 hq) bi ?_
      refine pw_top x (by rw [gA]; exact upd_s) ?_
      refine pw_iconst (v := 1) dX5_make_63 rfl ?_
      refine lp_zast dX5_make_64 (kX5_2 hq) (by rcases hx with h | ⟨j, h1, h2⟩; exact absurd h c_50; rw [h2]; exact vp_in_nI (by omega) (by decide)) rfl ?_
      refine pw_iinc dX5_make_65 rfl (by decide) ?_
      refine pw_goto (tgt := 23) dX5_make_68 (by decide) ?_
      first
        | exact pw_lk [(0, .ref (adr q)), (1, .ref (adr p)), (2, .ref (adr b)), (3, .int (nI (i + 1)))] ⟨rfl, rfl, rfl, congrArg (fun x => some (Value.int x)) (nI_1 i), trivial⟩ (ih (i + 1) (by omega) _ (Fr.A (Fr.A hF (by omega) (by omega)) (by omega) (by omega)))
        | exact pw_lk [(0, .ref (adr q)), (1, .ref (adr p)), (2, .ref (adr b)), (3, .int (nI (i + 1)))] ⟨rfl, rfl, rfl, congrArg (fun x => some (Value.int x)) (nI_1 i), trivial⟩ (ih (i + 1) (by omega) _ (Fr.A hF (by omega) (by omega)))
theorem mk_3 {sz : Nat} {w0 : va_W} {fin : OC → Prop} {q p b N : Nat} {al : Nat → Int32} (hq : LX.1[q]? = some (.inl 5)) (hp : LX.1[p]? = some (.inl 6)) (hb : LX.1[b]? = some (.inl 0)) (hpq : p + 7 ≤ q ∨ q + 4 ≤ p) (hW : wfP al N) (hR : PgR σ p al N)
    (kk : ∀ τ, Fr q (q + 4) σ τ → PlR τ q al N → fin (.inl (none, wp G adr LX Lf Rt τ))) :
    ∀ (r i : Nat), i + r = N → ∀ τ, Fr q (q + 4) σ τ → (∀ j, j < i → τ.2.2.1 (q + 1) j = 3 → ¬ 4 ≤ kdA al j) → PW l G mX5_make w0 sz fin 73 [(0, .ref (adr q)), (1, .ref (adr p)), (2, .ref (adr b)), (3, .int (nI i))] [] 0 0 (wp G adr LX Lf Rt τ) := by
  intro r
  have hN := hW.1
  induction r with
  | zero =>
    intro i hi τ hF hJ
    have hi : i = N := by omega
    subst hi
    have ecnt : τ.1 p 0 = nI i := (hR.fr hF (by omega)).1
    refine pw_iload_n dX5_make_73 rfl ?_
    refine pw_aload_n dX5_make_74 rfl ?_
    refine lp_geti dX5_make_75 fp_RX5_22.FL hp rfl ?_
    refine pw_top (nI i) ecnt ?_
    refine pw_icmp_ge 100 dX5_make_78 (by decide) (fun c_78 => ?_) (fun c_78 => absurd (nI_le (Nat.le_refl i) (by omega)) c_78)
    exact pw_vret rfl dX5_make_100 (Nat.zero_le _) (Nat.zero_le _) (kk τ hF hJ)
  | succ r ih =>
    intro i hi τ hF hJ
    have hR1 : PgR τ p al N := hR.fr hF (by omega)
    have bi : vp_in (nI i) 30 := vp_in_nI (by omega) (by decide)
    have ei : (nI i).toNatClampNeg = i := nI_clamp (by omega)
    have hfs := x_findState (l := l) (G := G) (adr := adr) (Lf := Lf) (Rt := Rt) (σ := τ) hq hp hb hW hR1 i (by omega)
    refine pw_iload_n dX5_make_73 rfl ?_
    refine pw_aload_n dX5_make_74 rfl ?_
    refine lp_geti dX5_make_75 fp_RX5_22.FL hp rfl ?_
    refine pw_top (nI N) hR1.1 ?_
    refine pw_icmp_ge 100 dX5_make_78 (by decide) (fun c_78 => absurd c_78 (nI_ge (by omega) (by omega))) (fun c_78 => ?_)
    refine pw_aload_n dX5_make_81 rfl ?_
    refine lp_getr (q + 1) dX5_make_82 fp_RX5_9.FL hq rfl (rX5_0 hq) ?_
    refine pw_iload_n dX5_make_85 rfl ?_
    refine pw_aload_n dX5_make_86 rfl ?_
    refine pw_aload_n dX5_make_87 rfl ?_
    refine pw_aload_n dX5_make_88 rfl ?_
    refine pw_iload_n dX5_make_89 rfl ?_
    refine lp_rV1 (mi' := mX5_findState) (As := [_, _, _]) (q := (RX5, TX5, 3)) dX5_make_90 lk_RX5_32 mk_X5_findState mi_X5_findState me_X5_findState ⟨by decide, by decide⟩ rfl rfl (Nat.le_of_ble_eq_true rfl) hq rfl ⟨rfl, rfl⟩ ⟨Nat.zero_le _, Nat.zero_le _⟩ hfs (fun v ρ hv => ?_)
    obtain ⟨rfl, x, rfl, hx⟩ := hv
    refine lp_iast dX5_make_93 (kX5_0 hq) bi ?_
    refine pw_iinc dX5_make_94 rfl (by decide) ?_
    refine pw_goto (tgt := 73) dX5_make_97 (by decide) ?_
    refine pw_lk [(0, .ref (adr q)), (1, .ref (adr p)), (2, .ref (adr b)), (3, .int (nI (i + 1)))] ⟨rfl, rfl, rfl, congrArg (fun x => some (Value.int x)) (nI_1 i), trivial⟩ (ih (i + 1) (by omega) _ (Fr.A hF (by omega) (by omega)) ?_)
    intro j hj h3
    rw [gA, ei] at h3
    unfold upd at h3
    by_cases e : j = i
    · rw [if_pos e] at h3; rw [e]; exact hx h3
    · rw [if_neg e] at h3; exact hJ j (by omega) h3
theorem x_make {q p b N : Nat} {al : Nat → Int32} (hq : LX.1[q]? = some (.inl 5)) (hp : LX.1[p]? = some (.inl 6)) (hb : LX.1[b]? = some (.inl 0)) (hpq : p + 7 ≤ q ∨ q + 4 ≤ p) (hW : wfP al N) (hR : PgR σ p al N) : SpR0 l G mX5_make [.ref (adr q), .ref (adr p), .ref (adr b)] adr LX Lf Rt σ (fun τ => Fr q (q + 4) σ τ ∧ PlR τ q al N) := by
  refine spec_of (by decide) (Nat.le_of_ble_eq_true rfl) (fun sz => ?_)
  refine pw_iconst (v := 0) dX5_make_0 rfl ?_
  refine pw_istore_n dX5_make_1 (by decide) ?_
  refine pw_lk [(0, .ref (adr q)), (1, .ref (adr p)), (2, .ref (adr b)), (3, .int (nI 0))] ⟨rfl, rfl, rfl, rfl, trivial⟩ (mk_1 (σ := σ) hq ?_ 30 0 rfl σ Fr.rf)
  intro τ hF
  refine pw_iconst (v := 0) dX5_make_21 rfl ?_
  refine pw_istore_n dX5_make_22 (by decide) ?_
  refine pw_lk [(0, .ref (adr q)), (1, .ref (adr p)), (2, .ref (adr b)), (3, .int (nI 0))] ⟨rfl, rfl, rfl, rfl, trivial⟩ (mk_2 (σ := σ) hq hp hb hpq hW.1 hR ?_ N 0 (by omega) τ hF)
  intro τ2 hF2
  refine pw_iconst (v := 0) dX5_make_71 rfl ?_
  refine pw_istore_n dX5_make_72 (by decide) ?_
  exact pw_lk [(0, .ref (adr q)), (1, .ref (adr p)), (2, .ref (adr b)), (3, .int (nI 0))] ⟨rfl, rfl, rfl, rfl, trivial⟩ (mk_3 (σ := σ) hq hp hb hpq hW hR (fun τ3 h1 h2 => ⟨τ3, rfl, h1, h2⟩) N 0 (by omega) τ2 hF2 (fun j hj => absurd hj (Nat.not_lt_zero j)))
/-- a run's own things may change, but not its cursor -/
def RnF (σ : St) (b : Nat) (τ : St) : Prop := Fr b (b + 5) σ τ ∧ τ.1 (b + 1) = σ.1 (b + 1) ∧ τ.2.2.1 (b + 2) = σ.2.2.1 (b + 2)
theorem ca_loop {sz : Nat} {w0 : va_W} {fin : OC → Prop} {b p q N c e : Nat} {al : Nat → Int32} {n m : Int32} {σ0 : St} (hb : LX.1[b]? = some (.inl 7)) (hp : LX.1[p]? = some (.inl 6)) (hq : LX.1[q]? = some (.inl 5)) (hpb : p + 7 ≤ b ∨ b + 5 ≤ p) (hqb : q + 4 ≤ b ∨ b + 5 ≤ q) (hW : wfP al N) (hR : PgR σ0 p al N) (hL : PlR σ0 q al N) (hc : c < N) (he : e < N) (hpt : cPt al N c = nI e)
    (kk : ∀ τ, RnF σ0 b τ → fin (.inl (none, wp G adr LX Lf Rt τ))) :
    ∀ (r i : Nat), i + r = e → ∀ τ, RnF σ0 b τ → PW l G mX7_checkAhead w0 sz fin 23 [(0, .ref (adr b)), (1, .ref (adr p)), (2, .ref (adr q)), (3, .int (nI c)), (4, .int n), (5, .int m), (6, .int (nI i))] [] 0 0 (wp G adr LX Lf Rt τ) := by
  intro r
  have hN := hW.1
  have ec : (nI c).toNatClampNeg = c := nI_clamp (by omega)
  have bc : vp_in (nI c) 30 := vp_in_nI (by omega) (by decide)
  induction r with
  | zero =>
    intro i hi τ hF
    have hi : i = e := by omega
    subst hi
    have hR1 : PgR τ p al N := hR.fr hF.1 (by omega)
    refine pw_iload dX7_checkAhead_23 rfl ?_
    refine pw_aload_n dX7_checkAhead_25 rfl ?_
    refine lp_getr (p + 6) dX7_checkAhead_26 fp_RX7_92.FL hp rfl (rX6_6 hp) ?_
    refine pw_iload_n dX7_checkAhead_29 rfl ?_
    refine lp_iald dX7_checkAhead_30 (kX6_6 hp) bc ?_
    refine pw_top (nI i) (by rw [ec]; exact (hR1.2 c hc).2.2.2.2.2.trans hpt) ?_
    refine pw_icmp_ge 128 dX7_checkAhead_31 (by decide) (fun c_31 => ?_) (fun c_31 => absurd (nI_le (Nat.le_refl i) (by omega)) c_31)
    exact pw_vret rfl dX7_checkAhead_128 (Nat.zero_le _) (Nat.zero_le _) (kk τ hF)
  | succ r ih =>
    intro i hi τ hF
    have hR1 : PgR τ p al N := hR.fr hF.1 (by omega)
    have hL1 : PlR τ q al N := hL.fr hF.1 (by omega)
    have bi : vp_in (nI i) 30 := vp_in_nI (by omega) (by decide)
    have ei : (nI i).toNatClampNeg = i := nI_clamp (by omega)
    have ih0 := ih (i + 1) (by omega) τ hF
    by_cases h3 : τ.2.2.1 (q + 1) i = 3
    · obtain ⟨⟨w, hw, hres⟩, -, -⟩ := hW.2.2.2.2.1 i (by omega) (hL1 i (by omega) h3)
      have bw : vp_in (nI w) 8 := vp_in_nI hw (by decide)
      have ew : (nI w).toNatClampNeg = w := nI_clamp (by omega)
      have ht : τ.2.2.1 (p + 2) i = nI w := (hR1.2 i (by omega)).2.1.trans hres
      obtain ⟨o, ho⟩ := x_besides (l := l) (G := G) (adr := adr) (Lf := Lf) (Rt := Rt) (σ := τ) hp i (by omega) (nI w)
      have hv := x_valueOf (l := l) (G := G) (adr := adr) (Lf := Lf) (Rt := Rt) (σ := τ) hb o
      generalize vG (τ.2.2.2.1 (b + 3)) o = y at hv
      refine pw_iload dX7_checkAhead_23 rfl ?_
      refine pw_aload_n dX7_checkAhead_25 rfl ?_
      refine lp_getr (p + 6) dX7_checkAhead_26 fp_RX7_92.FL hp rfl (rX6_6 hp) ?_
      refine pw_iload_n dX7_checkAhead_29 rfl ?_
      refine lp_iald dX7_checkAhead_30 (kX6_6 hp) bc ?_
      refine pw_top (nI e) (by rw [ec]; exact (hR1.2 c hc).2.2.2.2.2.trans hpt) ?_
      refine pw_icmp_ge 128 dX7_checkAhead_31 (by decide) (fun c_31 => absurd c_31 (nI_ge (by omega) (by omega))) (fun c_31 => ?_)
      refine pw_aload_n dX7_checkAhead_34 rfl ?_
      refine lp_getr (q + 1) dX7_checkAhead_35 fp_RX7_68.FL hq rfl (rX5_0 hq) ?_
      refine pw_iload dX7_checkAhead_38 rfl ?_
      refine lp_iald dX7_checkAhead_40 (kX5_0 hq) bi ?_
      refine pw_top 3 (by rw [ei]; exact h3) ?_
      refine pw_iconst (v := 3) dX7_checkAhead_41 rfl ?_
      refine pw_icmp_ne 122 dX7_checkAhead_42 (by decide) (fun c_42 => absurd c_42 (fun z => z rfl)) (fun c_42 => ?_)
      refine pw_aload_n dX7_checkAhead_45 rfl ?_
      refine lp_getr (p + 5) dX7_checkAhead_46 fp_RX7_89.FL hp rfl (rX6_5 hp) ?_
      refine pw_iload dX7_checkAhead_49 rfl ?_
      refine lp_iald dX7_checkAhead_51 (kX6_5 hp) bi ?_
      refine pw_iload dX7_checkAhead_52 rfl ?_
      refine pw_icmp_ne 122 dX7_checkAhead_54 (by decide) (fun c_54 => ?_) (fun c_54 => ?_)
      · refine pw_iinc dX7_checkAhead_122 rfl (by decide) ?_
        refine pw_goto (tgt := 23) dX7_checkAhead_125 (by decide) ?_
        first
          | exact pw_lk [(0, .ref (adr b)), (1, .ref (adr p)), (2, .ref (adr q)), (3, .int (nI c)), (4, .int n), (5, .int m), (6, .int (nI (i + 1)))] ⟨rfl, rfl, rfl, rfl, rfl, rfl, congrArg (fun x => some (Value.int x)) (nI_1 i), trivial⟩ ih0
          | refine pw_lk [(0, .ref (adr b)), (1, .ref (adr p)), (2, .ref (adr q)), (3, .int (nI c)), (4, .int n), (5, .int m), (6, .int (nI (i + 1)))] ⟨rfl, rfl, rfl, rfl, rfl, rfl, congrArg (fun x => some (Value.int x)) (nI_1 i), trivial⟩ (ih (i + 1) (by omega) _ ⟨Fr.A (Fr.I hF.1 (by omega) (by omega)) (by omega) (by omega), ?_, ?_⟩)
            · refine Eq.trans ?_ hF.2.1
              funext t; simp only [A1]; rw [gI' (by omega)]
            · rw [gA' (by omega)]; exact hF.2.2
      · refine pw_aload_n dX7_checkAhead_57 rfl ?_
        refine lp_getr (p + 2) dX7_checkAhead_58 fp_RX7_86.FL hp rfl (rX6_2 hp) ?_
        refine pw_iload dX7_checkAhead_61 rfl ?_
        refine lp_iald dX7_checkAhead_63 (kX6_2 hp) bi ?_
        refine pw_top (nI w) (by rw [ei]; exact ht) ?_
        refine pw_istore dX7_checkAhead_64 (by decide) ?_
        refine pw_aload_n dX7_checkAhead_66 rfl ?_
        refine pw_aload_n dX7_checkAhead_67 rfl ?_
        refine pw_iload dX7_checkAhead_68 rfl ?_
        refine pw_iload dX7_checkAhead_70 rfl ?_
        refine lp_cV1 (mi' := mX6_besides) (As := [_, _]) (q := (RX6, TX6, 7)) dX7_checkAhead_72 lk_RX7_95 mk_X6_besides mi_X6_besides me_X6_besides ⟨by decide, by decide⟩ rfl rfl (Nat.le_of_ble_eq_true rfl) hp rfl ⟨rfl, rfl⟩ ⟨Nat.zero_le _, Nat.zero_le _⟩ ho ?_
        refine lp_cV1 (mi' := mX7_valueOf) (As := [_]) (q := (RX7, TX7, 6)) dX7_checkAhead_75 lk_RX7_99 mk_X7_valueOf mi_X7_valueOf me_X7_valueOf ⟨by decide, by decide⟩ rfl rfl (Nat.le_of_ble_eq_true rfl) hb rfl ⟨rfl, rfl⟩ ⟨Nat.zero_le _, Nat.zero_le _⟩ hv ?_
        refine pw_lstore dX7_checkAhead_78 (by decide) ?_
        refine pw_aload_n dX7_checkAhead_80 rfl ?_
        refine pw_dup dX7_checkAhead_81 rfl ?_
        refine lp_geti dX7_checkAhead_82 fp_RX7_26.FL hb rfl ?_
        refine pw_iconst (v := 1) dX7_checkAhead_85 rfl ?_
        refine pw_iadd dX7_checkAhead_86 ?_
        refine lp_puti dX7_checkAhead_87 fp_RX7_26 hb rfl rfl rfl ?_
        refine pw_aload_n dX7_checkAhead_90 rfl ?_
        refine lp_getr (b + 4) dX7_checkAhead_91 fp_RX7_32.FL hb rfl (rX7_5 hb) ?_
        refine pw_iload dX7_checkAhead_94 rfl ?_
        refine pw_aload_n dX7_checkAhead_96 rfl ?_
        refine lp_getr (b + 3) dX7_checkAhead_97 fp_RX7_18.FL hb rfl (rX7_1 hb) ?_
        refine pw_iload dX7_checkAhead_100 rfl ?_
        refine lp_lald dX7_checkAhead_102 (kX7_1 hb) bw ?_
        refine pw_iload dX7_checkAhead_103 rfl ?_
        refine pw_i2l dX7_checkAhead_105 ?_
        refine pw_lload dX7_checkAhead_106 rfl ?_
        refine pw_lmul dX7_checkAhead_108 ?_
        refine pw_ladd dX7_checkAhead_109 ?_
        refine lp_cS1 (mi' := mX10_isInt) (As := [_]) dX7_checkAhead_110 lk_RX7_103 mk_X10_isInt ms_X10_isInt ⟨by decide, by decide⟩ rfl rfl (Nat.le_of_ble_eq_true rfl) ⟨rfl, rfl⟩ ⟨Nat.zero_le _, Nat.zero_le _⟩ (x_isInt _ _) ?_
        refine pw_if_ne 120 dX7_checkAhead_113 (by decide) (fun c_113 => ?_) (fun c_113 => ?_)
        · refine pw_iconst (v := 0) dX7_checkAhead_120 rfl ?_
          refine lp_zast dX7_checkAhead_121 (kX7_5 hb) bi (by first | rfl | decide) ?_
          refine pw_iinc dX7_checkAhead_122 rfl (by decide) ?_
          refine pw_goto (tgt := 23) dX7_checkAhead_125 (by decide) ?_
          first
            | exact pw_lk [(0, .ref (adr b)), (1, .ref (adr p)), (2, .ref (adr q)), (3, .int (nI c)), (4, .int n), (5, .int m), (6, .int (nI (i + 1)))] ⟨rfl, rfl, rfl, rfl, rfl, rfl, congrArg (fun x => some (Value.int x)) (nI_1 i), trivial⟩ ih0
            | refine pw_lk [(0, .ref (adr b)), (1, .ref (adr p)), (2, .ref (adr q)), (3, .int (nI c)), (4, .int n), (5, .int m), (6, .int (nI (i + 1)))] ⟨rfl, rfl, rfl, rfl, rfl, rfl, congrArg (fun x => some (Value.int x)) (nI_1 i), trivial⟩ (ih (i + 1) (by omega) _ ⟨Fr.A (Fr.I hF.1 (by omega) (by omega)) (by omega) (by omega), ?_, ?_⟩)
              · refine Eq.trans ?_ hF.2.1
                funext t; simp only [A1]; rw [gI' (by omega)]
              · rw [gA' (by omega)]; exact hF.2.2
        · refine pw_iconst (v := 1) dX7_checkAhead_116 rfl ?_
          refine pw_goto (tgt := 121) dX7_checkAhead_117 (by decide) ?_
          refine lp_zast dX7_checkAhead_121 (kX7_5 hb) bi (by first | rfl | decide) ?_
          refine pw_iinc dX7_checkAhead_122 rfl (by decide) ?_
          refine pw_goto (tgt := 23) dX7_checkAhead_125 (by decide) ?_
          first
            | exact pw_lk [(0, .ref (adr b)), (1, .ref (adr p)), (2, .ref (adr q)), (3, .int (nI c)), (4, .int n), (5, .int m), (6, .int (nI (i + 1)))] ⟨rfl, rfl, rfl, rfl, rfl, rfl, congrArg (fun x => some (Value.int x)) (nI_1 i), trivial⟩ ih0
            | refine pw_lk [(0, .ref (adr b)), (1, .ref (adr p)), (2, .ref (adr q)), (3, .int (nI c)), (4, .int n), (5, .int m), (6, .int (nI (i + 1)))] ⟨rfl, rfl, rfl, rfl, rfl, rfl, congrArg (fun x => some (Value.int x)) (nI_1 i), trivial⟩ (ih (i + 1) (by omega) _ ⟨Fr.A (Fr.I hF.1 (by omega) (by omega)) (by omega) (by omega), ?_, ?_⟩)
              · refine Eq.trans ?_ hF.2.1
                funext t; simp only [A1]; rw [gI' (by omega)]
              · rw [gA' (by omega)]; exact hF.2.2
    · refine pw_iload dX7_checkAhead_23 rfl ?_
      refine pw_aload_n dX7_checkAhead_25 rfl ?_
      refine lp_getr (p + 6) dX7_checkAhead_26 fp_RX7_92.FL hp rfl (rX6_6 hp) ?_
      refine pw_iload_n dX7_checkAhead_29 rfl ?_
      refine lp_iald dX7_checkAhead_30 (kX6_6 hp) bc ?_
      refine pw_top (nI e) (by rw [ec]; exact (hR1.2 c hc).2.2.2.2.2.trans hpt) ?_
      refine pw_icmp_ge 128 dX7_checkAhead_31 (by decide) (fun c_31 => absurd c_31 (nI_ge (by omega) (by omega))) (fun c_31 => ?_)
      refine pw_aload_n dX7_checkAhead_34 rfl ?_
      refine lp_getr (q + 1) dX7_checkAhead_35 fp_RX7_68.FL hq rfl (rX5_0 hq) ?_
      refine pw_iload dX7_checkAhead_38 rfl ?_
      refine lp_iald dX7_checkAhead_40 (kX5_0 hq) bi ?_
      rw [ei]
      refine pw_iconst (v := 3) dX7_checkAhead_41 rfl ?_
      refine pw_icmp_ne 122 dX7_checkAhead_42 (by decide) (fun c_42 => ?_) (fun c_42 => absurd c_42 h3)
      refine pw_iinc dX7_checkAhead_122 rfl (by decide) ?_
      refine pw_goto (tgt := 23) dX7_checkAhead_125 (by decide) ?_
      exact pw_lk [(0, .ref (adr b)), (1, .ref (adr p)), (2, .ref (adr q)), (3, .int (nI c)), (4, .int n), (5, .int m), (6, .int (nI (i + 1)))] ⟨rfl, rfl, rfl, rfl, rfl, rfl, congrArg (fun x => some (Value.int x)) (nI_1 i), trivial⟩ ih0
theorem x_checkAhead {b p q N c : Nat} {al : Nat → Int32} (hb : LX.1[b]? = some (.inl 7)) (hp : LX.1[p]? = some (.inl 6)) (hq : LX.1[q]? = some (.inl 5)) (hpb : p + 7 ≤ b ∨ b + 5 ≤ p) (hqb : q + 4 ≤ b ∨ b + 5 ≤ q) (hW : wfP al N) (hR : PgR σ p al N) (hL : PlR σ q al N) (hc : c < N) (k4 : kdA al c = 4) : SpR0 l G mX7_checkAhead [.ref (adr b), .ref (adr p), .ref (adr q), .int (nI c)] adr LX Lf Rt σ (fun τ => RnF σ b τ) := by
  refine spec_of (by decide) (Nat.le_of_ble_eq_true rfl) (fun sz => ?_)
  have hN := hW.1
  have bc : vp_in (nI c) 30 := vp_in_nI (by omega) (by decide)
  obtain ⟨e, e1, e2, e3⟩ := cPt_b hW hc k4
  refine pw_aload_n dX7_checkAhead_0 rfl ?_
  refine lp_getr (p + 2) dX7_checkAhead_1 fp_RX7_86.FL hp rfl (rX6_2 hp) ?_
  refine pw_iload_n dX7_checkAhead_4 rfl ?_
  refine lp_iald dX7_checkAhead_5 (kX6_2 hp) bc ?_
  refine pw_istore dX7_checkAhead_6 (by decide) ?_
  refine pw_aload_n dX7_checkAhead_8 rfl ?_
  refine lp_getr (p + 5) dX7_checkAhead_9 fp_RX7_89.FL hp rfl (rX6_5 hp) ?_
  refine pw_iload_n dX7_checkAhead_12 rfl ?_
  refine lp_iald dX7_checkAhead_13 (kX6_5 hp) bc ?_
  refine pw_iconst (v := 1) dX7_checkAhead_14 rfl ?_
  refine pw_iadd dX7_checkAhead_15 ?_
  refine pw_istore dX7_checkAhead_16 (by decide) ?_
  refine pw_iload_n dX7_checkAhead_18 rfl ?_
  refine pw_iconst (v := 1) dX7_checkAhead_19 rfl ?_
  refine pw_iadd dX7_checkAhead_20 ?_
  refine pw_istore dX7_checkAhead_21 (by decide) ?_
  exact pw_lk [(0, .ref (adr b)), (1, .ref (adr p)), (2, .ref (adr q)), (3, .int (nI c)), (4, .int (σ.2.2.1 (p + 2) (nI c).toNatClampNeg)), (5, .int (σ.2.2.1 (p + 5) (nI c).toNatClampNeg + 1)), (6, .int (nI (c + 1)))] ⟨rfl, rfl, rfl, rfl, rfl, rfl, congrArg (fun x => some (Value.int x)) (nI_1 c), trivial⟩ (ca_loop (σ0 := σ) hb hp hq hpb hqb hW hR hL hc e2 e3 (fun τ h => ⟨τ, rfl, h⟩) (e - (c + 1)) (c + 1) (by omega) σ ⟨Fr.rf, rfl, rfl⟩)
end XM
