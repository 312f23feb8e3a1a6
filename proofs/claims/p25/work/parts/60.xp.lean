/-! THE CLASS, any program: its picture; its readers; the cursor -/
/-- the program at p holds what al says -/
def PgR (σ : St) (p : Nat) (al : Nat → Int32) (N : Nat) : Prop := σ.1 p 0 = nI N ∧ ∀ i, i < N → σ.2.2.1 (p + 1) i = kdA al i ∧ σ.2.2.1 (p + 2) i = al (1 + 4 * i + 1) ∧ σ.2.2.1 (p + 3) i = al (1 + 4 * i + 2) ∧ σ.2.2.1 (p + 4) i = al (1 + 4 * i + 3) ∧ σ.2.2.1 (p + 5) i = nI (lmd al i).1 ∧ σ.2.2.1 (p + 6) i = cPt al N i
theorem PgR.fr {lo hi p N : Nat} {σ τ : St} {al : Nat → Int32} (h : PgR σ p al N) (hF : Fr lo hi σ τ) (hd : p + 7 ≤ lo ∨ hi ≤ p) : PgR τ p al N := by
  refine ⟨(congrFun (hF p (by omega)).1 0).trans h.1, fun i hi => ?_⟩
  obtain ⟨h1, h2, h3, h4, h5, h6⟩ := h.2 i hi
  exact ⟨(congrFun (hF (p + 1) (by omega)).2.2.1 i).trans h1, (congrFun (hF (p + 2) (by omega)).2.2.1 i).trans h2, (congrFun (hF (p + 3) (by omega)).2.2.1 i).trans h3, (congrFun (hF (p + 4) (by omega)).2.2.1 i).trans h4, (congrFun (hF (p + 5) (by omega)).2.2.1 i).trans h5, (congrFun (hF (p + 6) (by omega)).2.2.1 i).trans h6⟩
/-- where the cursor at b stands -/
def CuR (σ : St) (b : Nat) (s : WS) : Prop := σ.1 b 0 = nI s.1 ∧ ∀ j, j < s.2.1 → σ.2.2.1 (b + 1) j = s.2.2 j
theorem CuR.fr {lo hi b : Nat} {σ τ : St} {s : WS} (h : CuR σ b s) (hF : Fr lo hi σ τ) (hd : b + 2 ≤ lo ∨ hi ≤ b) : CuR τ b s :=
  ⟨(congrFun (hF b (by omega)).1 0).trans h.1, fun j hj => (congrFun (hF (b + 1) (by omega)).2.2.1 j).trans (h.2 j hj)⟩
theorem cPt_in {al : Nat → Int32} {N : Nat} (hW : wfP al N) {e : Nat} (he : e < N) (k5 : kdA al e = 5) : ∃ b, b < e ∧ cPt al N e = nI b := by
  obtain ⟨b, b1, b2, b3, b4⟩ := lsc_within hW.2.2.1 (Nat.le_of_lt he) ((hW.2.2.1.1 e he).2 k5)
  exact ⟨b, b1, (lpt_end hW.2.2.1 hW.1 _ N (Nat.le_refl _) e he k5 b b1 b2).1⟩
section XP
variable {l : Launch} {G : cxG} {adr : Nat → Nat} {Lf Rt : va_W} {σ : St}
def edgeB (k : Int32) : Bool := decide (k = 4 ∨ k = 5)
def chkB (k : Int32) : Bool := decide (k = 1 ∨ k = 2 ∨ k = 3)
theorem x_isEdge {b : Nat} (hb : LX.1[b]? = some (.inl 6)) (i : Nat) (hi : i < 30) : SpecD l G mX6_isLoopEdge [.ref (adr b), .int (nI i)] (wp G adr LX Lf Rt σ) (some (.int (bI (edgeB (σ.2.2.1 (b + 1) i))))) (wp G adr LX Lf Rt σ) := by
  refine spec_of (by decide) (Nat.le_of_ble_eq_true rfl) (fun sz => ?_)
  have bi : vp_in (nI i) 30 := vp_in_nI hi (by decide)
  have ei : (nI i).toNatClampNeg = i := nI_clamp (by omega)
  unfold edgeB
  by_cases k4 : σ.2.2.1 (b + 1) i = 4
  · rw [decide_eq_true (show σ.2.2.1 (b + 1) i = 4 ∨ σ.2.2.1 (b + 1) i = 5 from Or.inl k4)]
    refine pw_aload_n dX6_isLoopEdge_0 rfl ?_
    refine lp_getr (b + 1) dX6_isLoopEdge_1 fp_RX6_15.FL hb rfl (rX6_1 hb) ?_
    refine pw_iload_n dX6_isLoopEdge_4 rfl ?_
    refine lp_iald dX6_isLoopEdge_5 (kX6_1 hb) (by assumption) ?_
    rw [ei]
    refine pw_iconst (v := 4) dX6_isLoopEdge_6 rfl ?_
    refine pw_icmp_eq 20 dX6_isLoopEdge_7 (by decide) (fun c_7 => ?_) (fun c_7 => absurd k4 c_7)
    refine pw_iconst (v := 1) dX6_isLoopEdge_20 rfl ?_
    refine pw_goto (tgt := 25) dX6_isLoopEdge_21 (by decide) ?_
    exact pw_iret rfl rfl dX6_isLoopEdge_25 (Nat.zero_le _) (Nat.zero_le _) rfl
  · by_cases k5 : σ.2.2.1 (b + 1) i = 5
    · rw [decide_eq_true (show σ.2.2.1 (b + 1) i = 4 ∨ σ.2.2.1 (b + 1) i = 5 from Or.inr k5)]
      refine pw_aload_n dX6_isLoopEdge_0 rfl ?_
      refine lp_getr (b + 1) dX6_isLoopEdge_1 fp_RX6_15.FL hb rfl (rX6_1 hb) ?_
      refine pw_iload_n dX6_isLoopEdge_4 rfl ?_
      refine lp_iald dX6_isLoopEdge_5 (kX6_1 hb) (by assumption) ?_
      rw [ei]
      refine pw_iconst (v := 4) dX6_isLoopEdge_6 rfl ?_
      refine pw_icmp_eq 20 dX6_isLoopEdge_7 (by decide) (fun c_7 => absurd c_7 k4) (fun c_7 => ?_)
      refine pw_aload_n dX6_isLoopEdge_10 rfl ?_
      refine lp_getr (b + 1) dX6_isLoopEdge_11 fp_RX6_15.FL hb rfl (rX6_1 hb) ?_
      refine pw_iload_n dX6_isLoopEdge_14 rfl ?_
      refine lp_iald dX6_isLoopEdge_15 (kX6_1 hb) (by assumption) ?_
      rw [ei]
      refine pw_iconst (v := 5) dX6_isLoopEdge_16 rfl ?_
      refine pw_icmp_ne 24 dX6_isLoopEdge_17 (by decide) (fun c_17 => absurd c_17 (fun z => z k5)) (fun c_17 => ?_)
      refine pw_iconst (v := 1) dX6_isLoopEdge_20 rfl ?_
      refine pw_goto (tgt := 25) dX6_isLoopEdge_21 (by decide) ?_
      exact pw_iret rfl rfl dX6_isLoopEdge_25 (Nat.zero_le _) (Nat.zero_le _) rfl
    · rw [decide_eq_false (show ¬ (σ.2.2.1 (b + 1) i = 4 ∨ σ.2.2.1 (b + 1) i = 5) from fun z => z.elim k4 k5)]
      refine pw_aload_n dX6_isLoopEdge_0 rfl ?_
      refine lp_getr (b + 1) dX6_isLoopEdge_1 fp_RX6_15.FL hb rfl (rX6_1 hb) ?_
      refine pw_iload_n dX6_isLoopEdge_4 rfl ?_
      refine lp_iald dX6_isLoopEdge_5 (kX6_1 hb) (by assumption) ?_
      rw [ei]
      refine pw_iconst (v := 4) dX6_isLoopEdge_6 rfl ?_
      refine pw_icmp_eq 20 dX6_isLoopEdge_7 (by decide) (fun c_7 => absurd c_7 k4) (fun c_7 => ?_)
      refine pw_aload_n dX6_isLoopEdge_10 rfl ?_
      refine lp_getr (b + 1) dX6_isLoopEdge_11 fp_RX6_15.FL hb rfl (rX6_1 hb) ?_
      refine pw_iload_n dX6_isLoopEdge_14 rfl ?_
      refine lp_iald dX6_isLoopEdge_15 (kX6_1 hb) (by assumption) ?_
      rw [ei]
      refine pw_iconst (v := 5) dX6_isLoopEdge_16 rfl ?_
      refine pw_icmp_ne 24 dX6_isLoopEdge_17 (by decide) (fun c_17 => ?_) (fun c_17 => absurd c_17 k5)
      refine pw_iconst (v := 0) dX6_isLoopEdge_24 rfl ?_
      exact pw_iret rfl rfl dX6_isLoopEdge_25 (Nat.zero_le _) (Nat.zero_le _) rfl
theorem x_hasCheck {b : Nat} (hb : LX.1[b]? = some (.inl 6)) (i : Nat) (hi : i < 30) : SpecD l G mX6_hasCheck [.ref (adr b), .int (nI i)] (wp G adr LX Lf Rt σ) (some (.int (bI (chkB (σ.2.2.1 (b + 1) i))))) (wp G adr LX Lf Rt σ) := by
  refine spec_of (by decide) (Nat.le_of_ble_eq_true rfl) (fun sz => ?_)
  have bi : vp_in (nI i) 30 := vp_in_nI hi (by decide)
  have ei : (nI i).toNatClampNeg = i := nI_clamp (by omega)
  unfold chkB
  by_cases k1 : σ.2.2.1 (b + 1) i = 1
  · rw [decide_eq_true (show σ.2.2.1 (b + 1) i = 1 ∨ σ.2.2.1 (b + 1) i = 2 ∨ σ.2.2.1 (b + 1) i = 3 from Or.inl k1)]
    refine pw_aload_n dX6_hasCheck_0 rfl ?_
    refine lp_getr (b + 1) dX6_hasCheck_1 fp_RX6_15.FL hb rfl (rX6_1 hb) ?_
    refine pw_iload_n dX6_hasCheck_4 rfl ?_
    refine lp_iald dX6_hasCheck_5 (kX6_1 hb) (by assumption) ?_
    rw [ei]
    refine pw_iconst (v := 1) dX6_hasCheck_6 rfl ?_
    refine pw_icmp_eq 30 dX6_hasCheck_7 (by decide) (fun c_7 => ?_) (fun c_7 => absurd k1 c_7)
    refine pw_iconst (v := 1) dX6_hasCheck_30 rfl ?_
    refine pw_goto (tgt := 35) dX6_hasCheck_31 (by decide) ?_
    exact pw_iret rfl rfl dX6_hasCheck_35 (Nat.zero_le _) (Nat.zero_le _) rfl
  · by_cases k2 : σ.2.2.1 (b + 1) i = 2
    · rw [decide_eq_true (show σ.2.2.1 (b + 1) i = 1 ∨ σ.2.2.1 (b + 1) i = 2 ∨ σ.2.2.1 (b + 1) i = 3 from Or.inr (Or.inl k2))]
      refine pw_aload_n dX6_hasCheck_0 rfl ?_
      refine lp_getr (b + 1) dX6_hasCheck_1 fp_RX6_15.FL hb rfl (rX6_1 hb) ?_
      refine pw_iload_n dX6_hasCheck_4 rfl ?_
      refine lp_iald dX6_hasCheck_5 (kX6_1 hb) (by assumption) ?_
      rw [ei]
      refine pw_iconst (v := 1) dX6_hasCheck_6 rfl ?_
      refine pw_icmp_eq 30 dX6_hasCheck_7 (by decide) (fun c_7 => absurd c_7 k1) (fun c_7 => ?_)
      refine pw_aload_n dX6_hasCheck_10 rfl ?_
      refine lp_getr (b + 1) dX6_hasCheck_11 fp_RX6_15.FL hb rfl (rX6_1 hb) ?_
      refine pw_iload_n dX6_hasCheck_14 rfl ?_
      refine lp_iald dX6_hasCheck_15 (kX6_1 hb) (by assumption) ?_
      rw [ei]
      refine pw_iconst (v := 2) dX6_hasCheck_16 rfl ?_
      refine pw_icmp_eq 30 dX6_hasCheck_17 (by decide) (fun c_17 => ?_) (fun c_17 => absurd k2 c_17)
      refine pw_iconst (v := 1) dX6_hasCheck_30 rfl ?_
      refine pw_goto (tgt := 35) dX6_hasCheck_31 (by decide) ?_
      exact pw_iret rfl rfl dX6_hasCheck_35 (Nat.zero_le _) (Nat.zero_le _) rfl
    · by_cases k3 : σ.2.2.1 (b + 1) i = 3
      · rw [decide_eq_true (show σ.2.2.1 (b + 1) i = 1 ∨ σ.2.2.1 (b + 1) i = 2 ∨ σ.2.2.1 (b + 1) i = 3 from Or.inr (Or.inr k3))]
        refine pw_aload_n dX6_hasCheck_0 rfl ?_
        refine lp_getr (b + 1) dX6_hasCheck_1 fp_RX6_15.FL hb rfl (rX6_1 hb) ?_
        refine pw_iload_n dX6_hasCheck_4 rfl ?_
        refine lp_iald dX6_hasCheck_5 (kX6_1 hb) (by assumption) ?_
        rw [ei]
        refine pw_iconst (v := 1) dX6_hasCheck_6 rfl ?_
        refine pw_icmp_eq 30 dX6_hasCheck_7 (by decide) (fun c_7 => absurd c_7 k1) (fun c_7 => ?_)
        refine pw_aload_n dX6_hasCheck_10 rfl ?_
        refine lp_getr (b + 1) dX6_hasCheck_11 fp_RX6_15.FL hb rfl (rX6_1 hb) ?_
        refine pw_iload_n dX6_hasCheck_14 rfl ?_
        refine lp_iald dX6_hasCheck_15 (kX6_1 hb) (by assumption) ?_
        rw [ei]
        refine pw_iconst (v := 2) dX6_hasCheck_16 rfl ?_
        refine pw_icmp_eq 30 dX6_hasCheck_17 (by decide) (fun c_17 => absurd c_17 k2) (fun c_17 => ?_)
        refine pw_aload_n dX6_hasCheck_20 rfl ?_
        refine lp_getr (b + 1) dX6_hasCheck_21 fp_RX6_15.FL hb rfl (rX6_1 hb) ?_
        refine pw_iload_n dX6_hasCheck_24 rfl ?_
        refine lp_iald dX6_hasCheck_25 (kX6_1 hb) (by assumption) ?_
        rw [ei]
        refine pw_iconst (v := 3) dX6_hasCheck_26 rfl ?_
        refine pw_icmp_ne 34 dX6_hasCheck_27 (by decide) (fun c_27 => absurd c_27 (fun z => z k3)) (fun c_27 => ?_)
        refine pw_iconst (v := 1) dX6_hasCheck_30 rfl ?_
        refine pw_goto (tgt := 35) dX6_hasCheck_31 (by decide) ?_
        exact pw_iret rfl rfl dX6_hasCheck_35 (Nat.zero_le _) (Nat.zero_le _) rfl
      · rw [decide_eq_false (show ¬ (σ.2.2.1 (b + 1) i = 1 ∨ σ.2.2.1 (b + 1) i = 2 ∨ σ.2.2.1 (b + 1) i = 3) from fun z => z.elim k1 (fun z => z.elim k2 k3))]
        refine pw_aload_n dX6_hasCheck_0 rfl ?_
        refine lp_getr (b + 1) dX6_hasCheck_1 fp_RX6_15.FL hb rfl (rX6_1 hb) ?_
        refine pw_iload_n dX6_hasCheck_4 rfl ?_
        refine lp_iald dX6_hasCheck_5 (kX6_1 hb) (by assumption) ?_
        rw [ei]
        refine pw_iconst (v := 1) dX6_hasCheck_6 rfl ?_
        refine pw_icmp_eq 30 dX6_hasCheck_7 (by decide) (fun c_7 => absurd c_7 k1) (fun c_7 => ?_)
        refine pw_aload_n dX6_hasCheck_10 rfl ?_
        refine lp_getr (b + 1) dX6_hasCheck_11 fp_RX6_15.FL hb rfl (rX6_1 hb) ?_
        refine pw_iload_n dX6_hasCheck_14 rfl ?_
        refine lp_iald dX6_hasCheck_15 (kX6_1 hb) (by assumption) ?_
        rw [ei]
        refine pw_iconst (v := 2) dX6_hasCheck_16 rfl ?_
        refine pw_icmp_eq 30 dX6_hasCheck_17 (by decide) (fun c_17 => absurd c_17 k2) (fun c_17 => ?_)
        refine pw_aload_n dX6_hasCheck_20 rfl ?_
        refine lp_getr (b + 1) dX6_hasCheck_21 fp_RX6_15.FL hb rfl (rX6_1 hb) ?_
        refine pw_iload_n dX6_hasCheck_24 rfl ?_
        refine lp_iald dX6_hasCheck_25 (kX6_1 hb) (by assumption) ?_
        rw [ei]
        refine pw_iconst (v := 3) dX6_hasCheck_26 rfl ?_
        refine pw_icmp_ne 34 dX6_hasCheck_27 (by decide) (fun c_27 => ?_) (fun c_27 => absurd c_27 k3)
        refine pw_iconst (v := 0) dX6_hasCheck_34 rfl ?_
        exact pw_iret rfl rfl dX6_hasCheck_35 (Nat.zero_le _) (Nat.zero_le _) rfl
/-- a test: it answers, nothing changes -/
def Tst (l : Launch) (G : cxG) (mi : MI) (As : List Value) (ws : va_W) : Prop := ∃ z : Bool, SpecD l G mi As ws (some (.int (bI z))) ws
def RdI (l : Launch) (G : cxG) (mi : MI) (As : List Value) (ws : va_W) : Prop := ∃ x : Int32, SpecD l G mi As ws (some (.int x)) ws
theorem x_assigns {b : Nat} (hb : LX.1[b]? = some (.inl 6)) (i : Nat) (hi : i < 30) (o : Int32) : Tst l G mX6_assigns [.ref (adr b), .int (nI i), .int o] (wp G adr LX Lf Rt σ) := by
  have bi : vp_in (nI i) 30 := vp_in_nI hi (by decide)
  have ei : (nI i).toNatClampNeg = i := nI_clamp (by omega)
  cases hz : edgeB (σ.2.2.1 (b + 1) i)
  · by_cases ht : σ.2.2.1 (b + 2) i = o
    · refine ⟨true, spec_of (by decide) (Nat.le_of_ble_eq_true rfl) (fun sz => ?_)⟩
      refine pw_aload_n dX6_assigns_0 rfl ?_
      refine pw_iload_n dX6_assigns_1 rfl ?_
      refine lp_cV1 (mi' := mX6_isLoopEdge) (As := [_]) (q := (RX6, TX6, 7)) dX6_assigns_2 lk_RX6_40 mk_X6_isLoopEdge mi_X6_isLoopEdge me_X6_isLoopEdge ⟨by decide, by decide⟩ rfl rfl (Nat.le_of_ble_eq_true rfl) hb rfl ⟨rfl, rfl⟩ ⟨Nat.zero_le _, Nat.zero_le _⟩ (x_isEdge hb i hi) ?_
      rw [hz]
      refine pw_if_ne 22 dX6_assigns_5 (by decide) (fun c_5 => absurd c_5 (fun z => z rfl)) (fun c_5 => ?_)
      refine pw_aload_n dX6_assigns_8 rfl ?_
      refine lp_getr (b + 2) dX6_assigns_9 fp_RX6_19.FL hb rfl (rX6_2 hb) ?_
      refine pw_iload_n dX6_assigns_12 rfl ?_
      refine lp_iald dX6_assigns_13 (kX6_2 hb) (by assumption) ?_
      rw [ei]
      refine pw_iload_n dX6_assigns_14 rfl ?_
      refine pw_icmp_ne 22 dX6_assigns_15 (by decide) (fun c_15 => absurd c_15 (fun z => z ht)) (fun c_15 => ?_)
      refine pw_iconst (v := 1) dX6_assigns_18 rfl ?_
      refine pw_goto (tgt := 23) dX6_assigns_19 (by decide) ?_
      exact pw_iret rfl rfl dX6_assigns_23 (Nat.zero_le _) (Nat.zero_le _) rfl
    · refine ⟨false, spec_of (by decide) (Nat.le_of_ble_eq_true rfl) (fun sz => ?_)⟩
      refine pw_aload_n dX6_assigns_0 rfl ?_
      refine pw_iload_n dX6_assigns_1 rfl ?_
      refine lp_cV1 (mi' := mX6_isLoopEdge) (As := [_]) (q := (RX6, TX6, 7)) dX6_assigns_2 lk_RX6_40 mk_X6_isLoopEdge mi_X6_isLoopEdge me_X6_isLoopEdge ⟨by decide, by decide⟩ rfl rfl (Nat.le_of_ble_eq_true rfl) hb rfl ⟨rfl, rfl⟩ ⟨Nat.zero_le _, Nat.zero_le _⟩ (x_isEdge hb i hi) ?_
      rw [hz]
      refine pw_if_ne 22 dX6_assigns_5 (by decide) (fun c_5 => absurd c_5 (fun z => z rfl)) (fun c_5 => ?_)
      refine pw_aload_n dX6_assigns_8 rfl ?_
      refine lp_getr (b + 2) dX6_assigns_9 fp_RX6_19.FL hb rfl (rX6_2 hb) ?_
      refine pw_iload_n dX6_assigns_12 rfl ?_
      refine lp_iald dX6_assigns_13 (kX6_2 hb) (by assumption) ?_
      rw [ei]
      refine pw_iload_n dX6_assigns_14 rfl ?_
      refine pw_icmp_ne 22 dX6_assigns_15 (by decide) (fun c_15 => ?_) (fun c_15 => absurd c_15 ht)
      refine pw_iconst (v := 0) dX6_assigns_22 rfl ?_
      exact pw_iret rfl rfl dX6_assigns_23 (Nat.zero_le _) (Nat.zero_le _) rfl
  · refine ⟨false, spec_of (by decide) (Nat.le_of_ble_eq_true rfl) (fun sz => ?_)⟩
    refine pw_aload_n dX6_assigns_0 rfl ?_
    refine pw_iload_n dX6_assigns_1 rfl ?_
    refine lp_cV1 (mi' := mX6_isLoopEdge) (As := [_]) (q := (RX6, TX6, 7)) dX6_assigns_2 lk_RX6_40 mk_X6_isLoopEdge mi_X6_isLoopEdge me_X6_isLoopEdge ⟨by decide, by decide⟩ rfl rfl (Nat.le_of_ble_eq_true rfl) hb rfl ⟨rfl, rfl⟩ ⟨Nat.zero_le _, Nat.zero_le _⟩ (x_isEdge hb i hi) ?_
    rw [hz]
    refine pw_if_ne 22 dX6_assigns_5 (by decide) (fun c_5 => ?_) (fun c_5 => absurd c_5 (by decide))
    refine pw_iconst (v := 0) dX6_assigns_22 rfl ?_
    exact pw_iret rfl rfl dX6_assigns_23 (Nat.zero_le _) (Nat.zero_le _) rfl
theorem x_uses {b : Nat} (hb : LX.1[b]? = some (.inl 6)) (i : Nat) (hi : i < 30) (o : Int32) : Tst l G mX6_uses [.ref (adr b), .int (nI i), .int o] (wp G adr LX Lf Rt σ) := by
  have bi : vp_in (nI i) 30 := vp_in_nI hi (by decide)
  have ei : (nI i).toNatClampNeg = i := nI_clamp (by omega)
  by_cases h1 : σ.2.2.1 (b + 3) i = o
  · refine ⟨true, spec_of (by decide) (Nat.le_of_ble_eq_true rfl) (fun sz => ?_)⟩
    refine pw_aload_n dX6_uses_0 rfl ?_
    refine lp_getr (b + 3) dX6_uses_1 fp_RX6_22.FL hb rfl (rX6_3 hb) ?_
    refine pw_iload_n dX6_uses_4 rfl ?_
    refine lp_iald dX6_uses_5 (kX6_3 hb) (by assumption) ?_
    rw [ei]
    refine pw_iload_n dX6_uses_6 rfl ?_
    refine pw_icmp_eq 20 dX6_uses_7 (by decide) (fun c_7 => ?_) (fun c_7 => absurd h1 c_7)
    refine pw_iconst (v := 1) dX6_uses_20 rfl ?_
    refine pw_goto (tgt := 25) dX6_uses_21 (by decide) ?_
    exact pw_iret rfl rfl dX6_uses_25 (Nat.zero_le _) (Nat.zero_le _) rfl
  · by_cases h2 : σ.2.2.1 (b + 4) i = o
    · refine ⟨true, spec_of (by decide) (Nat.le_of_ble_eq_true rfl) (fun sz => ?_)⟩
      refine pw_aload_n dX6_uses_0 rfl ?_
      refine lp_getr (b + 3) dX6_uses_1 fp_RX6_22.FL hb rfl (rX6_3 hb) ?_
      refine pw_iload_n dX6_uses_4 rfl ?_
      refine lp_iald dX6_uses_5 (kX6_3 hb) (by assumption) ?_
      rw [ei]
      refine pw_iload_n dX6_uses_6 rfl ?_
      refine pw_icmp_eq 20 dX6_uses_7 (by decide) (fun c_7 => absurd c_7 h1) (fun c_7 => ?_)
      refine pw_aload_n dX6_uses_10 rfl ?_
      refine lp_getr (b + 4) dX6_uses_11 fp_RX6_25.FL hb rfl (rX6_4 hb) ?_
      refine pw_iload_n dX6_uses_14 rfl ?_
      refine lp_iald dX6_uses_15 (kX6_4 hb) (by assumption) ?_
      rw [ei]
      refine pw_iload_n dX6_uses_16 rfl ?_
      refine pw_icmp_ne 24 dX6_uses_17 (by decide) (fun c_17 => absurd c_17 (fun z => z h2)) (fun c_17 => ?_)
      refine pw_iconst (v := 1) dX6_uses_20 rfl ?_
      refine pw_goto (tgt := 25) dX6_uses_21 (by decide) ?_
      exact pw_iret rfl rfl dX6_uses_25 (Nat.zero_le _) (Nat.zero_le _) rfl
    · refine ⟨false, spec_of (by decide) (Nat.le_of_ble_eq_true rfl) (fun sz => ?_)⟩
      refine pw_aload_n dX6_uses_0 rfl ?_
      refine lp_getr (b + 3) dX6_uses_1 fp_RX6_22.FL hb rfl (rX6_3 hb) ?_
      refine pw_iload_n dX6_uses_4 rfl ?_
      refine lp_iald dX6_uses_5 (kX6_3 hb) (by assumption) ?_
      rw [ei]
      refine pw_iload_n dX6_uses_6 rfl ?_
      refine pw_icmp_eq 20 dX6_uses_7 (by decide) (fun c_7 => absurd c_7 h1) (fun c_7 => ?_)
      refine pw_aload_n dX6_uses_10 rfl ?_
      refine lp_getr (b + 4) dX6_uses_11 fp_RX6_25.FL hb rfl (rX6_4 hb) ?_
      refine pw_iload_n dX6_uses_14 rfl ?_
      refine lp_iald dX6_uses_15 (kX6_4 hb) (by assumption) ?_
      rw [ei]
      refine pw_iload_n dX6_uses_16 rfl ?_
      refine pw_icmp_ne 24 dX6_uses_17 (by decide) (fun c_17 => ?_) (fun c_17 => absurd c_17 h2)
      refine pw_iconst (v := 0) dX6_uses_24 rfl ?_
      exact pw_iret rfl rfl dX6_uses_25 (Nat.zero_le _) (Nat.zero_le _) rfl
theorem x_besides {b : Nat} (hb : LX.1[b]? = some (.inl 6)) (i : Nat) (hi : i < 30) (o : Int32) : RdI l G mX6_besides [.ref (adr b), .int (nI i), .int o] (wp G adr LX Lf Rt σ) := by
  have bi : vp_in (nI i) 30 := vp_in_nI hi (by decide)
  have ei : (nI i).toNatClampNeg = i := nI_clamp (by omega)
  by_cases h1 : σ.2.2.1 (b + 3) i = o
  · by_cases h2 : σ.2.2.1 (b + 4) i = o
    · refine ⟨-1, spec_of (by decide) (Nat.le_of_ble_eq_true rfl) (fun sz => ?_)⟩
      refine pw_aload_n dX6_besides_0 rfl ?_
      refine lp_getr (b + 3) dX6_besides_1 fp_RX6_22.FL hb rfl (rX6_3 hb) ?_
      refine pw_iload_n dX6_besides_4 rfl ?_
      refine lp_iald dX6_besides_5 (kX6_3 hb) (by assumption) ?_
      rw [ei]
      refine pw_iload_n dX6_besides_6 rfl ?_
      refine pw_icmp_ne 31 dX6_besides_7 (by decide) (fun c_7 => absurd c_7 (fun z => z h1)) (fun c_7 => ?_)
      refine pw_aload_n dX6_besides_10 rfl ?_
      refine lp_getr (b + 4) dX6_besides_11 fp_RX6_25.FL hb rfl (rX6_4 hb) ?_
      refine pw_iload_n dX6_besides_14 rfl ?_
      refine lp_iald dX6_besides_15 (kX6_4 hb) (by assumption) ?_
      rw [ei]
      refine pw_iload_n dX6_besides_16 rfl ?_
      refine pw_icmp_ne 24 dX6_besides_17 (by decide) (fun c_17 => absurd c_17 (fun z => z h2)) (fun c_17 => ?_)
      refine pw_iconst (v := -1) dX6_besides_20 rfl ?_
      refine pw_goto (tgt := 30) dX6_besides_21 (by decide) ?_
      exact pw_iret rfl rfl dX6_besides_30 (Nat.zero_le _) (Nat.zero_le _) rfl
    · refine ⟨σ.2.2.1 (b + 4) i, spec_of (by decide) (Nat.le_of_ble_eq_true rfl) (fun sz => ?_)⟩
      refine pw_aload_n dX6_besides_0 rfl ?_
      refine lp_getr (b + 3) dX6_besides_1 fp_RX6_22.FL hb rfl (rX6_3 hb) ?_
      refine pw_iload_n dX6_besides_4 rfl ?_
      refine lp_iald dX6_besides_5 (kX6_3 hb) (by assumption) ?_
      rw [ei]
      refine pw_iload_n dX6_besides_6 rfl ?_
      refine pw_icmp_ne 31 dX6_besides_7 (by decide) (fun c_7 => absurd c_7 (fun z => z h1)) (fun c_7 => ?_)
      refine pw_aload_n dX6_besides_10 rfl ?_
      refine lp_getr (b + 4) dX6_besides_11 fp_RX6_25.FL hb rfl (rX6_4 hb) ?_
      refine pw_iload_n dX6_besides_14 rfl ?_
      refine lp_iald dX6_besides_15 (kX6_4 hb) (by assumption) ?_
      rw [ei]
      refine pw_iload_n dX6_besides_16 rfl ?_
      refine pw_icmp_ne 24 dX6_besides_17 (by decide) (fun c_17 => ?_) (fun c_17 => absurd c_17 h2)
      refine pw_aload_n dX6_besides_24 rfl ?_
      refine lp_getr (b + 4) dX6_besides_25 fp_RX6_25.FL hb rfl (rX6_4 hb) ?_
      refine pw_iload_n dX6_besides_28 rfl ?_
      refine lp_iald dX6_besides_29 (kX6_4 hb) (by assumption) ?_
      rw [ei]
      exact pw_iret rfl rfl dX6_besides_30 (Nat.zero_le _) (Nat.zero_le _) rfl
  · by_cases h2 : σ.2.2.1 (b + 4) i = o
    · refine ⟨σ.2.2.1 (b + 3) i, spec_of (by decide) (Nat.le_of_ble_eq_true rfl) (fun sz => ?_)⟩
      refine pw_aload_n dX6_besides_0 rfl ?_
      refine lp_getr (b + 3) dX6_besides_1 fp_RX6_22.FL hb rfl (rX6_3 hb) ?_
      refine pw_iload_n dX6_besides_4 rfl ?_
      refine lp_iald dX6_besides_5 (kX6_3 hb) (by assumption) ?_
      rw [ei]
      refine pw_iload_n dX6_besides_6 rfl ?_
      refine pw_icmp_ne 31 dX6_besides_7 (by decide) (fun c_7 => ?_) (fun c_7 => absurd c_7 h1)
      refine pw_aload_n dX6_besides_31 rfl ?_
      refine lp_getr (b + 4) dX6_besides_32 fp_RX6_25.FL hb rfl (rX6_4 hb) ?_
      refine pw_iload_n dX6_besides_35 rfl ?_
      refine lp_iald dX6_besides_36 (kX6_4 hb) (by assumption) ?_
      rw [ei]
      refine pw_iload_n dX6_besides_37 rfl ?_
      refine pw_icmp_ne 50 dX6_besides_38 (by decide) (fun c_38 => absurd c_38 (fun z => z h2)) (fun c_38 => ?_)
      refine pw_aload_n dX6_besides_41 rfl ?_
      refine lp_getr (b + 3) dX6_besides_42 fp_RX6_22.FL hb rfl (rX6_3 hb) ?_
      refine pw_iload_n dX6_besides_45 rfl ?_
      refine lp_iald dX6_besides_46 (kX6_3 hb) (by assumption) ?_
      rw [ei]
      refine pw_goto (tgt := 51) dX6_besides_47 (by decide) ?_
      exact pw_iret rfl rfl dX6_besides_51 (Nat.zero_le _) (Nat.zero_le _) rfl
    · refine ⟨-1, spec_of (by decide) (Nat.le_of_ble_eq_true rfl) (fun sz => ?_)⟩
      refine pw_aload_n dX6_besides_0 rfl ?_
      refine lp_getr (b + 3) dX6_besides_1 fp_RX6_22.FL hb rfl (rX6_3 hb) ?_
      refine pw_iload_n dX6_besides_4 rfl ?_
      refine lp_iald dX6_besides_5 (kX6_3 hb) (by assumption) ?_
      rw [ei]
      refine pw_iload_n dX6_besides_6 rfl ?_
      refine pw_icmp_ne 31 dX6_besides_7 (by decide) (fun c_7 => ?_) (fun c_7 => absurd c_7 h1)
      refine pw_aload_n dX6_besides_31 rfl ?_
      refine lp_getr (b + 4) dX6_besides_32 fp_RX6_25.FL hb rfl (rX6_4 hb) ?_
      refine pw_iload_n dX6_besides_35 rfl ?_
      refine lp_iald dX6_besides_36 (kX6_4 hb) (by assumption) ?_
      rw [ei]
      refine pw_iload_n dX6_besides_37 rfl ?_
      refine pw_icmp_ne 50 dX6_besides_38 (by decide) (fun c_38 => ?_) (fun c_38 => absurd c_38 h2)
      refine pw_iconst (v := -1) dX6_besides_50 rfl ?_
      exact pw_iret rfl rfl dX6_besides_51 (Nat.zero_le _) (Nat.zero_le _) rfl
/-- the loop around an instruction: none, or an earlier one's number -/
def InnA (kd : Nat → Int32) (i : Nat) (o : OC) (ws : va_W) : Prop := o = .inl (some (.int (-1)), ws) ∨ ∃ c, c < i ∧ kd c = 4 ∧ o = .inl (some (.int (nI c)), ws)
theorem inn_loop {sz : Nat} {w0 : va_W} {b : Nat} (hb : LX.1[b]? = some (.inl 6)) (i : Nat) (hi : i < 30) :
    ∀ (r : Nat), r ≤ i → PW l G mX6_innermostLoopOf w0 sz (fun o => InnA (σ.2.2.1 (b + 1)) i o (wp G adr LX Lf Rt σ)) 4 [(0, .ref (adr b)), (1, .int (nI i)), (2, .int (nI r - 1))] [] 0 0 (wp G adr LX Lf Rt σ) := by
  intro r
  induction r with
  | zero =>
    intro _
    refine pw_iload_n dX6_innermostLoopOf_4 rfl ?_
    refine pw_if_lt 36 dX6_innermostLoopOf_5 (by decide) (fun c_5 => ?_) (fun c_5 => absurd (by decide) c_5)
    refine pw_iconst (v := -1) dX6_innermostLoopOf_36 rfl ?_
    exact pw_iret rfl rfl dX6_innermostLoopOf_37 (Nat.zero_le _) (Nat.zero_le _) (Or.inl rfl)
  | succ r ih =>
    intro hr
    have bi : vp_in (nI r) 30 := vp_in_nI (by omega) (by decide)
    have e1 : nI (r + 1) - 1 = nI r := nI_pred r
    have er : (nI r).toNatClampNeg = r := nI_clamp (by omega)
    have e2 : nI r + Int32.ofInt (-1) = nI r - 1 := by rw [Int32.sub_eq_add_neg]; rfl
    rw [e1]
    refine pw_iload_n dX6_innermostLoopOf_4 rfl ?_
    refine pw_if_lt 36 dX6_innermostLoopOf_5 (by decide) (fun c_5 => absurd c_5 (nI_pos (by omega))) (fun c_5 => ?_)
    refine pw_aload_n dX6_innermostLoopOf_8 rfl ?_
    refine lp_getr (b + 1) dX6_innermostLoopOf_9 fp_RX6_15.FL hb rfl (rX6_1 hb) ?_
    refine pw_iload_n dX6_innermostLoopOf_12 rfl ?_
    refine lp_iald dX6_innermostLoopOf_13 (kX6_1 hb) (by assumption) ?_
    rw [er]
    refine pw_iconst (v := 4) dX6_innermostLoopOf_14 rfl ?_
    refine pw_icmp_ne 30 dX6_innermostLoopOf_15 (by decide) (fun c_15 => ?_) (fun c_15 => ?_)
    · refine pw_iinc dX6_innermostLoopOf_30 rfl (by decide) ?_
      refine pw_goto (tgt := 4) dX6_innermostLoopOf_33 (by decide) ?_
      exact pw_lk [(0, .ref (adr b)), (1, .int (nI i)), (2, .int (nI r - 1))] ⟨rfl, rfl, congrArg (fun x => some (Value.int x)) e2, trivial⟩ (ih (by omega))
    · refine pw_aload_n dX6_innermostLoopOf_18 rfl ?_
      refine lp_getr (b + 6) dX6_innermostLoopOf_19 fp_RX6_31.FL hb rfl (rX6_6 hb) ?_
      refine pw_iload_n dX6_innermostLoopOf_22 rfl ?_
      refine lp_iald dX6_innermostLoopOf_23 (kX6_6 hb) (by assumption) ?_
      refine pw_iload_n dX6_innermostLoopOf_24 rfl ?_
      refine pw_icmp_le 30 dX6_innermostLoopOf_25 (by decide) (fun c_25 => ?_) (fun c_25 => ?_)
      · refine pw_iinc dX6_innermostLoopOf_30 rfl (by decide) ?_
        refine pw_goto (tgt := 4) dX6_innermostLoopOf_33 (by decide) ?_
        exact pw_lk [(0, .ref (adr b)), (1, .int (nI i)), (2, .int (nI r - 1))] ⟨rfl, rfl, congrArg (fun x => some (Value.int x)) e2, trivial⟩ (ih (by omega))
      · refine pw_iload_n dX6_innermostLoopOf_28 rfl ?_
        exact pw_iret rfl rfl dX6_innermostLoopOf_29 (Nat.zero_le _) (Nat.zero_le _) (Or.inr ⟨r, by omega, c_15, rfl⟩)
theorem x_inner {b : Nat} (hb : LX.1[b]? = some (.inl 6)) (i : Nat) (hi : i < 30) : Spec l G mX6_innermostLoopOf [.ref (adr b), .int (nI i)] (wp G adr LX Lf Rt σ) (fun o => InnA (σ.2.2.1 (b + 1)) i o (wp G adr LX Lf Rt σ)) := by
  refine spec_of (by decide) (Nat.le_of_ble_eq_true rfl) (fun sz => ?_)
  refine pw_iload_n dX6_innermostLoopOf_0 rfl ?_
  refine pw_iconst (v := 1) dX6_innermostLoopOf_1 rfl ?_
  refine pw_isub dX6_innermostLoopOf_2 ?_
  refine pw_istore_n dX6_innermostLoopOf_3 (by decide) ?_
  exact pw_lk [(0, .ref (adr b)), (1, .int (nI i)), (2, .int (nI i - 1))] ⟨rfl, rfl, rfl, trivial⟩ (inn_loop hb i hi i (Nat.le_refl _))
theorem adv_tail {sz : Nat} {w0 : va_W} {fin : OC → Prop} {b w : Nat} (hb : LX.1[b]? = some (.inl 1)) (p : Nat) (h1 : σ.1 b 0 = nI w) (hf : fin (.inl (none, wp G adr LX Lf Rt (sI σ b 0 (nI (w + 1)))))) : PW l G mX1_advance w0 sz fin 86 [(0, .ref (adr b)), (1, .ref (adr p))] [] 0 0 (wp G adr LX Lf Rt σ) := by
  refine pw_aload_n dX1_advance_86 rfl ?_
  refine pw_dup dX1_advance_87 rfl ?_
  refine lp_geti dX1_advance_88 fp_RX1_9.FL hb rfl ?_
  refine pw_top (nI w) h1 ?_
  refine pw_iconst (v := 1) dX1_advance_91 rfl ?_
  refine pw_iadd dX1_advance_92 ?_
  refine pw_top (nI (w + 1)) (nI_1 w) ?_
  refine lp_puti dX1_advance_93 fp_RX1_9 hb rfl rfl rfl ?_
  exact pw_vret rfl dX1_advance_96 (Nat.zero_le _) (Nat.zero_le _) hf
theorem x_advance {b p N : Nat} {al : Nat → Int32} (hb : LX.1[b]? = some (.inl 1)) (hp : LX.1[p]? = some (.inl 6)) (hpb : p + 7 ≤ b ∨ b + 2 ≤ p) (hW : wfP al N) (hR : PgR σ p al N) (s : WS) (hI : WInv al N s) (hs : s.1 < N) (hC : CuR σ b s) : SpR0 l G mX1_advance [.ref (adr b), .ref (adr p)] adr LX Lf Rt σ (fun τ => Fr b (b + 2) σ τ ∧ CuR τ b (wnext al (cPt al N) s)) := by
  refine spec_of (by decide) (Nat.le_of_ble_eq_true rfl) (fun sz => ?_)
  have hN := hW.1
  obtain ⟨h1, h2⟩ := hC
  have ei : (nI s.1).toNatClampNeg = s.1 := nI_clamp (by omega)
  have bi : vp_in (nI s.1) 30 := vp_in_nI (by omega) (by decide)
  obtain ⟨q1, q2, -, -, q5, q6⟩ := hR.2 s.1 hs
  rw [← ei] at q1 q2 q5 q6
  rw [ei] at q2
  have q1 : σ.2.2.1 (p + 1) (nI s.1).toNatClampNeg = kdA al s.1 := q1.trans (by rw [ei])
  have q2 : σ.2.2.1 (p + 2) (nI s.1).toNatClampNeg = al (1 + 4 * s.1 + 1) := by rw [ei]; exact q2
  have q6 : σ.2.2.1 (p + 6) (nI s.1).toNatClampNeg = cPt al N s.1 := q6.trans (by rw [ei])
  have hd2 := (lsc_inv hW.2.2.1 s.1 (by omega)).1
  unfold wnext
  by_cases k4 : kdA al s.1 = 4
  · have k5 : ¬ kdA al s.1 = 5 := by rw [k4]; decide
    have hop : s.2.1 < 2 := by rw [hI.2.1]; exact (hW.2.2.1.1 s.1 hs).1 k4
    have eo : (nI s.2.1).toNatClampNeg = s.2.1 := nI_clamp (by omega)
    have q5 : σ.2.2.1 (p + 5) (nI s.1).toNatClampNeg = nI s.2.1 := by rw [q5, ei, hI.2.1]; unfold lmd lmid; rw [if_neg k5]
    rw [if_pos k4]
    refine pw_aload_n dX1_advance_0 rfl ?_
    refine lp_getr (p + 5) dX1_advance_1 fp_RX1_19.FL hp rfl (rX6_5 hp) ?_
    refine pw_aload_n dX1_advance_4 rfl ?_
    refine lp_geti dX1_advance_5 fp_RX1_9.FL hb rfl ?_
    refine pw_top (nI s.1) h1 ?_
    refine lp_iald dX1_advance_8 (kX6_5 hp) bi ?_
    refine pw_top (nI s.2.1) q5 ?_
    refine pw_istore_n dX1_advance_9 (by decide) ?_
    refine pw_aload_n dX1_advance_10 rfl ?_
    refine lp_getr (p + 1) dX1_advance_11 fp_RX1_24.FL hp rfl (rX6_1 hp) ?_
    refine pw_aload_n dX1_advance_14 rfl ?_
    refine lp_geti dX1_advance_15 fp_RX1_9.FL hb rfl ?_
    refine pw_top (nI s.1) h1 ?_
    refine lp_iald dX1_advance_18 (kX6_1 hp) bi ?_
    refine pw_top (kdA al s.1) q1 ?_
    refine pw_iconst (v := 4) dX1_advance_19 rfl ?_
    refine pw_icmp_ne 41 dX1_advance_20 (by decide) (fun c_20 => absurd c_20 (fun z => z k4)) (fun c_20 => ?_)
    refine pw_aload_n dX1_advance_23 rfl ?_
    refine lp_getr (b + 1) dX1_advance_24 fp_RX1_15.FL hb rfl (rX1_1 hb) ?_
    refine pw_iload_n dX1_advance_27 rfl ?_
    refine pw_aload_n dX1_advance_28 rfl ?_
    refine lp_getr (p + 2) dX1_advance_29 fp_RX1_27.FL hp rfl (rX6_2 hp) ?_
    refine pw_aload_n dX1_advance_32 rfl ?_
    refine lp_geti dX1_advance_33 fp_RX1_9.FL hb rfl ?_
    refine pw_top (nI s.1) h1 ?_
    refine lp_iald dX1_advance_36 (kX6_2 hp) bi ?_
    refine pw_top (al (1 + 4 * s.1 + 1)) q2 ?_
    refine lp_iast dX1_advance_37 (kX1_1 hb) (vp_in_nI hop (by decide)) ?_
    refine pw_goto (tgt := 86) dX1_advance_38 (by decide) ?_
    refine pw_lk [(0, .ref (adr b)), (1, .ref (adr p))] ⟨rfl, rfl, trivial⟩ (adv_tail hb p h1 ⟨_, rfl, ?_, ?_⟩)
    · refine Fr.I (Fr.A Fr.rf ?_ ?_) ?_ ?_ <;> omega
    · refine ⟨gI, fun j hj => ?_⟩
      show (sA σ (b + 1) _).2.2.1 (b + 1) j = _
      rw [gA, eo]
      dsimp only at hj ⊢
      unfold upd
      by_cases hjo : j = s.2.1
      · rw [if_pos hjo, if_pos hjo]
      · rw [if_neg hjo, if_neg hjo]; exact h2 j (by omega)
  · rw [if_neg k4]
    by_cases k5 : kdA al s.1 = 5
    · rw [if_pos k5]
      have hop : 0 < s.2.1 := by rw [hI.2.1]; exact (hW.2.2.1.1 s.1 hs).2 k5
      have hop2 : s.2.1 ≤ 2 := by rw [hI.2.1]; exact hd2
      have eo : (nI (s.2.1 - 1)).toNatClampNeg = s.2.1 - 1 := nI_clamp (by omega)
      have bo : vp_in (nI (s.2.1 - 1)) 2 := vp_in_nI (by omega) (by decide)
      have q5 : σ.2.2.1 (p + 5) (nI s.1).toNatClampNeg = nI (s.2.1 - 1) := by rw [q5, ei, hI.2.1]; unfold lmd lmid; rw [if_pos k5]
      obtain ⟨c, c1, c2⟩ := cPt_in hW hs k5
      have e2 := h2 (s.2.1 - 1) (by omega)
      have et : (sA σ (b + 1) (upd (σ.2.2.1 (b + 1)) (s.2.1 - 1) (s.2.2 (s.2.1 - 1) - 1))).2.2.1 (b + 1) (nI (s.2.1 - 1)).toNatClampNeg = s.2.2 (s.2.1 - 1) - 1 := by rw [gA, eo, upd_s]
      have ec : (nI c).toNatClampNeg = c := nI_clamp (by omega)
      have er : ∀ j, j < s.2.1 → upd (σ.2.2.1 (b + 1)) (s.2.1 - 1) (s.2.2 (s.2.1 - 1) - 1) j = upd s.2.2 (s.2.1 - 1) (s.2.2 (s.2.1 - 1) - 1) j := by
        intro j hj
        unfold upd
        by_cases hjo : j = s.2.1 - 1
        · rw [if_pos hjo, if_pos hjo]
        · rw [if_neg hjo, if_neg hjo]; exact h2 j hj
      by_cases hx : 0 < s.2.2 (s.2.1 - 1) - 1
      · rw [if_pos hx]
        refine pw_aload_n dX1_advance_0 rfl ?_
        refine lp_getr (p + 5) dX1_advance_1 fp_RX1_19.FL hp rfl (rX6_5 hp) ?_
        refine pw_aload_n dX1_advance_4 rfl ?_
        refine lp_geti dX1_advance_5 fp_RX1_9.FL hb rfl ?_
        refine pw_top (nI s.1) h1 ?_
        refine lp_iald dX1_advance_8 (kX6_5 hp) bi ?_
        refine pw_top (nI (s.2.1 - 1)) q5 ?_
        refine pw_istore_n dX1_advance_9 (by decide) ?_
        refine pw_aload_n dX1_advance_10 rfl ?_
        refine lp_getr (p + 1) dX1_advance_11 fp_RX1_24.FL hp rfl (rX6_1 hp) ?_
        refine pw_aload_n dX1_advance_14 rfl ?_
        refine lp_geti dX1_advance_15 fp_RX1_9.FL hb rfl ?_
        refine pw_top (nI s.1) h1 ?_
        refine lp_iald dX1_advance_18 (kX6_1 hp) bi ?_
        refine pw_top (kdA al s.1) q1 ?_
        refine pw_iconst (v := 4) dX1_advance_19 rfl ?_
        refine pw_icmp_ne 41 dX1_advance_20 (by decide) (fun c_20 => ?_) (fun c_20 => absurd c_20 k4)
        refine pw_aload_n dX1_advance_41 rfl ?_
        refine lp_getr (p + 1) dX1_advance_42 fp_RX1_24.FL hp rfl (rX6_1 hp) ?_
        refine pw_aload_n dX1_advance_45 rfl ?_
        refine lp_geti dX1_advance_46 fp_RX1_9.FL hb rfl ?_
        refine pw_top (nI s.1) h1 ?_
        refine lp_iald dX1_advance_49 (kX6_1 hp) bi ?_
        refine pw_top (kdA al s.1) q1 ?_
        refine pw_iconst (v := 5) dX1_advance_50 rfl ?_
        refine pw_icmp_ne 86 dX1_advance_51 (by decide) (fun c_51 => absurd c_51 (fun z => z k5)) (fun c_51 => ?_)
        refine pw_aload_n dX1_advance_54 rfl ?_
        refine lp_getr (b + 1) dX1_advance_55 fp_RX1_15.FL hb rfl (rX1_1 hb) ?_
        refine pw_iload_n dX1_advance_58 rfl ?_
        refine pw_dup2 dX1_advance_59 rfl rfl ?_
        refine lp_iald dX1_advance_60 (kX1_1 hb) bo ?_
        refine pw_top (s.2.2 (s.2.1 - 1)) (by rw [eo]; exact e2) ?_
        refine pw_iconst (v := 1) dX1_advance_61 rfl ?_
        refine pw_isub dX1_advance_62 ?_
        refine lp_iast dX1_advance_63 (kX1_1 hb) bo ?_
        rw [eo]
        refine pw_aload_n dX1_advance_64 rfl ?_
        refine lp_getr (b + 1) dX1_advance_65 fp_RX1_15.FL hb rfl (rX1_1 hb) ?_
        refine pw_iload_n dX1_advance_68 rfl ?_
        refine lp_iald dX1_advance_69 (kX1_1 hb) bo ?_
        refine pw_top _ et ?_
        refine pw_if_le 86 dX1_advance_70 (by decide) (fun c_70 => absurd hx (Int32.not_lt.mpr c_70)) (fun c_70 => ?_)
        refine pw_aload_n dX1_advance_73 rfl ?_
        refine pw_aload_n dX1_advance_74 rfl ?_
        refine lp_getr (p + 6) dX1_advance_75 fp_RX1_30.FL hp rfl (rX6_6 hp) ?_
        refine pw_aload_n dX1_advance_78 rfl ?_
        refine lp_geti dX1_advance_79 fp_RX1_9.FL hb rfl ?_
        refine pw_top (nI s.1) h1 ?_
        refine lp_iald dX1_advance_82 (kX6_6 hp) bi ?_
        refine pw_top (nI c) ((show (sA σ (b + 1) _).2.2.1 (p + 6) _ = _ from by rw [gA' (by omega)]; exact q6).trans c2) ?_
        refine lp_puti dX1_advance_83 fp_RX1_9 hb rfl rfl rfl ?_
        refine pw_lk [(0, .ref (adr b)), (1, .ref (adr p))] ⟨rfl, rfl, trivial⟩ (adv_tail hb p gI ⟨_, rfl, ?_, ?_⟩)
        · refine Fr.I (Fr.I (Fr.A Fr.rf ?_ ?_) ?_ ?_) ?_ ?_ <;> omega
        · refine ⟨?_, fun j hj => ?_⟩
          · rw [gI]; dsimp only; rw [c2, ec]
          · show (sA σ (b + 1) _).2.2.1 (b + 1) j = _
            rw [gA]
            exact er j hj
      · rw [if_neg hx]
        refine pw_aload_n dX1_advance_0 rfl ?_
        refine lp_getr (p + 5) dX1_advance_1 fp_RX1_19.FL hp rfl (rX6_5 hp) ?_
        refine pw_aload_n dX1_advance_4 rfl ?_
        refine lp_geti dX1_advance_5 fp_RX1_9.FL hb rfl ?_
        refine pw_top (nI s.1) h1 ?_
        refine lp_iald dX1_advance_8 (kX6_5 hp) bi ?_
        refine pw_top (nI (s.2.1 - 1)) q5 ?_
        refine pw_istore_n dX1_advance_9 (by decide) ?_
        refine pw_aload_n dX1_advance_10 rfl ?_
        refine lp_getr (p + 1) dX1_advance_11 fp_RX1_24.FL hp rfl (rX6_1 hp) ?_
        refine pw_aload_n dX1_advance_14 rfl ?_
        refine lp_geti dX1_advance_15 fp_RX1_9.FL hb rfl ?_
        refine pw_top (nI s.1) h1 ?_
        refine lp_iald dX1_advance_18 (kX6_1 hp) bi ?_
        refine pw_top (kdA al s.1) q1 ?_
        refine pw_iconst (v := 4) dX1_advance_19 rfl ?_
        refine pw_icmp_ne 41 dX1_advance_20 (by decide) (fun c_20 => ?_) (fun c_20 => absurd c_20 k4)
        refine pw_aload_n dX1_advance_41 rfl ?_
        refine lp_getr (p + 1) dX1_advance_42 fp_RX1_24.FL hp rfl (rX6_1 hp) ?_
        refine pw_aload_n dX1_advance_45 rfl ?_
        refine lp_geti dX1_advance_46 fp_RX1_9.FL hb rfl ?_
        refine pw_top (nI s.1) h1 ?_
        refine lp_iald dX1_advance_49 (kX6_1 hp) bi ?_
        refine pw_top (kdA al s.1) q1 ?_
        refine pw_iconst (v := 5) dX1_advance_50 rfl ?_
        refine pw_icmp_ne 86 dX1_advance_51 (by decide) (fun c_51 => absurd c_51 (fun z => z k5)) (fun c_51 => ?_)
        refine pw_aload_n dX1_advance_54 rfl ?_
        refine lp_getr (b + 1) dX1_advance_55 fp_RX1_15.FL hb rfl (rX1_1 hb) ?_
        refine pw_iload_n dX1_advance_58 rfl ?_
        refine pw_dup2 dX1_advance_59 rfl rfl ?_
        refine lp_iald dX1_advance_60 (kX1_1 hb) bo ?_
        refine pw_top (s.2.2 (s.2.1 - 1)) (by rw [eo]; exact e2) ?_
        refine pw_iconst (v := 1) dX1_advance_61 rfl ?_
        refine pw_isub dX1_advance_62 ?_
        refine lp_iast dX1_advance_63 (kX1_1 hb) bo ?_
        rw [eo]
        refine pw_aload_n dX1_advance_64 rfl ?_
        refine lp_getr (b + 1) dX1_advance_65 fp_RX1_15.FL hb rfl (rX1_1 hb) ?_
        refine pw_iload_n dX1_advance_68 rfl ?_
        refine lp_iald dX1_advance_69 (kX1_1 hb) bo ?_
        refine pw_top _ et ?_
        refine pw_if_le 86 dX1_advance_70 (by decide) (fun c_70 => ?_) (fun c_70 => absurd (Int32.not_lt.mp hx) c_70)
        refine pw_lk [(0, .ref (adr b)), (1, .ref (adr p))] ⟨rfl, rfl, trivial⟩ (adv_tail hb p h1 ⟨_, rfl, ?_, ?_⟩)
        · refine Fr.I (Fr.A Fr.rf ?_ ?_) ?_ ?_ <;> omega
        · refine ⟨gI, fun j hj => ?_⟩
          show (sA σ (b + 1) _).2.2.1 (b + 1) j = _
          rw [gA]
          dsimp only at hj
          exact er j (by omega)
    · rw [if_neg k5]
      have q5 : σ.2.2.1 (p + 5) (nI s.1).toNatClampNeg = nI (lmd al s.1).1 := q5.trans (by rw [ei])
      refine pw_aload_n dX1_advance_0 rfl ?_
      refine lp_getr (p + 5) dX1_advance_1 fp_RX1_19.FL hp rfl (rX6_5 hp) ?_
      refine pw_aload_n dX1_advance_4 rfl ?_
      refine lp_geti dX1_advance_5 fp_RX1_9.FL hb rfl ?_
      refine pw_top (nI s.1) h1 ?_
      refine lp_iald dX1_advance_8 (kX6_5 hp) bi ?_
      refine pw_istore_n dX1_advance_9 (by decide) ?_
      refine pw_aload_n dX1_advance_10 rfl ?_
      refine lp_getr (p + 1) dX1_advance_11 fp_RX1_24.FL hp rfl (rX6_1 hp) ?_
      refine pw_aload_n dX1_advance_14 rfl ?_
      refine lp_geti dX1_advance_15 fp_RX1_9.FL hb rfl ?_
      refine pw_top (nI s.1) h1 ?_
      refine lp_iald dX1_advance_18 (kX6_1 hp) bi ?_
      refine pw_top (kdA al s.1) q1 ?_
      refine pw_iconst (v := 4) dX1_advance_19 rfl ?_
      refine pw_icmp_ne 41 dX1_advance_20 (by decide) (fun c_20 => ?_) (fun c_20 => absurd c_20 k4)
      refine pw_aload_n dX1_advance_41 rfl ?_
      refine lp_getr (p + 1) dX1_advance_42 fp_RX1_24.FL hp rfl (rX6_1 hp) ?_
      refine pw_aload_n dX1_advance_45 rfl ?_
      refine lp_geti dX1_advance_46 fp_RX1_9.FL hb rfl ?_
      refine pw_top (nI s.1) h1 ?_
      refine lp_iald dX1_advance_49 (kX6_1 hp) bi ?_
      refine pw_top (kdA al s.1) q1 ?_
      refine pw_iconst (v := 5) dX1_advance_50 rfl ?_
      refine pw_icmp_ne 86 dX1_advance_51 (by decide) (fun c_51 => ?_) (fun c_51 => absurd c_51 k5)
      refine pw_lk [(0, .ref (adr b)), (1, .ref (adr p))] ⟨rfl, rfl, trivial⟩ (adv_tail hb p h1 ⟨_, rfl, ?_, ?_⟩)
      · refine Fr.I Fr.rf ?_ ?_ <;> omega
      · exact ⟨gI, h2⟩
end XP
