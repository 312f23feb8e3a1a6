section XD
variable {l : Launch} {G : cxG} {adr : Nat → Nat} {Lf Rt : va_W} {σ : St}
theorem x_assign {b : Nat} (hb : LX.1[b]? = some (.inl 0)) (v : Nat) (hv : v < 8) (lo hi : Int64) : SpR0 l G mX0_assign [.ref (adr b), .int (nI v), .long lo, .long hi] adr LX Lf Rt σ (fun σ' => ∃ x, σ' = sI (sL (sL σ (b + 3) (vp_updL (σ.2.2.2.1 (b + 3)) v lo)) (b + 4) (vp_updL (σ.2.2.2.1 (b + 4)) v hi)) b 5 x) := by
  refine spec_of (by decide) (Nat.le_of_ble_eq_true rfl) (fun sz => ?_)
  have hv8 : vp_in (nI v) 8 := vp_in_nI hv (by decide)
  have ev : (nI v).toNatClampNeg = v := nI_clamp (by omega)
  refine pw_aload_n dX0_assign_0 rfl ?_
  refine lp_getr (b + 3) dX0_assign_1 fp_RX0_26.FL hb rfl (rX0_3 hb) ?_
  refine pw_iload_n dX0_assign_4 rfl ?_
  refine pw_lload_n dX0_assign_5 rfl ?_
  refine lp_last dX0_assign_6 (kX0_3 hb) (by assumption) ?_
  refine pw_aload_n dX0_assign_7 rfl ?_
  refine lp_getr (b + 4) dX0_assign_8 fp_RX0_30.FL hb rfl (rX0_4 hb) ?_
  refine pw_iload_n dX0_assign_11 rfl ?_
  refine pw_lload dX0_assign_12 rfl ?_
  refine lp_last dX0_assign_14 (kX0_4 hb) (by assumption) ?_
  refine pw_iconst (v := 1) dX0_assign_15 rfl ?_
  refine pw_iload_n dX0_assign_16 rfl ?_
  refine pw_ishl dX0_assign_17 ?_
  refine pw_istore dX0_assign_18 (by decide) ?_
  refine pw_aload_n dX0_assign_20 rfl ?_
  refine pw_lload_n dX0_assign_21 rfl ?_
  refine pw_lconst (v := 0) dX0_assign_22 rfl ?_
  refine pw_lcmp dX0_assign_23 ?_
  refine pw_if_ge 37 dX0_assign_24 (by decide) (fun c_24 => ?_) (fun c_24 => ?_)
  · refine pw_aload_n dX0_assign_37 rfl ?_
    refine lp_geti dX0_assign_38 fp_RX0_33.FL hb rfl ?_
    refine pw_iload dX0_assign_41 rfl ?_
    refine pw_iconst (v := -1) dX0_assign_43 rfl ?_
    refine pw_ixor dX0_assign_44 ?_
    refine pw_iand dX0_assign_45 ?_
    refine lp_puti dX0_assign_46 fp_RX0_33 hb rfl rfl rfl ?_
    exact pw_vret rfl dX0_assign_49 (Nat.zero_le _) (Nat.zero_le _) (by rw [ev, gL' (show ¬ b + 4 = b + 3 by omega)]; exact ⟨_, rfl, _, rfl⟩)
  · refine pw_aload_n dX0_assign_27 rfl ?_
    refine lp_geti dX0_assign_28 fp_RX0_33.FL hb rfl ?_
    refine pw_iload dX0_assign_31 rfl ?_
    refine pw_ior dX0_assign_33 ?_
    refine pw_goto (tgt := 46) dX0_assign_34 (by decide) ?_
    refine lp_puti dX0_assign_46 fp_RX0_33 hb rfl rfl rfl ?_
    exact pw_vret rfl dX0_assign_49 (Nat.zero_le _) (Nat.zero_le _) (by rw [ev, gL' (show ¬ b + 4 = b + 3 by omega)]; exact ⟨_, rfl, _, rfl⟩)
def BegI (σ : St) (b a i : Nat) (τ : St) : Prop := Fr b (b + 10) σ τ ∧ τ.1 (b + 1) 0 = 0 ∧ τ.1 b 1 = 0 ∧ τ.1 b 2 = 0 ∧ ∀ j, j < i → τ.2.2.2.1 (b + 3) j = (σ.2.2.1 (a + 1) j).toInt64 ∧ τ.2.2.2.1 (b + 4) j = (σ.2.2.1 (a + 2) j).toInt64
def BegJ (b i : Nat) (τ : St) : Prop := ∀ j, j < i → τ.2.2.1 (b + 5) j = 0 ∧ τ.2.2.1 (b + 6) j = 0 ∧ τ.2.2.2.1 (b + 7) j = 0 ∧ τ.2.2.2.1 (b + 8) j = 0 ∧ τ.2.2.1 (b + 9) j = 0
theorem upd0 {f : Nat → Int32} {i j : Nat} (h : ∀ j, j < i → f j = 0) (hj : j < i + 1) : upd f i 0 j = 0 := by
  unfold upd
  by_cases e : j = i
  · rw [if_pos e]
  · rw [if_neg e]; exact h j (by omega)
theorem updL0 {f : Nat → Int64} {i j : Nat} (h : ∀ j, j < i → f j = 0) (hj : j < i + 1) : vp_updL f i 0 j = 0 := by
  unfold vp_updL
  by_cases e : j = i
  · rw [if_pos e]
  · rw [if_neg e]; exact h j (by omega)
theorem beg_1 {sz : Nat} {w0 : va_W} {fin : OC → Prop} {b a : Nat} (hb : LX.1[b]? = some (.inl 0)) (ha : LX.1[a]? = some (.inl 3)) (hab : a + 4 ≤ b ∨ b + 10 ≤ a)
    (kk : ∀ τ, BegI σ b a 8 τ → PW l G mX0_begin w0 sz fin 56 [(0, .ref (adr b)), (1, .ref (adr a))] [] 0 0 (wp G adr LX Lf Rt τ)) :
    ∀ (r i : Nat), i + r = 8 → ∀ τ, BegI σ b a i τ → PW l G mX0_begin w0 sz fin 25 [(0, .ref (adr b)), (1, .ref (adr a)), (2, .int (nI i))] [] 0 0 (wp G adr LX Lf Rt τ) := by
  intro r
  induction r with
  | zero =>
    intro i hi τ hI
    have hi : i = 8 := by omega
    subst hi
    refine pw_iload_n dX0_begin_25 rfl ?_
    refine pw_bipush (v := 8) dX0_begin_26 rfl ?_
    refine pw_icmp_ge 56 dX0_begin_28 (by decide) (fun c_28 => ?_) (fun c_28 => absurd (nI_le (Nat.le_refl 8) (by decide)) c_28)
    exact pw_lk [(0, .ref (adr b)), (1, .ref (adr a))] ⟨rfl, rfl, trivial⟩ (kk τ hI)
  | succ r ih =>
    intro i hi τ hI
    have hv8 : vp_in (nI i) 8 := vp_in_nI (by omega) (by decide)
    have ev : (nI i).toNatClampNeg = i := nI_clamp (by omega)
    obtain ⟨i1, i2, i3, i4, i5⟩ := hI
    have el : τ.2.2.1 (a + 1) = σ.2.2.1 (a + 1) := (i1 (a + 1) (by omega)).2.2.1
    have eh : τ.2.2.1 (a + 2) = σ.2.2.1 (a + 2) := (i1 (a + 2) (by omega)).2.2.1
    refine pw_iload_n dX0_begin_25 rfl ?_
    refine pw_bipush (v := 8) dX0_begin_26 rfl ?_
    refine pw_icmp_ge 56 dX0_begin_28 (by decide) (fun c_28 => absurd c_28 (nI_ge (a := i) (b := 8) (by omega) (by decide))) (fun c_28 => ?_)
    refine pw_aload_n dX0_begin_31 rfl ?_
    refine pw_iload_n dX0_begin_32 rfl ?_
    refine pw_aload_n dX0_begin_33 rfl ?_
    refine lp_getr (a + 1) dX0_begin_34 fp_RX0_85.FL ha rfl (rX3_0 ha) ?_
    refine pw_iload_n dX0_begin_37 rfl ?_
    refine lp_iald dX0_begin_38 (kX3_0 ha) (by assumption) ?_
    refine pw_i2l dX0_begin_39 ?_
    refine pw_aload_n dX0_begin_40 rfl ?_
    refine lp_getr (a + 2) dX0_begin_41 fp_RX0_89.FL ha rfl (rX3_1 ha) ?_
    refine pw_iload_n dX0_begin_44 rfl ?_
    refine lp_iald dX0_begin_45 (kX3_1 ha) (by assumption) ?_
    refine pw_i2l dX0_begin_46 ?_
    refine lp_rV0 (mi' := mX0_assign) (As := [_, _, _]) (q := (RX0, TX0, 13)) dX0_begin_47 lk_RX0_91 mk_X0_assign mi_X0_assign me_X0_assign ⟨by decide, by decide⟩ rfl rfl (Nat.le_of_ble_eq_true rfl) hb rfl ⟨rfl, rfl⟩ ⟨Nat.zero_le _, Nat.zero_le _⟩ (x_assign hb i (by omega) _ _) (fun ρ hR => ?_)
    refine pw_iinc dX0_begin_50 rfl (by decide) ?_
    refine pw_goto (tgt := 25) dX0_begin_53 (by decide) ?_
    refine pw_lk [(0, .ref (adr b)), (1, .ref (adr a)), (2, .int (nI (i + 1)))] ⟨rfl, rfl, congrArg (fun x => some (Value.int x)) (nI_1 i), trivial⟩ (ih (i + 1) (by omega) ρ ?_)
    obtain ⟨x, rfl⟩ := hR
    refine ⟨?_, ?_, ?_, ?_, ?_⟩
    · refine Fr.I (Fr.L (Fr.L i1 ?_ ?_) ?_ ?_) ?_ ?_ <;> omega
    · exact (gI' (by omega)).trans i2
    · exact (gI' (by omega)).trans i3
    · exact (gI' (by omega)).trans i4
    · intro j hj
      refine ⟨?_, ?_⟩
      · show (sL _ (b + 4) _).2.2.2.1 (b + 3) j = _
        rw [gL' (by omega), gL, ev, el]
        unfold vp_updL
        by_cases e : j = i
        · rw [if_pos e, e]
        · rw [if_neg e]; exact (i5 j (by omega)).1
      · show (sL _ (b + 4) _).2.2.2.1 (b + 4) j = _
        rw [gL, ev, eh]
        unfold vp_updL
        by_cases e : j = i
        · rw [if_pos e, e]
        · rw [if_neg e]; exact (i5 j (by omega)).2
theorem beg_2 {sz : Nat} {w0 : va_W} {fin : OC → Prop} {b a : Nat} (hb : LX.1[b]? = some (.inl 0))
    (kk : ∀ τ, BegI σ b a 8 τ → BegJ b 30 τ → fin (.inl (none, wp G adr LX Lf Rt τ))) :
    ∀ (r i : Nat), i + r = 30 → ∀ τ, BegI σ b a 8 τ → BegJ b i τ → PW l G mX0_begin w0 sz fin 58 [(0, .ref (adr b)), (2, .int (nI i))] [] 0 0 (wp G adr LX Lf Rt τ) := by
  intro r
  induction r with
  | zero =>
    intro i hi τ hI hJ
    have hi : i = 30 := by omega
    subst hi
    refine pw_iload_n dX0_begin_58 rfl ?_
    refine pw_bipush (v := 30) dX0_begin_59 rfl ?_
    refine pw_icmp_ge 105 dX0_begin_61 (by decide) (fun c_61 => ?_) (fun c_61 => absurd (nI_le (Nat.le_refl 30) (by decide)) c_61)
    exact pw_vret rfl dX0_begin_105 (Nat.zero_le _) (Nat.zero_le _) (kk τ hI hJ)
  | succ r ih =>
    intro i hi τ hI hJ
    have hv8 : vp_in (nI i) 30 := vp_in_nI (by omega) (by decide)
    have ev : (nI i).toNatClampNeg = i := nI_clamp (by omega)
    obtain ⟨i1, i2, i3, i4, i5⟩ := hI
    refine pw_iload_n dX0_begin_58 rfl ?_
    refine pw_bipush (v := 30) dX0_begin_59 rfl ?_
    refine pw_icmp_ge 105 dX0_begin_61 (by decide) (fun c_61 => absurd c_61 (nI_ge (a := i) (b := 30) (by omega) (by decide))) (fun c_61 => ?_)
    refine pw_aload_n dX0_begin_64 rfl ?_
    refine lp_getr (b + 5) dX0_begin_65 fp_RX0_36.FL hb rfl (rX0_6 hb) ?_
    refine pw_iload_n dX0_begin_68 rfl ?_
    refine pw_iconst (v := 0) dX0_begin_69 rfl ?_
    refine lp_zast dX0_begin_70 (kX0_6 hb) (by assumption) rfl ?_
    refine pw_aload_n dX0_begin_71 rfl ?_
    refine lp_getr (b + 6) dX0_begin_72 fp_RX0_40.FL hb rfl (rX0_7 hb) ?_
    refine pw_iload_n dX0_begin_75 rfl ?_
    refine pw_iconst (v := 0) dX0_begin_76 rfl ?_
    refine lp_zast dX0_begin_77 (kX0_7 hb) (by assumption) rfl ?_
    refine pw_aload_n dX0_begin_78 rfl ?_
    refine lp_getr (b + 7) dX0_begin_79 fp_RX0_43.FL hb rfl (rX0_8 hb) ?_
    refine pw_iload_n dX0_begin_82 rfl ?_
    refine pw_lconst (v := 0) dX0_begin_83 rfl ?_
    refine lp_last dX0_begin_84 (kX0_8 hb) (by assumption) ?_
    refine pw_aload_n dX0_begin_85 rfl ?_
    refine lp_getr (b + 8) dX0_begin_86 fp_RX0_46.FL hb rfl (rX0_9 hb) ?_
    refine pw_iload_n dX0_begin_89 rfl ?_
    refine pw_lconst (v := 0) dX0_begin_90 rfl ?_
    refine lp_last dX0_begin_91 (kX0_9 hb) (by assumption) ?_
    refine pw_aload_n dX0_begin_92 rfl ?_
    refine lp_getr (b + 9) dX0_begin_93 fp_RX0_49.FL hb rfl (rX0_10 hb) ?_
    refine pw_iload_n dX0_begin_96 rfl ?_
    refine pw_iconst (v := 0) dX0_begin_97 rfl ?_
    refine lp_iast dX0_begin_98 (kX0_10 hb) (by assumption) ?_
    refine pw_iinc dX0_begin_99 rfl (by decide) ?_
    refine pw_goto (tgt := 58) dX0_begin_102 (by decide) ?_
    refine pw_lk [(0, .ref (adr b)), (2, .int (nI (i + 1)))] ⟨rfl, congrArg (fun x => some (Value.int x)) (nI_1 i), trivial⟩ (ih (i + 1) (by omega) _ ⟨?_, i2, i3, i4, ?_⟩ ?_)
    · refine Fr.A (Fr.L (Fr.L (Fr.A (Fr.A i1 ?_ ?_) ?_ ?_) ?_ ?_) ?_ ?_) ?_ ?_ <;> omega
    · intro j hj
      refine ⟨?_, ?_⟩
      · show (sL (sL _ (b + 7) _) (b + 8) _).2.2.2.1 (b + 3) j = _
        rw [gL' (by omega), gL' (by omega)]; exact (i5 j hj).1
      · show (sL (sL _ (b + 7) _) (b + 8) _).2.2.2.1 (b + 4) j = _
        rw [gL' (by omega), gL' (by omega)]; exact (i5 j hj).2
    · intro j hj
      rw [ev]
      refine ⟨?_, ?_, ?_, ?_, ?_⟩
      · rw [gA' (by omega)]
        show (sA (sA _ (b + 5) _) (b + 6) _).2.2.1 (b + 5) j = 0
        rw [gA' (by omega), gA]; exact upd0 (fun j hj => (hJ j hj).1) hj
      · rw [gA' (by omega)]
        show (sA (sA _ (b + 5) _) (b + 6) _).2.2.1 (b + 6) j = 0
        rw [gA, gA' (by omega)]; exact upd0 (fun j hj => (hJ j hj).2.1) hj
      · show (sL (sL _ (b + 7) _) (b + 8) _).2.2.2.1 (b + 7) j = 0
        rw [gL' (by omega), gL]; exact updL0 (fun j hj => (hJ j hj).2.2.1) hj
      · show (sL (sL _ (b + 7) _) (b + 8) _).2.2.2.1 (b + 8) j = 0
        rw [gL, gL' (by omega)]; exact updL0 (fun j hj => (hJ j hj).2.2.2.1) hj
      · rw [gA]
        show upd ((sA (sA _ (b + 5) _) (b + 6) _).2.2.1 (b + 9)) i 0 j = 0
        rw [gA' (by omega), gA' (by omega)]; exact upd0 (fun j hj => (hJ j hj).2.2.2.2) hj
theorem x_beginA {b a : Nat} (hb : LX.1[b]? = some (.inl 0)) (ha : LX.1[a]? = some (.inl 3)) (hab : a + 4 ≤ b ∨ b + 10 ≤ a) : SpR0 l G mX0_begin [.ref (adr b), .ref (adr a)] adr LX Lf Rt σ (fun τ => BegI σ b a 8 τ ∧ BegJ b 30 τ) := by
  refine spec_of (by decide) (Nat.le_of_ble_eq_true rfl) (fun sz => ?_)
  refine pw_aload_n dX0_begin_0 rfl ?_
  refine lp_getr (b + 1) dX0_begin_1 fp_RX0_12.FL hb rfl (rX0_0 hb) ?_
  refine pw_iconst (v := 0) dX0_begin_4 rfl ?_
  refine lp_puti dX0_begin_5 fp_RX0_65 (kX0_0 hb) rfl rfl rfl ?_
  refine pw_aload_n dX0_begin_8 rfl ?_
  refine pw_iconst (v := 0) dX0_begin_9 rfl ?_
  refine lp_puti dX0_begin_10 fp_RX0_18 hb rfl rfl rfl ?_
  refine pw_aload_n dX0_begin_13 rfl ?_
  refine pw_iconst (v := 0) dX0_begin_14 rfl ?_
  refine lp_puti dX0_begin_15 fp_RX0_22 hb rfl rfl rfl ?_
  refine pw_aload_n dX0_begin_18 rfl ?_
  refine pw_iconst (v := 0) dX0_begin_19 rfl ?_
  refine lp_puti dX0_begin_20 fp_RX0_33 hb rfl rfl rfl ?_
  refine pw_iconst (v := 0) dX0_begin_23 rfl ?_
  refine pw_istore_n dX0_begin_24 (by decide) ?_
  refine pw_lk [(0, .ref (adr b)), (1, .ref (adr a)), (2, .int (nI 0))] ⟨rfl, rfl, rfl, trivial⟩ (beg_1 (σ := σ) hb ha hab ?_ 8 0 rfl _ ⟨?_, ?_, ?_, ?_, fun j hj => absurd hj (Nat.not_lt_zero j)⟩)
  · intro τ hI
    refine pw_iconst (v := 0) dX0_begin_56 rfl ?_
    refine pw_istore_n dX0_begin_57 (by decide) ?_
    exact pw_lk [(0, .ref (adr b)), (2, .int (nI 0))] ⟨rfl, rfl, trivial⟩ (beg_2 (σ := σ) (a := a) hb (fun τ hI hJ => ⟨τ, rfl, hI, hJ⟩) 30 0 rfl τ hI (fun j hj => absurd hj (Nat.not_lt_zero j)))
  · refine Fr.I (Fr.I (Fr.I (Fr.I Fr.rf ?_ ?_) ?_ ?_) ?_ ?_) ?_ ?_ <;> omega
  · rw [gI' (by omega), gI' (by omega), gI' (by omega), gI]
  · rw [gI' (by omega), gI' (by omega), gI]
  · rw [gI' (by omega), gI]
/-- the analysis of an empty program -/
theorem x_go0 {b a p : Nat} (hb : LX.1[b]? = some (.inl 0)) (ha : LX.1[a]? = some (.inl 3)) (hp : LX.1[p]? = some (.inl 6)) (hab : a + 4 ≤ b ∨ b + 10 ≤ a) (hpb : p < b ∨ b + 10 ≤ p) (h0 : σ.1 p 0 = 0) : SpR0 l G mX0_go [.ref (adr b), .ref (adr p), .ref (adr a)] adr LX Lf Rt σ (fun τ => BegI σ b a 8 τ ∧ BegJ b 30 τ) := by
  refine spec_of (by decide) (Nat.le_of_ble_eq_true rfl) (fun sz => ?_)
  refine pw_aload_n dX0_go_0 rfl ?_
  refine pw_aload_n dX0_go_1 rfl ?_
  refine lp_rV0 (mi' := mX0_begin) (As := [_]) (q := (RX0, TX0, 13)) dX0_go_2 lk_RX0_60 mk_X0_begin mi_X0_begin me_X0_begin ⟨by decide, by decide⟩ rfl rfl (Nat.le_of_ble_eq_true rfl) hb rfl ⟨rfl, rfl⟩ ⟨Nat.zero_le _, Nat.zero_le _⟩ (x_beginA hb ha hab) (fun τ hQ => ?_)
  refine pw_iconst (v := 0) dX0_go_5 rfl ?_
  refine pw_istore_n dX0_go_6 (by decide) ?_
  refine pw_iload_n dX0_go_7 rfl ?_
  refine pw_ldc dX0_go_8 kc_RX0_64 ?_
  refine pw_icmp_ge 74 dX0_go_10 (by decide) (fun c_10 => absurd c_10 (by decide)) (fun c_10 => ?_)
  refine pw_aload_n dX0_go_13 rfl ?_
  refine lp_getr (b + 1) dX0_go_14 fp_RX0_12.FL hb rfl (rX0_0 hb) ?_
  refine lp_geti dX0_go_17 fp_RX0_65.FL (kX0_0 hb) rfl ?_
  refine pw_aload_n dX0_go_20 rfl ?_
  refine lp_geti dX0_go_21 fp_RX0_68.FL hp rfl ?_
  refine pw_icmp_ge 74 dX0_go_24 (by decide) (fun c_24 => ?_) (fun c_24 => absurd (show τ.1 p 0 ≤ τ.1 (b + 1) 0 by rw [hQ.1.2.1, (hQ.1.1 p (by omega)).1, h0]; decide) c_24)
  exact pw_vret rfl dX0_go_74 (Nat.zero_le _) (Nat.zero_le _) ⟨τ, rfl, hQ⟩
end XD
