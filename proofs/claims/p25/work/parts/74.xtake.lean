/-! THE CLASS: remove; reads of the program; digest, saving return -/
def TkI (σ : St) (g i : Nat) (τ : St) : Prop := Fr 13 20 σ τ ∧ τ.1 13 0 = σ.1 13 0 ∧ ∀ c, 1 ≤ c → c ≤ 6 → ∀ j, τ.2.2.1 (13 + c) j = if g ≤ j ∧ j < i then σ.2.2.1 (13 + c) (j + 1) else σ.2.2.1 (13 + c) j
theorem tk_row {r0 r : Nat → Int32} {g i : Nat} (hgi : g ≤ i) (h : ∀ j, r j = if g ≤ j ∧ j < i then r0 (j + 1) else r0 j) : ∀ j, upd r i (r (i + 1)) j = if g ≤ j ∧ j < i + 1 then r0 (j + 1) else r0 j := by
  intro j
  unfold upd
  by_cases e : j = i
  · rw [if_pos e, if_pos ⟨by omega, by omega⟩, h (i + 1), if_neg (by omega), e]
  · rw [if_neg e, h j]
    by_cases q : g ≤ j ∧ j < i
    · rw [if_pos q, if_pos ⟨q.1, by omega⟩]
    · rw [if_neg q, if_neg (by omega)]
section XK
variable {l : Launch} {G : cxG} {adr : Nat → Nat} {Lf Rt : va_W} {σ : St} {al sv tx : Nat → Int32} {N m tl : Nat}
theorem tk_1 {sz : Nat} {w0 : va_W} {fin : OC → Prop} {g : Nat} (hN : N ≤ 30) (h0 : σ.1 13 0 = nI N) (hg : g < N)
    (kk : ∀ τ, TkI σ g (N - 1) τ → PW l G mX6_takeOut w0 sz fin 102 [(0, .ref (adr 13)), (1, .int (nI g))] [] 0 0 (wp G adr LX Lf Rt τ)) :
    ∀ (r i : Nat), i + r = N - 1 → g ≤ i → ∀ τ, TkI σ g i τ → PW l G mX6_takeOut w0 sz fin 2 [(0, .ref (adr 13)), (1, .int (nI g)), (2, .int (nI i))] [] 0 0 (wp G adr LX Lf Rt τ) := by
  intro r
  have e1 : nI N - 1 = nI (N - 1) := nI_m1 (by omega)
  induction r with
  | zero =>
    intro i hi hgi τ hI
    have hi : i = N - 1 := by omega
    subst hi
    refine pw_iload_n dX6_takeOut_2 rfl ?_
    refine pw_aload_n dX6_takeOut_3 rfl ?_
    refine lp_geti dX6_takeOut_4 fp_RX6_9.FL rfl rfl ?_
    refine pw_top (nI N) (hI.2.1.trans h0) ?_
    refine pw_iconst (v := 1) dX6_takeOut_7 rfl ?_
    refine pw_isub dX6_takeOut_8 ?_
    refine pw_top (nI (N - 1)) e1 ?_
    refine pw_icmp_ge 102 dX6_takeOut_9 (by decide) (fun c_9 => ?_) (fun c_9 => absurd (nI_le (Nat.le_refl _) (by omega)) c_9)
    exact pw_lk [(0, .ref (adr 13)), (1, .int (nI g))] ⟨rfl, rfl, trivial⟩ (kk τ hI)
  | succ r ih =>
    intro i hi hgi τ hI
    have bi : vp_in (nI i) 30 := vp_in_nI (by omega) (by decide)
    have bi1 : vp_in (nI (i + 1)) 30 := vp_in_nI (by omega) (by decide)
    have ei : (nI i).toNatClampNeg = i := nI_clamp (by omega)
    have ei1 : (nI (i + 1)).toNatClampNeg = i + 1 := nI_clamp (by omega)
    refine pw_iload_n dX6_takeOut_2 rfl ?_
    refine pw_aload_n dX6_takeOut_3 rfl ?_
    refine lp_geti dX6_takeOut_4 fp_RX6_9.FL rfl rfl ?_
    refine pw_top (nI N) (hI.2.1.trans h0) ?_
    refine pw_iconst (v := 1) dX6_takeOut_7 rfl ?_
    refine pw_isub dX6_takeOut_8 ?_
    refine pw_top (nI (N - 1)) e1 ?_
    refine pw_icmp_ge 102 dX6_takeOut_9 (by decide) (fun c_9 => absurd c_9 (nI_ge (by omega) (by omega))) (fun c_9 => ?_)
    refine pw_aload_n dX6_takeOut_12 rfl ?_
    refine lp_getr 14 dX6_takeOut_13 fp_RX6_15.FL rfl rfl rfl ?_
    refine pw_iload_n dX6_takeOut_16 rfl ?_
    refine pw_aload_n dX6_takeOut_17 rfl ?_
    refine lp_getr 14 dX6_takeOut_18 fp_RX6_15.FL rfl rfl rfl ?_
    refine pw_iload_n dX6_takeOut_21 rfl ?_
    refine pw_iconst (v := 1) dX6_takeOut_22 rfl ?_
    refine pw_iadd dX6_takeOut_23 ?_
    refine pw_top (nI (i + 1)) (nI_1 i) ?_
    refine lp_iald dX6_takeOut_24 rfl bi1 ?_
    refine lp_iast dX6_takeOut_25 rfl bi ?_
    rw [ei, ei1]
    refine pw_aload_n dX6_takeOut_26 rfl ?_
    refine lp_getr 15 dX6_takeOut_27 fp_RX6_19.FL rfl rfl rfl ?_
    refine pw_iload_n dX6_takeOut_30 rfl ?_
    refine pw_aload_n dX6_takeOut_31 rfl ?_
    refine lp_getr 15 dX6_takeOut_32 fp_RX6_19.FL rfl rfl rfl ?_
    refine pw_iload_n dX6_takeOut_35 rfl ?_
    refine pw_iconst (v := 1) dX6_takeOut_36 rfl ?_
    refine pw_iadd dX6_takeOut_37 ?_
    refine pw_top (nI (i + 1)) (nI_1 i) ?_
    refine lp_iald dX6_takeOut_38 rfl bi1 ?_
    refine lp_iast dX6_takeOut_39 rfl bi ?_
    rw [ei, ei1]
    refine pw_aload_n dX6_takeOut_40 rfl ?_
    refine lp_getr 16 dX6_takeOut_41 fp_RX6_22.FL rfl rfl rfl ?_
    refine pw_iload_n dX6_takeOut_44 rfl ?_
    refine pw_aload_n dX6_takeOut_45 rfl ?_
    refine lp_getr 16 dX6_takeOut_46 fp_RX6_22.FL rfl rfl rfl ?_
    refine pw_iload_n dX6_takeOut_49 rfl ?_
    refine pw_iconst (v := 1) dX6_takeOut_50 rfl ?_
    refine pw_iadd dX6_takeOut_51 ?_
    refine pw_top (nI (i + 1)) (nI_1 i) ?_
    refine lp_iald dX6_takeOut_52 rfl bi1 ?_
    refine lp_iast dX6_takeOut_53 rfl bi ?_
    rw [ei, ei1]
    refine pw_aload_n dX6_takeOut_54 rfl ?_
    refine lp_getr 17 dX6_takeOut_55 fp_RX6_25.FL rfl rfl rfl ?_
    refine pw_iload_n dX6_takeOut_58 rfl ?_
    refine pw_aload_n dX6_takeOut_59 rfl ?_
    refine lp_getr 17 dX6_takeOut_60 fp_RX6_25.FL rfl rfl rfl ?_
    refine pw_iload_n dX6_takeOut_63 rfl ?_
    refine pw_iconst (v := 1) dX6_takeOut_64 rfl ?_
    refine pw_iadd dX6_takeOut_65 ?_
    refine pw_top (nI (i + 1)) (nI_1 i) ?_
    refine lp_iald dX6_takeOut_66 rfl bi1 ?_
    refine lp_iast dX6_takeOut_67 rfl bi ?_
    rw [ei, ei1]
    refine pw_aload_n dX6_takeOut_68 rfl ?_
    refine lp_getr 18 dX6_takeOut_69 fp_RX6_28.FL rfl rfl rfl ?_
    refine pw_iload_n dX6_takeOut_72 rfl ?_
    refine pw_aload_n dX6_takeOut_73 rfl ?_
    refine lp_getr 18 dX6_takeOut_74 fp_RX6_28.FL rfl rfl rfl ?_
    refine pw_iload_n dX6_takeOut_77 rfl ?_
    refine pw_iconst (v := 1) dX6_takeOut_78 rfl ?_
    refine pw_iadd dX6_takeOut_79 ?_
    refine pw_top (nI (i + 1)) (nI_1 i) ?_
    refine lp_iald dX6_takeOut_80 rfl bi1 ?_
    refine lp_iast dX6_takeOut_81 rfl bi ?_
    rw [ei, ei1]
    refine pw_aload_n dX6_takeOut_82 rfl ?_
    refine lp_getr 19 dX6_takeOut_83 fp_RX6_31.FL rfl rfl rfl ?_
    refine pw_iload_n dX6_takeOut_86 rfl ?_
    refine pw_aload_n dX6_takeOut_87 rfl ?_
    refine lp_getr 19 dX6_takeOut_88 fp_RX6_31.FL rfl rfl rfl ?_
    refine pw_iload_n dX6_takeOut_91 rfl ?_
    refine pw_iconst (v := 1) dX6_takeOut_92 rfl ?_
    refine pw_iadd dX6_takeOut_93 ?_
    refine pw_top (nI (i + 1)) (nI_1 i) ?_
    refine lp_iald dX6_takeOut_94 rfl bi1 ?_
    refine lp_iast dX6_takeOut_95 rfl bi ?_
    rw [ei, ei1]
    refine pw_iinc dX6_takeOut_96 rfl (by decide) ?_
    refine pw_goto (tgt := 2) dX6_takeOut_99 (by decide) ?_
    refine pw_lk [(0, .ref (adr 13)), (1, .int (nI g)), (2, .int (nI (i + 1)))] ⟨rfl, rfl, congrArg (fun x => some (Value.int x)) (nI_1 i), trivial⟩ (ih (i + 1) (by omega) (by omega) _ ⟨?_, hI.2.1, ?_⟩)
    · refine Fr.A (Fr.A (Fr.A (Fr.A (Fr.A (Fr.A hI.1 ?_ ?_) ?_ ?_) ?_ ?_) ?_ ?_) ?_ ?_) ?_ ?_ <;> omega
    · intro c c1 c2
      have q := hI.2.2
      rcases (show c = 1 ∨ c = 2 ∨ c = 3 ∨ c = 4 ∨ c = 5 ∨ c = 6 by omega) with e | e | e | e | e | e <;> subst e
      · rw [gA' (by omega), gA' (by omega), gA' (by omega), gA' (by omega), gA' (by omega), gA]; exact tk_row hgi (q 1 (by omega) (by omega))
      · rw [gA' (by omega), gA' (by omega), gA' (by omega), gA' (by omega), gA, gA' (by omega)]; exact tk_row hgi (q 2 (by omega) (by omega))
      · rw [gA' (by omega), gA' (by omega), gA' (by omega), gA, gA' (by omega), gA' (by omega)]; exact tk_row hgi (q 3 (by omega) (by omega))
      · rw [gA' (by omega), gA' (by omega), gA, gA' (by omega), gA' (by omega), gA' (by omega)]; exact tk_row hgi (q 4 (by omega) (by omega))
      · rw [gA' (by omega), gA, gA' (by omega), gA' (by omega), gA' (by omega), gA' (by omega)]; exact tk_row hgi (q 5 (by omega) (by omega))
      · rw [gA, gA' (by omega), gA' (by omega), gA' (by omega), gA' (by omega), gA' (by omega)]; exact tk_row hgi (q 6 (by omega) (by omega))
def TkJ (σ : St) (g n i : Nat) (τ : St) : Prop := Fr 13 20 σ τ ∧ τ.1 13 0 = nI n ∧ (∀ c, 1 ≤ c → c ≤ 5 → τ.2.2.1 (13 + c) = σ.2.2.1 (13 + c)) ∧ ∀ j, τ.2.2.1 19 j = if j < i then shI g (σ.2.2.1 19 j) else σ.2.2.1 19 j
theorem tk_2 {sz : Nat} {w0 : va_W} {fin : OC → Prop} {g n : Nat} (hn : n ≤ 30) (kk : ∀ τ, TkJ σ g n n τ → fin (.inl (none, wp G adr LX Lf Rt τ))) :
    ∀ (r i : Nat), i + r = n → ∀ τ, TkJ σ g n i τ → PW l G mX6_takeOut w0 sz fin 114 [(0, .ref (adr 13)), (1, .int (nI g)), (2, .int (nI i))] [] 0 0 (wp G adr LX Lf Rt τ) := by
  intro r
  induction r with
  | zero =>
    intro i hi τ hI
    have hi : i = n := by omega
    subst hi
    refine pw_iload_n dX6_takeOut_114 rfl ?_
    refine pw_aload_n dX6_takeOut_115 rfl ?_
    refine lp_geti dX6_takeOut_116 fp_RX6_9.FL rfl rfl ?_
    refine pw_top (nI i) hI.2.1 ?_
    refine pw_icmp_ge 148 dX6_takeOut_119 (by decide) (fun c_119 => ?_) (fun c_119 => absurd (nI_le (Nat.le_refl i) (by omega)) c_119)
    exact pw_vret rfl dX6_takeOut_148 (Nat.zero_le _) (Nat.zero_le _) (kk τ hI)
  | succ r ih =>
    intro i hi τ hI
    have bi : vp_in (nI i) 30 := vp_in_nI (by omega) (by decide)
    have ei : (nI i).toNatClampNeg = i := nI_clamp (by omega)
    have er : τ.2.2.1 19 i = σ.2.2.1 19 i := by rw [hI.2.2.2 i, if_neg (by omega)]
    have hrow : ∀ j, (if j = i then shI g (σ.2.2.1 19 i) else τ.2.2.1 19 j) = if j < i + 1 then shI g (σ.2.2.1 19 j) else σ.2.2.1 19 j := by
      intro j
      by_cases e : j = i
      · rw [if_pos e, if_pos (by omega), e]
      · rw [if_neg e, hI.2.2.2 j]
        by_cases q : j < i
        · rw [if_pos q, if_pos (by omega)]
        · rw [if_neg q, if_neg (by omega)]
    by_cases hc : nI g < σ.2.2.1 19 i
    · have es : shI g (σ.2.2.1 19 i) = σ.2.2.1 19 i - 1 := by unfold shI; rw [if_pos hc]
      refine pw_iload_n dX6_takeOut_114 rfl ?_
      refine pw_aload_n dX6_takeOut_115 rfl ?_
      refine lp_geti dX6_takeOut_116 fp_RX6_9.FL rfl rfl ?_
      refine pw_top (nI n) hI.2.1 ?_
      refine pw_icmp_ge 148 dX6_takeOut_119 (by decide) (fun c_119 => absurd c_119 (nI_ge (by omega) (by omega))) (fun c_119 => ?_)
      refine pw_aload_n dX6_takeOut_122 rfl ?_
      refine lp_getr 19 dX6_takeOut_123 fp_RX6_31.FL rfl rfl rfl ?_
      refine pw_iload_n dX6_takeOut_126 rfl ?_
      refine lp_iald dX6_takeOut_127 rfl bi ?_
      refine pw_top (σ.2.2.1 19 i) (by rw [ei]; exact er) ?_
      refine pw_iload_n dX6_takeOut_128 rfl ?_
      refine pw_icmp_le 142 dX6_takeOut_129 (by decide) (fun c_129 => absurd hc (Int32.not_lt.mpr c_129)) (fun c_129 => ?_)
      refine pw_aload_n dX6_takeOut_132 rfl ?_
      refine lp_getr 19 dX6_takeOut_133 fp_RX6_31.FL rfl rfl rfl ?_
      refine pw_iload_n dX6_takeOut_136 rfl ?_
      refine pw_dup2 dX6_takeOut_137 rfl rfl ?_
      refine lp_iald dX6_takeOut_138 rfl bi ?_
      refine pw_top (σ.2.2.1 19 i) (by rw [ei]; exact er) ?_
      refine pw_iconst (v := 1) dX6_takeOut_139 rfl ?_
      refine pw_isub dX6_takeOut_140 ?_
      refine lp_iast dX6_takeOut_141 rfl bi ?_
      rw [ei]
      refine pw_iinc dX6_takeOut_142 rfl (by decide) ?_
      refine pw_goto (tgt := 114) dX6_takeOut_145 (by decide) ?_
      refine pw_lk [(0, .ref (adr 13)), (1, .int (nI g)), (2, .int (nI (i + 1)))] ⟨rfl, rfl, congrArg (fun x => some (Value.int x)) (nI_1 i), trivial⟩ (ih (i + 1) (by omega) _ ⟨Fr.A hI.1 (by omega) (by omega), hI.2.1, fun c c1 c2 => by rw [gA' (by omega)]; exact hI.2.2.1 c c1 c2, fun j => ?_⟩)
      rw [gA, ← hrow j, es]
      rfl
    · have es : shI g (σ.2.2.1 19 i) = σ.2.2.1 19 i := by unfold shI; rw [if_neg hc]
      refine pw_iload_n dX6_takeOut_114 rfl ?_
      refine pw_aload_n dX6_takeOut_115 rfl ?_
      refine lp_geti dX6_takeOut_116 fp_RX6_9.FL rfl rfl ?_
      refine pw_top (nI n) hI.2.1 ?_
      refine pw_icmp_ge 148 dX6_takeOut_119 (by decide) (fun c_119 => absurd c_119 (nI_ge (by omega) (by omega))) (fun c_119 => ?_)
      refine pw_aload_n dX6_takeOut_122 rfl ?_
      refine lp_getr 19 dX6_takeOut_123 fp_RX6_31.FL rfl rfl rfl ?_
      refine pw_iload_n dX6_takeOut_126 rfl ?_
      refine lp_iald dX6_takeOut_127 rfl bi ?_
      refine pw_top (σ.2.2.1 19 i) (by rw [ei]; exact er) ?_
      refine pw_iload_n dX6_takeOut_128 rfl ?_
      refine pw_icmp_le 142 dX6_takeOut_129 (by decide) (fun c_129 => ?_) (fun c_129 => absurd (Int32.not_lt.mp hc) c_129)
      refine pw_iinc dX6_takeOut_142 rfl (by decide) ?_
      refine pw_goto (tgt := 114) dX6_takeOut_145 (by decide) ?_
      refine pw_lk [(0, .ref (adr 13)), (1, .int (nI g)), (2, .int (nI (i + 1)))] ⟨rfl, rfl, congrArg (fun x => some (Value.int x)) (nI_1 i), trivial⟩ (ih (i + 1) (by omega) _ ⟨hI.1, hI.2.1, hI.2.2.1, fun j => ?_⟩)
      rw [← hrow j, es]
      by_cases e : j = i
      · rw [if_pos e, e]; exact er
      · rw [if_neg e]
theorem x_takeOut (hW : wfP al N) (hR : PgR σ 13 al N) (g : Nat) (hg : g < N) (hl : ¬ 4 ≤ kdA al g) : SpR0 l G mX6_takeOut [.ref (adr 13), .int (nI g)] adr LX Lf Rt σ (fun τ => Fr 13 20 σ τ ∧ PgR τ 13 (alR al g N) (N - 1)) := by
  refine spec_of (by decide) (Nat.le_of_ble_eq_true rfl) (fun sz => ?_)
  have hN := hW.1
  have e1 : nI N - 1 = nI (N - 1) := nI_m1 (by omega)
  refine pw_iload_n dX6_takeOut_0 rfl ?_
  refine pw_istore_n dX6_takeOut_1 (by decide) ?_
  refine pw_lk [(0, .ref (adr 13)), (1, .int (nI g)), (2, .int (nI g))] ⟨rfl, rfl, rfl, trivial⟩ (tk_1 hN hR.1 hg (fun τ hI => ?_) (N - 1 - g) g (by omega) (Nat.le_refl _) σ ⟨Fr.rf, rfl, fun c _ _ j => by rw [if_neg (by omega)]⟩)
  refine pw_aload_n dX6_takeOut_102 rfl ?_
  refine pw_dup dX6_takeOut_103 rfl ?_
  refine lp_geti dX6_takeOut_104 fp_RX6_9.FL rfl rfl ?_
  refine pw_top (nI N) (hI.2.1.trans hR.1) ?_
  refine pw_iconst (v := 1) dX6_takeOut_107 rfl ?_
  refine pw_isub dX6_takeOut_108 ?_
  refine pw_top (nI (N - 1)) e1 ?_
  refine lp_puti dX6_takeOut_109 fp_RX6_9 rfl rfl rfl rfl ?_
  refine pw_iconst (v := 0) dX6_takeOut_112 rfl ?_
  refine pw_istore_n dX6_takeOut_113 (by decide) ?_
  refine pw_lk [(0, .ref (adr 13)), (1, .int (nI g)), (2, .int (nI 0))] ⟨rfl, rfl, rfl, trivial⟩ (tk_2 (σ := sI τ 13 0 (nI (N - 1))) (n := N - 1) (by omega) (fun ρ hJ => ⟨ρ, rfl, (hI.1.tr (Fr.I Fr.rf (by omega) (by omega))).tr hJ.1, hJ.2.1, fun j hj => ?_⟩) (N - 1) 0 (by omega) _ ⟨Fr.rf, gI, fun c _ _ => rfl, fun j => by rw [if_neg (Nat.not_lt_zero j)]⟩)
  have hs : srcN g j < N := by unfold srcN; split <;> omega
  have hrow : ∀ c, 1 ≤ c → c ≤ 6 → τ.2.2.1 (13 + c) j = σ.2.2.1 (13 + c) (srcN g j) := by
    intro c c1 c2
    rw [hI.2.2 c c1 c2 j]
    unfold srcN
    by_cases q : j < g
    · rw [if_neg (by omega), if_pos q]
    · rw [if_pos ⟨by omega, by omega⟩, if_neg q]
  obtain ⟨r1, r2, r3, r4, r5, r6⟩ := hR.2 (srcN g j) hs
  have hj5 : ∀ c, 1 ≤ c → c ≤ 5 → ρ.2.2.1 (13 + c) j = τ.2.2.1 (13 + c) j := fun c c1 c2 => congrFun (hJ.2.2.1 c c1 c2) j
  refine ⟨?_, ?_, ?_, ?_, ?_, ?_⟩
  · rw [hj5 1 (by omega) (by omega), hrow 1 (by omega) (by omega), kdR hg hN hj]; exact r1
  · rw [hj5 2 (by omega) (by omega), hrow 2 (by omega) (by omega), alR_at hg hN hj (show 1 < 4 by decide)]; exact r2
  · rw [hj5 3 (by omega) (by omega), hrow 3 (by omega) (by omega), alR_at hg hN hj (show 2 < 4 by decide)]; exact r3
  · rw [hj5 4 (by omega) (by omega), hrow 4 (by omega) (by omega), alR_at hg hN hj (show 3 < 4 by decide)]; exact r4
  · rw [hj5 5 (by omega) (by omega), hrow 5 (by omega) (by omega), r5]
    congr 1
    unfold lmd lmid
    rw [kdR hg hN hj]
    have h1 := (lscR1 hW.2.2.1 hg hN hl hj).1
    by_cases k5 : kdA al (srcN g j) = 5
    · rw [if_pos k5, if_pos k5, h1]
    · rw [if_neg k5, if_neg k5, h1]
  · rw [show (13 + 6 : Nat) = 19 from rfl, hJ.2.2.2 j, if_pos hj, cPtR hW hg hl hj, ← r6]
    exact congrArg (shI g) (hrow 6 (by omega) (by omega))
theorem x_removeG (hX : XI σ m tl N al sv tx) (i : Nat) (hi : i < N) (hl : ¬ 4 ≤ kdA al i) : SpR1 l G mX10_remove [.ref (adr 0), .int (nI i)] adr LX Lf Rt σ (fun r τ => r = .int (nI (N - 1)) ∧ XI τ (mSaveM m + 1) tl (N - 1) (alR al i N) (mSaveF al sv m) tx) := by
  refine spec_of (by decide) (Nat.le_of_ble_eq_true rfl) (fun sz => ?_)
  have hX' := hX
  obtain ⟨h1, hP, hH, -, -⟩ := hX'
  have hN := hP.1.1
  have he : edgeB (σ.2.2.1 14 i) = false := by rw [edge_pi hP hi, decide_eq_false hl]
  have hP1 : ∀ ρ, Fr 24 74 σ ρ → PI (sI (sI ρ 0 9 0) 0 10 0) al N := fun ρ f1 => ((hP.fr f1 (by omega)).fr Fr.I0 (by omega)).fr Fr.I0 (by omega)
  refine pw_aload_n dX10_remove_0 rfl ?_
  refine pw_iload_n dX10_remove_1 rfl ?_
  refine lp_cV0 (mi' := mX10_requireInstruction0) (As := [_]) (q := (RX10, TX10, 14)) dX10_remove_2 lk_RX10_155 mk_X10_requireInstruction mi_X10_requireInstruction me_X10_requireInstruction ⟨by decide, by decide⟩ rfl rfl (Nat.le_of_ble_eq_true rfl) rfl rfl ⟨rfl, rfl⟩ ⟨Nat.zero_le _, Nat.zero_le _⟩ (x_reqI (nI i) (ixI hP hi)) ?_
  refine pw_aload_n dX10_remove_5 rfl ?_
  refine pw_iload_n dX10_remove_6 rfl ?_
  refine lp_cV0 (mi' := mX10_requireNoLoopEdge0) (As := [_]) (q := (RX10, TX10, 14)) dX10_remove_7 lk_RX10_158 mk_X10_requireNoLoopEdge mi_X10_requireNoLoopEdge me_X10_requireNoLoopEdge ⟨by decide, by decide⟩ rfl rfl (Nat.le_of_ble_eq_true rfl) rfl rfl ⟨rfl, rfl⟩ ⟨Nat.zero_le _, Nat.zero_le _⟩ (x_reqE i (by omega) he) ?_
  refine pw_aload_n dX10_remove_10 rfl ?_
  refine lp_rV0 (mi' := mX10_saveForUndo) (As := []) (q := (RX10, TX10, 14)) dX10_remove_11 lk_RX10_114 mk_X10_saveForUndo mi_X10_saveForUndo me_X10_saveForUndo ⟨by decide, by decide⟩ rfl rfl (Nat.le_of_ble_eq_true rfl) rfl rfl ⟨rfl, rfl⟩ ⟨Nat.zero_le _, Nat.zero_le _⟩ (x_saveU hP hH) (fun τ hR => ?_)
  obtain ⟨ρ, f1, f2, hτ⟩ := hR
  have hPt : PI τ al N := by rw [hτ]; exact hP1 ρ f1
  refine pw_aload_n dX10_remove_14 rfl ?_
  refine lp_getr 12 dX10_remove_15 fp_RX10_35.FL rfl rfl rfl ?_
  refine lp_getr 13 dX10_remove_18 fp_RX10_117.FL rfl rfl rfl ?_
  refine pw_iload_n dX10_remove_21 rfl ?_
  refine lp_rV0 (mi' := mX6_takeOut) (As := [_]) (q := (RX6, TX6, 7)) dX10_remove_22 lk_RX10_161 mk_X6_takeOut mi_X6_takeOut me_X6_takeOut ⟨by decide, by decide⟩ rfl rfl (Nat.le_of_ble_eq_true rfl) rfl rfl ⟨rfl, rfl⟩ ⟨Nat.zero_le _, Nat.zero_le _⟩ (x_takeOut (σ := τ) hP.1 hPt.2.1 i hi hl) (fun τ2 hT => ?_)
  refine pw_aload_n dX10_remove_25 rfl ?_
  refine lp_getr 12 dX10_remove_26 fp_RX10_35.FL rfl rfl rfl ?_
  refine lp_getr 13 dX10_remove_29 fp_RX10_117.FL rfl rfl rfl ?_
  refine lp_geti dX10_remove_32 fp_RX10_124.FL rfl rfl ?_
  have hlt : ∀ k, 121 ≤ k → alR al i N k = al k := fun k hk => by
    unfold alR upd
    rw [if_neg (by omega)]
    show (if 1 + 4 * i ≤ k ∧ k < 117 then al (k + 4) else al k) = _
    rw [if_neg (by omega)]
  refine pw_iret rfl rfl dX10_remove_35 (Nat.zero_le _) (Nat.zero_le _) ⟨_, _, rfl, congrArg Value.int hT.2.1, xi_new hX f1 f2 (by rw [← hτ]; exact hT.1.mono (by omega) (by omega)) ⟨wfR hP.1 hi hl, hT.2, fun v hv => ?_, fun v hv => ?_, fun v hv => ?_⟩⟩
  · rw [hlt _ (by omega), hlt _ (by omega)]
    exact (hPt.2.2.1.fr hT.1 (by omega)) v hv
  · rw [hlt _ (by omega)]
    exact (hPt.2.2.2.1.fr hT.1 (by omega)) v hv
  · rw [hlt _ (by omega), hlt _ (by omega)]; exact hP.2.2.2.2 v hv
theorem x_remove_t2 (hl : l.stackTraces = false) (hP : PI σ al N) (i : Nat) (hi : i < N) (h4 : 4 ≤ kdA al i) : SpecT l G mX10_remove [.ref (adr 0), .int (nI i)] (wp G adr LX Lf Rt σ) sISE (wp G adr LX Lf Rt σ) := by
  refine spec_of (by decide) (Nat.le_of_ble_eq_true rfl) (fun sz => ?_)
  have h30 : i < 30 := by have := hP.1.1; omega
  have he : edgeB (σ.2.2.1 14 i) = true := by rw [edge_pi hP hi, decide_eq_true h4]
  refine pw_aload_n dX10_remove_0 rfl ?_
  refine pw_iload_n dX10_remove_1 rfl ?_
  refine lp_cV0 (mi' := mX10_requireInstruction0) (As := [_]) (q := (RX10, TX10, 14)) dX10_remove_2 lk_RX10_155 mk_X10_requireInstruction mi_X10_requireInstruction me_X10_requireInstruction ⟨by decide, by decide⟩ rfl rfl (Nat.le_of_ble_eq_true rfl) rfl rfl ⟨rfl, rfl⟩ ⟨Nat.zero_le _, Nat.zero_le _⟩ (x_reqI (nI i) (ixI hP hi)) ?_
  refine pw_aload_n dX10_remove_5 rfl ?_
  refine pw_iload_n dX10_remove_6 rfl ?_
  exact lp_tV (mi' := mX10_requireNoLoopEdge) (As := [_]) (q := (RX10, TX10, 14)) dX10_remove_7 lk_RX10_158 mk_X10_requireNoLoopEdge mi_X10_requireNoLoopEdge me_X10_requireNoLoopEdge ⟨by decide, by decide⟩ rfl rfl (Nat.le_of_ble_eq_true rfl) rfl rfl ⟨Nat.le_of_ble_eq_true rfl, Nat.le_of_ble_eq_true rfl⟩ (x_reqE_t hl i h30 he) rfl
theorem x_instruction (hP : PI σ al N) (i c : Nat) (hi : i < N) (hc : c < 4) : SpecD l G mX10_instruction [.ref (adr 0), .int (nI i), .int (nI c)] (wp G adr LX Lf Rt σ) (some (.int (if c = 0 then al (1 + 4 * i) else if c = 1 then al (1 + 4 * i + 1) else if c = 2 then nI (lmd al i).1 else cPt al N i))) (wp G adr LX Lf Rt σ) := by
  refine spec_of (by decide) (Nat.le_of_ble_eq_true rfl) (fun sz => ?_)
  have h30 : i < 30 := by have := hP.1.1; omega
  have bi : vp_in (nI i) 30 := vp_in_nI h30 (by decide)
  have ei : (nI i).toNatClampNeg = i := nI_clamp (by omega)
  obtain ⟨r1, r2, r3, r4, r5, r6⟩ := hP.2.1.2 i hi
  rcases (show c = 0 ∨ c = 1 ∨ c = 2 ∨ c = 3 by omega) with e | e | e | e <;> subst e
  · refine pw_aload_n dX10_instruction_0 rfl ?_
    refine pw_iload_n dX10_instruction_1 rfl ?_
    refine lp_cV0 (mi' := mX10_requireInstruction0) (As := [_]) (q := (RX10, TX10, 14)) dX10_instruction_2 lk_RX10_155 mk_X10_requireInstruction mi_X10_requireInstruction me_X10_requireInstruction ⟨by decide, by decide⟩ rfl rfl (Nat.le_of_ble_eq_true rfl) rfl rfl ⟨rfl, rfl⟩ ⟨Nat.zero_le _, Nat.zero_le _⟩ (x_reqI (nI i) (ixI hP hi)) ?_
    refine pw_iload_n dX10_instruction_5 rfl ?_
    refine pw_tableIn (off := 30) 36 dX10_instruction_6 (by decide) (by decide) (by decide) (by decide) ?_
    refine pw_aload_n dX10_instruction_36 rfl ?_
    refine lp_getr 12 dX10_instruction_37 fp_RX10_35.FL rfl rfl rfl ?_
    refine lp_getr 13 dX10_instruction_40 fp_RX10_117.FL rfl rfl rfl ?_
    refine lp_getr 14 dX10_instruction_43 fp_RX10_164.FL rfl rfl rfl ?_
    refine pw_iload_n dX10_instruction_46 rfl ?_
    refine lp_iald dX10_instruction_47 rfl bi ?_
    refine pw_top (kdA al i) (by rw [ei]; exact r1) ?_
    exact pw_iret rfl rfl dX10_instruction_48 (Nat.zero_le _) (Nat.zero_le _) rfl
  · refine pw_aload_n dX10_instruction_0 rfl ?_
    refine pw_iload_n dX10_instruction_1 rfl ?_
    refine lp_cV0 (mi' := mX10_requireInstruction0) (As := [_]) (q := (RX10, TX10, 14)) dX10_instruction_2 lk_RX10_155 mk_X10_requireInstruction mi_X10_requireInstruction me_X10_requireInstruction ⟨by decide, by decide⟩ rfl rfl (Nat.le_of_ble_eq_true rfl) rfl rfl ⟨rfl, rfl⟩ ⟨Nat.zero_le _, Nat.zero_le _⟩ (x_reqI (nI i) (ixI hP hi)) ?_
    refine pw_iload_n dX10_instruction_5 rfl ?_
    refine pw_tableIn (off := 43) 49 dX10_instruction_6 (by decide) (by decide) (by decide) (by decide) ?_
    refine pw_aload_n dX10_instruction_49 rfl ?_
    refine lp_getr 12 dX10_instruction_50 fp_RX10_35.FL rfl rfl rfl ?_
    refine lp_getr 13 dX10_instruction_53 fp_RX10_117.FL rfl rfl rfl ?_
    refine lp_getr 15 dX10_instruction_56 fp_RX10_167.FL rfl rfl rfl ?_
    refine pw_iload_n dX10_instruction_59 rfl ?_
    refine lp_iald dX10_instruction_60 rfl bi ?_
    refine pw_top (al (1 + 4 * i + 1)) (by rw [ei]; exact r2) ?_
    exact pw_iret rfl rfl dX10_instruction_61 (Nat.zero_le _) (Nat.zero_le _) rfl
  · refine pw_aload_n dX10_instruction_0 rfl ?_
    refine pw_iload_n dX10_instruction_1 rfl ?_
    refine lp_cV0 (mi' := mX10_requireInstruction0) (As := [_]) (q := (RX10, TX10, 14)) dX10_instruction_2 lk_RX10_155 mk_X10_requireInstruction mi_X10_requireInstruction me_X10_requireInstruction ⟨by decide, by decide⟩ rfl rfl (Nat.le_of_ble_eq_true rfl) rfl rfl ⟨rfl, rfl⟩ ⟨Nat.zero_le _, Nat.zero_le _⟩ (x_reqI (nI i) (ixI hP hi)) ?_
    refine pw_iload_n dX10_instruction_5 rfl ?_
    refine pw_tableIn (off := 56) 62 dX10_instruction_6 (by decide) (by decide) (by decide) (by decide) ?_
    refine pw_aload_n dX10_instruction_62 rfl ?_
    refine lp_getr 12 dX10_instruction_63 fp_RX10_35.FL rfl rfl rfl ?_
    refine lp_getr 13 dX10_instruction_66 fp_RX10_117.FL rfl rfl rfl ?_
    refine lp_getr 18 dX10_instruction_69 fp_RX10_170.FL rfl rfl rfl ?_
    refine pw_iload_n dX10_instruction_72 rfl ?_
    refine lp_iald dX10_instruction_73 rfl bi ?_
    refine pw_top (nI (lmd al i).1) (by rw [ei]; exact r5) ?_
    exact pw_iret rfl rfl dX10_instruction_74 (Nat.zero_le _) (Nat.zero_le _) rfl
  · refine pw_aload_n dX10_instruction_0 rfl ?_
    refine pw_iload_n dX10_instruction_1 rfl ?_
    refine lp_cV0 (mi' := mX10_requireInstruction0) (As := [_]) (q := (RX10, TX10, 14)) dX10_instruction_2 lk_RX10_155 mk_X10_requireInstruction mi_X10_requireInstruction me_X10_requireInstruction ⟨by decide, by decide⟩ rfl rfl (Nat.le_of_ble_eq_true rfl) rfl rfl ⟨rfl, rfl⟩ ⟨Nat.zero_le _, Nat.zero_le _⟩ (x_reqI (nI i) (ixI hP hi)) ?_
    refine pw_iload_n dX10_instruction_5 rfl ?_
    refine pw_tableIn (off := 69) 75 dX10_instruction_6 (by decide) (by decide) (by decide) (by decide) ?_
    refine pw_aload_n dX10_instruction_75 rfl ?_
    refine lp_getr 12 dX10_instruction_76 fp_RX10_35.FL rfl rfl rfl ?_
    refine lp_getr 13 dX10_instruction_79 fp_RX10_117.FL rfl rfl rfl ?_
    refine lp_getr 19 dX10_instruction_82 fp_RX10_173.FL rfl rfl rfl ?_
    refine pw_iload_n dX10_instruction_85 rfl ?_
    refine lp_iald dX10_instruction_86 rfl bi ?_
    refine pw_top (cPt al N i) (by rw [ei]; exact r6) ?_
    exact pw_iret rfl rfl dX10_instruction_87 (Nat.zero_le _) (Nat.zero_le _) rfl
theorem x_instruction_t2 (hl : l.stackTraces = false) (hP : PI σ al N) (i : Nat) (hi : i < N) (w : Int32) (hw : w.toInt < 0 ∨ 3 < w.toInt) : SpecT l G mX10_instruction [.ref (adr 0), .int (nI i), .int w] (wp G adr LX Lf Rt σ) sIAE (wp G adr LX Lf Rt σ) := by
  refine spec_of (by decide) (Nat.le_of_ble_eq_true rfl) (fun sz => ?_)
  refine pw_aload_n dX10_instruction_0 rfl ?_
  refine pw_iload_n dX10_instruction_1 rfl ?_
  refine lp_cV0 (mi' := mX10_requireInstruction0) (As := [_]) (q := (RX10, TX10, 14)) dX10_instruction_2 lk_RX10_155 mk_X10_requireInstruction mi_X10_requireInstruction me_X10_requireInstruction ⟨by decide, by decide⟩ rfl rfl (Nat.le_of_ble_eq_true rfl) rfl rfl ⟨rfl, rfl⟩ ⟨Nat.zero_le _, Nat.zero_le _⟩ (x_reqI (nI i) (ixI hP hi)) ?_
  refine pw_iload_n dX10_instruction_5 rfl ?_
  refine pw_tableOut 88 dX10_instruction_6 hw (by decide) ?_
  exact tx_RX10_IAE_176 hl dX10_instruction_88 dX10_instruction_91 dX10_instruction_92 dX10_instruction_94 dX10_instruction_97 (by decide) (Nat.le_of_ble_eq_true rfl) (Nat.le_of_ble_eq_true rfl) (Nat.le_of_ble_eq_true rfl) rfl
theorem x_operand (hP : PI σ al N) (i : Nat) (hi : i < N) (z : Bool) : SpecD l G mX10_operand [.ref (adr 0), .int (nI i), .int (bI z)] (wp G adr LX Lf Rt σ) (some (.int (al (1 + 4 * i + (if z = true then 3 else 2))))) (wp G adr LX Lf Rt σ) := by
  refine spec_of (by decide) (Nat.le_of_ble_eq_true rfl) (fun sz => ?_)
  have h30 : i < 30 := by have := hP.1.1; omega
  have bi : vp_in (nI i) 30 := vp_in_nI h30 (by decide)
  have ei : (nI i).toNatClampNeg = i := nI_clamp (by omega)
  obtain ⟨r1, r2, r3, r4, r5, r6⟩ := hP.2.1.2 i hi
  cases z
  · refine pw_aload_n dX10_operand_0 rfl ?_
    refine pw_iload_n dX10_operand_1 rfl ?_
    refine lp_cV0 (mi' := mX10_requireInstruction0) (As := [_]) (q := (RX10, TX10, 14)) dX10_operand_2 lk_RX10_155 mk_X10_requireInstruction mi_X10_requireInstruction me_X10_requireInstruction ⟨by decide, by decide⟩ rfl rfl (Nat.le_of_ble_eq_true rfl) rfl rfl ⟨rfl, rfl⟩ ⟨Nat.zero_le _, Nat.zero_le _⟩ (x_reqI (nI i) (ixI hP hi)) ?_
    refine pw_aload_n dX10_operand_5 rfl ?_
    refine lp_getr 12 dX10_operand_6 fp_RX10_35.FL rfl rfl rfl ?_
    refine lp_getr 13 dX10_operand_9 fp_RX10_117.FL rfl rfl rfl ?_
    refine pw_astore_n dX10_operand_12 (by decide) ?_
    refine pw_iload_n dX10_operand_13 rfl ?_
    refine pw_if_eq 26 dX10_operand_14 (by decide) (fun c_14 => ?_) (fun c_14 => absurd rfl c_14)
    refine pw_aload_n dX10_operand_26 rfl ?_
    refine lp_getr 16 dX10_operand_27 fp_RX10_181.FL rfl rfl rfl ?_
    refine pw_iload_n dX10_operand_30 rfl ?_
    refine lp_iald dX10_operand_31 rfl bi ?_
    refine pw_top (al (1 + 4 * i + 2)) (by rw [ei]; exact r3) ?_
    exact pw_iret rfl rfl dX10_operand_32 (Nat.zero_le _) (Nat.zero_le _) rfl
  · refine pw_aload_n dX10_operand_0 rfl ?_
    refine pw_iload_n dX10_operand_1 rfl ?_
    refine lp_cV0 (mi' := mX10_requireInstruction0) (As := [_]) (q := (RX10, TX10, 14)) dX10_operand_2 lk_RX10_155 mk_X10_requireInstruction mi_X10_requireInstruction me_X10_requireInstruction ⟨by decide, by decide⟩ rfl rfl (Nat.le_of_ble_eq_true rfl) rfl rfl ⟨rfl, rfl⟩ ⟨Nat.zero_le _, Nat.zero_le _⟩ (x_reqI (nI i) (ixI hP hi)) ?_
    refine pw_aload_n dX10_operand_5 rfl ?_
    refine lp_getr 12 dX10_operand_6 fp_RX10_35.FL rfl rfl rfl ?_
    refine lp_getr 13 dX10_operand_9 fp_RX10_117.FL rfl rfl rfl ?_
    refine pw_astore_n dX10_operand_12 (by decide) ?_
    refine pw_iload_n dX10_operand_13 rfl ?_
    refine pw_if_eq 26 dX10_operand_14 (by decide) (fun c_14 => absurd (show (1 : Int32) = 0 from c_14) (by decide)) (fun c_14 => ?_)
    refine pw_aload_n dX10_operand_17 rfl ?_
    refine lp_getr 17 dX10_operand_18 fp_RX10_178.FL rfl rfl rfl ?_
    refine pw_iload_n dX10_operand_21 rfl ?_
    refine lp_iald dX10_operand_22 rfl bi ?_
    refine pw_top (al (1 + 4 * i + 3)) (by rw [ei]; exact r4) ?_
    refine pw_goto (tgt := 32) dX10_operand_23 (by decide) ?_
    exact pw_iret rfl rfl dX10_operand_32 (Nat.zero_le _) (Nat.zero_le _) rfl
theorem x_mixedIns (i : Nat) (hi : i < 30) (h : Int64) : ∃ y : Int64, SpecD l G mX10_mixedInstruction [.ref (adr 0), .long h, .int (nI i)] (wp G adr LX Lf Rt σ) (some (.long y)) (wp G adr LX Lf Rt σ) := by
  have bi : vp_in (nI i) 30 := vp_in_nI hi (by decide)
  refine ⟨mx (mx (mx (mx (mx (mx (mx (mx h (σ.2.2.1 14 (nI i).toNatClampNeg).toInt64) (σ.2.2.1 15 (nI i).toNatClampNeg).toInt64) (σ.2.2.1 18 (nI i).toNatClampNeg).toInt64) (σ.2.2.1 19 (nI i).toNatClampNeg).toInt64) (σ.2.2.1 16 (nI i).toNatClampNeg).toInt64) (σ.2.2.1 17 (nI i).toNatClampNeg).toInt64) (σ.2.2.1 85 (nI i).toNatClampNeg).toInt64) (σ.2.2.1 86 (nI i).toNatClampNeg).toInt64, spec_of (by decide) (Nat.le_of_ble_eq_true rfl) (fun sz => ?_)⟩
  refine pw_aload_n dX10_mixedInstruction_0 rfl ?_
  refine lp_getr 12 dX10_mixedInstruction_1 fp_RX10_35.FL rfl rfl rfl ?_
  refine lp_getr 13 dX10_mixedInstruction_4 fp_RX10_117.FL rfl rfl rfl ?_
  refine pw_astore dX10_mixedInstruction_7 (by decide) ?_
  refine pw_lload_n dX10_mixedInstruction_9 rfl ?_
  refine pw_aload dX10_mixedInstruction_10 rfl ?_
  refine lp_getr 14 dX10_mixedInstruction_12 fp_RX10_164.FL rfl rfl rfl ?_
  refine pw_iload_n dX10_mixedInstruction_15 rfl ?_
  refine lp_iald dX10_mixedInstruction_16 rfl bi ?_
  refine pw_i2l dX10_mixedInstruction_17 ?_
  refine lp_cS1 (mi' := mX10_mixed) (As := [_, _]) dX10_mixedInstruction_18 lk_RX10_271 mk_X10_mixed ms_X10_mixed ⟨by decide, by decide⟩ rfl rfl (Nat.le_of_ble_eq_true rfl) ⟨rfl, rfl⟩ ⟨Nat.zero_le _, Nat.zero_le _⟩ (x_mixed _ _ _) ?_
  refine pw_lstore dX10_mixedInstruction_21 (by decide) ?_
  refine pw_lload dX10_mixedInstruction_23 rfl ?_
  refine pw_aload dX10_mixedInstruction_25 rfl ?_
  refine lp_getr 15 dX10_mixedInstruction_27 fp_RX10_167.FL rfl rfl rfl ?_
  refine pw_iload_n dX10_mixedInstruction_30 rfl ?_
  refine lp_iald dX10_mixedInstruction_31 rfl bi ?_
  refine pw_i2l dX10_mixedInstruction_32 ?_
  refine lp_cS1 (mi' := mX10_mixed) (As := [_, _]) dX10_mixedInstruction_33 lk_RX10_271 mk_X10_mixed ms_X10_mixed ⟨by decide, by decide⟩ rfl rfl (Nat.le_of_ble_eq_true rfl) ⟨rfl, rfl⟩ ⟨Nat.zero_le _, Nat.zero_le _⟩ (x_mixed _ _ _) ?_
  refine pw_lstore dX10_mixedInstruction_36 (by decide) ?_
  refine pw_lload dX10_mixedInstruction_38 rfl ?_
  refine pw_aload dX10_mixedInstruction_40 rfl ?_
  refine lp_getr 18 dX10_mixedInstruction_42 fp_RX10_170.FL rfl rfl rfl ?_
  refine pw_iload_n dX10_mixedInstruction_45 rfl ?_
  refine lp_iald dX10_mixedInstruction_46 rfl bi ?_
  refine pw_i2l dX10_mixedInstruction_47 ?_
  refine lp_cS1 (mi' := mX10_mixed) (As := [_, _]) dX10_mixedInstruction_48 lk_RX10_271 mk_X10_mixed ms_X10_mixed ⟨by decide, by decide⟩ rfl rfl (Nat.le_of_ble_eq_true rfl) ⟨rfl, rfl⟩ ⟨Nat.zero_le _, Nat.zero_le _⟩ (x_mixed _ _ _) ?_
  refine pw_lstore dX10_mixedInstruction_51 (by decide) ?_
  refine pw_lload dX10_mixedInstruction_53 rfl ?_
  refine pw_aload dX10_mixedInstruction_55 rfl ?_
  refine lp_getr 19 dX10_mixedInstruction_57 fp_RX10_173.FL rfl rfl rfl ?_
  refine pw_iload_n dX10_mixedInstruction_60 rfl ?_
  refine lp_iald dX10_mixedInstruction_61 rfl bi ?_
  refine pw_i2l dX10_mixedInstruction_62 ?_
  refine lp_cS1 (mi' := mX10_mixed) (As := [_, _]) dX10_mixedInstruction_63 lk_RX10_271 mk_X10_mixed ms_X10_mixed ⟨by decide, by decide⟩ rfl rfl (Nat.le_of_ble_eq_true rfl) ⟨rfl, rfl⟩ ⟨Nat.zero_le _, Nat.zero_le _⟩ (x_mixed _ _ _) ?_
  refine pw_lstore dX10_mixedInstruction_66 (by decide) ?_
  refine pw_lload dX10_mixedInstruction_68 rfl ?_
  refine pw_aload dX10_mixedInstruction_70 rfl ?_
  refine lp_getr 16 dX10_mixedInstruction_72 fp_RX10_181.FL rfl rfl rfl ?_
  refine pw_iload_n dX10_mixedInstruction_75 rfl ?_
  refine lp_iald dX10_mixedInstruction_76 rfl bi ?_
  refine pw_i2l dX10_mixedInstruction_77 ?_
  refine lp_cS1 (mi' := mX10_mixed) (As := [_, _]) dX10_mixedInstruction_78 lk_RX10_271 mk_X10_mixed ms_X10_mixed ⟨by decide, by decide⟩ rfl rfl (Nat.le_of_ble_eq_true rfl) ⟨rfl, rfl⟩ ⟨Nat.zero_le _, Nat.zero_le _⟩ (x_mixed _ _ _) ?_
  refine pw_lstore dX10_mixedInstruction_81 (by decide) ?_
  refine pw_lload dX10_mixedInstruction_83 rfl ?_
  refine pw_aload dX10_mixedInstruction_85 rfl ?_
  refine lp_getr 17 dX10_mixedInstruction_87 fp_RX10_178.FL rfl rfl rfl ?_
  refine pw_iload_n dX10_mixedInstruction_90 rfl ?_
  refine lp_iald dX10_mixedInstruction_91 rfl bi ?_
  refine pw_i2l dX10_mixedInstruction_92 ?_
  refine lp_cS1 (mi' := mX10_mixed) (As := [_, _]) dX10_mixedInstruction_93 lk_RX10_271 mk_X10_mixed ms_X10_mixed ⟨by decide, by decide⟩ rfl rfl (Nat.le_of_ble_eq_true rfl) ⟨rfl, rfl⟩ ⟨Nat.zero_le _, Nat.zero_le _⟩ (x_mixed _ _ _) ?_
  refine pw_lstore dX10_mixedInstruction_96 (by decide) ?_
  refine pw_lload dX10_mixedInstruction_98 rfl ?_
  refine pw_aload_n dX10_mixedInstruction_100 rfl ?_
  refine lp_getr 84 dX10_mixedInstruction_101 fp_RX10_56.FL rfl rfl rfl ?_
  refine lp_getr 85 dX10_mixedInstruction_104 fp_RX10_187.FL rfl rfl rfl ?_
  refine pw_iload_n dX10_mixedInstruction_107 rfl ?_
  refine lp_iald dX10_mixedInstruction_108 rfl bi ?_
  refine pw_i2l dX10_mixedInstruction_109 ?_
  refine lp_cS1 (mi' := mX10_mixed) (As := [_, _]) dX10_mixedInstruction_110 lk_RX10_271 mk_X10_mixed ms_X10_mixed ⟨by decide, by decide⟩ rfl rfl (Nat.le_of_ble_eq_true rfl) ⟨rfl, rfl⟩ ⟨Nat.zero_le _, Nat.zero_le _⟩ (x_mixed _ _ _) ?_
  refine pw_lstore dX10_mixedInstruction_113 (by decide) ?_
  refine pw_lload dX10_mixedInstruction_115 rfl ?_
  refine pw_aload_n dX10_mixedInstruction_117 rfl ?_
  refine lp_getr 84 dX10_mixedInstruction_118 fp_RX10_56.FL rfl rfl rfl ?_
  refine lp_getr 86 dX10_mixedInstruction_121 fp_RX10_192.FL rfl rfl rfl ?_
  refine pw_iload_n dX10_mixedInstruction_124 rfl ?_
  refine lp_iald dX10_mixedInstruction_125 rfl bi ?_
  refine pw_i2l dX10_mixedInstruction_126 ?_
  refine lp_cS1 (mi' := mX10_mixed) (As := [_, _]) dX10_mixedInstruction_127 lk_RX10_271 mk_X10_mixed ms_X10_mixed ⟨by decide, by decide⟩ rfl rfl (Nat.le_of_ble_eq_true rfl) ⟨rfl, rfl⟩ ⟨Nat.zero_le _, Nat.zero_le _⟩ (x_mixed _ _ _) ?_
  exact pw_lret rfl dX10_mixedInstruction_130 (Nat.zero_le _) (Nat.zero_le _) rfl
theorem dgi_loop {sz : Nat} {w0 : va_W} {fin : OC → Prop} (hN : N ≤ 30) (h0 : σ.1 13 0 = nI N) (kk : ∀ h : Int64, PW l G mX10_digest w0 sz fin 64 [(0, .ref (adr 0)), (1, .long h)] [] 0 0 (wp G adr LX Lf Rt σ)) :
    ∀ (r i : Nat), i + r = N → ∀ h : Int64, PW l G mX10_digest w0 sz fin 37 [(0, .ref (adr 0)), (1, .long h), (3, .int (nI i))] [] 0 0 (wp G adr LX Lf Rt σ) := by
  intro r
  induction r with
  | zero =>
    intro i hi h
    have hi : i = N := by omega
    subst hi
    refine pw_iload_n dX10_digest_37 rfl ?_
    refine pw_aload_n dX10_digest_38 rfl ?_
    refine lp_getr 12 dX10_digest_39 fp_RX10_35.FL rfl rfl rfl ?_
    refine lp_getr 13 dX10_digest_42 fp_RX10_117.FL rfl rfl rfl ?_
    refine lp_geti dX10_digest_45 fp_RX10_124.FL rfl rfl ?_
    refine pw_top (nI i) h0 ?_
    refine pw_icmp_ge 64 dX10_digest_48 (by decide) (fun c_48 => ?_) (fun c_48 => absurd (nI_le (Nat.le_refl i) (by omega)) c_48)
    exact pw_lk [(0, .ref (adr 0)), (1, .long h)] ⟨rfl, rfl, trivial⟩ (kk h)
  | succ r ih =>
    intro i hi h
    obtain ⟨y, hy⟩ := x_mixedIns (l := l) (G := G) (adr := adr) (Lf := Lf) (Rt := Rt) (σ := σ) i (by omega) h
    refine pw_iload_n dX10_digest_37 rfl ?_
    refine pw_aload_n dX10_digest_38 rfl ?_
    refine lp_getr 12 dX10_digest_39 fp_RX10_35.FL rfl rfl rfl ?_
    refine lp_getr 13 dX10_digest_42 fp_RX10_117.FL rfl rfl rfl ?_
    refine lp_geti dX10_digest_45 fp_RX10_124.FL rfl rfl ?_
    refine pw_top (nI N) h0 ?_
    refine pw_icmp_ge 64 dX10_digest_48 (by decide) (fun c_48 => absurd c_48 (nI_ge (by omega) (by omega))) (fun c_48 => ?_)
    refine pw_aload_n dX10_digest_51 rfl ?_
    refine pw_lload_n dX10_digest_52 rfl ?_
    refine pw_iload_n dX10_digest_53 rfl ?_
    refine lp_cV1 (mi' := mX10_mixedInstruction) (As := [_, _]) (q := (RX10, TX10, 14)) dX10_digest_54 lk_RX10_274 mk_X10_mixedInstruction mi_X10_mixedInstruction me_X10_mixedInstruction ⟨by decide, by decide⟩ rfl rfl (Nat.le_of_ble_eq_true rfl) rfl rfl ⟨rfl, rfl⟩ ⟨Nat.zero_le _, Nat.zero_le _⟩ hy ?_
    refine pw_lstore_n dX10_digest_57 (by decide) ?_
    refine pw_iinc dX10_digest_58 rfl (by decide) ?_
    refine pw_goto (tgt := 37) dX10_digest_61 (by decide) ?_
    exact pw_lk [(0, .ref (adr 0)), (1, .long y), (3, .int (nI (i + 1)))] ⟨rfl, rfl, congrArg (fun x => some (Value.int x)) (nI_1 i), trivial⟩ (ih (i + 1) (by omega) y)
theorem x_digest (hP : PI σ al N) (hA : FrA σ al N) (hR : FrR σ al N) : SpR1 l G mX10_digest [.ref (adr 0)] adr LX Lf Rt σ (fun v τ => (∃ x : Int64, v = .long x) ∧ AfA σ τ al N) := by
  refine spec_of (by decide) (Nat.le_of_ble_eq_true rfl) (fun sz => ?_)
  have hk : ∀ {P : Prop} [Decidable P], LX.1[if P then 93 else 88]? = some (.inl 7) := fun {P} _ => by by_cases h : P <;> simp only [h, if_true, if_false] <;> rfl
  refine pw_aload_n dX10_digest_0 rfl ?_
  refine lp_rV0 (mi' := mX10_freshenRuns) (As := []) (q := (RX10, TX10, 14)) dX10_digest_1 lk_RX10_212 mk_X10_freshenRuns mi_X10_freshenRuns me_X10_freshenRuns ⟨by decide, by decide⟩ rfl rfl (Nat.le_of_ble_eq_true rfl) rfl rfl ⟨rfl, rfl⟩ ⟨Nat.zero_le _, Nat.zero_le _⟩ (x_freshR' hP hA hR) (fun τ hQ => ?_)
  refine pw_ldc2 dX10_digest_4 kc_RX10_269 ?_
  refine pw_aload_n dX10_digest_7 rfl ?_
  refine lp_getr 1 dX10_digest_8 fp_RX10_10.FL rfl rfl rfl ?_
  refine lp_geti dX10_digest_11 fp_RX10_97.FL rfl rfl ?_
  refine pw_i2l dX10_digest_14 ?_
  refine lp_cS1 (mi' := mX10_mixed) (As := [_, _]) dX10_digest_15 lk_RX10_271 mk_X10_mixed ms_X10_mixed ⟨by decide, by decide⟩ rfl rfl (Nat.le_of_ble_eq_true rfl) ⟨rfl, rfl⟩ ⟨Nat.zero_le _, Nat.zero_le _⟩ (x_mixed _ _ _) ?_
  refine pw_lstore_n dX10_digest_18 (by decide) ?_
  refine pw_lload_n dX10_digest_19 rfl ?_
  refine pw_aload_n dX10_digest_20 rfl ?_
  refine lp_getr 12 dX10_digest_21 fp_RX10_35.FL rfl rfl rfl ?_
  refine lp_getr 13 dX10_digest_24 fp_RX10_117.FL rfl rfl rfl ?_
  refine lp_geti dX10_digest_27 fp_RX10_124.FL rfl rfl ?_
  refine pw_i2l dX10_digest_30 ?_
  refine lp_cS1 (mi' := mX10_mixed) (As := [_, _]) dX10_digest_31 lk_RX10_271 mk_X10_mixed ms_X10_mixed ⟨by decide, by decide⟩ rfl rfl (Nat.le_of_ble_eq_true rfl) ⟨rfl, rfl⟩ ⟨Nat.zero_le _, Nat.zero_le _⟩ (x_mixed _ _ _) ?_
  refine pw_lstore_n dX10_digest_34 (by decide) ?_
  refine pw_iconst (v := 0) dX10_digest_35 rfl ?_
  refine pw_istore_n dX10_digest_36 (by decide) ?_
  refine pw_lk [(0, .ref (adr 0)), (1, .long (mx (mx 2953 (τ.1 1 1).toInt64) (τ.1 13 0).toInt64)), (3, .int (nI 0))] ⟨rfl, rfl, rfl, trivial⟩ (dgi_loop (σ := τ) hP.1.1 (hQ.1.1.pi hP).2.1.1 (fun h => ?_) N 0 (by omega) _)
  refine pw_iconst (v := 0) dX10_digest_64 rfl ?_
  refine pw_istore_n dX10_digest_65 (by decide) ?_
  refine pw_lk [(0, .ref (adr 0)), (1, .long (vhL τ h 0)), (3, .int (nI 0))] ⟨rfl, rfl, rfl, trivial⟩ (dg_loop (σ := τ) h ?_ 8 0 rfl)
  refine pw_lload_n dX10_digest_85 rfl ?_
  refine pw_aload_n dX10_digest_86 rfl ?_
  refine lp_getr 88 dX10_digest_87 fp_RX10_63.FL rfl rfl rfl ?_
  refine pw_aload_n dX10_digest_90 rfl ?_
  refine lp_getr 88 dX10_digest_91 fp_RX10_63.FL rfl rfl rfl ?_
  refine lp_geti dX10_digest_94 fp_RX10_225.FL rfl rfl ?_
  refine lp_cS1 (mi' := mX10_mixedRun) (As := [_, _, _]) dX10_digest_97 lk_RX10_281 mk_X10_mixedRun ms_X10_mixedRun ⟨by decide, by decide⟩ rfl rfl (Nat.le_of_ble_eq_true rfl) ⟨rfl, rfl⟩ ⟨Nat.zero_le _, Nat.zero_le _⟩ (x_mixedRun (b := 88) rfl _ _) ?_
  refine pw_lstore_n dX10_digest_100 (by decide) ?_
  refine pw_lload_n dX10_digest_101 rfl ?_
  refine pw_aload_n dX10_digest_102 rfl ?_
  refine pw_iconst (v := 1) dX10_digest_103 rfl ?_
  refine lp_cV1 (mi' := mX10_outcomeOf) (As := [_]) (q := (RX10, TX10, 14)) dX10_digest_104 lk_RX10_215 mk_X10_outcomeOf mi_X10_outcomeOf me_X10_outcomeOf ⟨by decide, by decide⟩ rfl rfl (Nat.le_of_ble_eq_true rfl) rfl rfl ⟨rfl, rfl⟩ ⟨Nat.zero_le _, Nat.zero_le _⟩ (x_outcomeOf true) ?_
  refine pw_aload_n dX10_digest_107 rfl ?_
  refine lp_getr 93 dX10_digest_108 fp_RX10_67.FL rfl rfl rfl ?_
  refine lp_geti dX10_digest_111 fp_RX10_225.FL rfl rfl ?_
  refine lp_cS1 (mi' := mX10_mixedRun) (As := [_, _, _]) dX10_digest_114 lk_RX10_281 mk_X10_mixedRun ms_X10_mixedRun ⟨by decide, by decide⟩ rfl rfl (Nat.le_of_ble_eq_true rfl) ⟨rfl, rfl⟩ ⟨Nat.zero_le _, Nat.zero_le _⟩ (x_mixedRun hk _ _) ?_
  refine pw_lstore_n dX10_digest_117 (by decide) ?_
  refine pw_lload_n dX10_digest_118 rfl ?_
  refine pw_aload_n dX10_digest_119 rfl ?_
  refine lp_getr 88 dX10_digest_120 fp_RX10_63.FL rfl rfl rfl ?_
  refine lp_geti dX10_digest_123 fp_RX10_228.FL rfl rfl ?_
  refine pw_i2l dX10_digest_126 ?_
  refine lp_cS1 (mi' := mX10_mixed) (As := [_, _]) dX10_digest_127 lk_RX10_271 mk_X10_mixed ms_X10_mixed ⟨by decide, by decide⟩ rfl rfl (Nat.le_of_ble_eq_true rfl) ⟨rfl, rfl⟩ ⟨Nat.zero_le _, Nat.zero_le _⟩ (x_mixed _ _ _) ?_
  refine pw_lstore_n dX10_digest_130 (by decide) ?_
  refine pw_lload_n dX10_digest_131 rfl ?_
  refine pw_aload_n dX10_digest_132 rfl ?_
  refine lp_getr 24 dX10_digest_133 fp_RX10_42.FL rfl rfl rfl ?_
  refine lp_geti dX10_digest_136 fp_RX10_257.FL rfl rfl ?_
  refine pw_i2l dX10_digest_139 ?_
  refine lp_cS1 (mi' := mX10_mixed) (As := [_, _]) dX10_digest_140 lk_RX10_271 mk_X10_mixed ms_X10_mixed ⟨by decide, by decide⟩ rfl rfl (Nat.le_of_ble_eq_true rfl) ⟨rfl, rfl⟩ ⟨Nat.zero_le _, Nat.zero_le _⟩ (x_mixed _ _ _) ?_
  exact pw_lret rfl dX10_digest_143 (Nat.zero_le _) (Nat.zero_le _) ⟨_, _, rfl, ⟨_, rfl⟩, hQ.1⟩
end XK
