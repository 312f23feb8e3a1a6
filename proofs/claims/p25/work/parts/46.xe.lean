section PE
variable {l : Launch} {G : cxG} {mi : MI} {w0 : va_W} {sz : Nat} {fin : OC → Prop} {pc : Nat} {lv : List (Nat × Value)} {st : List Value} {k n : Nat} {ws : va_W}
theorem pw_dconst0 (hd : decode mi.2.1 pc = .ok (.dconst 0, 1)) (kk : PW l G mi w0 sz fin (pc + 1) lv (.double FP.dconst0 :: st) k n ws) : PW l G mi w0 sz fin pc lv st k n ws :=
  fun p e s m args below meth c H locs ls F hz hP hD hS hl => lv_dconst0 F.1 F.2.1 hd (kk p e s m args below meth c H locs ls F hz hP hD hS hl)
theorem pw_dret {x : UInt64} (hr : mi.2.2.2.1 = some .double) (hd : decode mi.2.1 pc = .ok (.dreturn, 1)) (hc : k ≤ mi.2.2.2.2.cells) (hs : n ≤ mi.2.2.2.2.slots) (hf : fin (.inl (some (.double x), ws))) : PW l G mi w0 sz fin pc lv [.double x] k n ws :=
  fun p e s m args below meth c H locs ls F hz hP hD hS hl => W.widen hc hs (vx_ret (W.dret F.1 F.2.1 (F.2.2.2.1.trans hr) (fun t ht hw => ⟨_, ws, rfl, hf, by rw [ht]; exact hP, hD, hS.F ht⟩) hS.2.2 hd F.2.2.2.2.1))
end PE
section XE
variable {l : Launch} {G : cxG} {adr : Nat → Nat} {Lf Rt : va_W} {σ : St}
theorem mk_loop {sz : Nat} {w0 : va_W} {fin : OC → Prop} (h0 : σ.1 13 0 = 0) (kk : ∀ τ, Fr 84 88 σ τ → fin (.inl (none, wp G adr LX Lf Rt τ))) :
    ∀ (r i : Nat), i + r = 30 → ∀ τ, Fr 84 88 σ τ → PW l G mX5_make w0 sz fin 2 [(0, .ref (adr 84)), (1, .ref (adr 13)), (3, .int (nI i))] [] 0 0 (wp G adr LX Lf Rt τ) := by
  intro r
  induction r with
  | zero =>
    intro i hi τ hI
    have hi : i = 30 := by omega
    subst hi
    have e0 : τ.1 13 0 = 0 := by rw [(hI 13 (by omega)).1]; exact h0
    refine pw_iload_n dX5_make_2 rfl ?_
    refine pw_bipush (v := 30) dX5_make_3 rfl ?_
    refine pw_icmp_ge 21 dX5_make_5 (by decide) (fun c_5 => ?_) (fun c_5 => absurd (nI_le (Nat.le_refl 30) (by decide)) c_5)
    refine pw_iconst (v := 0) dX5_make_21 rfl ?_
    refine pw_istore_n dX5_make_22 (by decide) ?_
    refine pw_iload_n dX5_make_23 rfl ?_
    refine pw_aload_n dX5_make_24 rfl ?_
    refine lp_geti dX5_make_25 fp_RX5_22.FL rfl rfl ?_
    refine pw_icmp_ge 71 dX5_make_28 (by decide) (fun c_28 => ?_) (fun c_28 => absurd (show τ.1 13 0 ≤ 0 by rw [e0]; decide) c_28)
    refine pw_iconst (v := 0) dX5_make_71 rfl ?_
    refine pw_istore_n dX5_make_72 (by decide) ?_
    refine pw_iload_n dX5_make_73 rfl ?_
    refine pw_aload_n dX5_make_74 rfl ?_
    refine lp_geti dX5_make_75 fp_RX5_22.FL rfl rfl ?_
    refine pw_icmp_ge 100 dX5_make_78 (by decide) (fun c_78 => ?_) (fun c_78 => absurd (show τ.1 13 0 ≤ 0 by rw [e0]; decide) c_78)
    exact pw_vret rfl dX5_make_100 (Nat.zero_le _) (Nat.zero_le _) (kk τ hI)
  | succ r ih =>
    intro i hi τ hI
    have hv8 : vp_in (nI i) 30 := vp_in_nI (by omega) (by decide)
    refine pw_iload_n dX5_make_2 rfl ?_
    refine pw_bipush (v := 30) dX5_make_3 rfl ?_
    refine pw_icmp_ge 21 dX5_make_5 (by decide) (fun c_5 => absurd c_5 (nI_ge (a := i) (b := 30) (by omega) (by decide))) (fun c_5 => ?_)
    refine pw_aload_n dX5_make_8 rfl ?_
    refine lp_getr 87 dX5_make_9 fp_RX5_18.FL rfl rfl rfl ?_
    refine pw_iload_n dX5_make_12 rfl ?_
    refine pw_iconst (v := 0) dX5_make_13 rfl ?_
    refine lp_zast dX5_make_14 rfl (by assumption) rfl ?_
    refine pw_iinc dX5_make_15 rfl (by decide) ?_
    refine pw_goto (tgt := 2) dX5_make_18 (by decide) ?_
    exact pw_lk [(0, .ref (adr 84)), (1, .ref (adr 13)), (3, .int (nI (i + 1)))] ⟨rfl, rfl, congrArg (fun x => some (Value.int x)) (nI_1 i), trivial⟩ (ih (i + 1) (by omega) _ (Fr.A hI (by decide) (by decide)))
/-- the states of an empty program -/
theorem x_make0 (h0 : σ.1 13 0 = 0) : SpR0 l G mX5_make [.ref (adr 84), .ref (adr 13), .ref (adr 74)] adr LX Lf Rt σ (fun τ => Fr 84 88 σ τ) := by
  refine spec_of (by decide) (Nat.le_of_ble_eq_true rfl) (fun sz => ?_)
  refine pw_iconst (v := 0) dX5_make_0 rfl ?_
  refine pw_istore_n dX5_make_1 (by decide) ?_
  exact pw_lk [(0, .ref (adr 84)), (1, .ref (adr 13)), (3, .int (nI 0))] ⟨rfl, rfl, rfl, trivial⟩ (mk_loop h0 (fun τ h => ⟨τ, rfl, h⟩) 30 0 rfl σ Fr.rf)
def RunI (σ : St) (b a i : Nat) (τ : St) : Prop := Fr b (b + 5) σ τ ∧ τ.1 (b + 1) 0 = 0 ∧ τ.1 b 2 = -1 ∧ τ.1 b 3 = 0 ∧ τ.1 b 4 = 0 ∧ ∀ j, j < i → τ.2.2.2.1 (b + 3) j = (σ.2.2.1 (a + 3) j).toInt64
theorem rbeg_1 {sz : Nat} {w0 : va_W} {fin : OC → Prop} {b a : Nat} (hb : LX.1[b]? = some (.inl 7)) (ha : LX.1[a]? = some (.inl 3)) (hab : a + 4 ≤ b ∨ b + 5 ≤ a)
    (kk : ∀ τ, RunI σ b a 8 τ → fin (.inl (none, wp G adr LX Lf Rt τ))) :
    ∀ (r i : Nat), i + r = 8 → ∀ τ, RunI σ b a i τ → PW l G mX7_begin w0 sz fin 25 [(0, .ref (adr b)), (1, .ref (adr a)), (2, .int (nI i))] [] 0 0 (wp G adr LX Lf Rt τ) := by
  intro r
  induction r with
  | zero =>
    intro i hi τ hI
    have hi : i = 8 := by omega
    subst hi
    refine pw_iload_n dX7_begin_25 rfl ?_
    refine pw_bipush (v := 8) dX7_begin_26 rfl ?_
    refine pw_icmp_ge 50 dX7_begin_28 (by decide) (fun c_28 => ?_) (fun c_28 => absurd (nI_le (Nat.le_refl 8) (by decide)) c_28)
    exact pw_vret rfl dX7_begin_50 (Nat.zero_le _) (Nat.zero_le _) (kk τ hI)
  | succ r ih =>
    intro i hi τ hI
    have hv8 : vp_in (nI i) 8 := vp_in_nI (by omega) (by decide)
    have ev : (nI i).toNatClampNeg = i := nI_clamp (by omega)
    obtain ⟨i1, i2, i3, i4, i5, i6⟩ := hI
    have el : τ.2.2.1 (a + 3) = σ.2.2.1 (a + 3) := (i1 (a + 3) (by omega)).2.2.1
    refine pw_iload_n dX7_begin_25 rfl ?_
    refine pw_bipush (v := 8) dX7_begin_26 rfl ?_
    refine pw_icmp_ge 50 dX7_begin_28 (by decide) (fun c_28 => absurd c_28 (nI_ge (a := i) (b := 8) (by omega) (by decide))) (fun c_28 => ?_)
    refine pw_aload_n dX7_begin_31 rfl ?_
    refine lp_getr (b + 3) dX7_begin_32 fp_RX7_18.FL hb rfl (rX7_1 hb) ?_
    refine pw_iload_n dX7_begin_35 rfl ?_
    refine pw_aload_n dX7_begin_36 rfl ?_
    refine lp_getr (a + 3) dX7_begin_37 fp_RX7_81.FL ha rfl (rX3_2 ha) ?_
    refine pw_iload_n dX7_begin_40 rfl ?_
    refine lp_iald dX7_begin_41 (kX3_2 ha) (by assumption) ?_
    refine pw_i2l dX7_begin_42 ?_
    refine lp_last dX7_begin_43 (kX7_1 hb) (by assumption) ?_
    refine pw_iinc dX7_begin_44 rfl (by decide) ?_
    refine pw_goto (tgt := 25) dX7_begin_47 (by decide) ?_
    refine pw_lk [(0, .ref (adr b)), (1, .ref (adr a)), (2, .int (nI (i + 1)))] ⟨rfl, rfl, congrArg (fun x => some (Value.int x)) (nI_1 i), trivial⟩ (ih (i + 1) (by omega) _ ⟨Fr.L i1 (by omega) (by omega), i2, i3, i4, i5, ?_⟩)
    intro j hj
    rw [gL, ev, el]
    unfold vp_updL
    by_cases e : j = i
    · rw [if_pos e, e]
    · rw [if_neg e]; exact i6 j (by omega)
theorem x_beginR {b a : Nat} (hb : LX.1[b]? = some (.inl 7)) (ha : LX.1[a]? = some (.inl 3)) (hab : a + 4 ≤ b ∨ b + 5 ≤ a) : SpR0 l G mX7_begin [.ref (adr b), .ref (adr a)] adr LX Lf Rt σ (fun τ => RunI σ b a 8 τ) := by
  refine spec_of (by decide) (Nat.le_of_ble_eq_true rfl) (fun sz => ?_)
  refine pw_aload_n dX7_begin_0 rfl ?_
  refine lp_getr (b + 1) dX7_begin_1 fp_RX7_12.FL hb rfl (rX7_0 hb) ?_
  refine pw_iconst (v := 0) dX7_begin_4 rfl ?_
  refine lp_puti dX7_begin_5 fp_RX7_54 (kX7_0 hb) rfl rfl rfl ?_
  refine pw_aload_n dX7_begin_8 rfl ?_
  refine pw_iconst (v := -1) dX7_begin_9 rfl ?_
  refine lp_puti dX7_begin_10 fp_RX7_22 hb rfl rfl rfl ?_
  refine pw_aload_n dX7_begin_13 rfl ?_
  refine pw_iconst (v := 0) dX7_begin_14 rfl ?_
  refine lp_puti dX7_begin_15 fp_RX7_26 hb rfl rfl rfl ?_
  refine pw_aload_n dX7_begin_18 rfl ?_
  refine pw_iconst (v := 0) dX7_begin_19 rfl ?_
  refine lp_puti dX7_begin_20 fp_RX7_29 hb rfl rfl rfl ?_
  refine pw_iconst (v := 0) dX7_begin_23 rfl ?_
  refine pw_istore_n dX7_begin_24 (by decide) ?_
  refine pw_lk [(0, .ref (adr b)), (1, .ref (adr a)), (2, .int (nI 0))] ⟨rfl, rfl, rfl, trivial⟩ (rbeg_1 (σ := σ) hb ha hab (fun τ h => ⟨τ, rfl, h⟩) 8 0 rfl _ ⟨?_, ?_, ?_, ?_, ?_, fun j hj => absurd hj (Nat.not_lt_zero j)⟩)
  · refine Fr.I (Fr.I (Fr.I (Fr.I Fr.rf ?_ ?_) ?_ ?_) ?_ ?_) ?_ ?_ <;> omega
  · rw [gI' (by omega), gI' (by omega), gI' (by omega), gI]
  · rw [gI' (by omega), gI' (by omega), gI]
  · rw [gI' (by omega), gI]
  · rw [gI]
theorem x_isGoingOn {b p : Nat} (hb : LX.1[b]? = some (.inl 7)) (hp : LX.1[p]? = some (.inl 6)) : SpecD l G mX7_isGoingOn [.ref (adr b), .ref (adr p)] (wp G adr LX Lf Rt σ) (some (.int (bI (decide (σ.1 b 2 = -1 ∧ σ.1 (b + 1) 0 < σ.1 p 0))))) (wp G adr LX Lf Rt σ) := by
  refine spec_of (by decide) (Nat.le_of_ble_eq_true rfl) (fun sz => ?_)
  refine pw_aload_n dX7_isGoingOn_0 rfl ?_
  refine lp_geti dX7_isGoingOn_1 fp_RX7_22.FL hb rfl ?_
  refine pw_iconst (v := -1) dX7_isGoingOn_4 rfl ?_
  refine pw_icmp_ne 26 dX7_isGoingOn_5 (by decide) (fun c_5 => ?_) (fun c_5 => ?_)
  · refine pw_iconst (v := 0) dX7_isGoingOn_26 rfl ?_
    first | exact pw_iret rfl rfl dX7_isGoingOn_27 (Nat.zero_le _) (Nat.zero_le _) (fin_b0 (fun h => c_5 h.1)) | exact pw_iret rfl rfl dX7_isGoingOn_27 (Nat.zero_le _) (Nat.zero_le _) (fin_b0 (fun h => Int32.not_lt.mpr c_19 h.2)) | exact pw_iret rfl rfl dX7_isGoingOn_27 (Nat.zero_le _) (Nat.zero_le _) (fin_b1 ⟨c_5, Int32.not_le.mp c_19⟩)
  · refine pw_aload_n dX7_isGoingOn_8 rfl ?_
    refine lp_getr (b + 1) dX7_isGoingOn_9 fp_RX7_12.FL hb rfl (rX7_0 hb) ?_
    refine lp_geti dX7_isGoingOn_12 fp_RX7_54.FL (kX7_0 hb) rfl ?_
    refine pw_aload_n dX7_isGoingOn_15 rfl ?_
    refine lp_geti dX7_isGoingOn_16 fp_RX7_40.FL hp rfl ?_
    refine pw_icmp_ge 26 dX7_isGoingOn_19 (by decide) (fun c_19 => ?_) (fun c_19 => ?_)
    · refine pw_iconst (v := 0) dX7_isGoingOn_26 rfl ?_
      first | exact pw_iret rfl rfl dX7_isGoingOn_27 (Nat.zero_le _) (Nat.zero_le _) (fin_b0 (fun h => c_5 h.1)) | exact pw_iret rfl rfl dX7_isGoingOn_27 (Nat.zero_le _) (Nat.zero_le _) (fin_b0 (fun h => Int32.not_lt.mpr c_19 h.2)) | exact pw_iret rfl rfl dX7_isGoingOn_27 (Nat.zero_le _) (Nat.zero_le _) (fin_b1 ⟨c_5, Int32.not_le.mp c_19⟩)
    · refine pw_iconst (v := 1) dX7_isGoingOn_22 rfl ?_
      refine pw_goto (tgt := 27) dX7_isGoingOn_23 (by decide) ?_
      first | exact pw_iret rfl rfl dX7_isGoingOn_27 (Nat.zero_le _) (Nat.zero_le _) (fin_b0 (fun h => c_5 h.1)) | exact pw_iret rfl rfl dX7_isGoingOn_27 (Nat.zero_le _) (Nat.zero_le _) (fin_b0 (fun h => Int32.not_lt.mpr c_19 h.2)) | exact pw_iret rfl rfl dX7_isGoingOn_27 (Nat.zero_le _) (Nat.zero_le _) (fin_b1 ⟨c_5, Int32.not_le.mp c_19⟩)
/-- runs of an empty program -/
theorem x_goPlain0 {b a p : Nat} (hb : LX.1[b]? = some (.inl 7)) (ha : LX.1[a]? = some (.inl 3)) (hp : LX.1[p]? = some (.inl 6)) (hab : a + 4 ≤ b ∨ b + 5 ≤ a) (hpb : p < b ∨ b + 5 ≤ p) (h0 : σ.1 p 0 = 0) : SpR0 l G mX7_goPlain [.ref (adr b), .ref (adr p), .ref (adr a)] adr LX Lf Rt σ (fun τ => RunI σ b a 8 τ) := by
  refine spec_of (by decide) (Nat.le_of_ble_eq_true rfl) (fun sz => ?_)
  refine pw_aload_n dX7_goPlain_0 rfl ?_
  refine pw_aload_n dX7_goPlain_1 rfl ?_
  refine lp_rV0 (mi' := mX7_begin) (As := [_]) (q := (RX7, TX7, 6)) dX7_goPlain_2 lk_RX7_36 mk_X7_begin mi_X7_begin me_X7_begin ⟨by decide, by decide⟩ rfl rfl (Nat.le_of_ble_eq_true rfl) hb rfl ⟨rfl, rfl⟩ ⟨Nat.zero_le _, Nat.zero_le _⟩ (x_beginR hb ha hab) (fun τ hQ => ?_)
  refine pw_iconst (v := 0) dX7_goPlain_5 rfl ?_
  refine pw_istore_n dX7_goPlain_6 (by decide) ?_
  refine pw_iload_n dX7_goPlain_7 rfl ?_
  refine pw_aload_n dX7_goPlain_8 rfl ?_
  refine lp_geti dX7_goPlain_9 fp_RX7_40.FL hp rfl ?_
  refine pw_icmp_ge 32 dX7_goPlain_12 (by decide) (fun c_12 => ?_) (fun c_12 => absurd (show τ.1 p 0 ≤ 0 by rw [(hQ.1 p (by omega)).1, h0]; decide) c_12)
  refine pw_iconst (v := 0) dX7_goPlain_32 rfl ?_
  refine pw_istore_n dX7_goPlain_33 (by decide) ?_
  refine pw_iload_n dX7_goPlain_34 rfl ?_
  refine pw_ldc dX7_goPlain_35 kc_RX7_49 ?_
  refine pw_icmp_ge 88 dX7_goPlain_37 (by decide) (fun c_37 => absurd c_37 (by decide)) (fun c_37 => ?_)
  refine pw_aload_n dX7_goPlain_40 rfl ?_
  refine pw_aload_n dX7_goPlain_41 rfl ?_
  refine lp_cV1 (mi' := mX7_isGoingOn) (As := [_]) (q := (RX7, TX7, 6)) dX7_goPlain_42 lk_RX7_50 mk_X7_isGoingOn mi_X7_isGoingOn me_X7_isGoingOn ⟨by decide, by decide⟩ rfl rfl (Nat.le_of_ble_eq_true rfl) hb rfl ⟨rfl, rfl⟩ ⟨Nat.zero_le _, Nat.zero_le _⟩ (x_isGoingOn hb hp) ?_
  rw [decide_eq_false (show ¬ (τ.1 b 2 = -1 ∧ τ.1 (b + 1) 0 < τ.1 p 0) by rw [hQ.2.1, (hQ.1 p (by omega)).1, h0]; exact fun h => absurd h.2 (by decide))]
  refine pw_if_eq 88 dX7_goPlain_45 (by decide) (fun c_45 => ?_) (fun c_45 => absurd rfl c_45)
  exact pw_vret rfl dX7_goPlain_88 (Nat.zero_le _) (Nat.zero_le _) ⟨τ, rfl, hQ⟩
theorem x_goOptimized0 {b a p q : Nat} (hb : LX.1[b]? = some (.inl 7)) (ha : LX.1[a]? = some (.inl 3)) (hp : LX.1[p]? = some (.inl 6)) (hq : LX.1[q]? = some (.inl 5)) (hab : a + 4 ≤ b ∨ b + 5 ≤ a) (hpb : p < b ∨ b + 5 ≤ p) (h0 : σ.1 p 0 = 0) : SpR0 l G mX7_goOptimized [.ref (adr b), .ref (adr p), .ref (adr a), .ref (adr q)] adr LX Lf Rt σ (fun τ => RunI σ b a 8 τ) := by
  refine spec_of (by decide) (Nat.le_of_ble_eq_true rfl) (fun sz => ?_)
  refine pw_aload_n dX7_goOptimized_0 rfl ?_
  refine pw_aload_n dX7_goOptimized_1 rfl ?_
  refine lp_rV0 (mi' := mX7_begin) (As := [_]) (q := (RX7, TX7, 6)) dX7_goOptimized_2 lk_RX7_36 mk_X7_begin mi_X7_begin me_X7_begin ⟨by decide, by decide⟩ rfl rfl (Nat.le_of_ble_eq_true rfl) hb rfl ⟨rfl, rfl⟩ ⟨Nat.zero_le _, Nat.zero_le _⟩ (x_beginR hb ha hab) (fun τ hQ => ?_)
  refine pw_iconst (v := 0) dX7_goOptimized_5 rfl ?_
  refine pw_istore dX7_goOptimized_6 (by decide) ?_
  refine pw_iload dX7_goOptimized_8 rfl ?_
  refine pw_aload_n dX7_goOptimized_10 rfl ?_
  refine lp_geti dX7_goOptimized_11 fp_RX7_40.FL hp rfl ?_
  refine pw_icmp_ge 46 dX7_goOptimized_14 (by decide) (fun c_14 => ?_) (fun c_14 => absurd (show τ.1 p 0 ≤ 0 by rw [(hQ.1 p (by omega)).1, h0]; decide) c_14)
  refine pw_iconst (v := 0) dX7_goOptimized_46 rfl ?_
  refine pw_istore dX7_goOptimized_47 (by decide) ?_
  refine pw_iload dX7_goOptimized_49 rfl ?_
  refine pw_ldc dX7_goOptimized_51 kc_RX7_49 ?_
  refine pw_icmp_ge 138 dX7_goOptimized_53 (by decide) (fun c_53 => absurd c_53 (by decide)) (fun c_53 => ?_)
  refine pw_aload_n dX7_goOptimized_56 rfl ?_
  refine pw_aload_n dX7_goOptimized_57 rfl ?_
  refine lp_cV1 (mi' := mX7_isGoingOn) (As := [_]) (q := (RX7, TX7, 6)) dX7_goOptimized_58 lk_RX7_50 mk_X7_isGoingOn mi_X7_isGoingOn me_X7_isGoingOn ⟨by decide, by decide⟩ rfl rfl (Nat.le_of_ble_eq_true rfl) hb rfl ⟨rfl, rfl⟩ ⟨Nat.zero_le _, Nat.zero_le _⟩ (x_isGoingOn hb hp) ?_
  rw [decide_eq_false (show ¬ (τ.1 b 2 = -1 ∧ τ.1 (b + 1) 0 < τ.1 p 0) by rw [hQ.2.1, (hQ.1 p (by omega)).1, h0]; exact fun h => absurd h.2 (by decide))]
  refine pw_if_eq 138 dX7_goOptimized_61 (by decide) (fun c_61 => ?_) (fun c_61 => absurd rfl c_61)
  exact pw_vret rfl dX7_goOptimized_138 (Nat.zero_le _) (Nat.zero_le _) ⟨τ, rfl, hQ⟩
/-- what an empty program's analysis leaves: only the analysis' and the plan's own things change -/
def AnaE (σ τ : St) : Prop := Fr 74 88 σ τ ∧ τ.1 74 1 = 0 ∧ ∀ j, j < 8 → τ.2.2.2.1 77 j = (σ.2.2.1 21 j).toInt64 ∧ τ.2.2.2.1 78 j = (σ.2.2.1 22 j).toInt64
theorem x_freshA0 (h9 : σ.1 0 9 = 0) (h0 : σ.1 13 0 = 0) : SpR0 l G mX10_freshenAnalysis [.ref (adr 0)] adr LX Lf Rt σ (fun σ' => ∃ τ, σ' = sI τ 0 9 1 ∧ AnaE σ τ) := by
  refine spec_of (by decide) (Nat.le_of_ble_eq_true rfl) (fun sz => ?_)
  refine pw_aload_n dX10_freshenAnalysis_0 rfl ?_
  refine lp_geti dX10_freshenAnalysis_1 fp_RX10_70.FL rfl rfl ?_
  refine pw_if_ne 51 dX10_freshenAnalysis_4 (by decide) (fun c_4 => absurd h9 c_4) (fun c_4 => ?_)
  refine pw_aload_n dX10_freshenAnalysis_7 rfl ?_
  refine lp_getr 74 dX10_freshenAnalysis_8 fp_RX10_49.FL rfl rfl rfl ?_
  refine pw_aload_n dX10_freshenAnalysis_11 rfl ?_
  refine lp_getr 12 dX10_freshenAnalysis_12 fp_RX10_35.FL rfl rfl rfl ?_
  refine lp_getr 13 dX10_freshenAnalysis_15 fp_RX10_117.FL rfl rfl rfl ?_
  refine pw_aload_n dX10_freshenAnalysis_18 rfl ?_
  refine lp_getr 12 dX10_freshenAnalysis_19 fp_RX10_35.FL rfl rfl rfl ?_
  refine lp_getr 20 dX10_freshenAnalysis_22 fp_RX10_134.FL rfl rfl rfl ?_
  refine lp_rV0 (mi' := mX0_go) (As := [_, _]) (q := (RX0, TX0, 13)) dX10_freshenAnalysis_25 lk_RX10_305 mk_X0_go mi_X0_go me_X0_go ⟨by decide, by decide⟩ rfl rfl (Nat.le_of_ble_eq_true rfl) rfl rfl ⟨rfl, rfl⟩ ⟨Nat.zero_le _, Nat.zero_le _⟩ (x_go0 (b := 74) (a := 20) (p := 13) rfl rfl rfl (by decide) (by decide) h0) (fun τ hQ => ?_)
  refine pw_aload_n dX10_freshenAnalysis_28 rfl ?_
  refine lp_getr 84 dX10_freshenAnalysis_29 fp_RX10_56.FL rfl rfl rfl ?_
  refine pw_aload_n dX10_freshenAnalysis_32 rfl ?_
  refine lp_getr 12 dX10_freshenAnalysis_33 fp_RX10_35.FL rfl rfl rfl ?_
  refine lp_getr 13 dX10_freshenAnalysis_36 fp_RX10_117.FL rfl rfl rfl ?_
  refine pw_aload_n dX10_freshenAnalysis_39 rfl ?_
  refine lp_getr 74 dX10_freshenAnalysis_40 fp_RX10_49.FL rfl rfl rfl ?_
  refine lp_rV0 (mi' := mX5_make) (As := [_, _]) (q := (RX5, TX5, 3)) dX10_freshenAnalysis_43 lk_RX10_309 mk_X5_make mi_X5_make me_X5_make ⟨by decide, by decide⟩ rfl rfl (Nat.le_of_ble_eq_true rfl) rfl rfl ⟨rfl, rfl⟩ ⟨Nat.zero_le _, Nat.zero_le _⟩ (x_make0 (σ := τ) ((congrFun (hQ.1.1 13 (by omega)).1 0).trans h0)) (fun ρ hR => ?_)
  refine pw_aload_n dX10_freshenAnalysis_46 rfl ?_
  refine pw_iconst (v := 1) dX10_freshenAnalysis_47 rfl ?_
  refine lp_puti dX10_freshenAnalysis_48 fp_RX10_70 rfl rfl rfl rfl ?_
  exact pw_vret rfl dX10_freshenAnalysis_51 (Nat.zero_le _) (Nat.zero_le _) ⟨_, rfl, ρ, rfl, (hQ.1.1.mono (by decide) (by decide)).tr (hR.mono (by decide) (by decide)), (congrFun (hR 74 (by omega)).1 1).trans hQ.1.2.2.1, fun j hj => ⟨(congrFun (hR 77 (by omega)).2.2.2.1 j).trans (hQ.1.2.2.2.2 j hj).1, (congrFun (hR 78 (by omega)).2.2.2.1 j).trans (hQ.1.2.2.2.2 j hj).2⟩⟩
def RunE (σ τ : St) (b : Nat) : Prop := τ.1 b 2 = -1 ∧ τ.1 b 3 = 0 ∧ τ.1 b 4 = 0 ∧ ∀ j, j < 8 → τ.2.2.2.1 (b + 3) j = (σ.2.2.1 23 j).toInt64
def RunsE (σ τ : St) : Prop := Fr 74 98 σ τ ∧ τ.1 74 1 = 0 ∧ (∀ j, j < 8 → τ.2.2.2.1 77 j = (σ.2.2.1 21 j).toInt64 ∧ τ.2.2.2.1 78 j = (σ.2.2.1 22 j).toInt64) ∧ RunE σ τ 88 ∧ RunE σ τ 93
theorem x_freshR0 (h9 : σ.1 0 9 = 0) (h10 : σ.1 0 10 = 0) (h0 : σ.1 13 0 = 0) : SpR0 l G mX10_freshenRuns [.ref (adr 0)] adr LX Lf Rt σ (fun σ' => ∃ τ, σ' = sI τ 0 10 1 ∧ ∃ ρ, RunsE σ ρ ∧ τ = sI ρ 0 9 1) := by
  refine spec_of (by decide) (Nat.le_of_ble_eq_true rfl) (fun sz => ?_)
  refine pw_aload_n dX10_freshenRuns_0 rfl ?_
  refine lp_geti dX10_freshenRuns_1 fp_RX10_74.FL rfl rfl ?_
  refine pw_if_ne 62 dX10_freshenRuns_4 (by decide) (fun c_4 => absurd h10 c_4) (fun c_4 => ?_)
  refine pw_aload_n dX10_freshenRuns_7 rfl ?_
  refine lp_rV0 (mi' := mX10_freshenAnalysis) (As := []) (q := (RX10, TX10, 14)) dX10_freshenRuns_8 lk_RX10_184 mk_X10_freshenAnalysis mi_X10_freshenAnalysis me_X10_freshenAnalysis ⟨by decide, by decide⟩ rfl rfl (Nat.le_of_ble_eq_true rfl) rfl rfl ⟨rfl, rfl⟩ ⟨Nat.zero_le _, Nat.zero_le _⟩ (x_freshA0 h9 h0) (fun τ hQ => ?_)
  refine pw_aload_n dX10_freshenRuns_11 rfl ?_
  refine lp_getr 88 dX10_freshenRuns_12 fp_RX10_63.FL rfl rfl rfl ?_
  refine pw_aload_n dX10_freshenRuns_15 rfl ?_
  refine lp_getr 12 dX10_freshenRuns_16 fp_RX10_35.FL rfl rfl rfl ?_
  refine lp_getr 13 dX10_freshenRuns_19 fp_RX10_117.FL rfl rfl rfl ?_
  refine pw_aload_n dX10_freshenRuns_22 rfl ?_
  refine lp_getr 12 dX10_freshenRuns_23 fp_RX10_35.FL rfl rfl rfl ?_
  refine lp_getr 20 dX10_freshenRuns_26 fp_RX10_134.FL rfl rfl rfl ?_
  refine lp_rV0 (mi' := mX7_goPlain) (As := [_, _]) (q := (RX7, TX7, 6)) dX10_freshenRuns_29 lk_RX10_313 mk_X7_goPlain mi_X7_goPlain me_X7_goPlain ⟨by decide, by decide⟩ rfl rfl (Nat.le_of_ble_eq_true rfl) rfl rfl ⟨rfl, rfl⟩ ⟨Nat.zero_le _, Nat.zero_le _⟩ (x_goPlain0 (b := 88) (a := 20) (p := 13) rfl rfl rfl (by decide) (by decide) (by obtain ⟨ρ, rfl, hA⟩ := hQ; exact (congrFun (hA.1 13 (by omega)).1 0).trans h0)) (fun τ2 hQ2 => ?_)
  refine pw_aload_n dX10_freshenRuns_32 rfl ?_
  refine lp_getr 93 dX10_freshenRuns_33 fp_RX10_67.FL rfl rfl rfl ?_
  refine pw_aload_n dX10_freshenRuns_36 rfl ?_
  refine lp_getr 12 dX10_freshenRuns_37 fp_RX10_35.FL rfl rfl rfl ?_
  refine lp_getr 13 dX10_freshenRuns_40 fp_RX10_117.FL rfl rfl rfl ?_
  refine pw_aload_n dX10_freshenRuns_43 rfl ?_
  refine lp_getr 12 dX10_freshenRuns_44 fp_RX10_35.FL rfl rfl rfl ?_
  refine lp_getr 20 dX10_freshenRuns_47 fp_RX10_134.FL rfl rfl rfl ?_
  refine pw_aload_n dX10_freshenRuns_50 rfl ?_
  refine lp_getr 84 dX10_freshenRuns_51 fp_RX10_56.FL rfl rfl rfl ?_
  refine lp_rV0 (mi' := mX7_goOptimized) (As := [_, _, _]) (q := (RX7, TX7, 6)) dX10_freshenRuns_54 lk_RX10_316 mk_X7_goOptimized mi_X7_goOptimized me_X7_goOptimized ⟨by decide, by decide⟩ rfl rfl (Nat.le_of_ble_eq_true rfl) rfl rfl ⟨rfl, rfl⟩ ⟨Nat.zero_le _, Nat.zero_le _⟩ (x_goOptimized0 (b := 93) (a := 20) (p := 13) (q := 84) rfl rfl rfl rfl (by decide) (by decide) (by obtain ⟨ρ, rfl, hA⟩ := hQ; exact (congrFun (hQ2.1 13 (by omega)).1 0).trans ((congrFun (hA.1 13 (by omega)).1 0).trans h0))) (fun τ3 hQ3 => ?_)
  refine pw_aload_n dX10_freshenRuns_57 rfl ?_
  refine pw_iconst (v := 1) dX10_freshenRuns_58 rfl ?_
  refine lp_puti dX10_freshenRuns_59 fp_RX10_74 rfl rfl rfl rfl ?_
  obtain ⟨ρ, rfl, hA⟩ := hQ
  have e9 : τ3.1 0 9 = 1 := (congrFun (hQ3.1 0 (by omega)).1 9).trans (congrFun (hQ2.1 0 (by omega)).1 9)
  refine pw_vret rfl dX10_freshenRuns_62 (Nat.zero_le _) (Nat.zero_le _) ⟨_, rfl, τ3, rfl, sI τ3 0 9 (σ.1 0 9), ⟨?_, ?_, ?_, ?_, ?_⟩, ?_⟩
  · intro id hid
    by_cases h : id = 0
    · subst h
      obtain ⟨a1, a2, a3, a4, a5⟩ := hA.1 0 (by omega)
      obtain ⟨b1, b2, b3, b4, b5⟩ := hQ2.1 0 (by omega)
      obtain ⟨c1, c2, c3, c4, c5⟩ := hQ3.1 0 (by omega)
      refine ⟨?_, c2.trans (b2.trans a2), c3.trans (b3.trans a3), c4.trans (b4.trans a4), c5.trans (b5.trans a5)⟩
      funext q
      by_cases hq : q = 9
      · subst hq; exact gI
      · rw [gI' (by omega), c1, b1, ← a1]
        exact gI' (by omega)
    · obtain ⟨a1, a2, a3, a4, a5⟩ := hA.1 id (by omega)
      obtain ⟨b1, b2, b3, b4, b5⟩ := hQ2.1 id (by omega)
      obtain ⟨c1, c2, c3, c4, c5⟩ := hQ3.1 id (by omega)
      refine ⟨?_, c2.trans (b2.trans a2), c3.trans (b3.trans a3), c4.trans (b4.trans a4), c5.trans (b5.trans a5)⟩
      funext q
      rw [gI' (by omega), c1, b1, ← a1]
      exact gI' (by omega)
  · show τ3.1 74 1 = 0
    rw [(hQ3.1 74 (by omega)).1, (hQ2.1 74 (by omega)).1]; exact hA.2.1
  · intro j hj
    refine ⟨?_, ?_⟩
    · show τ3.2.2.2.1 77 j = _
      rw [(hQ3.1 77 (by omega)).2.2.2.1, (hQ2.1 77 (by omega)).2.2.2.1]; exact (hA.2.2 j hj).1
    · show τ3.2.2.2.1 78 j = _
      rw [(hQ3.1 78 (by omega)).2.2.2.1, (hQ2.1 78 (by omega)).2.2.2.1]; exact (hA.2.2 j hj).2
  · have f1 := (hQ3.1 88 (by omega)).1
    have f2 := (hQ3.1 91 (by omega)).2.2.2.1
    refine ⟨(congrFun f1 2).trans hQ2.2.2.1, (congrFun f1 3).trans hQ2.2.2.2.1, (congrFun f1 4).trans hQ2.2.2.2.2.1, fun j hj => ?_⟩
    show τ3.2.2.2.1 91 j = _
    rw [f2]
    refine (hQ2.2.2.2.2.2 j hj).trans ?_
    show (ρ.2.2.1 23 j).toInt64 = _
    rw [(hA.1 23 (by omega)).2.2.1]
  · refine ⟨hQ3.2.2.1, hQ3.2.2.2.1, hQ3.2.2.2.2.1, fun j hj => ?_⟩
    refine (hQ3.2.2.2.2.2 j hj).trans ?_
    show (τ2.2.2.1 23 j).toInt64 = _
    rw [(hQ2.1 23 (by omega)).2.2.1]
    show (ρ.2.2.1 23 j).toInt64 = _
    rw [(hA.1 23 (by omega)).2.2.1]
  · rw [sI_sI, ← e9, sI_self]
end XE
