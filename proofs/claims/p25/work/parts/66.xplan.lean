/-! THE CLASS: the plan (what it needs to return; what its states are is left open) -/
theorem cPt_b {al : Nat → Int32} {N : Nat} (hW : wfP al N) {c : Nat} (hc : c < N) (k4 : kdA al c = 4) : ∃ e, c < e ∧ e < N ∧ cPt al N c = nI e := by
  have hN := hW.1
  have e1 := lsc_4 k4
  have hd1 : 0 < (lsc al (c + 1)).1 := by rw [e1]; simp
  obtain ⟨b, e, s1, s2, s3, s4, s5, s6, s7, s8, s9, s10, s11, s12⟩ := lsc_span hW.2.2.1 hW.1 (fun _ => -1) (show c + 1 ≤ N by omega) hd1
  rw [e1] at s4
  have hbw : b = c := (nI_inj (by omega) (by omega) s4).symm
  subst hbw
  exact ⟨e, by omega, s3, s7⟩
theorem lp_rS1 {l : Launch} {G : cxG} {mi : MI} {w0 : va_W} {sz : Nat} {fin : OC → Prop} {pc : Nat} {lv : List (Nat × Value)} {st : List Value} {k n : Nat} {adr : Nat → Nat} {Λ : Lay} {Lf Rt : va_W} {σ : St} {mi' : MI} {As : List Value} {idx na : Nat} {stk : List Value} {Q : Value → St → Prop} (hd : decode mi.2.1 pc = .ok (.invokestatic idx, 3)) (hlk : LK mi.1.cls idx mi'.1) (hm : MK mi' na) (hi : Cond.static mi'.1 ∈ TW) (hr : RMok mi mi') (hn : As.length = na) (hst : stk = As.reverse ++ st) (hcat : (st.map fun v => v.category).sum ≤ 8) (h0 : No0 mi') (hroom : k ≤ mi.2.2.2.2.cells ∧ n ≤ mi.2.2.2.2.slots) (hsp : SpR1 l G mi' As adr Λ Lf Rt σ Q)
    (kk : ∀ v σ', Q v σ' → PW l G mi w0 sz fin (pc + 3) lv (v :: st) k n (wp G adr Λ Lf Rt σ')) : PW l G mi w0 sz fin pc lv stk k n (wp G adr Λ Lf Rt σ) := by
  refine pw_callS hd hlk hm hi hr hn hst hcat hsp (by rw [h0.1, h0.2]; exact hroom) ?_ (fun E ws' h => by obtain ⟨v, σ', h, -⟩ := h; cases h)
  intro v ws' h
  obtain ⟨v1, σ', h, hQ⟩ := h
  cases h
  rw [h0.1, h0.2]
  exact kk v1 σ' hQ
def anyB (ws : va_W) : OC → Prop := fun o => ∃ z : Bool, o = .inl (some (.int (bI z)), ws)
section XQ
variable {l : Launch} {G : cxG} {adr : Nat → Nat} {Lf Rt : va_W} {σ : St}
theorem anyB_r {mi : MI} {As : List Value} (h : Spec l G mi As (wp G adr LX Lf Rt σ) (anyB (wp G adr LX Lf Rt σ))) : SpR1 l G mi As adr LX Lf Rt σ (fun v τ => (∃ z : Bool, v = .int (bI z)) ∧ τ = σ) := spec_mono h (fun o ho => by obtain ⟨z, h⟩ := ho; exact ⟨_, σ, h, ⟨z, rfl⟩, rfl⟩)
theorem x_never {b : Nat} (hb : LX.1[b]? = some (.inl 0)) (x : Int32) (i j : Nat) (hi : i < 30) (hj : j < 30) : Tst l G mX0_isNeverNegative [.ref (adr b), .int x, .int (nI i), .int (nI j)] (wp G adr LX Lf Rt σ) := by
  have bi : vp_in (nI i) 30 := vp_in_nI hi (by decide)
  have bj : vp_in (nI j) 30 := vp_in_nI hj (by decide)
  by_cases h : 0 ≤ x ∧ x < 8
  · by_cases hz : (σ.2.2.1 (b + 9) (nI i).toNatClampNeg ||| σ.2.2.1 (b + 9) (nI j).toNatClampNeg) &&& ((1 : Int32) <<< (x &&& 31)) = 0
    · refine ⟨true, spec_of (by decide) (Nat.le_of_ble_eq_true rfl) (fun sz => ?_)⟩
      refine pw_iload_n dX0_isNeverNegative_0 rfl ?_
      refine lp_cS1 (mi' := mX10_isVariable) (As := [_]) dX0_isNeverNegative_1 lk_RX0_145 mk_X10_isVariable ms_X10_isVariable ⟨by decide, by decide⟩ rfl rfl (Nat.le_of_ble_eq_true rfl) ⟨rfl, rfl⟩ ⟨Nat.zero_le _, Nat.zero_le _⟩ (x_isVar x _) ?_
      rw [decide_eq_true h]
      refine pw_if_ne 20 dX0_isNeverNegative_4 (by decide) (fun c_4 => ?_) (fun c_4 => absurd c_4 (by decide))
      refine pw_aload_n dX0_isNeverNegative_20 rfl ?_
      refine lp_getr (b + 9) dX0_isNeverNegative_21 fp_RX0_49.FL hb rfl (rX0_10 hb) ?_
      refine pw_iload_n dX0_isNeverNegative_24 rfl ?_
      refine lp_iald dX0_isNeverNegative_25 (kX0_10 hb) bi ?_
      refine pw_aload_n dX0_isNeverNegative_26 rfl ?_
      refine lp_getr (b + 9) dX0_isNeverNegative_27 fp_RX0_49.FL hb rfl (rX0_10 hb) ?_
      refine pw_iload_n dX0_isNeverNegative_30 rfl ?_
      refine lp_iald dX0_isNeverNegative_31 (kX0_10 hb) bj ?_
      refine pw_ior dX0_isNeverNegative_32 ?_
      refine pw_iconst (v := 1) dX0_isNeverNegative_33 rfl ?_
      refine pw_iload_n dX0_isNeverNegative_34 rfl ?_
      refine pw_ishl dX0_isNeverNegative_35 ?_
      refine pw_iand dX0_isNeverNegative_36 ?_
      refine pw_if_ne 44 dX0_isNeverNegative_37 (by decide) (fun c_37 => absurd c_37 (fun z => z hz)) (fun c_37 => ?_)
      refine pw_iconst (v := 1) dX0_isNeverNegative_40 rfl ?_
      refine pw_goto (tgt := 45) dX0_isNeverNegative_41 (by decide) ?_
      exact pw_iret rfl rfl dX0_isNeverNegative_45 (Nat.zero_le _) (Nat.zero_le _) rfl
    · refine ⟨false, spec_of (by decide) (Nat.le_of_ble_eq_true rfl) (fun sz => ?_)⟩
      refine pw_iload_n dX0_isNeverNegative_0 rfl ?_
      refine lp_cS1 (mi' := mX10_isVariable) (As := [_]) dX0_isNeverNegative_1 lk_RX0_145 mk_X10_isVariable ms_X10_isVariable ⟨by decide, by decide⟩ rfl rfl (Nat.le_of_ble_eq_true rfl) ⟨rfl, rfl⟩ ⟨Nat.zero_le _, Nat.zero_le _⟩ (x_isVar x _) ?_
      rw [decide_eq_true h]
      refine pw_if_ne 20 dX0_isNeverNegative_4 (by decide) (fun c_4 => ?_) (fun c_4 => absurd c_4 (by decide))
      refine pw_aload_n dX0_isNeverNegative_20 rfl ?_
      refine lp_getr (b + 9) dX0_isNeverNegative_21 fp_RX0_49.FL hb rfl (rX0_10 hb) ?_
      refine pw_iload_n dX0_isNeverNegative_24 rfl ?_
      refine lp_iald dX0_isNeverNegative_25 (kX0_10 hb) bi ?_
      refine pw_aload_n dX0_isNeverNegative_26 rfl ?_
      refine lp_getr (b + 9) dX0_isNeverNegative_27 fp_RX0_49.FL hb rfl (rX0_10 hb) ?_
      refine pw_iload_n dX0_isNeverNegative_30 rfl ?_
      refine lp_iald dX0_isNeverNegative_31 (kX0_10 hb) bj ?_
      refine pw_ior dX0_isNeverNegative_32 ?_
      refine pw_iconst (v := 1) dX0_isNeverNegative_33 rfl ?_
      refine pw_iload_n dX0_isNeverNegative_34 rfl ?_
      refine pw_ishl dX0_isNeverNegative_35 ?_
      refine pw_iand dX0_isNeverNegative_36 ?_
      refine pw_if_ne 44 dX0_isNeverNegative_37 (by decide) (fun c_37 => ?_) (fun c_37 => absurd c_37 hz)
      refine pw_iconst (v := 0) dX0_isNeverNegative_44 rfl ?_
      exact pw_iret rfl rfl dX0_isNeverNegative_45 (Nat.zero_le _) (Nat.zero_le _) rfl
  · by_cases hz : x < 20000
    · refine ⟨false, spec_of (by decide) (Nat.le_of_ble_eq_true rfl) (fun sz => ?_)⟩
      refine pw_iload_n dX0_isNeverNegative_0 rfl ?_
      refine lp_cS1 (mi' := mX10_isVariable) (As := [_]) dX0_isNeverNegative_1 lk_RX0_145 mk_X10_isVariable ms_X10_isVariable ⟨by decide, by decide⟩ rfl rfl (Nat.le_of_ble_eq_true rfl) ⟨rfl, rfl⟩ ⟨Nat.zero_le _, Nat.zero_le _⟩ (x_isVar x _) ?_
      rw [decide_eq_false h]
      refine pw_if_ne 20 dX0_isNeverNegative_4 (by decide) (fun c_4 => absurd c_4 (fun z => z rfl)) (fun c_4 => ?_)
      refine pw_iload_n dX0_isNeverNegative_7 rfl ?_
      refine pw_sipush (v := 20000) dX0_isNeverNegative_8 rfl ?_
      refine pw_icmp_lt 18 dX0_isNeverNegative_11 (by decide) (fun c_11 => ?_) (fun c_11 => absurd hz c_11)
      refine pw_iconst (v := 0) dX0_isNeverNegative_18 rfl ?_
      exact pw_iret rfl rfl dX0_isNeverNegative_19 (Nat.zero_le _) (Nat.zero_le _) rfl
    · refine ⟨true, spec_of (by decide) (Nat.le_of_ble_eq_true rfl) (fun sz => ?_)⟩
      refine pw_iload_n dX0_isNeverNegative_0 rfl ?_
      refine lp_cS1 (mi' := mX10_isVariable) (As := [_]) dX0_isNeverNegative_1 lk_RX0_145 mk_X10_isVariable ms_X10_isVariable ⟨by decide, by decide⟩ rfl rfl (Nat.le_of_ble_eq_true rfl) ⟨rfl, rfl⟩ ⟨Nat.zero_le _, Nat.zero_le _⟩ (x_isVar x _) ?_
      rw [decide_eq_false h]
      refine pw_if_ne 20 dX0_isNeverNegative_4 (by decide) (fun c_4 => absurd c_4 (fun z => z rfl)) (fun c_4 => ?_)
      refine pw_iload_n dX0_isNeverNegative_7 rfl ?_
      refine pw_sipush (v := 20000) dX0_isNeverNegative_8 rfl ?_
      refine pw_icmp_lt 18 dX0_isNeverNegative_11 (by decide) (fun c_11 => absurd c_11 hz) (fun c_11 => ?_)
      refine pw_iconst (v := 1) dX0_isNeverNegative_14 rfl ?_
      refine pw_goto (tgt := 19) dX0_isNeverNegative_15 (by decide) ?_
      exact pw_iret rfl rfl dX0_isNeverNegative_19 (Nat.zero_le _) (Nat.zero_le _) rfl
theorem cc_tail {sz : Nat} {w0 : va_W} {b p : Nat} (hb : LX.1[b]? = some (.inl 0)) (hp : LX.1[p]? = some (.inl 6)) (i j : Nat) (hi : i < 30) (hj : j < 30) (o : Int32) : PW l G mX5_canCover w0 sz (anyB (wp G adr LX Lf Rt σ)) 72 [(0, .ref (adr p)), (1, .ref (adr b)), (2, .int (nI i)), (3, .int (nI j)), (4, .int o)] [] 0 0 (wp G adr LX Lf Rt σ) := by
  have bi : vp_in (nI i) 30 := vp_in_nI hi (by decide)
  obtain ⟨z1, h1⟩ := x_never (l := l) (G := G) (adr := adr) (Lf := Lf) (Rt := Rt) (σ := σ) hb (σ.2.2.1 (p + 3) (nI i).toNatClampNeg) i j hi hj
  obtain ⟨z2, h2⟩ := x_never (l := l) (G := G) (adr := adr) (Lf := Lf) (Rt := Rt) (σ := σ) hb (σ.2.2.1 (p + 4) (nI i).toNatClampNeg) i j hi hj
  obtain ⟨z3, h3⟩ := x_never (l := l) (G := G) (adr := adr) (Lf := Lf) (Rt := Rt) (σ := σ) hb o i j hi hj
  refine pw_aload_n dX5_canCover_72 rfl ?_
  refine pw_aload_n dX5_canCover_73 rfl ?_
  refine lp_getr (p + 3) dX5_canCover_74 fp_RX5_75.FL hp rfl (rX6_3 hp) ?_
  refine pw_iload_n dX5_canCover_77 rfl ?_
  refine lp_iald dX5_canCover_78 (kX6_3 hp) bi ?_
  refine pw_iload_n dX5_canCover_79 rfl ?_
  refine pw_iload_n dX5_canCover_80 rfl ?_
  refine lp_cV1 (mi' := mX0_isNeverNegative) (As := [_, _, _]) (q := (RX0, TX0, 13)) dX5_canCover_81 lk_RX5_78 mk_X0_isNeverNegative mi_X0_isNeverNegative me_X0_isNeverNegative ⟨by decide, by decide⟩ rfl rfl (Nat.le_of_ble_eq_true rfl) hb rfl ⟨rfl, rfl⟩ ⟨Nat.zero_le _, Nat.zero_le _⟩ h1 ?_
  refine pw_if_eq 117 dX5_canCover_84 (by decide) (fun c_84 => ?_) (fun c_84 => ?_)
  · refine pw_iconst (v := 0) dX5_canCover_117 rfl ?_
    exact pw_iret rfl rfl dX5_canCover_118 (Nat.zero_le _) (Nat.zero_le _) (by first | exact ⟨true, rfl⟩ | exact ⟨false, rfl⟩)
  · refine pw_aload_n dX5_canCover_87 rfl ?_
    refine pw_aload_n dX5_canCover_88 rfl ?_
    refine lp_getr (p + 4) dX5_canCover_89 fp_RX5_82.FL hp rfl (rX6_4 hp) ?_
    refine pw_iload_n dX5_canCover_92 rfl ?_
    refine lp_iald dX5_canCover_93 (kX6_4 hp) bi ?_
    refine pw_iload_n dX5_canCover_94 rfl ?_
    refine pw_iload_n dX5_canCover_95 rfl ?_
    refine lp_cV1 (mi' := mX0_isNeverNegative) (As := [_, _, _]) (q := (RX0, TX0, 13)) dX5_canCover_96 lk_RX5_78 mk_X0_isNeverNegative mi_X0_isNeverNegative me_X0_isNeverNegative ⟨by decide, by decide⟩ rfl rfl (Nat.le_of_ble_eq_true rfl) hb rfl ⟨rfl, rfl⟩ ⟨Nat.zero_le _, Nat.zero_le _⟩ h2 ?_
    refine pw_if_eq 117 dX5_canCover_99 (by decide) (fun c_99 => ?_) (fun c_99 => ?_)
    · refine pw_iconst (v := 0) dX5_canCover_117 rfl ?_
      exact pw_iret rfl rfl dX5_canCover_118 (Nat.zero_le _) (Nat.zero_le _) (by first | exact ⟨true, rfl⟩ | exact ⟨false, rfl⟩)
    · refine pw_aload_n dX5_canCover_102 rfl ?_
      refine pw_iload dX5_canCover_103 rfl ?_
      refine pw_iload_n dX5_canCover_105 rfl ?_
      refine pw_iload_n dX5_canCover_106 rfl ?_
      refine lp_cV1 (mi' := mX0_isNeverNegative) (As := [_, _, _]) (q := (RX0, TX0, 13)) dX5_canCover_107 lk_RX5_78 mk_X0_isNeverNegative mi_X0_isNeverNegative me_X0_isNeverNegative ⟨by decide, by decide⟩ rfl rfl (Nat.le_of_ble_eq_true rfl) hb rfl ⟨rfl, rfl⟩ ⟨Nat.zero_le _, Nat.zero_le _⟩ h3 ?_
      refine pw_if_eq 117 dX5_canCover_110 (by decide) (fun c_110 => ?_) (fun c_110 => ?_)
      · refine pw_iconst (v := 0) dX5_canCover_117 rfl ?_
        exact pw_iret rfl rfl dX5_canCover_118 (Nat.zero_le _) (Nat.zero_le _) (by first | exact ⟨true, rfl⟩ | exact ⟨false, rfl⟩)
      · refine pw_iconst (v := 1) dX5_canCover_113 rfl ?_
        refine pw_goto (tgt := 118) dX5_canCover_114 (by decide) ?_
        exact pw_iret rfl rfl dX5_canCover_118 (Nat.zero_le _) (Nat.zero_le _) (by first | exact ⟨true, rfl⟩ | exact ⟨false, rfl⟩)
theorem cc_loop {sz : Nat} {w0 : va_W} {b p : Nat} (hb : LX.1[b]? = some (.inl 0)) (hp : LX.1[p]? = some (.inl 6)) (i j : Nat) (hi : i < 30) (hj : j < 30) (o : Int32) :
    ∀ (r m : Nat), m + r = j → PW l G mX5_canCover w0 sz (anyB (wp G adr LX Lf Rt σ)) 47 [(0, .ref (adr p)), (1, .ref (adr b)), (2, .int (nI i)), (3, .int (nI j)), (4, .int o), (5, .int (nI m))] [] 0 0 (wp G adr LX Lf Rt σ) := by
  intro r
  induction r with
  | zero =>
    intro m hm
    have hm : m = j := by omega
    subst hm
    refine pw_iload dX5_canCover_47 rfl ?_
    refine pw_iload_n dX5_canCover_49 rfl ?_
    refine pw_icmp_ge 72 dX5_canCover_50 (by decide) (fun c_50 => ?_) (fun c_50 => absurd (nI_le (Nat.le_refl m) (by omega)) c_50)
    exact pw_lk [(0, .ref (adr p)), (1, .ref (adr b)), (2, .int (nI i)), (3, .int (nI m)), (4, .int o)] ⟨rfl, rfl, rfl, rfl, rfl, trivial⟩ (cc_tail hb hp i m hi hj o)
  | succ r ih =>
    intro m hm
    obtain ⟨z1, h1⟩ := x_assigns (l := l) (G := G) (adr := adr) (Lf := Lf) (Rt := Rt) (σ := σ) hp m (by omega) o
    refine pw_iload dX5_canCover_47 rfl ?_
    refine pw_iload_n dX5_canCover_49 rfl ?_
    refine pw_icmp_ge 72 dX5_canCover_50 (by decide) (fun c_50 => absurd c_50 (nI_ge (by omega) (by omega))) (fun c_50 => ?_)
    refine pw_aload_n dX5_canCover_53 rfl ?_
    refine pw_iload dX5_canCover_54 rfl ?_
    refine pw_iload dX5_canCover_56 rfl ?_
    refine lp_cV1 (mi' := mX6_assigns) (As := [_, _]) (q := (RX6, TX6, 7)) dX5_canCover_58 lk_RX5_71 mk_X6_assigns mi_X6_assigns me_X6_assigns ⟨by decide, by decide⟩ rfl rfl (Nat.le_of_ble_eq_true rfl) hp rfl ⟨rfl, rfl⟩ ⟨Nat.zero_le _, Nat.zero_le _⟩ h1 ?_
    refine pw_if_eq 66 dX5_canCover_61 (by decide) (fun c_61 => ?_) (fun c_61 => ?_)
    · refine pw_iinc dX5_canCover_66 rfl (by decide) ?_
      refine pw_goto (tgt := 47) dX5_canCover_69 (by decide) ?_
      exact pw_lk [(0, .ref (adr p)), (1, .ref (adr b)), (2, .int (nI i)), (3, .int (nI j)), (4, .int o), (5, .int (nI (m + 1)))] ⟨rfl, rfl, rfl, rfl, rfl, congrArg (fun x => some (Value.int x)) (nI_1 m), trivial⟩ (ih (m + 1) (by omega))
    · refine pw_iconst (v := 0) dX5_canCover_64 rfl ?_
      exact pw_iret rfl rfl dX5_canCover_65 (Nat.zero_le _) (Nat.zero_le _) ⟨false, rfl⟩
theorem x_canCover {b p : Nat} (hb : LX.1[b]? = some (.inl 0)) (hp : LX.1[p]? = some (.inl 6)) (i j : Nat) (hij : i < j) (hj : j < 30) : Spec l G mX5_canCover [.ref (adr p), .ref (adr b), .int (nI i), .int (nI j)] (wp G adr LX Lf Rt σ) (anyB (wp G adr LX Lf Rt σ)) := by
  refine spec_of (by decide) (Nat.le_of_ble_eq_true rfl) (fun sz => ?_)
  have bi : vp_in (nI i) 30 := vp_in_nI (by omega) (by decide)
  have bj : vp_in (nI j) 30 := vp_in_nI hj (by decide)
  obtain ⟨o, ho⟩ := x_besides (l := l) (G := G) (adr := adr) (Lf := Lf) (Rt := Rt) (σ := σ) hp j hj (σ.2.2.1 (p + 2) (nI i).toNatClampNeg)
  refine pw_aload_n dX5_canCover_0 rfl ?_
  refine lp_getr (p + 1) dX5_canCover_1 fp_RX5_51.FL hp rfl (rX6_1 hp) ?_
  refine pw_iload_n dX5_canCover_4 rfl ?_
  refine lp_iald dX5_canCover_5 (kX6_1 hp) bj ?_
  refine pw_iconst (v := 1) dX5_canCover_6 rfl ?_
  refine pw_icmp_ne 19 dX5_canCover_7 (by decide) (fun c_7 => ?_) (fun c_7 => ?_)
  · refine pw_iconst (v := 0) dX5_canCover_19 rfl ?_
    exact pw_iret rfl rfl dX5_canCover_20 (Nat.zero_le _) (Nat.zero_le _) ⟨false, rfl⟩
  · refine pw_aload_n dX5_canCover_10 rfl ?_
    refine lp_getr (b + 6) dX5_canCover_11 fp_RX5_44.FL hb rfl (rX0_7 hb) ?_
    refine pw_iload_n dX5_canCover_14 rfl ?_
    refine lp_zald dX5_canCover_15 (kX0_7 hb) bj ?_
    refine pw_if_ne 21 dX5_canCover_16 (by decide) (fun c_16 => ?_) (fun c_16 => ?_)
    · refine pw_aload_n dX5_canCover_21 rfl ?_
      refine pw_iload_n dX5_canCover_22 rfl ?_
      refine pw_aload_n dX5_canCover_23 rfl ?_
      refine lp_getr (p + 2) dX5_canCover_24 fp_RX5_64.FL hp rfl (rX6_2 hp) ?_
      refine pw_iload_n dX5_canCover_27 rfl ?_
      refine lp_iald dX5_canCover_28 (kX6_2 hp) bi ?_
      refine lp_cV1 (mi' := mX6_besides) (As := [_, _]) (q := (RX6, TX6, 7)) dX5_canCover_29 lk_RX5_67 mk_X6_besides mi_X6_besides me_X6_besides ⟨by decide, by decide⟩ rfl rfl (Nat.le_of_ble_eq_true rfl) hp rfl ⟨rfl, rfl⟩ ⟨Nat.zero_le _, Nat.zero_le _⟩ ho ?_
      refine pw_istore dX5_canCover_32 (by decide) ?_
      refine pw_iload dX5_canCover_34 rfl ?_
      refine pw_iconst (v := -1) dX5_canCover_36 rfl ?_
      refine pw_icmp_ne 42 dX5_canCover_37 (by decide) (fun c_37 => ?_) (fun c_37 => ?_)
      · refine pw_iload_n dX5_canCover_42 rfl ?_
        refine pw_iconst (v := 1) dX5_canCover_43 rfl ?_
        refine pw_iadd dX5_canCover_44 ?_
        refine pw_istore dX5_canCover_45 (by decide) ?_
        exact pw_lk [(0, .ref (adr p)), (1, .ref (adr b)), (2, .int (nI i)), (3, .int (nI j)), (4, .int o), (5, .int (nI (i + 1)))] ⟨rfl, rfl, rfl, rfl, rfl, congrArg (fun x => some (Value.int x)) (nI_1 i), trivial⟩ (cc_loop hb hp i j (by omega) hj o (j - (i + 1)) (i + 1) (by omega))
      · refine pw_iconst (v := 0) dX5_canCover_40 rfl ?_
        exact pw_iret rfl rfl dX5_canCover_41 (Nat.zero_le _) (Nat.zero_le _) ⟨false, rfl⟩
    · refine pw_iconst (v := 0) dX5_canCover_19 rfl ?_
      exact pw_iret rfl rfl dX5_canCover_20 (Nat.zero_le _) (Nat.zero_le _) ⟨false, rfl⟩
theorem x_between {b p : Nat} (hb : LX.1[b]? = some (.inl 0)) (hp : LX.1[p]? = some (.inl 6)) (i j : Nat) (hi : i < 30) (hj : j < 30) : Spec l G mX5_standsBetween [.ref (adr p), .ref (adr b), .int (nI i), .int (nI j)] (wp G adr LX Lf Rt σ) (anyB (wp G adr LX Lf Rt σ)) := by
  refine spec_of (by decide) (Nat.le_of_ble_eq_true rfl) (fun sz => ?_)
  have bi : vp_in (nI i) 30 := vp_in_nI hi (by decide)
  have bj : vp_in (nI j) 30 := vp_in_nI hj (by decide)
  obtain ⟨z1, h1⟩ := x_assigns (l := l) (G := G) (adr := adr) (Lf := Lf) (Rt := Rt) (σ := σ) hp j hj (σ.2.2.1 (p + 2) (nI i).toNatClampNeg)
  obtain ⟨z2, h2⟩ := x_uses (l := l) (G := G) (adr := adr) (Lf := Lf) (Rt := Rt) (σ := σ) hp j hj (σ.2.2.1 (p + 2) (nI i).toNatClampNeg)
  obtain ⟨z3, h3⟩ := x_assigns (l := l) (G := G) (adr := adr) (Lf := Lf) (Rt := Rt) (σ := σ) hp j hj (σ.2.2.1 (p + 3) (nI i).toNatClampNeg)
  obtain ⟨z4, h4⟩ := x_assigns (l := l) (G := G) (adr := adr) (Lf := Lf) (Rt := Rt) (σ := σ) hp j hj (σ.2.2.1 (p + 4) (nI i).toNatClampNeg)
  refine pw_aload_n dX5_standsBetween_0 rfl ?_
  refine lp_getr (p + 2) dX5_standsBetween_1 fp_RX5_64.FL hp rfl (rX6_2 hp) ?_
  refine pw_iload_n dX5_standsBetween_4 rfl ?_
  refine lp_iald dX5_standsBetween_5 (kX6_2 hp) bi ?_
  refine pw_istore dX5_standsBetween_6 (by decide) ?_
  refine pw_aload_n dX5_standsBetween_8 rfl ?_
  refine lp_getr (b + 6) dX5_standsBetween_9 fp_RX5_44.FL hb rfl (rX0_7 hb) ?_
  refine pw_iload_n dX5_standsBetween_12 rfl ?_
  refine lp_zald dX5_standsBetween_13 (kX0_7 hb) bj ?_
  refine pw_if_ne 65 dX5_standsBetween_14 (by decide) (fun c_14 => ?_) (fun c_14 => ?_)
  · refine pw_iconst (v := 1) dX5_standsBetween_65 rfl ?_
    refine pw_goto (tgt := 70) dX5_standsBetween_66 (by decide) ?_
    exact pw_iret rfl rfl dX5_standsBetween_70 (Nat.zero_le _) (Nat.zero_le _) (by first | exact ⟨true, rfl⟩ | exact ⟨false, rfl⟩)
  · refine pw_aload_n dX5_standsBetween_17 rfl ?_
    refine pw_iload_n dX5_standsBetween_18 rfl ?_
    refine pw_iload dX5_standsBetween_19 rfl ?_
    refine lp_cV1 (mi' := mX6_assigns) (As := [_, _]) (q := (RX6, TX6, 7)) dX5_standsBetween_21 lk_RX5_71 mk_X6_assigns mi_X6_assigns me_X6_assigns ⟨by decide, by decide⟩ rfl rfl (Nat.le_of_ble_eq_true rfl) hp rfl ⟨rfl, rfl⟩ ⟨Nat.zero_le _, Nat.zero_le _⟩ h1 ?_
    refine pw_if_ne 65 dX5_standsBetween_24 (by decide) (fun c_24 => ?_) (fun c_24 => ?_)
    · refine pw_iconst (v := 1) dX5_standsBetween_65 rfl ?_
      refine pw_goto (tgt := 70) dX5_standsBetween_66 (by decide) ?_
      exact pw_iret rfl rfl dX5_standsBetween_70 (Nat.zero_le _) (Nat.zero_le _) (by first | exact ⟨true, rfl⟩ | exact ⟨false, rfl⟩)
    · refine pw_aload_n dX5_standsBetween_27 rfl ?_
      refine pw_iload_n dX5_standsBetween_28 rfl ?_
      refine pw_iload dX5_standsBetween_29 rfl ?_
      refine lp_cV1 (mi' := mX6_uses) (As := [_, _]) (q := (RX6, TX6, 7)) dX5_standsBetween_31 lk_RX5_85 mk_X6_uses mi_X6_uses me_X6_uses ⟨by decide, by decide⟩ rfl rfl (Nat.le_of_ble_eq_true rfl) hp rfl ⟨rfl, rfl⟩ ⟨Nat.zero_le _, Nat.zero_le _⟩ h2 ?_
      refine pw_if_ne 65 dX5_standsBetween_34 (by decide) (fun c_34 => ?_) (fun c_34 => ?_)
      · refine pw_iconst (v := 1) dX5_standsBetween_65 rfl ?_
        refine pw_goto (tgt := 70) dX5_standsBetween_66 (by decide) ?_
        exact pw_iret rfl rfl dX5_standsBetween_70 (Nat.zero_le _) (Nat.zero_le _) (by first | exact ⟨true, rfl⟩ | exact ⟨false, rfl⟩)
      · refine pw_aload_n dX5_standsBetween_37 rfl ?_
        refine pw_iload_n dX5_standsBetween_38 rfl ?_
        refine pw_aload_n dX5_standsBetween_39 rfl ?_
        refine lp_getr (p + 3) dX5_standsBetween_40 fp_RX5_75.FL hp rfl (rX6_3 hp) ?_
        refine pw_iload_n dX5_standsBetween_43 rfl ?_
        refine lp_iald dX5_standsBetween_44 (kX6_3 hp) bi ?_
        refine lp_cV1 (mi' := mX6_assigns) (As := [_, _]) (q := (RX6, TX6, 7)) dX5_standsBetween_45 lk_RX5_71 mk_X6_assigns mi_X6_assigns me_X6_assigns ⟨by decide, by decide⟩ rfl rfl (Nat.le_of_ble_eq_true rfl) hp rfl ⟨rfl, rfl⟩ ⟨Nat.zero_le _, Nat.zero_le _⟩ h3 ?_
        refine pw_if_ne 65 dX5_standsBetween_48 (by decide) (fun c_48 => ?_) (fun c_48 => ?_)
        · refine pw_iconst (v := 1) dX5_standsBetween_65 rfl ?_
          refine pw_goto (tgt := 70) dX5_standsBetween_66 (by decide) ?_
          exact pw_iret rfl rfl dX5_standsBetween_70 (Nat.zero_le _) (Nat.zero_le _) (by first | exact ⟨true, rfl⟩ | exact ⟨false, rfl⟩)
        · refine pw_aload_n dX5_standsBetween_51 rfl ?_
          refine pw_iload_n dX5_standsBetween_52 rfl ?_
          refine pw_aload_n dX5_standsBetween_53 rfl ?_
          refine lp_getr (p + 4) dX5_standsBetween_54 fp_RX5_82.FL hp rfl (rX6_4 hp) ?_
          refine pw_iload_n dX5_standsBetween_57 rfl ?_
          refine lp_iald dX5_standsBetween_58 (kX6_4 hp) bi ?_
          refine lp_cV1 (mi' := mX6_assigns) (As := [_, _]) (q := (RX6, TX6, 7)) dX5_standsBetween_59 lk_RX5_71 mk_X6_assigns mi_X6_assigns me_X6_assigns ⟨by decide, by decide⟩ rfl rfl (Nat.le_of_ble_eq_true rfl) hp rfl ⟨rfl, rfl⟩ ⟨Nat.zero_le _, Nat.zero_le _⟩ h4 ?_
          refine pw_if_eq 69 dX5_standsBetween_62 (by decide) (fun c_62 => ?_) (fun c_62 => ?_)
          · refine pw_iconst (v := 0) dX5_standsBetween_69 rfl ?_
            exact pw_iret rfl rfl dX5_standsBetween_70 (Nat.zero_le _) (Nat.zero_le _) (by first | exact ⟨true, rfl⟩ | exact ⟨false, rfl⟩)
          · refine pw_iconst (v := 1) dX5_standsBetween_65 rfl ?_
            refine pw_goto (tgt := 70) dX5_standsBetween_66 (by decide) ?_
            exact pw_iret rfl rfl dX5_standsBetween_70 (Nat.zero_le _) (Nat.zero_le _) (by first | exact ⟨true, rfl⟩ | exact ⟨false, rfl⟩)
def covA' (N : Nat) (ws : va_W) : OC → Prop := fun o => ∃ x : Int32, o = .inl (some (.int x), ws) ∧ (x = -1 ∨ ∃ j, j < N ∧ x = nI j)
theorem fc_loop {sz : Nat} {w0 : va_W} {b p N : Nat} (hb : LX.1[b]? = some (.inl 0)) (hp : LX.1[p]? = some (.inl 6)) (hN : N ≤ 30) (h0 : σ.1 p 0 = nI N) (i : Nat) :
    ∀ (r j : Nat), j + r = N → i < j → PW l G mX5_findCover w0 sz (covA' N (wp G adr LX Lf Rt σ)) 25 [(0, .ref (adr p)), (1, .ref (adr b)), (2, .int (nI i)), (3, .int (nI j))] [] 0 0 (wp G adr LX Lf Rt σ) := by
  intro r
  induction r with
  | zero =>
    intro j hj hij
    have hj : j = N := by omega
    subst hj
    refine pw_iload_n dX5_findCover_25 rfl ?_
    refine pw_aload_n dX5_findCover_26 rfl ?_
    refine lp_geti dX5_findCover_27 fp_RX5_22.FL hp rfl ?_
    refine pw_top (nI j) h0 ?_
    refine pw_icmp_ge 71 dX5_findCover_30 (by decide) (fun c_30 => ?_) (fun c_30 => absurd (nI_le (Nat.le_refl j) (by omega)) c_30)
    refine pw_iconst (v := -1) dX5_findCover_71 rfl ?_
    exact pw_iret rfl rfl dX5_findCover_72 (Nat.zero_le _) (Nat.zero_le _) ⟨-1, rfl, Or.inl rfl⟩
  | succ r ih =>
    intro j hj hij
    have hc := anyB_r (x_canCover (l := l) (G := G) (adr := adr) (Lf := Lf) (Rt := Rt) (σ := σ) hb hp i j hij (by omega))
    have hs := anyB_r (x_between (l := l) (G := G) (adr := adr) (Lf := Lf) (Rt := Rt) (σ := σ) hb hp i j (by omega) (by omega))
    refine pw_iload_n dX5_findCover_25 rfl ?_
    refine pw_aload_n dX5_findCover_26 rfl ?_
    refine lp_geti dX5_findCover_27 fp_RX5_22.FL hp rfl ?_
    refine pw_top (nI N) h0 ?_
    refine pw_icmp_ge 71 dX5_findCover_30 (by decide) (fun c_30 => absurd c_30 (nI_ge (by omega) (by omega))) (fun c_30 => ?_)
    refine pw_aload_n dX5_findCover_33 rfl ?_
    refine pw_iload_n dX5_findCover_34 rfl ?_
    refine lp_cV1 (mi' := mX6_isLoopEdge) (As := [_]) (q := (RX6, TX6, 7)) dX5_findCover_35 lk_RX5_54 mk_X6_isLoopEdge mi_X6_isLoopEdge me_X6_isLoopEdge ⟨by decide, by decide⟩ rfl rfl (Nat.le_of_ble_eq_true rfl) hp rfl ⟨rfl, rfl⟩ ⟨Nat.zero_le _, Nat.zero_le _⟩ (x_isEdge hp j (by omega)) ?_
    refine pw_if_ne 71 dX5_findCover_38 (by decide) (fun c_38 => ?_) (fun c_38 => ?_)
    · refine pw_iconst (v := -1) dX5_findCover_71 rfl ?_
      exact pw_iret rfl rfl dX5_findCover_72 (Nat.zero_le _) (Nat.zero_le _) ⟨-1, rfl, Or.inl rfl⟩
    · refine pw_aload_n dX5_findCover_41 rfl ?_
      refine pw_aload_n dX5_findCover_42 rfl ?_
      refine pw_iload_n dX5_findCover_43 rfl ?_
      refine pw_iload_n dX5_findCover_44 rfl ?_
      refine lp_rS1 (mi' := mX5_canCover) (As := [_, _, _, _]) dX5_findCover_45 lk_RX5_57 mk_X5_canCover ms_X5_canCover ⟨by decide, by decide⟩ rfl rfl (Nat.le_of_ble_eq_true rfl) ⟨rfl, rfl⟩ ⟨Nat.zero_le _, Nat.zero_le _⟩ hc (fun v1 τ1 hq1 => ?_)
      obtain ⟨⟨z1, rfl⟩, rfl⟩ := hq1
      refine pw_if_eq 53 dX5_findCover_48 (by decide) (fun c_48 => ?_) (fun c_48 => ?_)
      · refine pw_aload_n dX5_findCover_53 rfl ?_
        refine pw_aload_n dX5_findCover_54 rfl ?_
        refine pw_iload_n dX5_findCover_55 rfl ?_
        refine pw_iload_n dX5_findCover_56 rfl ?_
        refine lp_rS1 (mi' := mX5_standsBetween) (As := [_, _, _, _]) dX5_findCover_57 lk_RX5_61 mk_X5_standsBetween ms_X5_standsBetween ⟨by decide, by decide⟩ rfl rfl (Nat.le_of_ble_eq_true rfl) ⟨rfl, rfl⟩ ⟨Nat.zero_le _, Nat.zero_le _⟩ hs (fun v2 τ2 hq2 => ?_)
        obtain ⟨⟨z2, rfl⟩, hq2⟩ := hq2
        rw [hq2]
        refine pw_if_eq 65 dX5_findCover_60 (by decide) (fun c_60 => ?_) (fun c_60 => ?_)
        · refine pw_iinc dX5_findCover_65 rfl (by decide) ?_
          refine pw_goto (tgt := 25) dX5_findCover_68 (by decide) ?_
          exact pw_lk [(0, .ref (adr p)), (1, .ref (adr b)), (2, .int (nI i)), (3, .int (nI (j + 1)))] ⟨rfl, rfl, rfl, congrArg (fun x => some (Value.int x)) (nI_1 j), trivial⟩ (ih (j + 1) (by omega) (by omega))
        · refine pw_iconst (v := -1) dX5_findCover_63 rfl ?_
          exact pw_iret rfl rfl dX5_findCover_64 (Nat.zero_le _) (Nat.zero_le _) ⟨-1, rfl, Or.inl rfl⟩
      · refine pw_iload_n dX5_findCover_51 rfl ?_
        exact pw_iret rfl rfl dX5_findCover_52 (Nat.zero_le _) (Nat.zero_le _) ⟨_, rfl, Or.inr ⟨j, by omega, rfl⟩⟩
theorem x_findCover {b p N : Nat} (hb : LX.1[b]? = some (.inl 0)) (hp : LX.1[p]? = some (.inl 6)) (hN : N ≤ 30) (h0 : σ.1 p 0 = nI N) (i : Nat) (hi : i < N) : SpR1 l G mX5_findCover [.ref (adr p), .ref (adr b), .int (nI i)] adr LX Lf Rt σ (fun v τ => τ = σ ∧ ∃ x : Int32, v = .int x ∧ (x = -1 ∨ ∃ j, j < N ∧ x = nI j)) := by
  have bi : vp_in (nI i) 30 := vp_in_nI (by omega) (by decide)
  refine spec_mono (spec_of (fin := covA' N (wp G adr LX Lf Rt σ)) (by decide) (Nat.le_of_ble_eq_true rfl) (fun sz => ?_)) (fun o ho => by obtain ⟨x, h1, h2⟩ := ho; exact ⟨_, σ, h1, rfl, x, rfl, h2⟩)
  refine pw_aload_n dX5_findCover_0 rfl ?_
  refine lp_getr (p + 1) dX5_findCover_1 fp_RX5_51.FL hp rfl (rX6_1 hp) ?_
  refine pw_iload_n dX5_findCover_4 rfl ?_
  refine lp_iald dX5_findCover_5 (kX6_1 hp) bi ?_
  refine pw_iconst (v := 1) dX5_findCover_6 rfl ?_
  refine pw_icmp_ne 19 dX5_findCover_7 (by decide) (fun c_7 => ?_) (fun c_7 => ?_)
  · refine pw_iconst (v := -1) dX5_findCover_19 rfl ?_
    exact pw_iret rfl rfl dX5_findCover_20 (Nat.zero_le _) (Nat.zero_le _) ⟨-1, rfl, Or.inl rfl⟩
  · refine pw_aload_n dX5_findCover_10 rfl ?_
    refine lp_getr (b + 6) dX5_findCover_11 fp_RX5_44.FL hb rfl (rX0_7 hb) ?_
    refine pw_iload_n dX5_findCover_14 rfl ?_
    refine lp_zald dX5_findCover_15 (kX0_7 hb) bi ?_
    refine pw_if_ne 21 dX5_findCover_16 (by decide) (fun c_16 => ?_) (fun c_16 => ?_)
    · refine pw_iload_n dX5_findCover_21 rfl ?_
      refine pw_iconst (v := 1) dX5_findCover_22 rfl ?_
      refine pw_iadd dX5_findCover_23 ?_
      refine pw_istore_n dX5_findCover_24 (by decide) ?_
      exact pw_lk [(0, .ref (adr p)), (1, .ref (adr b)), (2, .int (nI i)), (3, .int (nI (i + 1)))] ⟨rfl, rfl, rfl, congrArg (fun x => some (Value.int x)) (nI_1 i), trivial⟩ (fc_loop hb hp hN h0 i (N - (i + 1)) (i + 1) (by omega) (by omega))
    · refine pw_iconst (v := -1) dX5_findCover_19 rfl ?_
      exact pw_iret rfl rfl dX5_findCover_20 (Nat.zero_le _) (Nat.zero_le _) ⟨-1, rfl, Or.inl rfl⟩
theorem cm_loop {sz : Nat} {w0 : va_W} {q p : Nat} (hq : LX.1[q]? = some (.inl 5)) (hp : LX.1[p]? = some (.inl 6)) (i c e : Nat) (he : e < 30) (hc : c < 30) (hpt : σ.2.2.1 (p + 6) c = nI e) (t o : Int32) :
    ∀ (r m : Nat), m + r = e → PW l G mX5_canMoveOut w0 sz (anyB (wp G adr LX Lf Rt σ)) 62 [(0, .ref (adr q)), (1, .ref (adr p)), (2, .int (nI i)), (3, .int (nI c)), (4, .int t), (5, .int o), (6, .int (nI m))] [] 0 0 (wp G adr LX Lf Rt σ) := by
  intro r
  have ec : (nI c).toNatClampNeg = c := nI_clamp (by omega)
  have bc : vp_in (nI c) 30 := vp_in_nI hc (by decide)
  induction r with
  | zero =>
    intro m hm
    have hm : m = e := by omega
    subst hm
    refine pw_iload dX5_canMoveOut_62 rfl ?_
    refine pw_aload_n dX5_canMoveOut_64 rfl ?_
    refine lp_getr (p + 6) dX5_canMoveOut_65 fp_RX5_92.FL hp rfl (rX6_6 hp) ?_
    refine pw_iload_n dX5_canMoveOut_68 rfl ?_
    refine lp_iald dX5_canMoveOut_69 (kX6_6 hp) bc ?_
    refine pw_top (nI m) (by rw [ec]; exact hpt) ?_
    refine pw_icmp_ge 109 dX5_canMoveOut_70 (by decide) (fun c_70 => ?_) (fun c_70 => absurd (nI_le (Nat.le_refl m) (by omega)) c_70)
    refine pw_iconst (v := 1) dX5_canMoveOut_109 rfl ?_
    exact pw_iret rfl rfl dX5_canMoveOut_110 (Nat.zero_le _) (Nat.zero_le _) ⟨true, rfl⟩
  | succ r ih =>
    intro m hm
    obtain ⟨z1, h1⟩ := x_assigns (l := l) (G := G) (adr := adr) (Lf := Lf) (Rt := Rt) (σ := σ) hp m (by omega) t
    obtain ⟨z2, h2⟩ := x_assigns (l := l) (G := G) (adr := adr) (Lf := Lf) (Rt := Rt) (σ := σ) hp m (by omega) o
    refine pw_iload dX5_canMoveOut_62 rfl ?_
    refine pw_aload_n dX5_canMoveOut_64 rfl ?_
    refine lp_getr (p + 6) dX5_canMoveOut_65 fp_RX5_92.FL hp rfl (rX6_6 hp) ?_
    refine pw_iload_n dX5_canMoveOut_68 rfl ?_
    refine lp_iald dX5_canMoveOut_69 (kX6_6 hp) bc ?_
    refine pw_top (nI e) (by rw [ec]; exact hpt) ?_
    refine pw_icmp_ge 109 dX5_canMoveOut_70 (by decide) (fun c_70 => absurd c_70 (nI_ge (by omega) (by omega))) (fun c_70 => ?_)
    refine pw_iload dX5_canMoveOut_73 rfl ?_
    refine pw_iload_n dX5_canMoveOut_75 rfl ?_
    refine pw_icmp_eq 103 dX5_canMoveOut_76 (by decide) (fun c_76 => ?_) (fun c_76 => ?_)
    · refine pw_iinc dX5_canMoveOut_103 rfl (by decide) ?_
      refine pw_goto (tgt := 62) dX5_canMoveOut_106 (by decide) ?_
      exact pw_lk [(0, .ref (adr q)), (1, .ref (adr p)), (2, .int (nI i)), (3, .int (nI c)), (4, .int t), (5, .int o), (6, .int (nI (m + 1)))] ⟨rfl, rfl, rfl, rfl, rfl, rfl, congrArg (fun x => some (Value.int x)) (nI_1 m), trivial⟩ (ih (m + 1) (by omega))
    · refine pw_aload_n dX5_canMoveOut_79 rfl ?_
      refine pw_iload dX5_canMoveOut_80 rfl ?_
      refine pw_iload dX5_canMoveOut_82 rfl ?_
      refine lp_cV1 (mi' := mX6_assigns) (As := [_, _]) (q := (RX6, TX6, 7)) dX5_canMoveOut_84 lk_RX5_71 mk_X6_assigns mi_X6_assigns me_X6_assigns ⟨by decide, by decide⟩ rfl rfl (Nat.le_of_ble_eq_true rfl) hp rfl ⟨rfl, rfl⟩ ⟨Nat.zero_le _, Nat.zero_le _⟩ h1 ?_
      refine pw_if_ne 101 dX5_canMoveOut_87 (by decide) (fun c_87 => ?_) (fun c_87 => ?_)
      · refine pw_iconst (v := 0) dX5_canMoveOut_101 rfl ?_
        exact pw_iret rfl rfl dX5_canMoveOut_102 (Nat.zero_le _) (Nat.zero_le _) ⟨false, rfl⟩
      · refine pw_aload_n dX5_canMoveOut_90 rfl ?_
        refine pw_iload dX5_canMoveOut_91 rfl ?_
        refine pw_iload dX5_canMoveOut_93 rfl ?_
        refine lp_cV1 (mi' := mX6_assigns) (As := [_, _]) (q := (RX6, TX6, 7)) dX5_canMoveOut_95 lk_RX5_71 mk_X6_assigns mi_X6_assigns me_X6_assigns ⟨by decide, by decide⟩ rfl rfl (Nat.le_of_ble_eq_true rfl) hp rfl ⟨rfl, rfl⟩ ⟨Nat.zero_le _, Nat.zero_le _⟩ h2 ?_
        refine pw_if_eq 103 dX5_canMoveOut_98 (by decide) (fun c_98 => ?_) (fun c_98 => ?_)
        · refine pw_iinc dX5_canMoveOut_103 rfl (by decide) ?_
          refine pw_goto (tgt := 62) dX5_canMoveOut_106 (by decide) ?_
          exact pw_lk [(0, .ref (adr q)), (1, .ref (adr p)), (2, .int (nI i)), (3, .int (nI c)), (4, .int t), (5, .int o), (6, .int (nI (m + 1)))] ⟨rfl, rfl, rfl, rfl, rfl, rfl, congrArg (fun x => some (Value.int x)) (nI_1 m), trivial⟩ (ih (m + 1) (by omega))
        · refine pw_iconst (v := 0) dX5_canMoveOut_101 rfl ?_
          exact pw_iret rfl rfl dX5_canMoveOut_102 (Nat.zero_le _) (Nat.zero_le _) ⟨false, rfl⟩
theorem x_canMoveOut {q p N : Nat} {al : Nat → Int32} (hq : LX.1[q]? = some (.inl 5)) (hp : LX.1[p]? = some (.inl 6)) (hW : wfP al N) (hR : PgR σ p al N) (i : Nat) (hi : i < N) : Spec l G mX5_canMoveOut [.ref (adr q), .ref (adr p), .int (nI i)] (wp G adr LX Lf Rt σ) (anyB (wp G adr LX Lf Rt σ)) := by
  refine spec_of (by decide) (Nat.le_of_ble_eq_true rfl) (fun sz => ?_)
  have hN := hW.1
  have bi : vp_in (nI i) 30 := vp_in_nI (by omega) (by decide)
  have hin : SpR1 l G mX6_innermostLoopOf [.ref (adr p), .int (nI i)] adr LX Lf Rt σ (fun v τ => τ = σ ∧ (v = .int (-1) ∨ ∃ c, c < i ∧ σ.2.2.1 (p + 1) c = 4 ∧ v = .int (nI c))) := spec_mono (x_inner hp i (by omega)) (fun o ho => by
    rcases ho with h | ⟨c, h1, h2, h3⟩
    · exact ⟨_, σ, h, rfl, Or.inl rfl⟩
    · exact ⟨_, σ, h3, rfl, Or.inr ⟨c, h1, h2, rfl⟩⟩)
  obtain ⟨o, ho⟩ := x_besides (l := l) (G := G) (adr := adr) (Lf := Lf) (Rt := Rt) (σ := σ) hp i (by omega) (σ.2.2.1 (p + 2) (nI i).toNatClampNeg)
  refine pw_aload_n dX5_canMoveOut_0 rfl ?_
  refine pw_iload_n dX5_canMoveOut_1 rfl ?_
  refine lp_rV1 (mi' := mX6_innermostLoopOf) (As := [_]) (q := (RX6, TX6, 7)) dX5_canMoveOut_2 lk_RX5_88 mk_X6_innermostLoopOf mi_X6_innermostLoopOf me_X6_innermostLoopOf ⟨by decide, by decide⟩ rfl rfl (Nat.le_of_ble_eq_true rfl) hp rfl ⟨rfl, rfl⟩ ⟨Nat.zero_le _, Nat.zero_le _⟩ hin (fun v τ hv => ?_)
  obtain ⟨rfl, hv⟩ := hv
  obtain ⟨x, rfl, hx⟩ : ∃ x : Int32, v = .int x ∧ (x = -1 ∨ ∃ c, c < i ∧ τ.2.2.1 (p + 1) c = 4 ∧ x = nI c) := by
    rcases hv with h | ⟨c, h1, h2, h3⟩
    · exact ⟨_, h, Or.inl rfl⟩
    · exact ⟨_, h3, Or.inr ⟨c, h1, h2, rfl⟩⟩
  refine pw_istore_n dX5_canMoveOut_5 (by decide) ?_
  refine pw_aload_n dX5_canMoveOut_6 rfl ?_
  refine lp_getr (p + 1) dX5_canMoveOut_7 fp_RX5_51.FL hp rfl (rX6_1 hp) ?_
  refine pw_iload_n dX5_canMoveOut_10 rfl ?_
  refine lp_iald dX5_canMoveOut_11 (kX6_1 hp) bi ?_
  refine pw_iconst (v := 1) dX5_canMoveOut_12 rfl ?_
  refine pw_icmp_ne 30 dX5_canMoveOut_13 (by decide) (fun c_13 => ?_) (fun c_13 => ?_)
  · refine pw_iconst (v := 0) dX5_canMoveOut_30 rfl ?_
    exact pw_iret rfl rfl dX5_canMoveOut_31 (Nat.zero_le _) (Nat.zero_le _) ⟨false, rfl⟩
  · refine pw_aload_n dX5_canMoveOut_16 rfl ?_
    refine lp_getr (q + 3) dX5_canMoveOut_17 fp_RX5_18.FL hq rfl (rX5_2 hq) ?_
    refine pw_iload_n dX5_canMoveOut_20 rfl ?_
    refine lp_zald dX5_canMoveOut_21 (kX5_2 hq) bi ?_
    refine pw_if_ne 30 dX5_canMoveOut_22 (by decide) (fun c_22 => ?_) (fun c_22 => ?_)
    · refine pw_iconst (v := 0) dX5_canMoveOut_30 rfl ?_
      exact pw_iret rfl rfl dX5_canMoveOut_31 (Nat.zero_le _) (Nat.zero_le _) ⟨false, rfl⟩
    · refine pw_iload_n dX5_canMoveOut_25 rfl ?_
      refine pw_iconst (v := -1) dX5_canMoveOut_26 rfl ?_
      refine pw_icmp_ne 32 dX5_canMoveOut_27 (by decide) (fun c_27 => ?_) (fun c_27 => ?_)
      · refine pw_aload_n dX5_canMoveOut_32 rfl ?_
        refine lp_getr (p + 2) dX5_canMoveOut_33 fp_RX5_64.FL hp rfl (rX6_2 hp) ?_
        refine pw_iload_n dX5_canMoveOut_36 rfl ?_
        refine lp_iald dX5_canMoveOut_37 (kX6_2 hp) bi ?_
        refine pw_istore dX5_canMoveOut_38 (by decide) ?_
        refine pw_aload_n dX5_canMoveOut_40 rfl ?_
        refine pw_iload_n dX5_canMoveOut_41 rfl ?_
        refine pw_iload dX5_canMoveOut_42 rfl ?_
        refine lp_cV1 (mi' := mX6_besides) (As := [_, _]) (q := (RX6, TX6, 7)) dX5_canMoveOut_44 lk_RX5_67 mk_X6_besides mi_X6_besides me_X6_besides ⟨by decide, by decide⟩ rfl rfl (Nat.le_of_ble_eq_true rfl) hp rfl ⟨rfl, rfl⟩ ⟨Nat.zero_le _, Nat.zero_le _⟩ ho ?_
        refine pw_istore dX5_canMoveOut_47 (by decide) ?_
        refine pw_iload dX5_canMoveOut_49 rfl ?_
        refine pw_iconst (v := -1) dX5_canMoveOut_51 rfl ?_
        refine pw_icmp_ne 57 dX5_canMoveOut_52 (by decide) (fun c_52 => ?_) (fun c_52 => ?_)
        · refine pw_iload_n dX5_canMoveOut_57 rfl ?_
          refine pw_iconst (v := 1) dX5_canMoveOut_58 rfl ?_
          refine pw_iadd dX5_canMoveOut_59 ?_
          refine pw_istore dX5_canMoveOut_60 (by decide) ?_
          rcases hx with h | ⟨c, h1, h2, rfl⟩
          · exact absurd h c_27
          · obtain ⟨e, e1, e2, e3⟩ := cPt_b hW (show c < N by omega) ((hR.2 c (by omega)).1.symm.trans h2)
            exact pw_lk [(0, .ref (adr q)), (1, .ref (adr p)), (2, .int (nI i)), (3, .int (nI c)), (4, .int (τ.2.2.1 (p + 2) (nI i).toNatClampNeg)), (5, .int o), (6, .int (nI (c + 1)))] ⟨rfl, rfl, rfl, rfl, rfl, rfl, congrArg (fun x => some (Value.int x)) (nI_1 c), trivial⟩ (cm_loop hq hp i c e (by omega) (by omega) ((hR.2 c (by omega)).2.2.2.2.2.trans e3) _ o (e - (c + 1)) (c + 1) (by omega))
        · refine pw_iconst (v := 0) dX5_canMoveOut_55 rfl ?_
          exact pw_iret rfl rfl dX5_canMoveOut_56 (Nat.zero_le _) (Nat.zero_le _) ⟨false, rfl⟩
      · refine pw_iconst (v := 0) dX5_canMoveOut_30 rfl ?_
        exact pw_iret rfl rfl dX5_canMoveOut_31 (Nat.zero_le _) (Nat.zero_le _) ⟨false, rfl⟩
theorem x_findState {q p b N : Nat} {al : Nat → Int32} (hq : LX.1[q]? = some (.inl 5)) (hp : LX.1[p]? = some (.inl 6)) (hb : LX.1[b]? = some (.inl 0)) (hW : wfP al N) (hR : PgR σ p al N) (i : Nat) (hi : i < N) : SpR1 l G mX5_findState [.ref (adr q), .ref (adr p), .ref (adr b), .int (nI i)] adr LX Lf Rt σ (fun v τ => τ = σ ∧ ∃ x : Int32, v = .int x ∧ (x = 3 → ¬ 4 ≤ kdA al i)) := by
  have hN := hW.1
  have bi : vp_in (nI i) 30 := vp_in_nI (by omega) (by decide)
  have hck := x_hasCheck (l := l) (G := G) (adr := adr) (Lf := Lf) (Rt := Rt) (σ := σ) hp i (by omega)
  rw [(hR.2 i hi).1] at hck
  have hmv := anyB_r (x_canMoveOut (l := l) (G := G) (adr := adr) (Lf := Lf) (Rt := Rt) (σ := σ) hq hp hW hR i hi)
  have hno : chkB (kdA al i) = true → ¬ 4 ≤ kdA al i := by
    unfold chkB
    intro h h4
    rcases of_decide_eq_true h with k | k | k <;> rw [k] at h4 <;> exact absurd h4 (by decide)
  refine spec_of (by decide) (Nat.le_of_ble_eq_true rfl) (fun sz => ?_)
  cases hc : chkB (kdA al i)
  · rw [hc] at hck
    refine pw_aload_n dX5_findState_0 rfl ?_
    refine pw_iload_n dX5_findState_1 rfl ?_
    refine lp_cV1 (mi' := mX6_hasCheck) (As := [_]) (q := (RX6, TX6, 7)) dX5_findState_2 lk_RX5_35 mk_X6_hasCheck mi_X6_hasCheck me_X6_hasCheck ⟨by decide, by decide⟩ rfl rfl (Nat.le_of_ble_eq_true rfl) hp rfl ⟨rfl, rfl⟩ ⟨Nat.zero_le _, Nat.zero_le _⟩ hck ?_
    refine pw_if_ne 10 dX5_findState_5 (by decide) (fun c_5 => absurd c_5 (fun z => z rfl)) (fun c_5 => ?_)
    refine pw_iconst (v := -1) dX5_findState_8 rfl ?_
    exact pw_iret rfl rfl dX5_findState_9 (Nat.zero_le _) (Nat.zero_le _) ⟨_, _, rfl, rfl, _, rfl, fun h => absurd h (by decide)⟩
  · rw [hc] at hck
    have hno := hno hc
    refine pw_aload_n dX5_findState_0 rfl ?_
    refine pw_iload_n dX5_findState_1 rfl ?_
    refine lp_cV1 (mi' := mX6_hasCheck) (As := [_]) (q := (RX6, TX6, 7)) dX5_findState_2 lk_RX5_35 mk_X6_hasCheck mi_X6_hasCheck me_X6_hasCheck ⟨by decide, by decide⟩ rfl rfl (Nat.le_of_ble_eq_true rfl) hp rfl ⟨rfl, rfl⟩ ⟨Nat.zero_le _, Nat.zero_le _⟩ hck ?_
    refine pw_if_ne 10 dX5_findState_5 (by decide) (fun c_5 => ?_) (fun c_5 => absurd c_5 (by decide))
    refine pw_aload_n dX5_findState_10 rfl ?_
    refine lp_getr (b + 5) dX5_findState_11 fp_RX5_39.FL hb rfl (rX0_6 hb) ?_
    refine pw_iload_n dX5_findState_14 rfl ?_
    refine lp_zald dX5_findState_15 (kX0_6 hb) bi ?_
    refine pw_if_ne 21 dX5_findState_16 (by decide) (fun c_16 => ?_) (fun c_16 => ?_)
    · refine pw_aload_n dX5_findState_21 rfl ?_
      refine lp_getr (b + 6) dX5_findState_22 fp_RX5_44.FL hb rfl (rX0_7 hb) ?_
      refine pw_iload_n dX5_findState_25 rfl ?_
      refine lp_zald dX5_findState_26 (kX0_7 hb) bi ?_
      refine pw_if_ne 32 dX5_findState_27 (by decide) (fun c_27 => ?_) (fun c_27 => ?_)
      · refine pw_aload_n dX5_findState_32 rfl ?_
        refine lp_getr (q + 2) dX5_findState_33 fp_RX5_15.FL hq rfl (rX5_1 hq) ?_
        refine pw_iload_n dX5_findState_36 rfl ?_
        refine lp_iald dX5_findState_37 (kX5_1 hq) bi ?_
        refine pw_iconst (v := -1) dX5_findState_38 rfl ?_
        refine pw_icmp_eq 44 dX5_findState_39 (by decide) (fun c_39 => ?_) (fun c_39 => ?_)
        · refine pw_aload_n dX5_findState_44 rfl ?_
          refine pw_aload_n dX5_findState_45 rfl ?_
          refine pw_iload_n dX5_findState_46 rfl ?_
          refine lp_rV1 (mi' := mX5_canMoveOut) (As := [_, _]) (q := (RX5, TX5, 3)) dX5_findState_47 lk_RX5_47 mk_X5_canMoveOut mi_X5_canMoveOut me_X5_canMoveOut ⟨by decide, by decide⟩ rfl rfl (Nat.le_of_ble_eq_true rfl) hq rfl ⟨rfl, rfl⟩ ⟨Nat.zero_le _, Nat.zero_le _⟩ hmv (fun v τ hv => ?_)
          obtain ⟨⟨z, rfl⟩, rfl⟩ := hv
          refine pw_if_eq 57 dX5_findState_50 (by decide) (fun c_50 => ?_) (fun c_50 => ?_)
          · refine pw_iconst (v := 4) dX5_findState_57 rfl ?_
            exact pw_iret rfl rfl dX5_findState_58 (Nat.zero_le _) (Nat.zero_le _) ⟨_, _, rfl, rfl, _, rfl, fun _ => hno⟩
          · refine pw_iconst (v := 3) dX5_findState_53 rfl ?_
            refine pw_goto (tgt := 58) dX5_findState_54 (by decide) ?_
            exact pw_iret rfl rfl dX5_findState_58 (Nat.zero_le _) (Nat.zero_le _) ⟨_, _, rfl, rfl, _, rfl, fun _ => hno⟩
        · refine pw_iconst (v := 2) dX5_findState_42 rfl ?_
          exact pw_iret rfl rfl dX5_findState_43 (Nat.zero_le _) (Nat.zero_le _) ⟨_, _, rfl, rfl, _, rfl, fun _ => hno⟩
      · refine pw_iconst (v := 1) dX5_findState_30 rfl ?_
        exact pw_iret rfl rfl dX5_findState_31 (Nat.zero_le _) (Nat.zero_le _) ⟨_, _, rfl, rfl, _, rfl, fun _ => hno⟩
    · refine pw_iconst (v := 0) dX5_findState_19 rfl ?_
      exact pw_iret rfl rfl dX5_findState_20 (Nat.zero_le _) (Nat.zero_le _) ⟨_, _, rfl, rfl, _, rfl, fun _ => hno⟩
end XQ
