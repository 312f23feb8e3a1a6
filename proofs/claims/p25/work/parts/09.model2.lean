section M2
variable {l : Launch} {G : cxG} {adr : Nat → Nat} {Lf Rt : va_W} {σ : St}
theorem r_clearText : SpecD l G mX11_clearText [.ref (adr 0)] (wp G adr LM Lf Rt σ) (some (.int (σ.1 0 5))) (wp G adr LM Lf Rt (sI (sI σ 0 3 0) 0 5 0)) := by
  refine spec_of (by decide) (Nat.le_of_ble_eq_true rfl) (fun sz => ?_)
  refine pw_aload_n dX11_clearText_0 rfl ?_
  refine pw_iconst (v := 0) dX11_clearText_1 rfl ?_
  refine lp_puti dX11_clearText_2 fp_RX11_75 rfl rfl rfl rfl ?_
  refine pw_aload_n dX11_clearText_5 rfl ?_
  refine lp_geti dX11_clearText_6 fp_RX11_98.FL rfl rfl ?_
  refine pw_istore_n dX11_clearText_9 (by decide) ?_
  refine pw_aload_n dX11_clearText_10 rfl ?_
  refine pw_iconst (v := 0) dX11_clearText_11 rfl ?_
  refine lp_puti dX11_clearText_12 fp_RX11_98 rfl rfl rfl rfl ?_
  refine pw_iload_n dX11_clearText_15 rfl ?_
  exact pw_iret rfl rfl dX11_clearText_16 (Nat.zero_le _) (Nat.zero_le _) rfl
theorem r_instructions : SpecD l G mX11_instructions [.ref (adr 0)] (wp G adr LM Lf Rt σ) (some (.int (σ.2.2.1 1 0))) (wp G adr LM Lf Rt (sI σ 0 3 0)) := by
  refine spec_of (by decide) (Nat.le_of_ble_eq_true rfl) (fun sz => ?_)
  refine pw_aload_n dX11_instructions_0 rfl ?_
  refine pw_iconst (v := 0) dX11_instructions_1 rfl ?_
  refine lp_puti dX11_instructions_2 fp_RX11_75 rfl rfl rfl rfl ?_
  refine pw_aload_n dX11_instructions_5 rfl ?_
  refine lp_getr 1 dX11_instructions_6 fp_RX11_7.FL rfl rfl rfl ?_
  refine pw_iconst (v := 0) dX11_instructions_9 rfl ?_
  refine lp_iald dX11_instructions_10 rfl (vp_in_nI (n := 0) (by decide) (by decide)) ?_
  exact pw_iret rfl rfl dX11_instructions_11 (Nat.zero_le _) (Nat.zero_le _) rfl
def mSaveB (sv : Nat → Int32) (m : Nat) : Nat → Int32 := if m = 4 then (fun k => if k < 435 then sv (k + 145) else sv k) else sv
def mSaveM (m : Nat) : Nat := if m = 4 then 3 else m
def mSaveF (al sv : Nat → Int32) (m : Nat) : Nat → Int32 := fun k => if 145 * mSaveM m ≤ k ∧ k < 145 * mSaveM m + 145 then al (k - 145 * mSaveM m) else mSaveB sv m k
def mSave (σ : St) (m : Nat) : St := sI (sA σ 2 (mSaveF (σ.2.2.1 1) (σ.2.2.1 2) m)) 0 2 (nI (mSaveM m + 1))
theorem save_tail {sz : Nat} {w0 : va_W} {fin : OC → Prop} (τ : St) (m : Nat) (hm : m < 4) (hs : τ.1 0 2 = nI m) (al : Nat → Int32) (hal : τ.2.2.1 1 = al) (b : Nat → Int32) (hb : τ.2.2.1 2 = b)
    (hf : fin (.inl (none, wp G adr LM Lf Rt (sI (sA τ 2 (fun k => if 145 * m ≤ k ∧ k < 145 * m + 145 then al (k - 145 * m) else b k)) 0 2 (nI (m + 1)))))) :
    ∀ (r i : Nat), i + r = 145 → PW l G mX11_save w0 sz fin 51 [(0, .ref (adr 0)), (1, .int (nI i))] [] 0 0 (wp G adr LM Lf Rt (sA τ 2 (fun k => if 145 * m ≤ k ∧ k < 145 * m + i then al (k - 145 * m) else b k))) := by
  intro r
  induction r with
  | zero =>
    intro i hi
    have hi : i = 145 := by omega
    subst hi
    have e : τ.1 0 2 + 1 = nI (m + 1) := by rw [hs]; exact nI_1 m
    refine pw_iload_n dX11_save_51 rfl ?_
    refine pw_sipush (v := 145) dX11_save_52 rfl ?_
    refine pw_icmp_ge 85 dX11_save_55 (by decide) (fun c_55 => ?_) (fun c_55 => absurd (nI_le (Nat.le_refl 145) (by decide)) c_55)
    refine pw_aload_n dX11_save_85 rfl ?_
    refine pw_dup dX11_save_86 rfl ?_
    refine lp_geti dX11_save_87 fp_RX11_79.FL rfl rfl ?_
    refine pw_iconst (v := 1) dX11_save_90 rfl ?_
    refine pw_iadd dX11_save_91 ?_
    refine lp_puti dX11_save_92 fp_RX11_79 rfl rfl rfl rfl ?_
    exact pw_vret rfl dX11_save_95 (Nat.zero_le _) (Nat.zero_le _) (by show fin (.inl (none, wp G adr LM Lf Rt (sI _ 0 2 (τ.1 0 2 + 1)))); rw [e]; exact hf)
  | succ r ih =>
    intro i hi
    have hb1 : vp_in (145 * nI m + nI i) 580 ∧ (145 * nI m + nI i).toNatClampNeg = 145 * m + i := by
      have e : (145 : Int32) * nI m + nI i = nI (145 * m + i) := by rw [show (145 : Int32) = nI 145 from rfl, pk_mul, nI_add]
      rw [e]; exact ⟨vp_in_nI (by omega) (by decide), nI_clamp (by omega)⟩
    refine pw_iload_n dX11_save_51 rfl ?_
    refine pw_sipush (v := 145) dX11_save_52 rfl ?_
    refine pw_icmp_ge 85 dX11_save_55 (by decide) (fun c_55 => absurd c_55 (nI_ge (a := i) (b := 145) (by omega) (by decide))) (fun c_55 => ?_)
    refine pw_aload_n dX11_save_58 rfl ?_
    refine lp_getr 2 dX11_save_59 fp_RX11_13.FL rfl rfl rfl ?_
    refine pw_sipush (v := 145) dX11_save_62 rfl ?_
    refine pw_aload_n dX11_save_65 rfl ?_
    refine lp_geti dX11_save_66 fp_RX11_79.FL rfl rfl ?_
    refine pw_imul dX11_save_69 ?_
    refine pw_iload_n dX11_save_70 rfl ?_
    refine pw_iadd dX11_save_71 ?_
    refine pw_aload_n dX11_save_72 rfl ?_
    refine lp_getr 1 dX11_save_73 fp_RX11_7.FL rfl rfl rfl ?_
    refine pw_iload_n dX11_save_76 rfl ?_
    refine lp_iald dX11_save_77 rfl (vp_in_nI (by omega) (by decide)) ?_
    refine lp_iast dX11_save_78 rfl (by show vp_in (145 * τ.1 0 2 + nI i) 580; rw [hs]; exact hb1.1) ?_
    refine pw_iinc dX11_save_79 rfl (by decide) ?_
    refine pw_goto (tgt := 51) dX11_save_82 (by decide) ?_
    refine pw_lk [(0, .ref (adr 0)), (1, .int (nI (i + 1)))] ⟨rfl, congrArg (fun x => some (Value.int x)) (nI_1 i), trivial⟩ (pw_st ?_ (ih (i + 1) (by omega)))
    rw [sA_sA]
    congr 1
    funext q
    have e1 : (145 * (sA τ 2 fun k => if 145 * m ≤ k ∧ k < 145 * m + i then al (k - 145 * m) else b k).1 0 2 + nI i).toNatClampNeg = 145 * m + i := by
      show (145 * τ.1 0 2 + nI i).toNatClampNeg = _
      rw [hs]; exact hb1.2
    have e2 : (sA τ 2 fun k => if 145 * m ≤ k ∧ k < 145 * m + i then al (k - 145 * m) else b k).2.2.1 1 (nI i).toNatClampNeg = al i := by
      rw [nI_clamp (by omega)]
      show τ.2.2.1 1 i = _
      rw [hal]
    rw [e1, e2]
    unfold upd
    by_cases hq : q = 145 * m + i
    · subst hq; rw [if_pos rfl, if_pos ⟨by omega, by omega⟩]; congr 1; omega
    · rw [if_neg hq]
      show (if 145 * m ≤ q ∧ q < 145 * m + i then al (q - 145 * m) else b q) = _
      by_cases h2 : 145 * m ≤ q ∧ q < 145 * m + i
      · rw [if_pos h2, if_pos ⟨h2.1, by omega⟩]
      · rw [if_neg h2, if_neg (by omega)]
theorem save_head {sz : Nat} {w0 : va_W} {fin : OC → Prop} (sv : Nat → Int32) (hsv : σ.2.2.1 2 = sv) (kk : ∀ lv, lvG lv 0 = some (.ref (adr 0)) → PW l G mX11_save w0 sz fin 39 lv [] 0 0 (wp G adr LM Lf Rt (sA σ 2 (fun k => if k < 435 then sv (k + 145) else sv k)))) :
    ∀ (r i : Nat), i + r = 435 → PW l G mX11_save w0 sz fin 10 [(0, .ref (adr 0)), (1, .int (nI i))] [] 0 0 (wp G adr LM Lf Rt (sA σ 2 (fun k => if k < i then sv (k + 145) else sv k))) := by
  intro r
  induction r with
  | zero =>
    intro i hi
    have hi : i = 435 := by omega
    subst hi
    refine pw_iload_n dX11_save_10 rfl ?_
    refine pw_sipush (v := 435) dX11_save_11 rfl ?_
    refine pw_icmp_ge 39 dX11_save_14 (by decide) (fun c_14 => ?_) (fun c_14 => absurd (nI_le (Nat.le_refl 435) (by decide)) c_14)
    exact kk _ rfl
  | succ r ih =>
    intro i hi
    have e0 : nI i + 145 = nI (i + 145) := by rw [show (145 : Int32) = nI 145 from rfl, nI_add]
    refine pw_iload_n dX11_save_10 rfl ?_
    refine pw_sipush (v := 435) dX11_save_11 rfl ?_
    refine pw_icmp_ge 39 dX11_save_14 (by decide) (fun c_14 => absurd c_14 (nI_ge (a := i) (b := 435) (by omega) (by decide))) (fun c_14 => ?_)
    refine pw_aload_n dX11_save_17 rfl ?_
    refine lp_getr 2 dX11_save_18 fp_RX11_13.FL rfl rfl rfl ?_
    refine pw_iload_n dX11_save_21 rfl ?_
    refine pw_aload_n dX11_save_22 rfl ?_
    refine lp_getr 2 dX11_save_23 fp_RX11_13.FL rfl rfl rfl ?_
    refine pw_iload_n dX11_save_26 rfl ?_
    refine pw_sipush (v := 145) dX11_save_27 rfl ?_
    refine pw_iadd dX11_save_30 ?_
    refine lp_iald dX11_save_31 rfl (by rw [e0]; exact vp_in_nI (by omega) (by decide)) ?_
    refine lp_iast dX11_save_32 rfl (vp_in_nI (by omega) (by decide)) ?_
    refine pw_iinc dX11_save_33 rfl (by decide) ?_
    refine pw_goto (tgt := 10) dX11_save_36 (by decide) ?_
    refine pw_lk [(0, .ref (adr 0)), (1, .int (nI (i + 1)))] ⟨rfl, congrArg (fun x => some (Value.int x)) (nI_1 i), trivial⟩ (pw_st ?_ (ih (i + 1) (by omega)))
    rw [sA_sA]
    congr 1
    funext q
    rw [e0, nI_clamp (show i < 2 ^ 31 by omega), nI_clamp (show i + 145 < 2 ^ 31 by omega)]
    show upd (fun k => if k < i then sv (k + 145) else sv k) i (if i + 145 < i then sv (i + 145 + 145) else sv (i + 145)) q = _
    rw [if_neg (by omega)]
    unfold upd
    by_cases hq : q = i
    · subst hq; rw [if_pos rfl, if_pos (by omega)]
    · rw [if_neg hq]
      dsimp only
      by_cases h2 : q < i
      · rw [if_pos h2, if_pos (by omega)]
      · rw [if_neg h2, if_neg (by omega)]
theorem r_save (m : Nat) (hm : m ≤ 4) (h : σ.1 0 2 = nI m) : SpecD l G mX11_save [.ref (adr 0)] (wp G adr LM Lf Rt σ) none (wp G adr LM Lf Rt (mSave σ m)) := by
  refine spec_of (by decide) (Nat.le_of_ble_eq_true rfl) (fun sz => ?_)
  by_cases h4 : m = 4
  · subst h4
    refine pw_aload_n dX11_save_0 rfl ?_
    refine lp_geti dX11_save_1 fp_RX11_79.FL rfl rfl ?_
    refine pw_iconst (v := 4) dX11_save_4 rfl ?_
    refine pw_icmp_ne 49 dX11_save_5 (by decide) (fun c_5 => absurd h c_5) (fun c_5 => ?_)
    refine pw_iconst (v := 0) dX11_save_8 rfl ?_
    refine pw_istore_n dX11_save_9 (by decide) ?_
    refine pw_lk [(0, .ref (adr 0)), (1, .int (nI 0))] ⟨rfl, rfl, trivial⟩ (pw_st ?_ (save_head (σ := σ) (σ.2.2.1 2) rfl ?_ 435 0 rfl))
    · exact (sA_self σ 2).symm
    · intro lv h0
      refine pw_lk [(0, .ref (adr 0))] ⟨h0, trivial⟩ ?_
      have e3 : σ.1 0 2 - 1 = nI 3 := by rw [h]; rfl
      refine pw_aload_n dX11_save_39 rfl ?_
      refine pw_dup dX11_save_40 rfl ?_
      refine lp_geti dX11_save_41 fp_RX11_79.FL rfl rfl ?_
      refine pw_iconst (v := 1) dX11_save_44 rfl ?_
      refine pw_isub dX11_save_45 ?_
      refine lp_puti dX11_save_46 fp_RX11_79 rfl rfl rfl rfl ?_
      refine pw_iconst (v := 0) dX11_save_49 rfl ?_
      refine pw_istore_n dX11_save_50 (by decide) ?_
      refine pw_lk [(0, .ref (adr 0)), (1, .int (nI 0))] ⟨rfl, rfl, trivial⟩ (pw_st ?_ (save_tail (sI (sA σ 2 (fun k => if k < 435 then σ.2.2.1 2 (k + 145) else σ.2.2.1 2 k)) 0 2 (nI 3)) 3 (by omega) rfl (σ.2.2.1 1) rfl (fun k => if k < 435 then σ.2.2.1 2 (k + 145) else σ.2.2.1 2 k) rfl ?_ 145 0 rfl))
      · show sI (sA σ 2 _) 0 2 (σ.1 0 2 - 1) = _
        rw [e3]
        have e : (fun k => if 145 * 3 ≤ k ∧ k < 145 * 3 + 0 then σ.2.2.1 1 (k - 145 * 3) else (if k < 435 then σ.2.2.1 2 (k + 145) else σ.2.2.1 2 k)) = (fun k => if k < 435 then σ.2.2.1 2 (k + 145) else σ.2.2.1 2 k) := by funext k; rw [if_neg (by omega)]
        rw [e, sA_sI, sA_sA]
      · show (Sum.inl (none, _) : OC) = Sum.inl (none, _)
        rw [sA_sI, sA_sA, sI_sI]
        rfl
  · refine pw_aload_n dX11_save_0 rfl ?_
    refine lp_geti dX11_save_1 fp_RX11_79.FL rfl rfl ?_
    refine pw_iconst (v := 4) dX11_save_4 rfl ?_
    refine pw_icmp_ne 49 dX11_save_5 (by decide) (fun c_5 => ?_) (fun c_5 => absurd c_5 (by rw [h]; exact fun q => h4 ((nI_eq (by omega) (by decide)).mp q)))
    refine pw_iconst (v := 0) dX11_save_49 rfl ?_
    refine pw_istore_n dX11_save_50 (by decide) ?_
    refine pw_lk [(0, .ref (adr 0)), (1, .int (nI 0))] ⟨rfl, rfl, trivial⟩ (pw_st ?_ (save_tail σ m (by omega) h (σ.2.2.1 1) rfl (σ.2.2.1 2) rfl ?_ 145 0 rfl))
    · have e : (fun k => if 145 * m ≤ k ∧ k < 145 * m + 0 then σ.2.2.1 1 (k - 145 * m) else σ.2.2.1 2 k) = σ.2.2.1 2 := by funext k; rw [if_neg (by omega)]
      rw [e, sA_self]
    · unfold mSave mSaveF mSaveB mSaveM
      rw [if_neg h4, if_neg h4]
end M2
