/-! LOOPS: pure -/
theorem sA_comm (σ : St) (i j : Nat) (f g : Nat → Int32) (h : i ≠ j) : sA (sA σ i f) j g = sA (sA σ j g) i f := by
  unfold sA
  congr 3
  funext a
  dsimp only
  by_cases h1 : a = i
  · have h2 : ¬ a = j := fun q => h (h1.symm.trans q)
    rw [if_neg h2, if_pos h1, if_pos h1]
  · by_cases h2 : a = j
    · rw [if_pos h2, if_neg h1, if_pos h2]
    · rw [if_neg h2, if_neg h1, if_neg h1, if_neg h2]
def kdA (al : Nat → Int32) (i : Nat) : Int32 := al (1 + 4 * i)
def lmid (al : Nat → Int32) (i : Nat) (x : Nat × Int32 × Int32) : Nat × Int32 × Int32 := if kdA al i = 5 then (x.1 - 1, -1, if x.1 = 2 then x.2.1 else -1) else x
def lend (al : Nat → Int32) (i : Nat) (x : Nat × Int32 × Int32) : Nat × Int32 × Int32 := if kdA al i = 4 then (x.1 + 1, x.2.2, nI i) else x
/-- ahead of instruction i: how many loops are open, the begin of the outer one, of the inner one -/
def lsc (al : Nat → Int32) : Nat → Nat × Int32 × Int32
  | 0 => (0, -1, -1)
  | i + 1 => lend al i (lmid al i (lsc al i))
def lmd (al : Nat → Int32) (i : Nat) : Nat × Int32 × Int32 := lmid al i (lsc al i)
def lpt (al f0 : Nat → Int32) : Nat → (Nat → Int32)
  | 0 => f0
  | i + 1 => if kdA al i = 5 then upd (upd (upd (lpt al f0 i) i (-1)) i (lsc al i).2.2) (lsc al i).2.2.toNatClampNeg (nI i) else upd (lpt al f0 i) i (-1)
def wfL (al : Nat → Int32) (N : Nat) : Prop := (∀ i, i < N → (kdA al i = 4 → (lsc al i).1 < 2) ∧ (kdA al i = 5 → 0 < (lsc al i).1)) ∧ (lsc al N).1 = 0
theorem lsc_inv {al : Nat → Int32} {N : Nat} (h : wfL al N) : ∀ i, i ≤ N → (lsc al i).1 ≤ 2 ∧ ((lsc al i).1 = 0 → (lsc al i).2.1 = -1 ∧ (lsc al i).2.2 = -1) ∧ ((lsc al i).1 = 1 → (lsc al i).2.1 = -1 ∧ ∃ b, b < i ∧ (lsc al i).2.2 = nI b ∧ kdA al b = 4 ∧ (lsc al b).1 = 0) ∧ ((lsc al i).1 = 2 → ∃ a b, a < b ∧ b < i ∧ (lsc al i).2.1 = nI a ∧ (lsc al i).2.2 = nI b ∧ kdA al a = 4 ∧ kdA al b = 4 ∧ (lsc al a).1 = 0 ∧ (lsc al b).1 = 1 ∧ (lsc al b).2.2 = nI a) := by
  intro i
  induction i with
  | zero => intro _; exact ⟨by simp [lsc], fun _ => ⟨rfl, rfl⟩, fun h => by simp [lsc] at h, fun h => by simp [lsc] at h⟩
  | succ i ih =>
    intro hi
    obtain ⟨h1, h2, h3, h4⟩ := ih (by omega)
    obtain ⟨w4, w5⟩ := h.1 i (by omega)
    have es : lsc al (i + 1) = lend al i (lmid al i (lsc al i)) := rfl
    rw [es]
    by_cases k5 : kdA al i = 5
    · have k4 : ¬ kdA al i = 4 := by rw [k5]; decide
      have hd := w5 k5
      unfold lend lmid
      rw [if_neg k4, if_pos k5]
      rcases (show (lsc al i).1 = 1 ∨ (lsc al i).1 = 2 by omega) with hd1 | hd2
      · rw [hd1]
        refine ⟨by simp, fun _ => ⟨rfl, by simp⟩, fun q => by simp at q, fun q => by simp at q⟩
      · rw [hd2]
        obtain ⟨a, b, g1, g2, g3, g4, g5, g6, g7, g8, g9⟩ := h4 hd2
        refine ⟨by simp, fun q => by simp at q, fun _ => ⟨rfl, a, by omega, by simp [g3], g5, g7⟩, fun q => by simp at q⟩
    · by_cases k4 : kdA al i = 4
      · have hd := w4 k4
        unfold lend lmid
        rw [if_pos k4, if_neg k5]
        rcases (show (lsc al i).1 = 0 ∨ (lsc al i).1 = 1 by omega) with hd0 | hd1
        · rw [hd0]
          refine ⟨by simp, fun q => by simp at q, fun _ => ⟨(h2 hd0).2, i, by omega, rfl, k4, hd0⟩, fun q => by simp at q⟩
        · rw [hd1]
          obtain ⟨g0, b, g1, g2, g3, g4⟩ := h3 hd1
          refine ⟨by simp, fun q => by simp at q, fun q => by simp at q, fun _ => ⟨b, i, g1, by omega, g2, rfl, g3, k4, g4, hd1, g2⟩⟩
      · unfold lend lmid
        rw [if_neg k4, if_neg k5]
        refine ⟨h1, h2, fun q => ?_, fun q => ?_⟩
        · obtain ⟨g0, b, g1, g2⟩ := h3 q
          exact ⟨g0, b, by omega, g2⟩
        · obtain ⟨a, b, g1, g2, g3⟩ := h4 q
          exact ⟨a, b, g1, by omega, g3⟩
def st567 (σ : St) (f g h : Nat → Int32) : St := sA (sA (sA σ 5 f) 6 g) 7 h
theorem st5 (σ : St) (f g h f' : Nat → Int32) : sA (st567 σ f g h) 5 f' = st567 σ f' g h := by
  unfold st567; rw [sA_comm _ 7 5 _ _ (by decide), sA_comm _ 6 5 _ _ (by decide), sA_sA]
theorem st6 (σ : St) (f g h g' : Nat → Int32) : sA (st567 σ f g h) 6 g' = st567 σ f g' h := by
  unfold st567; rw [sA_comm _ 7 6 _ _ (by decide), sA_sA]
theorem st7 (σ : St) (f g h h' : Nat → Int32) : sA (st567 σ f g h) 7 h' = st567 σ f g h' := by
  unfold st567; rw [sA_sA]
/-- the first i places are new -/
def pfx (i : Nat) (g f : Nat → Int32) : Nat → Int32 := fun j => if j < i then g j else f j
theorem pfx_upd (i : Nat) (g f : Nat → Int32) : upd (pfx i g f) i (g i) = pfx (i + 1) g f := by
  funext j
  unfold upd pfx
  by_cases h : j = i
  · subst h; rw [if_pos rfl, if_pos (by omega)]
  · rw [if_neg h]
    by_cases h2 : j < i
    · rw [if_pos h2, if_pos (by omega)]
    · rw [if_neg h2, if_neg (by omega)]
theorem pfx_0 (g f : Nat → Int32) : pfx 0 g f = f := by funext j; unfold pfx; rw [if_neg (by omega)]
def mLays (σ : St) (N : Nat) : St := st567 σ (lpt (σ.2.2.1 1) (σ.2.2.1 5) N) (pfx N (fun j => nI (lmd (σ.2.2.1 1) j).1) (σ.2.2.1 6)) (pfx N (fun j => (lmd (σ.2.2.1 1) j).2.2) (σ.2.2.1 7))
section L1
variable {l : Launch} {G : cxG} {adr : Nat → Nat} {Lf Rt : va_W} {σ : St}
theorem lays_tail {sz : Nat} {w0 : va_W} {fin : OC → Prop} {N : Nat} (hN : N ≤ 30) (i : Nat) (hi : i < N) (f : Nat → Int32) (x : Nat × Int32 × Int32) (hx : x = lmd (σ.2.2.1 1) i) (hd4 : kdA (σ.2.2.1 1) i = 4 → x.1 < 2)
    (kk : ∀ lv, lvOK lv [(0, .ref (adr 0)), (1, .int (nI (lsc (σ.2.2.1 1) (i + 1)).1)), (2, .int (lsc (σ.2.2.1 1) (i + 1)).2.1), (3, .int (lsc (σ.2.2.1 1) (i + 1)).2.2), (4, .int (nI (i + 1)))] → PW l G mX11_laysLoops w0 sz fin 9 lv [] 0 0 (wp G adr LM Lf Rt (st567 σ f (pfx (i + 1) (fun j => nI (lmd (σ.2.2.1 1) j).1) (σ.2.2.1 6)) (pfx (i + 1) (fun j => (lmd (σ.2.2.1 1) j).2.2) (σ.2.2.1 7))))) :
    PW l G mX11_laysLoops w0 sz fin 70 [(0, .ref (adr 0)), (1, .int (nI x.1)), (2, .int x.2.1), (3, .int x.2.2), (4, .int (nI i))] [] 0 0 (wp G adr LM Lf Rt (st567 σ f (pfx i (fun j => nI (lmd (σ.2.2.1 1) j).1) (σ.2.2.1 6)) (pfx i (fun j => (lmd (σ.2.2.1 1) j).2.2) (σ.2.2.1 7)))) := by
  have e6 : upd (pfx i (fun j => nI (lmd (σ.2.2.1 1) j).1) (σ.2.2.1 6)) i (nI x.1) = pfx (i + 1) (fun j => nI (lmd (σ.2.2.1 1) j).1) (σ.2.2.1 6) := by rw [hx]; exact pfx_upd i _ _
  have e7 : upd (pfx i (fun j => (lmd (σ.2.2.1 1) j).2.2) (σ.2.2.1 7)) i x.2.2 = pfx (i + 1) (fun j => (lmd (σ.2.2.1 1) j).2.2) (σ.2.2.1 7) := by rw [hx]; exact pfx_upd i _ _
  have es : lsc (σ.2.2.1 1) (i + 1) = lend (σ.2.2.1 1) i x := by rw [hx]; rfl
  rw [es] at kk
  by_cases k4 : kdA (σ.2.2.1 1) i = 4
  · have el : lend (σ.2.2.1 1) i x = (x.1 + 1, x.2.2, nI i) := by unfold lend; rw [if_pos k4]
    rw [el] at kk
    refine pw_aload_n dX11_laysLoops_70 rfl ?_
    refine lp_getr 6 dX11_laysLoops_71 fp_RX11_25.FL rfl rfl rfl ?_
    refine pw_iload dX11_laysLoops_74 rfl ?_
    refine pw_iload_n dX11_laysLoops_76 rfl ?_
    refine lp_iast dX11_laysLoops_77 rfl (vp_in_nI (by omega) (by decide)) ?_
    rw [nI_clamp (show i < 2 ^ 31 by omega), st6]
    rw [show (st567 σ f (pfx i (fun j => nI (lmd (σ.2.2.1 1) j).1) (σ.2.2.1 6)) (pfx i (fun j => (lmd (σ.2.2.1 1) j).2.2) (σ.2.2.1 7))).2.2.1 6 = pfx i (fun j => nI (lmd (σ.2.2.1 1) j).1) (σ.2.2.1 6) from rfl, e6]
    refine pw_aload_n dX11_laysLoops_78 rfl ?_
    refine lp_getr 7 dX11_laysLoops_79 fp_RX11_28.FL rfl rfl rfl ?_
    refine pw_iload dX11_laysLoops_82 rfl ?_
    refine pw_iload_n dX11_laysLoops_84 rfl ?_
    refine lp_iast dX11_laysLoops_85 rfl (vp_in_nI (by omega) (by decide)) ?_
    rw [nI_clamp (show i < 2 ^ 31 by omega), st7]
    rw [show (st567 σ f (pfx (i + 1) (fun j => nI (lmd (σ.2.2.1 1) j).1) (σ.2.2.1 6)) (pfx i (fun j => (lmd (σ.2.2.1 1) j).2.2) (σ.2.2.1 7))).2.2.1 7 = pfx i (fun j => (lmd (σ.2.2.1 1) j).2.2) (σ.2.2.1 7) from rfl, e7]
    refine pw_aload_n dX11_laysLoops_86 rfl ?_
    refine pw_iload dX11_laysLoops_87 rfl ?_
    refine lp_cV1 (mi' := mX11_kind) (As := [_]) (q := (RX11, TX11, 33)) dX11_laysLoops_89 lk_RX11_86 mk_X11_kind mi_X11_kind me_X11_kind ⟨by decide, by decide⟩ rfl rfl (Nat.le_of_ble_eq_true rfl) rfl rfl ⟨rfl, rfl⟩ ⟨Nat.zero_le _, Nat.zero_le _⟩ (r_kind i (by omega)) ?_
    refine pw_iconst (v := 4) dX11_laysLoops_92 rfl ?_
    refine pw_icmp_ne 104 dX11_laysLoops_93 (by decide) (fun c_93 => absurd c_93 (fun z => z k4)) (fun c_93 => ?_)
    refine pw_iload_n dX11_laysLoops_96 rfl ?_
    refine pw_istore_n dX11_laysLoops_97 (by decide) ?_
    refine pw_iload dX11_laysLoops_98 rfl ?_
    refine pw_istore_n dX11_laysLoops_100 (by decide) ?_
    refine pw_iinc dX11_laysLoops_101 rfl (by decide) ?_
    refine pw_iinc dX11_laysLoops_104 rfl (by decide) ?_
    refine pw_goto (tgt := 9) dX11_laysLoops_107 (by decide) ?_
    exact kk _ ⟨rfl, congrArg (fun x => some (Value.int x)) (nI_1 x.1), rfl, rfl, congrArg (fun x => some (Value.int x)) (nI_1 i), trivial⟩
  · have el : lend (σ.2.2.1 1) i x = x := by unfold lend; rw [if_neg k4]
    rw [el] at kk
    refine pw_aload_n dX11_laysLoops_70 rfl ?_
    refine lp_getr 6 dX11_laysLoops_71 fp_RX11_25.FL rfl rfl rfl ?_
    refine pw_iload dX11_laysLoops_74 rfl ?_
    refine pw_iload_n dX11_laysLoops_76 rfl ?_
    refine lp_iast dX11_laysLoops_77 rfl (vp_in_nI (by omega) (by decide)) ?_
    rw [nI_clamp (show i < 2 ^ 31 by omega), st6]
    rw [show (st567 σ f (pfx i (fun j => nI (lmd (σ.2.2.1 1) j).1) (σ.2.2.1 6)) (pfx i (fun j => (lmd (σ.2.2.1 1) j).2.2) (σ.2.2.1 7))).2.2.1 6 = pfx i (fun j => nI (lmd (σ.2.2.1 1) j).1) (σ.2.2.1 6) from rfl, e6]
    refine pw_aload_n dX11_laysLoops_78 rfl ?_
    refine lp_getr 7 dX11_laysLoops_79 fp_RX11_28.FL rfl rfl rfl ?_
    refine pw_iload dX11_laysLoops_82 rfl ?_
    refine pw_iload_n dX11_laysLoops_84 rfl ?_
    refine lp_iast dX11_laysLoops_85 rfl (vp_in_nI (by omega) (by decide)) ?_
    rw [nI_clamp (show i < 2 ^ 31 by omega), st7]
    rw [show (st567 σ f (pfx (i + 1) (fun j => nI (lmd (σ.2.2.1 1) j).1) (σ.2.2.1 6)) (pfx i (fun j => (lmd (σ.2.2.1 1) j).2.2) (σ.2.2.1 7))).2.2.1 7 = pfx i (fun j => (lmd (σ.2.2.1 1) j).2.2) (σ.2.2.1 7) from rfl, e7]
    refine pw_aload_n dX11_laysLoops_86 rfl ?_
    refine pw_iload dX11_laysLoops_87 rfl ?_
    refine lp_cV1 (mi' := mX11_kind) (As := [_]) (q := (RX11, TX11, 33)) dX11_laysLoops_89 lk_RX11_86 mk_X11_kind mi_X11_kind me_X11_kind ⟨by decide, by decide⟩ rfl rfl (Nat.le_of_ble_eq_true rfl) rfl rfl ⟨rfl, rfl⟩ ⟨Nat.zero_le _, Nat.zero_le _⟩ (r_kind i (by omega)) ?_
    refine pw_iconst (v := 4) dX11_laysLoops_92 rfl ?_
    refine pw_icmp_ne 104 dX11_laysLoops_93 (by decide) (fun c_93 => ?_) (fun c_93 => absurd c_93 k4)
    refine pw_iinc dX11_laysLoops_104 rfl (by decide) ?_
    refine pw_goto (tgt := 9) dX11_laysLoops_107 (by decide) ?_
    exact kk _ ⟨rfl, rfl, rfl, rfl, congrArg (fun x => some (Value.int x)) (nI_1 i), trivial⟩
theorem lays_loop {sz : Nat} {w0 : va_W} {fin : OC → Prop} {N : Nat} (hN : N ≤ 30) (h0 : σ.2.2.1 1 0 = nI N) (hw : wfL (σ.2.2.1 1) N) (hf : fin (.inl (none, wp G adr LM Lf Rt (mLays σ N)))) :
    ∀ (r i : Nat), i + r = N → PW l G mX11_laysLoops w0 sz fin 9 [(0, .ref (adr 0)), (1, .int (nI (lsc (σ.2.2.1 1) i).1)), (2, .int (lsc (σ.2.2.1 1) i).2.1), (3, .int (lsc (σ.2.2.1 1) i).2.2), (4, .int (nI i))] [] 0 0 (wp G adr LM Lf Rt (st567 σ (lpt (σ.2.2.1 1) (σ.2.2.1 5) i) (pfx i (fun j => nI (lmd (σ.2.2.1 1) j).1) (σ.2.2.1 6)) (pfx i (fun j => (lmd (σ.2.2.1 1) j).2.2) (σ.2.2.1 7)))) := by
  intro r
  induction r with
  | zero =>
    intro i hi
    have hi : i = N := by omega
    subst hi
    refine pw_iload dX11_laysLoops_9 rfl ?_
    refine pw_aload_n dX11_laysLoops_11 rfl ?_
    refine lp_getr 1 dX11_laysLoops_12 fp_RX11_7.FL rfl rfl rfl ?_
    refine pw_iconst (v := 0) dX11_laysLoops_15 rfl ?_
    refine lp_iald dX11_laysLoops_16 rfl (vp_in_nI (n := 0) (by decide) (by decide)) ?_
    refine pw_icmp_ge 110 dX11_laysLoops_17 (by decide) (fun c_17 => ?_) (fun c_17 => absurd (by show σ.2.2.1 1 0 ≤ nI i; rw [h0]; exact Int32.le_refl _) c_17)
    exact pw_vret rfl dX11_laysLoops_110 (Nat.zero_le _) (Nat.zero_le _) hf
  | succ r ih =>
    intro i hi
    obtain ⟨w4, w5⟩ := hw.1 i (by omega)
    have hinv := lsc_inv hw i (by omega)
    have c17 : ¬ σ.2.2.1 1 0 ≤ nI i := by rw [h0]; exact nI_ge (by omega) (by omega)
    by_cases k5 : kdA (σ.2.2.1 1) i = 5
    · have hd := w5 k5
      have ep : lpt (σ.2.2.1 1) (σ.2.2.1 5) (i + 1) = upd (upd (upd (lpt (σ.2.2.1 1) (σ.2.2.1 5) i) i (-1)) i (lsc (σ.2.2.1 1) i).2.2) (lsc (σ.2.2.1 1) i).2.2.toNatClampNeg (nI i) := by rw [lpt, if_pos k5]
      have em : lmd (σ.2.2.1 1) i = ((lsc (σ.2.2.1 1) i).1 - 1, -1, if (lsc (σ.2.2.1 1) i).1 = 2 then (lsc (σ.2.2.1 1) i).2.1 else -1) := by unfold lmd lmid; rw [if_pos k5]
      have ih1 := ih (i + 1) (by omega)
      rw [ep] at ih1
      have tail := fun (w0 : va_W) => lays_tail (l := l) (G := G) (adr := adr) (Lf := Lf) (Rt := Rt) (sz := sz) (w0 := w0) (fin := fin) hN i (by omega) (upd (upd (upd (lpt (σ.2.2.1 1) (σ.2.2.1 5) i) i (-1)) i (lsc (σ.2.2.1 1) i).2.2) (lsc (σ.2.2.1 1) i).2.2.toNatClampNeg (nI i)) _ em.symm (fun q => absurd (k5.symm.trans q) (by decide))
      have hwb : ∃ b, b < 30 ∧ (lsc (σ.2.2.1 1) i).2.2 = nI b := by
        rcases (show (lsc (σ.2.2.1 1) i).1 = 1 ∨ (lsc (σ.2.2.1 1) i).1 = 2 by have := hinv.1; omega) with q | q
        · obtain ⟨_, b, g1, g2, _⟩ := hinv.2.2.1 q; exact ⟨b, by omega, g2⟩
        · obtain ⟨a, b, g1, g2, g3, g4, _⟩ := hinv.2.2.2 q; exact ⟨b, by omega, g4⟩
      obtain ⟨b, hb30, hb⟩ := hwb
      have ed : nI (lsc (σ.2.2.1 1) i).1 + Int32.ofInt (-1) = nI ((lsc (σ.2.2.1 1) i).1 - 1) := by
        have := pk_m1 ((lsc (σ.2.2.1 1) i).1 - 1)
        rw [show (lsc (σ.2.2.1 1) i).1 - 1 + 1 = (lsc (σ.2.2.1 1) i).1 by omega] at this
        exact this
      by_cases hd2 : (lsc (σ.2.2.1 1) i).1 = 2
      · have c56 : nI (lsc (σ.2.2.1 1) i).1 = 2 := by rw [hd2]; rfl
        rw [if_pos hd2] at tail
        refine pw_iload dX11_laysLoops_9 rfl ?_
        refine pw_aload_n dX11_laysLoops_11 rfl ?_
        refine lp_getr 1 dX11_laysLoops_12 fp_RX11_7.FL rfl rfl rfl ?_
        refine pw_iconst (v := 0) dX11_laysLoops_15 rfl ?_
        refine lp_iald dX11_laysLoops_16 rfl (vp_in_nI (n := 0) (by decide) (by decide)) ?_
        refine pw_icmp_ge 110 dX11_laysLoops_17 (by decide) (fun c_17 => absurd c_17 c17) (fun c_17 => ?_)
        refine pw_aload_n dX11_laysLoops_20 rfl ?_
        refine lp_getr 5 dX11_laysLoops_21 fp_RX11_22.FL rfl rfl rfl ?_
        refine pw_iload dX11_laysLoops_24 rfl ?_
        refine pw_iconst (v := -1) dX11_laysLoops_26 rfl ?_
        refine lp_iast dX11_laysLoops_27 rfl (vp_in_nI (by omega) (by decide)) ?_
        rw [nI_clamp (show i < 2 ^ 31 by omega), st5]
        refine pw_aload_n dX11_laysLoops_28 rfl ?_
        refine pw_iload dX11_laysLoops_29 rfl ?_
        refine lp_cV1 (mi' := mX11_kind) (As := [_]) (q := (RX11, TX11, 33)) dX11_laysLoops_31 lk_RX11_86 mk_X11_kind mi_X11_kind me_X11_kind ⟨by decide, by decide⟩ rfl rfl (Nat.le_of_ble_eq_true rfl) rfl rfl ⟨rfl, rfl⟩ ⟨Nat.zero_le _, Nat.zero_le _⟩ (r_kind i (by omega)) ?_
        refine pw_iconst (v := 5) dX11_laysLoops_34 rfl ?_
        refine pw_icmp_ne 70 dX11_laysLoops_35 (by decide) (fun c_35 => absurd c_35 (fun z => z k5)) (fun c_35 => ?_)
        refine pw_aload_n dX11_laysLoops_38 rfl ?_
        refine lp_getr 5 dX11_laysLoops_39 fp_RX11_22.FL rfl rfl rfl ?_
        refine pw_iload dX11_laysLoops_42 rfl ?_
        refine pw_iload_n dX11_laysLoops_44 rfl ?_
        refine lp_iast dX11_laysLoops_45 rfl (vp_in_nI (by omega) (by decide)) ?_
        rw [nI_clamp (show i < 2 ^ 31 by omega), st5]
        refine pw_aload_n dX11_laysLoops_46 rfl ?_
        refine lp_getr 5 dX11_laysLoops_47 fp_RX11_22.FL rfl rfl rfl ?_
        refine pw_iload_n dX11_laysLoops_50 rfl ?_
        refine pw_iload dX11_laysLoops_51 rfl ?_
        refine lp_iast dX11_laysLoops_53 rfl (by rw [hb]; exact vp_in_nI hb30 (by decide)) ?_
        rw [st5]
        refine pw_iload_n dX11_laysLoops_54 rfl ?_
        refine pw_iconst (v := 2) dX11_laysLoops_55 rfl ?_
        refine pw_icmp_ne 63 dX11_laysLoops_56 (by decide) (fun c_56 => absurd c_56 (fun z => z c56)) (fun c_56 => ?_)
        refine pw_iload_n dX11_laysLoops_59 rfl ?_
        refine pw_goto (tgt := 64) dX11_laysLoops_60 (by decide) ?_
        refine pw_istore_n dX11_laysLoops_64 (by decide) ?_
        refine pw_iconst (v := -1) dX11_laysLoops_65 rfl ?_
        refine pw_istore_n dX11_laysLoops_66 (by decide) ?_
        refine pw_iinc dX11_laysLoops_67 rfl (by decide) ?_
        refine pw_lk [(0, .ref (adr 0)), (1, .int (nI ((lsc (σ.2.2.1 1) i).1 - 1))), (2, .int (-1)), (3, .int (lsc (σ.2.2.1 1) i).2.1), (4, .int (nI i))] ⟨rfl, congrArg (fun x => some (Value.int x)) ed, rfl, rfl, rfl, trivial⟩ (tail _ (fun lv hlv => ?_))
        exact pw_lk _ hlv ih1
      · have c56 : ¬ nI (lsc (σ.2.2.1 1) i).1 = 2 := fun q => hd2 ((nI_eq (by have := hinv.1; omega) (by decide)).mp q)
        rw [if_neg hd2] at tail
        refine pw_iload dX11_laysLoops_9 rfl ?_
        refine pw_aload_n dX11_laysLoops_11 rfl ?_
        refine lp_getr 1 dX11_laysLoops_12 fp_RX11_7.FL rfl rfl rfl ?_
        refine pw_iconst (v := 0) dX11_laysLoops_15 rfl ?_
        refine lp_iald dX11_laysLoops_16 rfl (vp_in_nI (n := 0) (by decide) (by decide)) ?_
        refine pw_icmp_ge 110 dX11_laysLoops_17 (by decide) (fun c_17 => absurd c_17 c17) (fun c_17 => ?_)
        refine pw_aload_n dX11_laysLoops_20 rfl ?_
        refine lp_getr 5 dX11_laysLoops_21 fp_RX11_22.FL rfl rfl rfl ?_
        refine pw_iload dX11_laysLoops_24 rfl ?_
        refine pw_iconst (v := -1) dX11_laysLoops_26 rfl ?_
        refine lp_iast dX11_laysLoops_27 rfl (vp_in_nI (by omega) (by decide)) ?_
        rw [nI_clamp (show i < 2 ^ 31 by omega), st5]
        refine pw_aload_n dX11_laysLoops_28 rfl ?_
        refine pw_iload dX11_laysLoops_29 rfl ?_
        refine lp_cV1 (mi' := mX11_kind) (As := [_]) (q := (RX11, TX11, 33)) dX11_laysLoops_31 lk_RX11_86 mk_X11_kind mi_X11_kind me_X11_kind ⟨by decide, by decide⟩ rfl rfl (Nat.le_of_ble_eq_true rfl) rfl rfl ⟨rfl, rfl⟩ ⟨Nat.zero_le _, Nat.zero_le _⟩ (r_kind i (by omega)) ?_
        refine pw_iconst (v := 5) dX11_laysLoops_34 rfl ?_
        refine pw_icmp_ne 70 dX11_laysLoops_35 (by decide) (fun c_35 => absurd c_35 (fun z => z k5)) (fun c_35 => ?_)
        refine pw_aload_n dX11_laysLoops_38 rfl ?_
        refine lp_getr 5 dX11_laysLoops_39 fp_RX11_22.FL rfl rfl rfl ?_
        refine pw_iload dX11_laysLoops_42 rfl ?_
        refine pw_iload_n dX11_laysLoops_44 rfl ?_
        refine lp_iast dX11_laysLoops_45 rfl (vp_in_nI (by omega) (by decide)) ?_
        rw [nI_clamp (show i < 2 ^ 31 by omega), st5]
        refine pw_aload_n dX11_laysLoops_46 rfl ?_
        refine lp_getr 5 dX11_laysLoops_47 fp_RX11_22.FL rfl rfl rfl ?_
        refine pw_iload_n dX11_laysLoops_50 rfl ?_
        refine pw_iload dX11_laysLoops_51 rfl ?_
        refine lp_iast dX11_laysLoops_53 rfl (by rw [hb]; exact vp_in_nI hb30 (by decide)) ?_
        rw [st5]
        refine pw_iload_n dX11_laysLoops_54 rfl ?_
        refine pw_iconst (v := 2) dX11_laysLoops_55 rfl ?_
        refine pw_icmp_ne 63 dX11_laysLoops_56 (by decide) (fun c_56 => ?_) (fun c_56 => absurd c_56 c56)
        refine pw_iconst (v := -1) dX11_laysLoops_63 rfl ?_
        refine pw_istore_n dX11_laysLoops_64 (by decide) ?_
        refine pw_iconst (v := -1) dX11_laysLoops_65 rfl ?_
        refine pw_istore_n dX11_laysLoops_66 (by decide) ?_
        refine pw_iinc dX11_laysLoops_67 rfl (by decide) ?_
        refine pw_lk [(0, .ref (adr 0)), (1, .int (nI ((lsc (σ.2.2.1 1) i).1 - 1))), (2, .int (-1)), (3, .int (-1)), (4, .int (nI i))] ⟨rfl, congrArg (fun x => some (Value.int x)) ed, rfl, rfl, rfl, trivial⟩ (tail _ (fun lv hlv => ?_))
        exact pw_lk _ hlv ih1
    · have ep : lpt (σ.2.2.1 1) (σ.2.2.1 5) (i + 1) = upd (lpt (σ.2.2.1 1) (σ.2.2.1 5) i) i (-1) := by rw [lpt, if_neg k5]
      have em : lmd (σ.2.2.1 1) i = lsc (σ.2.2.1 1) i := by unfold lmd lmid; rw [if_neg k5]
      have ih1 := ih (i + 1) (by omega)
      rw [ep] at ih1
      have tail := fun (w0 : va_W) => lays_tail (l := l) (G := G) (adr := adr) (Lf := Lf) (Rt := Rt) (sz := sz) (w0 := w0) (fin := fin) hN i (by omega) (upd (lpt (σ.2.2.1 1) (σ.2.2.1 5) i) i (-1)) _ em.symm w4
      refine pw_iload dX11_laysLoops_9 rfl ?_
      refine pw_aload_n dX11_laysLoops_11 rfl ?_
      refine lp_getr 1 dX11_laysLoops_12 fp_RX11_7.FL rfl rfl rfl ?_
      refine pw_iconst (v := 0) dX11_laysLoops_15 rfl ?_
      refine lp_iald dX11_laysLoops_16 rfl (vp_in_nI (n := 0) (by decide) (by decide)) ?_
      refine pw_icmp_ge 110 dX11_laysLoops_17 (by decide) (fun c_17 => absurd c_17 c17) (fun c_17 => ?_)
      refine pw_aload_n dX11_laysLoops_20 rfl ?_
      refine lp_getr 5 dX11_laysLoops_21 fp_RX11_22.FL rfl rfl rfl ?_
      refine pw_iload dX11_laysLoops_24 rfl ?_
      refine pw_iconst (v := -1) dX11_laysLoops_26 rfl ?_
      refine lp_iast dX11_laysLoops_27 rfl (vp_in_nI (by omega) (by decide)) ?_
      rw [nI_clamp (show i < 2 ^ 31 by omega), st5]
      refine pw_aload_n dX11_laysLoops_28 rfl ?_
      refine pw_iload dX11_laysLoops_29 rfl ?_
      refine lp_cV1 (mi' := mX11_kind) (As := [_]) (q := (RX11, TX11, 33)) dX11_laysLoops_31 lk_RX11_86 mk_X11_kind mi_X11_kind me_X11_kind ⟨by decide, by decide⟩ rfl rfl (Nat.le_of_ble_eq_true rfl) rfl rfl ⟨rfl, rfl⟩ ⟨Nat.zero_le _, Nat.zero_le _⟩ (r_kind i (by omega)) ?_
      refine pw_iconst (v := 5) dX11_laysLoops_34 rfl ?_
      refine pw_icmp_ne 70 dX11_laysLoops_35 (by decide) (fun c_35 => ?_) (fun c_35 => absurd c_35 k5)
      refine pw_lk [(0, .ref (adr 0)), (1, .int (nI (lsc (σ.2.2.1 1) i).1)), (2, .int (lsc (σ.2.2.1 1) i).2.1), (3, .int (lsc (σ.2.2.1 1) i).2.2), (4, .int (nI i))] ⟨rfl, rfl, rfl, rfl, rfl, trivial⟩ (tail _ (fun lv hlv => ?_))
      exact pw_lk _ hlv ih1
theorem r_laysLoops {N : Nat} (hN : N ≤ 30) (h0 : σ.2.2.1 1 0 = nI N) (hw : wfL (σ.2.2.1 1) N) : SpecD l G mX11_laysLoops [.ref (adr 0)] (wp G adr LM Lf Rt σ) none (wp G adr LM Lf Rt (mLays σ N)) := by
  refine spec_of (by decide) (Nat.le_of_ble_eq_true rfl) (fun sz => ?_)
  refine pw_iconst (v := 0) dX11_laysLoops_0 rfl ?_
  refine pw_istore_n dX11_laysLoops_1 (by decide) ?_
  refine pw_iconst (v := -1) dX11_laysLoops_2 rfl ?_
  refine pw_istore_n dX11_laysLoops_3 (by decide) ?_
  refine pw_iconst (v := -1) dX11_laysLoops_4 rfl ?_
  refine pw_istore_n dX11_laysLoops_5 (by decide) ?_
  refine pw_iconst (v := 0) dX11_laysLoops_6 rfl ?_
  refine pw_istore dX11_laysLoops_7 (by decide) ?_
  refine pw_lk [(0, .ref (adr 0)), (1, .int (nI 0)), (2, .int (-1)), (3, .int (-1)), (4, .int (nI 0))] ⟨rfl, rfl, rfl, rfl, rfl, trivial⟩ (pw_st ?_ (lays_loop hN h0 hw ?_ N 0 (by omega)))
  · rw [pfx_0, pfx_0]
    show σ = sA (sA (sA σ 5 (σ.2.2.1 5)) 6 (σ.2.2.1 6)) 7 (σ.2.2.1 7)
    rw [sA_self, sA_self, sA_self]
  · rfl
end L1
