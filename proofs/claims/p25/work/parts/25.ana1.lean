/-! THE ANALYSIS: pure words; an instruction with ranges -/
def lsr (x y : Int64) : Int64 := if x < y then x else y
def gtr (x y : Int64) : Int64 := if y < x then x else y
abbrev AN : Type := WS × (Nat → Int64) × (Nat → Int64) × (Nat → Int32) × (Nat → Int32) × (Nat → Int32) × (Nat → Int32) × (Nat → Int64) × (Nat → Int64) × Int32
def stN (τ : St) (x : AN) : St :=
  (fun a b => if a = 0 ∧ b = 13 then nI x.1.1 else if a = 0 ∧ b = 14 then nI x.1.2.1 else if a = 0 ∧ b = 24 then x.2.2.2.2.2.2.2.2.2 else τ.1 a b, τ.2.1,
   fun a => if a = 8 then x.1.2.2 else if a = 11 then x.2.2.2.1 else if a = 12 then x.2.2.2.2.1 else if a = 13 then x.2.2.2.2.2.1 else if a = 14 then x.2.2.2.2.2.2.1 else τ.2.2.1 a,
   fun a => if a = 9 then x.2.1 else if a = 10 then x.2.2.1 else if a = 15 then x.2.2.2.2.2.2.2.1 else if a = 16 then x.2.2.2.2.2.2.2.2.1 else τ.2.2.2.1 a, τ.2.2.2.2)
theorem stN_11 (τ : St) (s : WS) (lo hi : Nat → Int64) (rc fa nf ns : Nat → Int32) (le gr : Nat → Int64) (cp : Int32) (f : Nat → Int32) : sA (stN τ (s, lo, hi, rc, fa, nf, ns, le, gr, cp)) 11 f = stN τ (s, lo, hi, f, fa, nf, ns, le, gr, cp) := by
  refine st_ext (fun _ _ => rfl) rfl (fun a => ?_) (fun _ => rfl) rfl
  unfold sA stN; dsimp only
  by_cases h : a = 11
  · subst h; rfl
  · simp only [if_neg h]
theorem stN_12 (τ : St) (s : WS) (lo hi : Nat → Int64) (rc fa nf ns : Nat → Int32) (le gr : Nat → Int64) (cp : Int32) (f : Nat → Int32) : sA (stN τ (s, lo, hi, rc, fa, nf, ns, le, gr, cp)) 12 f = stN τ (s, lo, hi, rc, f, nf, ns, le, gr, cp) := by
  refine st_ext (fun _ _ => rfl) rfl (fun a => ?_) (fun _ => rfl) rfl
  unfold sA stN; dsimp only
  by_cases h : a = 12
  · subst h; rfl
  · simp only [if_neg h]
theorem stN_13 (τ : St) (s : WS) (lo hi : Nat → Int64) (rc fa nf ns : Nat → Int32) (le gr : Nat → Int64) (cp : Int32) (f : Nat → Int32) : sA (stN τ (s, lo, hi, rc, fa, nf, ns, le, gr, cp)) 13 f = stN τ (s, lo, hi, rc, fa, f, ns, le, gr, cp) := by
  refine st_ext (fun _ _ => rfl) rfl (fun a => ?_) (fun _ => rfl) rfl
  unfold sA stN; dsimp only
  by_cases h : a = 13
  · subst h; rfl
  · simp only [if_neg h]
theorem stN_14 (τ : St) (s : WS) (lo hi : Nat → Int64) (rc fa nf ns : Nat → Int32) (le gr : Nat → Int64) (cp : Int32) (f : Nat → Int32) : sA (stN τ (s, lo, hi, rc, fa, nf, ns, le, gr, cp)) 14 f = stN τ (s, lo, hi, rc, fa, nf, f, le, gr, cp) := by
  refine st_ext (fun _ _ => rfl) rfl (fun a => ?_) (fun _ => rfl) rfl
  unfold sA stN; dsimp only
  by_cases h : a = 14
  · subst h; rfl
  · simp only [if_neg h]
theorem stN_9 (τ : St) (s : WS) (lo hi : Nat → Int64) (rc fa nf ns : Nat → Int32) (le gr : Nat → Int64) (cp : Int32) (f : Nat → Int64) : sL (stN τ (s, lo, hi, rc, fa, nf, ns, le, gr, cp)) 9 f = stN τ (s, f, hi, rc, fa, nf, ns, le, gr, cp) := by
  refine st_ext (fun _ _ => rfl) rfl (fun _ => rfl) (fun a => ?_) rfl
  unfold sL stN; dsimp only
  by_cases h : a = 9
  · subst h; rfl
  · simp only [if_neg h]
theorem stN_10 (τ : St) (s : WS) (lo hi : Nat → Int64) (rc fa nf ns : Nat → Int32) (le gr : Nat → Int64) (cp : Int32) (f : Nat → Int64) : sL (stN τ (s, lo, hi, rc, fa, nf, ns, le, gr, cp)) 10 f = stN τ (s, lo, f, rc, fa, nf, ns, le, gr, cp) := by
  refine st_ext (fun _ _ => rfl) rfl (fun _ => rfl) (fun a => ?_) rfl
  unfold sL stN; dsimp only
  by_cases h : a = 10
  · subst h; rfl
  · simp only [if_neg h]
theorem stN_15 (τ : St) (s : WS) (lo hi : Nat → Int64) (rc fa nf ns : Nat → Int32) (le gr : Nat → Int64) (cp : Int32) (f : Nat → Int64) : sL (stN τ (s, lo, hi, rc, fa, nf, ns, le, gr, cp)) 15 f = stN τ (s, lo, hi, rc, fa, nf, ns, f, gr, cp) := by
  refine st_ext (fun _ _ => rfl) rfl (fun _ => rfl) (fun a => ?_) rfl
  unfold sL stN; dsimp only
  by_cases h : a = 15
  · subst h; rfl
  · simp only [if_neg h]
theorem stN_16 (τ : St) (s : WS) (lo hi : Nat → Int64) (rc fa nf ns : Nat → Int32) (le gr : Nat → Int64) (cp : Int32) (f : Nat → Int64) : sL (stN τ (s, lo, hi, rc, fa, nf, ns, le, gr, cp)) 16 f = stN τ (s, lo, hi, rc, fa, nf, ns, le, f, cp) := by
  refine st_ext (fun _ _ => rfl) rfl (fun _ => rfl) (fun a => ?_) rfl
  unfold sL stN; dsimp only
  by_cases h : a = 16
  · subst h; rfl
  · simp only [if_neg h]
theorem stN_24 (τ : St) (s : WS) (lo hi : Nat → Int64) (rc fa nf ns : Nat → Int32) (le gr : Nat → Int64) (cp : Int32) (x : Int32) : sI (stN τ (s, lo, hi, rc, fa, nf, ns, le, gr, cp)) 0 24 x = stN τ (s, lo, hi, rc, fa, nf, ns, le, gr, x) := by
  refine st_ext (fun a b => ?_) rfl (fun _ => rfl) (fun _ => rfl) rfl
  unfold sI stN; dsimp only
  by_cases h : a = 0 ∧ b = 24
  · obtain ⟨rfl, rfl⟩ := h; rfl
  · simp only [if_neg h]
theorem stW_N (τ : St) (x : AN) (s' : WS) : stW (stN τ x) s' = stN τ (s', x.2) := by
  refine st_ext (fun a b => ?_) rfl (fun a => ?_) (fun _ => rfl) rfl
  · unfold stW sI sA stN; dsimp only
    by_cases h1 : a = 0 ∧ b = 13
    · simp only [if_pos h1]
    · by_cases h2 : a = 0 ∧ b = 14
      · simp only [if_neg h1, if_pos h2]
      · simp only [if_neg h1, if_neg h2]
  · unfold stW sI sA stN; dsimp only
    by_cases h : a = 8
    · simp only [if_pos h]
    · simp only [if_neg h]
theorem stN_of (τ : St) (s : WS) : stW τ s = stN τ (s, τ.2.2.2.1 9, τ.2.2.2.1 10, τ.2.2.1 11, τ.2.2.1 12, τ.2.2.1 13, τ.2.2.1 14, τ.2.2.2.1 15, τ.2.2.2.1 16, τ.1 0 24) := by
  refine st_ext (fun a b => ?_) rfl (fun a => ?_) (fun a => ?_) rfl
  · unfold stW sI sA stN; dsimp only
    by_cases h1 : a = 0 ∧ b = 13
    · simp only [if_pos h1]
    · by_cases h2 : a = 0 ∧ b = 14
      · simp only [if_neg h1, if_pos h2]
      · by_cases h3 : a = 0 ∧ b = 24
        · obtain ⟨rfl, rfl⟩ := h3; rfl
        · simp only [if_neg h1, if_neg h2, if_neg h3]
  · unfold stW sI sA stN; dsimp only
    by_cases h : a = 8
    · simp only [if_pos h]
    · by_cases h1 : a = 11
      · subst h1; rfl
      · by_cases h2 : a = 12
        · subst h2; rfl
        · by_cases h3 : a = 13
          · subst h3; rfl
          · by_cases h4 : a = 14
            · subst h4; rfl
            · simp only [if_neg h, if_neg h1, if_neg h2, if_neg h3, if_neg h4]
  · unfold stW sI sA stN; dsimp only
    by_cases h1 : a = 9
    · subst h1; rfl
    · by_cases h2 : a = 10
      · subst h2; rfl
      · by_cases h3 : a = 15
        · subst h3; rfl
        · by_cases h4 : a = 16
          · subst h4; rfl
          · simp only [if_neg h1, if_neg h2, if_neg h3, if_neg h4]
def rgC (al : Nat → Int32) (v : Nat → Int64) (i : Nat) : Int64 := if kdA al i = 0 then 0 else vOf v (al (1 + 4 * i + 3))
def rgF (al : Nat → Int32) (lo hi : Nat → Int64) (i : Nat) : Int64 :=
  if kdA al i = 3 then lsr (lsr (vOf lo (al (1 + 4 * i + 2)) * rgC al lo i) (vOf lo (al (1 + 4 * i + 2)) * rgC al hi i)) (lsr (vOf hi (al (1 + 4 * i + 2)) * rgC al lo i) (vOf hi (al (1 + 4 * i + 2)) * rgC al hi i)) else
  if kdA al i = 2 then vOf lo (al (1 + 4 * i + 2)) - rgC al hi i else vOf lo (al (1 + 4 * i + 2)) + rgC al lo i
def rgT (al : Nat → Int32) (lo hi : Nat → Int64) (i : Nat) : Int64 :=
  if kdA al i = 3 then gtr (gtr (vOf lo (al (1 + 4 * i + 2)) * rgC al lo i) (vOf lo (al (1 + 4 * i + 2)) * rgC al hi i)) (gtr (vOf hi (al (1 + 4 * i + 2)) * rgC al lo i) (vOf hi (al (1 + 4 * i + 2)) * rgC al hi i)) else
  if kdA al i = 2 then vOf hi (al (1 + 4 * i + 2)) - rgC al lo i else vOf hi (al (1 + 4 * i + 2)) + rgC al hi i
section N1
variable {l : Launch} {G : cxG} {adr : Nat → Nat} {Lf Rt : va_W} {σ τ : St}
theorem r_lesser (x y : Int64) (ws : va_W) : SpecD l G mX11_lesser [.long x, .long y] ws (some (.long (lsr x y))) ws := by
  refine spec_of (by decide) (Nat.le_of_ble_eq_true rfl) (fun sz => ?_)
  unfold lsr
  by_cases h : x < y
  · rw [if_pos h]
    refine pw_lload_n dX11_lesser_0 rfl ?_
    refine pw_lload_n dX11_lesser_1 rfl ?_
    refine pw_lcmp dX11_lesser_2 ?_
    refine pw_if_ge 10 dX11_lesser_3 (by decide) (fun c_3 => absurd h (Int64.not_lt.mpr ((lg_cmp_ge _ _).mp c_3))) (fun c_3 => ?_)
    refine pw_lload_n dX11_lesser_6 rfl ?_
    refine pw_goto (tgt := 11) dX11_lesser_7 (by decide) ?_
    exact pw_lret rfl dX11_lesser_11 (Nat.zero_le _) (Nat.zero_le _) rfl
  · rw [if_neg h]
    refine pw_lload_n dX11_lesser_0 rfl ?_
    refine pw_lload_n dX11_lesser_1 rfl ?_
    refine pw_lcmp dX11_lesser_2 ?_
    refine pw_if_ge 10 dX11_lesser_3 (by decide) (fun c_3 => ?_) (fun c_3 => absurd ((lg_cmp_ge _ _).mpr (Int64.not_lt.mp h)) c_3)
    refine pw_lload_n dX11_lesser_10 rfl ?_
    exact pw_lret rfl dX11_lesser_11 (Nat.zero_le _) (Nat.zero_le _) rfl
theorem r_greater (x y : Int64) (ws : va_W) : SpecD l G mX11_greater [.long x, .long y] ws (some (.long (gtr x y))) ws := by
  refine spec_of (by decide) (Nat.le_of_ble_eq_true rfl) (fun sz => ?_)
  unfold gtr
  by_cases h : y < x
  · rw [if_pos h]
    refine pw_lload_n dX11_greater_0 rfl ?_
    refine pw_lload_n dX11_greater_1 rfl ?_
    refine pw_lcmp dX11_greater_2 ?_
    refine pw_if_le 10 dX11_greater_3 (by decide) (fun c_3 => absurd h (Int64.not_lt.mpr ((lg_cmp_le _ _).mp c_3))) (fun c_3 => ?_)
    refine pw_lload_n dX11_greater_6 rfl ?_
    refine pw_goto (tgt := 11) dX11_greater_7 (by decide) ?_
    exact pw_lret rfl dX11_greater_11 (Nat.zero_le _) (Nat.zero_le _) rfl
  · rw [if_neg h]
    refine pw_lload_n dX11_greater_0 rfl ?_
    refine pw_lload_n dX11_greater_1 rfl ?_
    refine pw_lcmp dX11_greater_2 ?_
    refine pw_if_le 10 dX11_greater_3 (by decide) (fun c_3 => ?_) (fun c_3 => absurd ((lg_cmp_le _ _).mpr (Int64.not_lt.mp h)) c_3)
    refine pw_lload_n dX11_greater_10 rfl ?_
    exact pw_lret rfl dX11_greater_11 (Nat.zero_le _) (Nat.zero_le _) rfl
theorem r_lowOf (x : Int32) (hx : okOp x) : SpecD l G mX11_lowOf [.ref (adr 0), .int x] (wp G adr LM Lf Rt σ) (some (.long (vOf (σ.2.2.2.1 9) x))) (wp G adr LM Lf Rt σ) := by
  refine spec_of (by decide) (Nat.le_of_ble_eq_true rfl) (fun sz => ?_)
  unfold vOf
  by_cases h : x < 8
  · rw [if_pos h]
    have hb : vp_in x 8 := by
      rcases hx with ⟨v, h1, h2⟩ | h2
      · rw [h2]; exact vp_in_nI h1 (by decide)
      · exact absurd h h2
    refine pw_iload_n dX11_lowOf_0 rfl ?_
    refine pw_bipush (v := 8) dX11_lowOf_1 rfl ?_
    refine pw_icmp_ge 15 dX11_lowOf_3 (by decide) (fun c_3 => absurd h (Int32.not_lt.mpr c_3)) (fun c_3 => ?_)
    refine pw_aload_n dX11_lowOf_6 rfl ?_
    refine lp_getr 9 dX11_lowOf_7 fp_RX11_34.FL rfl rfl rfl ?_
    refine pw_iload_n dX11_lowOf_10 rfl ?_
    refine lp_lald dX11_lowOf_11 rfl hb ?_
    refine pw_goto (tgt := 21) dX11_lowOf_12 (by decide) ?_
    exact pw_lret rfl dX11_lowOf_21 (Nat.zero_le _) (Nat.zero_le _) rfl
  · rw [if_neg h]
    refine pw_iload_n dX11_lowOf_0 rfl ?_
    refine pw_bipush (v := 8) dX11_lowOf_1 rfl ?_
    refine pw_icmp_ge 15 dX11_lowOf_3 (by decide) (fun c_3 => ?_) (fun c_3 => absurd (Int32.not_lt.mp h) c_3)
    refine pw_iload_n dX11_lowOf_15 rfl ?_
    refine pw_sipush (v := 20000) dX11_lowOf_16 rfl ?_
    refine pw_isub dX11_lowOf_19 ?_
    refine pw_i2l dX11_lowOf_20 ?_
    exact pw_lret rfl dX11_lowOf_21 (Nat.zero_le _) (Nat.zero_le _) rfl
theorem r_highOf (x : Int32) (hx : okOp x) : SpecD l G mX11_highOf [.ref (adr 0), .int x] (wp G adr LM Lf Rt σ) (some (.long (vOf (σ.2.2.2.1 10) x))) (wp G adr LM Lf Rt σ) := by
  refine spec_of (by decide) (Nat.le_of_ble_eq_true rfl) (fun sz => ?_)
  unfold vOf
  by_cases h : x < 8
  · rw [if_pos h]
    have hb : vp_in x 8 := by
      rcases hx with ⟨v, h1, h2⟩ | h2
      · rw [h2]; exact vp_in_nI h1 (by decide)
      · exact absurd h h2
    refine pw_iload_n dX11_highOf_0 rfl ?_
    refine pw_bipush (v := 8) dX11_highOf_1 rfl ?_
    refine pw_icmp_ge 15 dX11_highOf_3 (by decide) (fun c_3 => absurd h (Int32.not_lt.mpr c_3)) (fun c_3 => ?_)
    refine pw_aload_n dX11_highOf_6 rfl ?_
    refine lp_getr 10 dX11_highOf_7 fp_RX11_38.FL rfl rfl rfl ?_
    refine pw_iload_n dX11_highOf_10 rfl ?_
    refine lp_lald dX11_highOf_11 rfl hb ?_
    refine pw_goto (tgt := 21) dX11_highOf_12 (by decide) ?_
    exact pw_lret rfl dX11_highOf_21 (Nat.zero_le _) (Nat.zero_le _) rfl
  · rw [if_neg h]
    refine pw_iload_n dX11_highOf_0 rfl ?_
    refine pw_bipush (v := 8) dX11_highOf_1 rfl ?_
    refine pw_icmp_ge 15 dX11_highOf_3 (by decide) (fun c_3 => ?_) (fun c_3 => absurd (Int32.not_lt.mp h) c_3)
    refine pw_iload_n dX11_highOf_15 rfl ?_
    refine pw_sipush (v := 20000) dX11_highOf_16 rfl ?_
    refine pw_isub dX11_highOf_19 ?_
    refine pw_i2l dX11_highOf_20 ?_
    exact pw_lret rfl dX11_highOf_21 (Nat.zero_le _) (Nat.zero_le _) rfl
theorem rg_A {sz : Nat} {w0 : va_W} {fin : OC → Prop} (i : Nat) (hi : i < 30) (h2 : okOp (σ.2.2.1 1 (1 + 4 * i + 2))) (h3 : ¬ kdA (σ.2.2.1 1) i = 0 → okOp (σ.2.2.1 1 (1 + 4 * i + 3)))
    (kk : PW l G mX11_ranges w0 sz fin 71 [(0, .ref (adr 0)), (1, .int (nI i)), (2, .long (vOf (σ.2.2.2.1 9) (σ.2.2.1 1 (1 + 4 * i + 2)))), (4, .long (vOf (σ.2.2.2.1 10) (σ.2.2.1 1 (1 + 4 * i + 2)))), (6, .long (rgC (σ.2.2.1 1) (σ.2.2.2.1 9) i)), (8, .long (rgC (σ.2.2.1 1) (σ.2.2.2.1 10) i))] [] 0 0 (wp G adr LM Lf Rt σ)) :
    PW l G mX11_ranges w0 sz fin 0 [(0, .ref (adr 0)), (1, .int (nI i))] [] 0 0 (wp G adr LM Lf Rt σ) := by
  unfold rgC at kk
  by_cases k0 : kdA (σ.2.2.1 1) i = 0
  · rw [if_pos k0, if_pos k0] at kk
    refine pw_aload_n dX11_ranges_0 rfl ?_
    refine pw_aload_n dX11_ranges_1 rfl ?_
    refine pw_iload_n dX11_ranges_2 rfl ?_
    refine pw_iconst (v := 2) dX11_ranges_3 rfl ?_
    refine lp_cV1 (mi' := mX11_of) (As := [_, _]) (q := (RX11, TX11, 33)) dX11_ranges_4 lk_RX11_82 mk_X11_of mi_X11_of me_X11_of ⟨by decide, by decide⟩ rfl rfl (Nat.le_of_ble_eq_true rfl) rfl rfl ⟨rfl, rfl⟩ ⟨Nat.zero_le _, Nat.zero_le _⟩ (r_of i 2 (by omega)) ?_
    refine lp_cV1 (mi' := mX11_lowOf) (As := [_]) (q := (RX11, TX11, 33)) dX11_ranges_7 lk_RX11_180 mk_X11_lowOf mi_X11_lowOf me_X11_lowOf ⟨by decide, by decide⟩ rfl rfl (Nat.le_of_ble_eq_true rfl) rfl rfl ⟨rfl, rfl⟩ ⟨Nat.zero_le _, Nat.zero_le _⟩ (r_lowOf _ h2) ?_
    refine pw_lstore_n dX11_ranges_10 (by decide) ?_
    refine pw_aload_n dX11_ranges_11 rfl ?_
    refine pw_aload_n dX11_ranges_12 rfl ?_
    refine pw_iload_n dX11_ranges_13 rfl ?_
    refine pw_iconst (v := 2) dX11_ranges_14 rfl ?_
    refine lp_cV1 (mi' := mX11_of) (As := [_, _]) (q := (RX11, TX11, 33)) dX11_ranges_15 lk_RX11_82 mk_X11_of mi_X11_of me_X11_of ⟨by decide, by decide⟩ rfl rfl (Nat.le_of_ble_eq_true rfl) rfl rfl ⟨rfl, rfl⟩ ⟨Nat.zero_le _, Nat.zero_le _⟩ (r_of i 2 (by omega)) ?_
    refine lp_cV1 (mi' := mX11_highOf) (As := [_]) (q := (RX11, TX11, 33)) dX11_ranges_18 lk_RX11_184 mk_X11_highOf mi_X11_highOf me_X11_highOf ⟨by decide, by decide⟩ rfl rfl (Nat.le_of_ble_eq_true rfl) rfl rfl ⟨rfl, rfl⟩ ⟨Nat.zero_le _, Nat.zero_le _⟩ (r_highOf _ h2) ?_
    refine pw_lstore dX11_ranges_21 (by decide) ?_
    refine pw_aload_n dX11_ranges_23 rfl ?_
    refine pw_iload_n dX11_ranges_24 rfl ?_
    refine lp_cV1 (mi' := mX11_kind) (As := [_]) (q := (RX11, TX11, 33)) dX11_ranges_25 lk_RX11_86 mk_X11_kind mi_X11_kind me_X11_kind ⟨by decide, by decide⟩ rfl rfl (Nat.le_of_ble_eq_true rfl) rfl rfl ⟨rfl, rfl⟩ ⟨Nat.zero_le _, Nat.zero_le _⟩ (r_kind i hi) ?_
    refine pw_if_ne 35 dX11_ranges_28 (by decide) (fun c_28 => absurd c_28 (fun z => z k0)) (fun c_28 => ?_)
    refine pw_lconst (v := 0) dX11_ranges_31 rfl ?_
    refine pw_goto (tgt := 45) dX11_ranges_32 (by decide) ?_
    refine pw_lstore dX11_ranges_45 (by decide) ?_
    refine pw_aload_n dX11_ranges_47 rfl ?_
    refine pw_iload_n dX11_ranges_48 rfl ?_
    refine lp_cV1 (mi' := mX11_kind) (As := [_]) (q := (RX11, TX11, 33)) dX11_ranges_49 lk_RX11_86 mk_X11_kind mi_X11_kind me_X11_kind ⟨by decide, by decide⟩ rfl rfl (Nat.le_of_ble_eq_true rfl) rfl rfl ⟨rfl, rfl⟩ ⟨Nat.zero_le _, Nat.zero_le _⟩ (r_kind i hi) ?_
    refine pw_if_ne 59 dX11_ranges_52 (by decide) (fun c_52 => absurd c_52 (fun z => z k0)) (fun c_52 => ?_)
    refine pw_lconst (v := 0) dX11_ranges_55 rfl ?_
    refine pw_goto (tgt := 69) dX11_ranges_56 (by decide) ?_
    refine pw_lstore dX11_ranges_69 (by decide) ?_
    refine pw_lk _ ?_ kk
    exact ⟨rfl, rfl, rfl, rfl, rfl, rfl, trivial⟩
  · rw [if_neg k0, if_neg k0] at kk
    refine pw_aload_n dX11_ranges_0 rfl ?_
    refine pw_aload_n dX11_ranges_1 rfl ?_
    refine pw_iload_n dX11_ranges_2 rfl ?_
    refine pw_iconst (v := 2) dX11_ranges_3 rfl ?_
    refine lp_cV1 (mi' := mX11_of) (As := [_, _]) (q := (RX11, TX11, 33)) dX11_ranges_4 lk_RX11_82 mk_X11_of mi_X11_of me_X11_of ⟨by decide, by decide⟩ rfl rfl (Nat.le_of_ble_eq_true rfl) rfl rfl ⟨rfl, rfl⟩ ⟨Nat.zero_le _, Nat.zero_le _⟩ (r_of i 2 (by omega)) ?_
    refine lp_cV1 (mi' := mX11_lowOf) (As := [_]) (q := (RX11, TX11, 33)) dX11_ranges_7 lk_RX11_180 mk_X11_lowOf mi_X11_lowOf me_X11_lowOf ⟨by decide, by decide⟩ rfl rfl (Nat.le_of_ble_eq_true rfl) rfl rfl ⟨rfl, rfl⟩ ⟨Nat.zero_le _, Nat.zero_le _⟩ (r_lowOf _ h2) ?_
    refine pw_lstore_n dX11_ranges_10 (by decide) ?_
    refine pw_aload_n dX11_ranges_11 rfl ?_
    refine pw_aload_n dX11_ranges_12 rfl ?_
    refine pw_iload_n dX11_ranges_13 rfl ?_
    refine pw_iconst (v := 2) dX11_ranges_14 rfl ?_
    refine lp_cV1 (mi' := mX11_of) (As := [_, _]) (q := (RX11, TX11, 33)) dX11_ranges_15 lk_RX11_82 mk_X11_of mi_X11_of me_X11_of ⟨by decide, by decide⟩ rfl rfl (Nat.le_of_ble_eq_true rfl) rfl rfl ⟨rfl, rfl⟩ ⟨Nat.zero_le _, Nat.zero_le _⟩ (r_of i 2 (by omega)) ?_
    refine lp_cV1 (mi' := mX11_highOf) (As := [_]) (q := (RX11, TX11, 33)) dX11_ranges_18 lk_RX11_184 mk_X11_highOf mi_X11_highOf me_X11_highOf ⟨by decide, by decide⟩ rfl rfl (Nat.le_of_ble_eq_true rfl) rfl rfl ⟨rfl, rfl⟩ ⟨Nat.zero_le _, Nat.zero_le _⟩ (r_highOf _ h2) ?_
    refine pw_lstore dX11_ranges_21 (by decide) ?_
    refine pw_aload_n dX11_ranges_23 rfl ?_
    refine pw_iload_n dX11_ranges_24 rfl ?_
    refine lp_cV1 (mi' := mX11_kind) (As := [_]) (q := (RX11, TX11, 33)) dX11_ranges_25 lk_RX11_86 mk_X11_kind mi_X11_kind me_X11_kind ⟨by decide, by decide⟩ rfl rfl (Nat.le_of_ble_eq_true rfl) rfl rfl ⟨rfl, rfl⟩ ⟨Nat.zero_le _, Nat.zero_le _⟩ (r_kind i hi) ?_
    refine pw_if_ne 35 dX11_ranges_28 (by decide) (fun c_28 => ?_) (fun c_28 => absurd c_28 k0)
    refine pw_aload_n dX11_ranges_35 rfl ?_
    refine pw_aload_n dX11_ranges_36 rfl ?_
    refine pw_iload_n dX11_ranges_37 rfl ?_
    refine pw_iconst (v := 3) dX11_ranges_38 rfl ?_
    refine lp_cV1 (mi' := mX11_of) (As := [_, _]) (q := (RX11, TX11, 33)) dX11_ranges_39 lk_RX11_82 mk_X11_of mi_X11_of me_X11_of ⟨by decide, by decide⟩ rfl rfl (Nat.le_of_ble_eq_true rfl) rfl rfl ⟨rfl, rfl⟩ ⟨Nat.zero_le _, Nat.zero_le _⟩ (r_of i 3 (by omega)) ?_
    refine lp_cV1 (mi' := mX11_lowOf) (As := [_]) (q := (RX11, TX11, 33)) dX11_ranges_42 lk_RX11_180 mk_X11_lowOf mi_X11_lowOf me_X11_lowOf ⟨by decide, by decide⟩ rfl rfl (Nat.le_of_ble_eq_true rfl) rfl rfl ⟨rfl, rfl⟩ ⟨Nat.zero_le _, Nat.zero_le _⟩ (r_lowOf _ (h3 k0)) ?_
    refine pw_lstore dX11_ranges_45 (by decide) ?_
    refine pw_aload_n dX11_ranges_47 rfl ?_
    refine pw_iload_n dX11_ranges_48 rfl ?_
    refine lp_cV1 (mi' := mX11_kind) (As := [_]) (q := (RX11, TX11, 33)) dX11_ranges_49 lk_RX11_86 mk_X11_kind mi_X11_kind me_X11_kind ⟨by decide, by decide⟩ rfl rfl (Nat.le_of_ble_eq_true rfl) rfl rfl ⟨rfl, rfl⟩ ⟨Nat.zero_le _, Nat.zero_le _⟩ (r_kind i hi) ?_
    refine pw_if_ne 59 dX11_ranges_52 (by decide) (fun c_52 => ?_) (fun c_52 => absurd c_52 k0)
    refine pw_aload_n dX11_ranges_59 rfl ?_
    refine pw_aload_n dX11_ranges_60 rfl ?_
    refine pw_iload_n dX11_ranges_61 rfl ?_
    refine pw_iconst (v := 3) dX11_ranges_62 rfl ?_
    refine lp_cV1 (mi' := mX11_of) (As := [_, _]) (q := (RX11, TX11, 33)) dX11_ranges_63 lk_RX11_82 mk_X11_of mi_X11_of me_X11_of ⟨by decide, by decide⟩ rfl rfl (Nat.le_of_ble_eq_true rfl) rfl rfl ⟨rfl, rfl⟩ ⟨Nat.zero_le _, Nat.zero_le _⟩ (r_of i 3 (by omega)) ?_
    refine lp_cV1 (mi' := mX11_highOf) (As := [_]) (q := (RX11, TX11, 33)) dX11_ranges_66 lk_RX11_184 mk_X11_highOf mi_X11_highOf me_X11_highOf ⟨by decide, by decide⟩ rfl rfl (Nat.le_of_ble_eq_true rfl) rfl rfl ⟨rfl, rfl⟩ ⟨Nat.zero_le _, Nat.zero_le _⟩ (r_highOf _ (h3 k0)) ?_
    refine pw_lstore dX11_ranges_69 (by decide) ?_
    refine pw_lk _ ?_ kk
    exact ⟨rfl, rfl, rfl, rfl, rfl, rfl, trivial⟩
theorem rg_B {sz : Nat} {w0 : va_W} {fin : OC → Prop} (i : Nat) (hi : i < 30) (a b c d : Int64)
    (kk : PW l G mX11_ranges w0 sz fin 184 [(0, .ref (adr 0)), (1, .int (nI i)), (2, .long a), (6, .long c), (10, .long (if kdA (σ.2.2.1 1) i = 3 then lsr (lsr (a * c) (a * d)) (lsr (b * c) (b * d)) else if kdA (σ.2.2.1 1) i = 2 then a - d else a + c)), (12, .long (if kdA (σ.2.2.1 1) i = 3 then gtr (gtr (a * c) (a * d)) (gtr (b * c) (b * d)) else if kdA (σ.2.2.1 1) i = 2 then b - c else b + d))] [] 0 0 (wp G adr LM Lf Rt σ)) :
    PW l G mX11_ranges w0 sz fin 71 [(0, .ref (adr 0)), (1, .int (nI i)), (2, .long a), (4, .long b), (6, .long c), (8, .long d)] [] 0 0 (wp G adr LM Lf Rt σ) := by
  have hk := r_kind (l := l) (G := G) (adr := adr) (Lf := Lf) (Rt := Rt) (σ := σ) i hi
  by_cases k3 : kdA (σ.2.2.1 1) i = 3
  · have k2 : ¬ kdA (σ.2.2.1 1) i = 2 := by rw [k3]; decide
    rw [if_pos k3, if_pos k3] at kk
    refine pw_aload_n dX11_ranges_71 rfl ?_
    refine pw_iload_n dX11_ranges_72 rfl ?_
    refine lp_cV1 (mi' := mX11_kind) (As := [_]) (q := (RX11, TX11, 33)) dX11_ranges_73 lk_RX11_86 mk_X11_kind mi_X11_kind me_X11_kind ⟨by decide, by decide⟩ rfl rfl (Nat.le_of_ble_eq_true rfl) rfl rfl ⟨rfl, rfl⟩ ⟨Nat.zero_le _, Nat.zero_le _⟩ hk ?_
    refine pw_iconst (v := 2) dX11_ranges_76 rfl ?_
    refine pw_icmp_ne 87 dX11_ranges_77 (by decide) (fun c_77 => ?_) (fun c_77 => absurd c_77 k2)
    refine pw_lload_n dX11_ranges_87 rfl ?_
    refine pw_lload dX11_ranges_88 rfl ?_
    refine pw_ladd dX11_ranges_90 ?_
    refine pw_lstore dX11_ranges_91 (by decide) ?_
    refine pw_aload_n dX11_ranges_93 rfl ?_
    refine pw_iload_n dX11_ranges_94 rfl ?_
    refine lp_cV1 (mi' := mX11_kind) (As := [_]) (q := (RX11, TX11, 33)) dX11_ranges_95 lk_RX11_86 mk_X11_kind mi_X11_kind me_X11_kind ⟨by decide, by decide⟩ rfl rfl (Nat.le_of_ble_eq_true rfl) rfl rfl ⟨rfl, rfl⟩ ⟨Nat.zero_le _, Nat.zero_le _⟩ hk ?_
    refine pw_iconst (v := 2) dX11_ranges_98 rfl ?_
    refine pw_icmp_ne 110 dX11_ranges_99 (by decide) (fun c_99 => ?_) (fun c_99 => absurd c_99 k2)
    refine pw_lload dX11_ranges_110 rfl ?_
    refine pw_lload dX11_ranges_112 rfl ?_
    refine pw_ladd dX11_ranges_114 ?_
    refine pw_lstore dX11_ranges_115 (by decide) ?_
    refine pw_aload_n dX11_ranges_117 rfl ?_
    refine pw_iload_n dX11_ranges_118 rfl ?_
    refine lp_cV1 (mi' := mX11_kind) (As := [_]) (q := (RX11, TX11, 33)) dX11_ranges_119 lk_RX11_86 mk_X11_kind mi_X11_kind me_X11_kind ⟨by decide, by decide⟩ rfl rfl (Nat.le_of_ble_eq_true rfl) rfl rfl ⟨rfl, rfl⟩ ⟨Nat.zero_le _, Nat.zero_le _⟩ hk ?_
    refine pw_iconst (v := 3) dX11_ranges_122 rfl ?_
    refine pw_icmp_ne 184 dX11_ranges_123 (by decide) (fun c_123 => absurd c_123 (fun z => z k3)) (fun c_123 => ?_)
    refine pw_lload_n dX11_ranges_126 rfl ?_
    refine pw_lload dX11_ranges_127 rfl ?_
    refine pw_lmul dX11_ranges_129 ?_
    refine pw_lload_n dX11_ranges_130 rfl ?_
    refine pw_lload dX11_ranges_131 rfl ?_
    refine pw_lmul dX11_ranges_133 ?_
    refine lp_cS1 (mi' := mX11_lesser) (As := [_, _]) dX11_ranges_134 lk_RX11_187 mk_X11_lesser ms_X11_lesser ⟨by decide, by decide⟩ rfl rfl (Nat.le_of_ble_eq_true rfl) ⟨rfl, rfl⟩ ⟨Nat.zero_le _, Nat.zero_le _⟩ (r_lesser _ _ _) ?_
    refine pw_lload dX11_ranges_137 rfl ?_
    refine pw_lload dX11_ranges_139 rfl ?_
    refine pw_lmul dX11_ranges_141 ?_
    refine pw_lload dX11_ranges_142 rfl ?_
    refine pw_lload dX11_ranges_144 rfl ?_
    refine pw_lmul dX11_ranges_146 ?_
    refine lp_cS1 (mi' := mX11_lesser) (As := [_, _]) dX11_ranges_147 lk_RX11_187 mk_X11_lesser ms_X11_lesser ⟨by decide, by decide⟩ rfl rfl (Nat.le_of_ble_eq_true rfl) ⟨rfl, rfl⟩ ⟨Nat.zero_le _, Nat.zero_le _⟩ (r_lesser _ _ _) ?_
    refine lp_cS1 (mi' := mX11_lesser) (As := [_, _]) dX11_ranges_150 lk_RX11_187 mk_X11_lesser ms_X11_lesser ⟨by decide, by decide⟩ rfl rfl (Nat.le_of_ble_eq_true rfl) ⟨rfl, rfl⟩ ⟨Nat.zero_le _, Nat.zero_le _⟩ (r_lesser _ _ _) ?_
    refine pw_lstore dX11_ranges_153 (by decide) ?_
    refine pw_lload_n dX11_ranges_155 rfl ?_
    refine pw_lload dX11_ranges_156 rfl ?_
    refine pw_lmul dX11_ranges_158 ?_
    refine pw_lload_n dX11_ranges_159 rfl ?_
    refine pw_lload dX11_ranges_160 rfl ?_
    refine pw_lmul dX11_ranges_162 ?_
    refine lp_cS1 (mi' := mX11_greater) (As := [_, _]) dX11_ranges_163 lk_RX11_191 mk_X11_greater ms_X11_greater ⟨by decide, by decide⟩ rfl rfl (Nat.le_of_ble_eq_true rfl) ⟨rfl, rfl⟩ ⟨Nat.zero_le _, Nat.zero_le _⟩ (r_greater _ _ _) ?_
    refine pw_lload dX11_ranges_166 rfl ?_
    refine pw_lload dX11_ranges_168 rfl ?_
    refine pw_lmul dX11_ranges_170 ?_
    refine pw_lload dX11_ranges_171 rfl ?_
    refine pw_lload dX11_ranges_173 rfl ?_
    refine pw_lmul dX11_ranges_175 ?_
    refine lp_cS1 (mi' := mX11_greater) (As := [_, _]) dX11_ranges_176 lk_RX11_191 mk_X11_greater ms_X11_greater ⟨by decide, by decide⟩ rfl rfl (Nat.le_of_ble_eq_true rfl) ⟨rfl, rfl⟩ ⟨Nat.zero_le _, Nat.zero_le _⟩ (r_greater _ _ _) ?_
    refine lp_cS1 (mi' := mX11_greater) (As := [_, _]) dX11_ranges_179 lk_RX11_191 mk_X11_greater ms_X11_greater ⟨by decide, by decide⟩ rfl rfl (Nat.le_of_ble_eq_true rfl) ⟨rfl, rfl⟩ ⟨Nat.zero_le _, Nat.zero_le _⟩ (r_greater _ _ _) ?_
    refine pw_lstore dX11_ranges_182 (by decide) ?_
    refine pw_lk _ ?_ kk
    exact ⟨rfl, rfl, rfl, rfl, rfl, rfl, trivial⟩
  · rw [if_neg k3, if_neg k3] at kk
    by_cases k2 : kdA (σ.2.2.1 1) i = 2
    · rw [if_pos k2, if_pos k2] at kk
      refine pw_aload_n dX11_ranges_71 rfl ?_
      refine pw_iload_n dX11_ranges_72 rfl ?_
      refine lp_cV1 (mi' := mX11_kind) (As := [_]) (q := (RX11, TX11, 33)) dX11_ranges_73 lk_RX11_86 mk_X11_kind mi_X11_kind me_X11_kind ⟨by decide, by decide⟩ rfl rfl (Nat.le_of_ble_eq_true rfl) rfl rfl ⟨rfl, rfl⟩ ⟨Nat.zero_le _, Nat.zero_le _⟩ hk ?_
      refine pw_iconst (v := 2) dX11_ranges_76 rfl ?_
      refine pw_icmp_ne 87 dX11_ranges_77 (by decide) (fun c_77 => absurd c_77 (fun z => z k2)) (fun c_77 => ?_)
      refine pw_lload_n dX11_ranges_80 rfl ?_
      refine pw_lload dX11_ranges_81 rfl ?_
      refine pw_lsub dX11_ranges_83 ?_
      refine pw_goto (tgt := 91) dX11_ranges_84 (by decide) ?_
      refine pw_lstore dX11_ranges_91 (by decide) ?_
      refine pw_aload_n dX11_ranges_93 rfl ?_
      refine pw_iload_n dX11_ranges_94 rfl ?_
      refine lp_cV1 (mi' := mX11_kind) (As := [_]) (q := (RX11, TX11, 33)) dX11_ranges_95 lk_RX11_86 mk_X11_kind mi_X11_kind me_X11_kind ⟨by decide, by decide⟩ rfl rfl (Nat.le_of_ble_eq_true rfl) rfl rfl ⟨rfl, rfl⟩ ⟨Nat.zero_le _, Nat.zero_le _⟩ hk ?_
      refine pw_iconst (v := 2) dX11_ranges_98 rfl ?_
      refine pw_icmp_ne 110 dX11_ranges_99 (by decide) (fun c_99 => absurd c_99 (fun z => z k2)) (fun c_99 => ?_)
      refine pw_lload dX11_ranges_102 rfl ?_
      refine pw_lload dX11_ranges_104 rfl ?_
      refine pw_lsub dX11_ranges_106 ?_
      refine pw_goto (tgt := 115) dX11_ranges_107 (by decide) ?_
      refine pw_lstore dX11_ranges_115 (by decide) ?_
      refine pw_aload_n dX11_ranges_117 rfl ?_
      refine pw_iload_n dX11_ranges_118 rfl ?_
      refine lp_cV1 (mi' := mX11_kind) (As := [_]) (q := (RX11, TX11, 33)) dX11_ranges_119 lk_RX11_86 mk_X11_kind mi_X11_kind me_X11_kind ⟨by decide, by decide⟩ rfl rfl (Nat.le_of_ble_eq_true rfl) rfl rfl ⟨rfl, rfl⟩ ⟨Nat.zero_le _, Nat.zero_le _⟩ hk ?_
      refine pw_iconst (v := 3) dX11_ranges_122 rfl ?_
      refine pw_icmp_ne 184 dX11_ranges_123 (by decide) (fun c_123 => ?_) (fun c_123 => absurd c_123 k3)
      refine pw_lk _ ?_ kk
      exact ⟨rfl, rfl, rfl, rfl, rfl, rfl, trivial⟩
    · rw [if_neg k2, if_neg k2] at kk
      refine pw_aload_n dX11_ranges_71 rfl ?_
      refine pw_iload_n dX11_ranges_72 rfl ?_
      refine lp_cV1 (mi' := mX11_kind) (As := [_]) (q := (RX11, TX11, 33)) dX11_ranges_73 lk_RX11_86 mk_X11_kind mi_X11_kind me_X11_kind ⟨by decide, by decide⟩ rfl rfl (Nat.le_of_ble_eq_true rfl) rfl rfl ⟨rfl, rfl⟩ ⟨Nat.zero_le _, Nat.zero_le _⟩ hk ?_
      refine pw_iconst (v := 2) dX11_ranges_76 rfl ?_
      refine pw_icmp_ne 87 dX11_ranges_77 (by decide) (fun c_77 => ?_) (fun c_77 => absurd c_77 k2)
      refine pw_lload_n dX11_ranges_87 rfl ?_
      refine pw_lload dX11_ranges_88 rfl ?_
      refine pw_ladd dX11_ranges_90 ?_
      refine pw_lstore dX11_ranges_91 (by decide) ?_
      refine pw_aload_n dX11_ranges_93 rfl ?_
      refine pw_iload_n dX11_ranges_94 rfl ?_
      refine lp_cV1 (mi' := mX11_kind) (As := [_]) (q := (RX11, TX11, 33)) dX11_ranges_95 lk_RX11_86 mk_X11_kind mi_X11_kind me_X11_kind ⟨by decide, by decide⟩ rfl rfl (Nat.le_of_ble_eq_true rfl) rfl rfl ⟨rfl, rfl⟩ ⟨Nat.zero_le _, Nat.zero_le _⟩ hk ?_
      refine pw_iconst (v := 2) dX11_ranges_98 rfl ?_
      refine pw_icmp_ne 110 dX11_ranges_99 (by decide) (fun c_99 => ?_) (fun c_99 => absurd c_99 k2)
      refine pw_lload dX11_ranges_110 rfl ?_
      refine pw_lload dX11_ranges_112 rfl ?_
      refine pw_ladd dX11_ranges_114 ?_
      refine pw_lstore dX11_ranges_115 (by decide) ?_
      refine pw_aload_n dX11_ranges_117 rfl ?_
      refine pw_iload_n dX11_ranges_118 rfl ?_
      refine lp_cV1 (mi' := mX11_kind) (As := [_]) (q := (RX11, TX11, 33)) dX11_ranges_119 lk_RX11_86 mk_X11_kind mi_X11_kind me_X11_kind ⟨by decide, by decide⟩ rfl rfl (Nat.le_of_ble_eq_true rfl) rfl rfl ⟨rfl, rfl⟩ ⟨Nat.zero_le _, Nat.zero_le _⟩ hk ?_
      refine pw_iconst (v := 3) dX11_ranges_122 rfl ?_
      refine pw_icmp_ne 184 dX11_ranges_123 (by decide) (fun c_123 => ?_) (fun c_123 => absurd c_123 k3)
      refine pw_lk _ ?_ kk
      exact ⟨rfl, rfl, rfl, rfl, rfl, rfl, trivial⟩
end N1
