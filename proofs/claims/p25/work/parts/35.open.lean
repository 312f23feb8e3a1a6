theorem lsc_congr {al al' : Nat → Int32} (h : ∀ i, i < 30 → kdA al i = kdA al' i) : ∀ i, i ≤ 30 → lsc al i = lsc al' i := by
  intro i
  induction i with
  | zero => intro _; rfl
  | succ i ih =>
    intro hi
    show lend al i (lmid al i (lsc al i)) = lend al' i (lmid al' i (lsc al' i))
    rw [ih (by omega)]
    unfold lend lmid
    rw [h i (by omega)]
theorem wfP_congr {al al' : Nat → Int32} {N : Nat} (h : ∀ k, k < 121 → al k = al' k) (hP : wfP al N) : wfP al' N := by
  obtain ⟨h1, h2, h3, h4, h5, h6⟩ := hP
  have hk : ∀ i, i < 30 → kdA al i = kdA al' i := fun i hi => h _ (by omega)
  have hl := lsc_congr hk
  refine ⟨h1, by rw [← h 0 (by omega)]; exact h2, ⟨fun i hi => ?_, by rw [← hl N h1]; exact h3.2⟩, fun i hi k4 => ?_, fun i hi hn => ?_, fun i hi => ?_⟩
  · rw [← hk i (by omega), ← hl i (by omega)]; exact h3.1 i hi
  · rw [← h _ (by omega)]; exact h4 i hi (by rw [hk i (by omega)]; exact k4)
  · obtain ⟨g1, g2, g3⟩ := h5 i hi (by rw [hk i (by omega)]; exact hn)
    rw [← h _ (by omega), ← h _ (by omega), ← h _ (by omega), ← hk i (by omega)]
    exact ⟨g1, g2, g3⟩
  · rw [← hk i (by omega)]; exact h6 i hi
def cntB (f : Nat → Bool) : Nat → Nat → Int32 → Int32
  | 0, _, n => n
  | r + 1, i, n => cntB f r (i + 1) (n + bI (f i))
theorem cntS_B {stt : Nat → Int32} {f : Nat → Bool} {a b : Int32} {N : Nat} (h : ∀ i, i < N → decide (a ≤ stt i ∧ stt i ≤ b) = f i) : ∀ (r i : Nat) (n : Int32), i + r = N → cntS stt a b r i n = cntB f r i n := by
  intro r
  induction r with
  | zero => intro i n _; rfl
  | succ r ih =>
    intro i n hi
    unfold cntS cntB
    rw [h i (by omega)]
    exact ih (i + 1) _ (by omega)
/-- the checks that can fail -/
def oC (al : Nat → Int32) (N : Nat) (i : Nat) : Bool := !decide (4 ≤ kdA al i) && !decide (kdA al i = 0) && !decide ((cAna al N).2.2.2.2.1 i = 0)
def opnC (al : Nat → Int32) (N : Nat) : Int32 := cntB (oC al N) N 0 0
def alW (al : Nat → Int32) (v : Nat) (lo hi : Int32) : Nat → Int32 := upd (upd al (121 + 3 * v) lo) (121 + 3 * v + 1) hi
theorem alW_lt {al : Nat → Int32} {v : Nat} {lo hi : Int32} : ∀ k, k < 121 → al k = alW al v lo hi k := by
  intro k hk
  unfold alW upd
  rw [if_neg (by omega), if_neg (by omega)]
theorem st24 {σ : St} {N : Nat} (hP : wfP (σ.2.2.1 1) N) : ∀ i, i < N → decide (2 ≤ (mAna σ N).2.2.1 19 i ∧ (mAna σ N).2.2.1 19 i ≤ 4) = oC (σ.2.2.1 1) N i := by
  intro i hi
  have hr := aFin_c hP
  have h30 : i < 30 := by have := hP.1; omega
  have e5 := hr.2.2.2.2.1 i h30
  have e8 := hr.2.2.2.2.2.2.2 i h30
  have es : (mAna σ N).2.2.1 19 i = stF (σ.2.2.1 1) (aFin σ N).2.2.2.1 (aFin σ N).2.2.2.2.1 (aCov σ N) (csF (aCov σ N) (σ.2.2.1 18) N) ((mLays σ N).2.2.1 7) ((mLays σ N).2.2.1 5) i := by
    show pfx N _ (σ.2.2.1 19) i = _
    unfold pfx
    rw [if_pos hi]
  rw [es]
  unfold oC stF
  rw [← e5]
  by_cases h4 : 4 ≤ kdA (σ.2.2.1 1) i
  · rw [if_pos (Or.inl h4), decide_eq_true h4]; rfl
  · by_cases h0 : kdA (σ.2.2.1 1) i = 0
    · rw [if_pos (Or.inr h0), decide_eq_true h0, Bool.not_true, Bool.and_false, Bool.false_and]; rfl
    · rw [if_neg (fun z => z.elim h4 h0), decide_eq_false h4, decide_eq_false h0]
      by_cases hf : (aFin σ N).2.2.2.2.1 i = 0
      · rw [decide_eq_true hf]
        split
        · rfl
        · rfl
      · rw [decide_eq_false hf, if_neg (e8 hf), if_neg hf]
        split
        · rfl
        · split <;> rfl
theorem opn_eq {σ : St} {N : Nat} (hP : wfP (σ.2.2.1 1) N) : cntS ((mAna σ N).2.2.1 19) 2 4 N 0 0 = opnC (σ.2.2.1 1) N := cntS_B (st24 hP) N 0 0 (by omega)
def mOpen (σ : St) (v : Nat) (lo hi : Int32) (N : Nat) : St := sA (mAna (sA σ 1 (alW (σ.2.2.1 1) v lo hi)) N) 1 (σ.2.2.1 1)
def spL (al : Nat → Int32) (N v : Nat) (frm : Int32) : Nat → Nat → Int32 → Int32
  | 0, _, s => s
  | r + 1, k, s => if frm.toInt64 + 1 ≤ ((1 : Int32) <<< (nI k &&& 31)).toInt64 then (if 0 < opnC (alW al v frm ((1 : Int32) <<< (nI k &&& 31) - 1)) N then s else spL al N v frm r (k + 1) ((1 : Int32) <<< (nI k &&& 31))) else spL al N v frm r (k + 1) s
section O1
variable {l : Launch} {G : cxG} {adr : Nat → Nat} {Lf Rt : va_W} {σ : St}
theorem r_openOnes {N : Nat} (hP : wfP (σ.2.2.1 1) N) (v : Nat) (hv : v < 8) (lo hi : Int32) : SpecD l G mX11_openOnes [.ref (adr 0), .int (nI v), .int lo, .int hi] (wp G adr LM Lf Rt σ) (some (.int (opnC (alW (σ.2.2.1 1) v lo hi) N))) (wp G adr LM Lf Rt (mOpen σ v lo hi N)) := by
  refine spec_of (by decide) (Nat.le_of_ble_eq_true rfl) (fun sz => ?_)
  have b0 := nI121' (v := v) (by omega)
  have b1 : vp_in (121 + 3 * nI v + 1) 145 ∧ (121 + 3 * nI v + 1).toNatClampNeg = 121 + 3 * v + 1 := nI121 (v := v) (w := 1) (by omega)
  have hP2 : wfP ((sA σ 1 (alW (σ.2.2.1 1) v lo hi)).2.2.1 1) N := wfP_congr alW_lt hP
  have ho := opn_eq hP2
  have hsf := r_statesFrom (l := l) (G := G) (adr := adr) (Lf := Lf) (Rt := Rt) (σ := mOpen σ v lo hi N) hP.1 hP.2.1 2 4
  rw [show (mOpen σ v lo hi N).2.2.1 19 = (mAna (sA σ 1 (alW (σ.2.2.1 1) v lo hi)) N).2.2.1 19 from rfl, ho, show (sA σ 1 (alW (σ.2.2.1 1) v lo hi)).2.2.1 1 = alW (σ.2.2.1 1) v lo hi from rfl] at hsf
  refine pw_bipush (v := 121) dX11_openOnes_0 rfl ?_
  refine pw_iconst (v := 3) dX11_openOnes_2 rfl ?_
  refine pw_iload_n dX11_openOnes_3 rfl ?_
  refine pw_imul dX11_openOnes_4 ?_
  refine pw_iadd dX11_openOnes_5 ?_
  refine pw_istore dX11_openOnes_6 (by decide) ?_
  refine pw_aload_n dX11_openOnes_8 rfl ?_
  refine lp_getr 1 dX11_openOnes_9 fp_RX11_7.FL rfl rfl rfl ?_
  refine pw_iload dX11_openOnes_12 rfl ?_
  refine lp_iald dX11_openOnes_14 rfl b0.1 ?_
  refine pw_istore dX11_openOnes_15 (by decide) ?_
  refine pw_aload_n dX11_openOnes_17 rfl ?_
  refine lp_getr 1 dX11_openOnes_18 fp_RX11_7.FL rfl rfl rfl ?_
  refine pw_iload dX11_openOnes_21 rfl ?_
  refine pw_iconst (v := 1) dX11_openOnes_23 rfl ?_
  refine pw_iadd dX11_openOnes_24 ?_
  refine lp_iald dX11_openOnes_25 rfl b1.1 ?_
  refine pw_istore dX11_openOnes_26 (by decide) ?_
  refine pw_aload_n dX11_openOnes_28 rfl ?_
  refine lp_getr 1 dX11_openOnes_29 fp_RX11_7.FL rfl rfl rfl ?_
  refine pw_iload dX11_openOnes_32 rfl ?_
  refine pw_iload_n dX11_openOnes_34 rfl ?_
  refine lp_iast dX11_openOnes_35 rfl b0.1 ?_
  refine pw_aload_n dX11_openOnes_36 rfl ?_
  refine lp_getr 1 dX11_openOnes_37 fp_RX11_7.FL rfl rfl rfl ?_
  refine pw_iload dX11_openOnes_40 rfl ?_
  refine pw_iconst (v := 1) dX11_openOnes_42 rfl ?_
  refine pw_iadd dX11_openOnes_43 ?_
  refine pw_iload_n dX11_openOnes_44 rfl ?_
  refine lp_iast dX11_openOnes_45 rfl b1.1 ?_
  refine pw_st (σ' := sA σ 1 (alW (σ.2.2.1 1) v lo hi)) ?_ ?_
  · rw [sA_sA, b0.2, b1.2]; rfl
  refine pw_aload_n dX11_openOnes_46 rfl ?_
  refine lp_cV0 (mi' := mX11_analyses) (As := []) (q := (RX11, TX11, 33)) dX11_openOnes_47 lk_RX11_227 mk_X11_analyses mi_X11_analyses me_X11_analyses ⟨by decide, by decide⟩ rfl rfl (Nat.le_of_ble_eq_true rfl) rfl rfl ⟨rfl, rfl⟩ ⟨Nat.zero_le _, Nat.zero_le _⟩ (r_analyses hP2) ?_
  refine pw_aload_n dX11_openOnes_50 rfl ?_
  refine lp_getr 1 dX11_openOnes_51 fp_RX11_7.FL rfl rfl rfl ?_
  refine pw_iload dX11_openOnes_54 rfl ?_
  refine pw_iload dX11_openOnes_56 rfl ?_
  refine lp_iast dX11_openOnes_58 rfl b0.1 ?_
  refine pw_aload_n dX11_openOnes_59 rfl ?_
  refine lp_getr 1 dX11_openOnes_60 fp_RX11_7.FL rfl rfl rfl ?_
  refine pw_iload dX11_openOnes_63 rfl ?_
  refine pw_iconst (v := 1) dX11_openOnes_65 rfl ?_
  refine pw_iadd dX11_openOnes_66 ?_
  refine pw_iload dX11_openOnes_67 rfl ?_
  refine lp_iast dX11_openOnes_69 rfl b1.1 ?_
  refine pw_st (σ' := mOpen σ v lo hi N) ?_ ?_
  · rw [sA_sA, b0.2, b1.2]
    show sA _ 1 _ = sA _ 1 _
    congr 1
    funext q
    show upd (upd (alW (σ.2.2.1 1) v lo hi) (121 + 3 * v) (σ.2.2.1 1 (121 + 3 * v))) (121 + 3 * v + 1) (σ.2.2.1 1 (121 + 3 * v + 1)) q = σ.2.2.1 1 q
    unfold alW upd
    by_cases q1 : q = 121 + 3 * v + 1
    · rw [if_pos q1, q1]
    · rw [if_neg q1]
      by_cases q0 : q = 121 + 3 * v
      · rw [if_pos q0, q0]
      · rw [if_neg q0, if_neg q1, if_neg q0]
  refine pw_aload_n dX11_openOnes_70 rfl ?_
  refine pw_iconst (v := 2) dX11_openOnes_71 rfl ?_
  refine pw_iconst (v := 4) dX11_openOnes_72 rfl ?_
  refine lp_cV1 (mi' := mX11_statesFrom) (As := [_, _]) (q := (RX11, TX11, 33)) dX11_openOnes_73 lk_RX11_232 mk_X11_statesFrom mi_X11_statesFrom me_X11_statesFrom ⟨by decide, by decide⟩ rfl rfl (Nat.le_of_ble_eq_true rfl) rfl rfl ⟨rfl, rfl⟩ ⟨Nat.zero_le _, Nat.zero_le _⟩ hsf ?_
  exact pw_iret rfl rfl dX11_openOnes_76 (Nat.zero_le _) (Nat.zero_le _) rfl
theorem r_openWith_no (v lo hi : Int32) (h : ¬ ((0 ≤ v ∧ v ≤ 7) ∧ lo ≤ hi)) : SpecD l G mX11_openWith [.ref (adr 0), .int v, .int lo, .int hi] (wp G adr LM Lf Rt σ) (some (.int 0)) (wp G adr LM Lf Rt (mGoes σ (decide (0 ≤ v ∧ v ≤ 7)) (decide (lo ≤ hi)))) := by
  refine spec_of (by decide) (Nat.le_of_ble_eq_true rfl) (fun sz => ?_)
  have hc : bI (decide (0 ≤ v ∧ v ≤ 7) && decide (lo ≤ hi)) = 0 := bI_f (by rw [← Bool.decide_and]; exact decide_eq_false h)
  by_cases hlh : lo ≤ hi
  · rw [decide_eq_true hlh] at hc ⊢
    refine pw_aload_n dX11_openWith_0 rfl ?_
    refine pw_iload_n dX11_openWith_1 rfl ?_
    refine lp_cS1 (mi' := mX11_isName) (As := [_]) dX11_openWith_2 lk_RX11_154 mk_X11_isName ms_X11_isName ⟨by decide, by decide⟩ rfl rfl (Nat.le_of_ble_eq_true rfl) ⟨rfl, rfl⟩ ⟨Nat.zero_le _, Nat.zero_le _⟩ (r_isName v _) ?_
    refine pw_iload_n dX11_openWith_5 rfl ?_
    refine pw_iload_n dX11_openWith_6 rfl ?_
    refine pw_icmp_gt 14 dX11_openWith_7 (by decide) (fun c_7 => absurd hlh (Int32.not_le.mpr c_7)) (fun c_7 => ?_)
    refine pw_iconst (v := 1) dX11_openWith_10 rfl ?_
    refine pw_goto (tgt := 15) dX11_openWith_11 (by decide) ?_
    refine lp_cV1 (mi' := mX11_goes) (As := [_, _]) (q := (RX11, TX11, 33)) dX11_openWith_15 lk_RX11_101 mk_X11_goes mi_X11_goes me_X11_goes ⟨by decide, by decide⟩ rfl rfl (Nat.le_of_ble_eq_true rfl) rfl rfl ⟨rfl, rfl⟩ ⟨Nat.zero_le _, Nat.zero_le _⟩ (r_goes _ true) ?_
    refine pw_if_eq 31 dX11_openWith_18 (by decide) (fun c_18 => ?_) (fun c_18 => absurd hc c_18)
    refine pw_iconst (v := 0) dX11_openWith_31 rfl ?_
    exact pw_iret rfl rfl dX11_openWith_32 (Nat.zero_le _) (Nat.zero_le _) rfl
  · rw [decide_eq_false hlh] at hc ⊢
    refine pw_aload_n dX11_openWith_0 rfl ?_
    refine pw_iload_n dX11_openWith_1 rfl ?_
    refine lp_cS1 (mi' := mX11_isName) (As := [_]) dX11_openWith_2 lk_RX11_154 mk_X11_isName ms_X11_isName ⟨by decide, by decide⟩ rfl rfl (Nat.le_of_ble_eq_true rfl) ⟨rfl, rfl⟩ ⟨Nat.zero_le _, Nat.zero_le _⟩ (r_isName v _) ?_
    refine pw_iload_n dX11_openWith_5 rfl ?_
    refine pw_iload_n dX11_openWith_6 rfl ?_
    refine pw_icmp_gt 14 dX11_openWith_7 (by decide) (fun c_7 => ?_) (fun c_7 => absurd (Int32.not_le.mp hlh) c_7)
    refine pw_iconst (v := 0) dX11_openWith_14 rfl ?_
    refine lp_cV1 (mi' := mX11_goes) (As := [_, _]) (q := (RX11, TX11, 33)) dX11_openWith_15 lk_RX11_101 mk_X11_goes mi_X11_goes me_X11_goes ⟨by decide, by decide⟩ rfl rfl (Nat.le_of_ble_eq_true rfl) rfl rfl ⟨rfl, rfl⟩ ⟨Nat.zero_le _, Nat.zero_le _⟩ (r_goes _ false) ?_
    refine pw_if_eq 31 dX11_openWith_18 (by decide) (fun c_18 => ?_) (fun c_18 => absurd hc c_18)
    refine pw_iconst (v := 0) dX11_openWith_31 rfl ?_
    exact pw_iret rfl rfl dX11_openWith_32 (Nat.zero_le _) (Nat.zero_le _) rfl
theorem r_openWith_ok {N : Nat} (hP : wfP (σ.2.2.1 1) N) (v : Nat) (hv : v < 8) (lo hi : Int32) (hlh : lo ≤ hi) : SpecD l G mX11_openWith [.ref (adr 0), .int (nI v), .int lo, .int hi] (wp G adr LM Lf Rt σ) (some (.int (opnC (alW (σ.2.2.1 1) v lo hi) N))) (wp G adr LM Lf Rt (mOpen (sI σ 0 3 0) v lo hi N)) := by
  refine spec_of (by decide) (Nat.le_of_ble_eq_true rfl) (fun sz => ?_)
  have n7 : (0 : Int32) ≤ nI v ∧ nI v ≤ 7 := nIr (show v ≤ 7 by omega) (by decide)
  refine pw_aload_n dX11_openWith_0 rfl ?_
  refine pw_iload_n dX11_openWith_1 rfl ?_
  refine lp_cS1 (mi' := mX11_isName) (As := [_]) dX11_openWith_2 lk_RX11_154 mk_X11_isName ms_X11_isName ⟨by decide, by decide⟩ rfl rfl (Nat.le_of_ble_eq_true rfl) ⟨rfl, rfl⟩ ⟨Nat.zero_le _, Nat.zero_le _⟩ (r_isName (nI v) _) ?_
  rw [decide_eq_true n7]
  refine pw_iload_n dX11_openWith_5 rfl ?_
  refine pw_iload_n dX11_openWith_6 rfl ?_
  refine pw_icmp_gt 14 dX11_openWith_7 (by decide) (fun c_7 => absurd hlh (Int32.not_le.mpr c_7)) (fun c_7 => ?_)
  refine pw_iconst (v := 1) dX11_openWith_10 rfl ?_
  refine pw_goto (tgt := 15) dX11_openWith_11 (by decide) ?_
  refine lp_cV1 (mi' := mX11_goes) (As := [_, _]) (q := (RX11, TX11, 33)) dX11_openWith_15 lk_RX11_101 mk_X11_goes mi_X11_goes me_X11_goes ⟨by decide, by decide⟩ rfl rfl (Nat.le_of_ble_eq_true rfl) rfl rfl ⟨rfl, rfl⟩ ⟨Nat.zero_le _, Nat.zero_le _⟩ (r_goes true true) ?_
  refine pw_if_eq 31 dX11_openWith_18 (by decide) (fun c_18 => absurd (show (1 : Int32) = 0 from c_18) (by decide)) (fun c_18 => ?_)
  refine pw_aload_n dX11_openWith_21 rfl ?_
  refine pw_iload_n dX11_openWith_22 rfl ?_
  refine pw_iload_n dX11_openWith_23 rfl ?_
  refine pw_iload_n dX11_openWith_24 rfl ?_
  refine lp_cV1 (mi' := mX11_openOnes) (As := [_, _, _]) (q := (RX11, TX11, 33)) dX11_openWith_25 lk_RX11_274 mk_X11_openOnes mi_X11_openOnes me_X11_openOnes ⟨by decide, by decide⟩ rfl rfl (Nat.le_of_ble_eq_true rfl) rfl rfl ⟨rfl, rfl⟩ ⟨Nat.zero_le _, Nat.zero_le _⟩ (r_openOnes (σ := sI σ 0 3 0) hP v hv lo hi) ?_
  refine pw_goto (tgt := 32) dX11_openWith_28 (by decide) ?_
  exact pw_iret rfl rfl dX11_openWith_32 (Nat.zero_le _) (Nat.zero_le _) rfl
theorem sp_loop {sz : Nat} {w0 : va_W} {N : Nat} {P0 : Int32 × Int32 × Int32 × (Nat → Int32) × (Nat → Int32) × (Nat → Int32)} {al : Nat → Int32} {res : Int32} (hal : P0.2.2.2.1 = al) (hP : wfP al N) (v : Nat) (hv : v < 8) (frm : Int32) :
    ∀ (r k : Nat) (s : Int32) (τ : St), k + r = 31 → pers τ = P0 → spL al N v frm r k s = res →
      PW l G mX11_safePower w0 sz (fun o => ∃ v' σ', o = .inl (some v', wp G adr LM Lf Rt σ') ∧ (v' = .int res ∧ pers σ' = P0)) 31 [(0, .ref (adr 0)), (1, .int (nI v)), (2, .int frm), (3, .int s), (4, .int (nI k))] [] 0 0 (wp G adr LM Lf Rt τ) := by
  intro r
  induction r with
  | zero =>
    intro k s τ hk hp hres
    have hk : k = 31 := by omega
    subst hk
    refine pw_iload dX11_safePower_31 rfl ?_
    refine pw_bipush (v := 31) dX11_safePower_33 rfl ?_
    refine pw_icmp_ge 79 dX11_safePower_35 (by decide) (fun c_35 => ?_) (fun c_35 => absurd (nI_le (Nat.le_refl 31) (by decide)) c_35)
    refine pw_iload_n dX11_safePower_79 rfl ?_
    exact pw_iret rfl rfl dX11_safePower_80 (Nat.zero_le _) (Nat.zero_le _) ⟨_, τ, rfl, congrArg Value.int hres, hp⟩
  | succ r ih =>
    intro k s τ hk hp hres
    have c35 : ¬ (31 : Int32) ≤ nI k := nI_ge (a := k) (b := 31) (by omega) (by decide)
    have ea : τ.2.2.1 1 = al := (congrArg (fun x => x.2.2.2.1) hp).trans hal
    unfold spL at hres
    have hoo := r_openOnes (l := l) (G := G) (adr := adr) (Lf := Lf) (Rt := Rt) (σ := τ) (by rw [ea]; exact hP) v hv frm ((1 : Int32) <<< (nI k &&& 31) - 1)
    rw [ea] at hoo
    have hp2 : pers (mOpen τ v frm ((1 : Int32) <<< (nI k &&& 31) - 1) N) = P0 := hp
    generalize hpw : (1 : Int32) <<< (nI k &&& 31) = pw at hres hoo hp2
    generalize hg : mOpen τ v frm (pw - 1) N = τ2 at hoo hp2
    by_cases hge : frm.toInt64 + 1 ≤ pw.toInt64
    · rw [if_pos hge] at hres
      by_cases ho : 0 < opnC (alW al v frm (pw - 1)) N
      · rw [if_pos ho] at hres
        refine pw_iload dX11_safePower_31 rfl ?_
        refine pw_bipush (v := 31) dX11_safePower_33 rfl ?_
        refine pw_icmp_ge 79 dX11_safePower_35 (by decide) (fun c_35 => absurd c_35 c35) (fun c_35 => ?_)
        refine pw_iconst (v := 1) dX11_safePower_38 rfl ?_
        refine pw_iload dX11_safePower_39 rfl ?_
        refine pw_ishl dX11_safePower_41 ?_
        refine pw_top pw hpw ?_
        refine pw_istore dX11_safePower_42 (by decide) ?_
        refine pw_iload dX11_safePower_44 rfl ?_
        refine pw_i2l dX11_safePower_46 ?_
        refine pw_iload_n dX11_safePower_47 rfl ?_
        refine pw_i2l dX11_safePower_48 ?_
        refine pw_lconst (v := 1) dX11_safePower_49 rfl ?_
        refine pw_ladd dX11_safePower_50 ?_
        refine pw_lcmp dX11_safePower_51 ?_
        refine pw_if_lt 73 dX11_safePower_52 (by decide) (fun c_52 => absurd ((lg_cmp_lt _ _).mp c_52) (Int64.not_lt.mpr hge)) (fun c_52 => ?_)
        refine pw_aload_n dX11_safePower_55 rfl ?_
        refine pw_iload_n dX11_safePower_56 rfl ?_
        refine pw_iload_n dX11_safePower_57 rfl ?_
        refine pw_iload dX11_safePower_58 rfl ?_
        refine pw_iconst (v := 1) dX11_safePower_60 rfl ?_
        refine pw_isub dX11_safePower_61 ?_
        refine lp_cV1 (mi' := mX11_openOnes) (As := [_, _, _]) (q := (RX11, TX11, 33)) dX11_safePower_62 lk_RX11_274 mk_X11_openOnes mi_X11_openOnes me_X11_openOnes ⟨by decide, by decide⟩ rfl rfl (Nat.le_of_ble_eq_true rfl) rfl rfl ⟨rfl, rfl⟩ ⟨Nat.zero_le _, Nat.zero_le _⟩ hoo ?_
        refine pw_if_le 70 dX11_safePower_65 (by decide) (fun c_65 => absurd ho (Int32.not_lt.mpr c_65)) (fun c_65 => ?_)
        refine pw_iload_n dX11_safePower_68 rfl ?_
        exact pw_iret rfl rfl dX11_safePower_69 (Nat.zero_le _) (Nat.zero_le _) ⟨_, τ2, rfl, congrArg Value.int hres, hp2⟩
      · rw [if_neg ho] at hres
        have ih1 := ih (k + 1) _ τ2 (by omega) hp2 hres
        refine pw_iload dX11_safePower_31 rfl ?_
        refine pw_bipush (v := 31) dX11_safePower_33 rfl ?_
        refine pw_icmp_ge 79 dX11_safePower_35 (by decide) (fun c_35 => absurd c_35 c35) (fun c_35 => ?_)
        refine pw_iconst (v := 1) dX11_safePower_38 rfl ?_
        refine pw_iload dX11_safePower_39 rfl ?_
        refine pw_ishl dX11_safePower_41 ?_
        refine pw_top pw hpw ?_
        refine pw_istore dX11_safePower_42 (by decide) ?_
        refine pw_iload dX11_safePower_44 rfl ?_
        refine pw_i2l dX11_safePower_46 ?_
        refine pw_iload_n dX11_safePower_47 rfl ?_
        refine pw_i2l dX11_safePower_48 ?_
        refine pw_lconst (v := 1) dX11_safePower_49 rfl ?_
        refine pw_ladd dX11_safePower_50 ?_
        refine pw_lcmp dX11_safePower_51 ?_
        refine pw_if_lt 73 dX11_safePower_52 (by decide) (fun c_52 => absurd ((lg_cmp_lt _ _).mp c_52) (Int64.not_lt.mpr hge)) (fun c_52 => ?_)
        refine pw_aload_n dX11_safePower_55 rfl ?_
        refine pw_iload_n dX11_safePower_56 rfl ?_
        refine pw_iload_n dX11_safePower_57 rfl ?_
        refine pw_iload dX11_safePower_58 rfl ?_
        refine pw_iconst (v := 1) dX11_safePower_60 rfl ?_
        refine pw_isub dX11_safePower_61 ?_
        refine lp_cV1 (mi' := mX11_openOnes) (As := [_, _, _]) (q := (RX11, TX11, 33)) dX11_safePower_62 lk_RX11_274 mk_X11_openOnes mi_X11_openOnes me_X11_openOnes ⟨by decide, by decide⟩ rfl rfl (Nat.le_of_ble_eq_true rfl) rfl rfl ⟨rfl, rfl⟩ ⟨Nat.zero_le _, Nat.zero_le _⟩ hoo ?_
        refine pw_if_le 70 dX11_safePower_65 (by decide) (fun c_65 => ?_) (fun c_65 => absurd (Int32.not_lt.mp ho) c_65)
        refine pw_iload dX11_safePower_70 rfl ?_
        refine pw_istore_n dX11_safePower_72 (by decide) ?_
        refine pw_iinc dX11_safePower_73 rfl (by decide) ?_
        refine pw_goto (tgt := 31) dX11_safePower_76 (by decide) ?_
        refine pw_lk _ ?_ ih1
        exact ⟨rfl, rfl, rfl, rfl, congrArg (fun x => some (Value.int x)) (nI_1 k), trivial⟩
    · rw [if_neg hge] at hres
      have ih1 := ih (k + 1) _ τ (by omega) hp hres
      refine pw_iload dX11_safePower_31 rfl ?_
      refine pw_bipush (v := 31) dX11_safePower_33 rfl ?_
      refine pw_icmp_ge 79 dX11_safePower_35 (by decide) (fun c_35 => absurd c_35 c35) (fun c_35 => ?_)
      refine pw_iconst (v := 1) dX11_safePower_38 rfl ?_
      refine pw_iload dX11_safePower_39 rfl ?_
      refine pw_ishl dX11_safePower_41 ?_
      refine pw_top pw hpw ?_
      refine pw_istore dX11_safePower_42 (by decide) ?_
      refine pw_iload dX11_safePower_44 rfl ?_
      refine pw_i2l dX11_safePower_46 ?_
      refine pw_iload_n dX11_safePower_47 rfl ?_
      refine pw_i2l dX11_safePower_48 ?_
      refine pw_lconst (v := 1) dX11_safePower_49 rfl ?_
      refine pw_ladd dX11_safePower_50 ?_
      refine pw_lcmp dX11_safePower_51 ?_
      refine pw_if_lt 73 dX11_safePower_52 (by decide) (fun c_52 => ?_) (fun c_52 => absurd ((lg_cmp_lt _ _).mpr (Int64.not_le.mp hge)) c_52)
      refine pw_iinc dX11_safePower_73 rfl (by decide) ?_
      refine pw_goto (tgt := 31) dX11_safePower_76 (by decide) ?_
      refine pw_lk _ ?_ ih1
      exact ⟨rfl, rfl, rfl, rfl, congrArg (fun x => some (Value.int x)) (nI_1 k), trivial⟩
end O1
