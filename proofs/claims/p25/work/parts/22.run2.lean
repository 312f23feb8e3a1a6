def chkL (al : Nat → Int32) (v : Nat → Int64) (inr stt : Nat → Int32) (b : Nat) : Nat → Nat → Int32 × (Nat → Int32) → Int32 × (Nat → Int32)
  | 0, _, y => y
  | r + 1, i, y => chkL al v inr stt b r (i + 1) (if inr i = nI b ∧ stt i = 3 then (y.1 + 1, upd y.2 i (bI (isI (v (tN (al (1 + 4 * i + 1))) + (al (1 + 4 * b + 1)).toInt64 * vOf v (stepA al i))))) else y)
theorem bI_vnar {b : Bool} : vp_nar .boolean (bI b) = bI b := by cases b <;> rfl
/-- the state of a run: where, the values, the failure, the checks, the executed, the free ones -/
def stR (τ : St) (s : WS) (v : Nat → Int64) (fl ck ex : Int32) (fr : Nat → Int32) : St :=
  (fun a b => if a = 0 ∧ b = 13 then nI s.1 else if a = 0 ∧ b = 14 then nI s.2.1 else if a = 0 ∧ b = 30 then fl else if a = 0 ∧ b = 31 then ck else if a = 0 ∧ b = 32 then ex else τ.1 a b, τ.2.1, fun a => if a = 8 then s.2.2 else if a = 21 then fr else τ.2.2.1 a, fun a => if a = 20 then v else τ.2.2.2.1 a, τ.2.2.2.2)
theorem st_ext {σ σ' : St} (h1 : ∀ a b, σ.1 a b = σ'.1 a b) (h2 : σ.2.1 = σ'.2.1) (h3 : ∀ a, σ.2.2.1 a = σ'.2.2.1 a) (h4 : ∀ a, σ.2.2.2.1 a = σ'.2.2.2.1 a) (h5 : σ.2.2.2.2 = σ'.2.2.2.2) : σ = σ' := by
  obtain ⟨a1, a2, a3, a4, a5⟩ := σ
  obtain ⟨b1, b2, b3, b4, b5⟩ := σ'
  dsimp only at h1 h2 h3 h4 h5
  rw [show a1 = b1 from funext fun a => funext fun b => h1 a b, h2, show a3 = b3 from funext h3, show a4 = b4 from funext h4, h5]
theorem stR_30 (τ : St) (s : WS) (v : Nat → Int64) (fl ck ex x : Int32) (fr : Nat → Int32) : sI (stR τ s v fl ck ex fr) 0 30 x = stR τ s v x ck ex fr := by
  refine st_ext (fun a b => ?_) rfl (fun _ => rfl) (fun _ => rfl) rfl
  unfold sI stR; dsimp only
  by_cases h : a = 0 ∧ b = 30
  · obtain ⟨rfl, rfl⟩ := h; rfl
  · rw [if_neg h, if_neg h, if_neg h]
theorem stR_31 (τ : St) (s : WS) (v : Nat → Int64) (fl ck ex x : Int32) (fr : Nat → Int32) : sI (stR τ s v fl ck ex fr) 0 31 x = stR τ s v fl x ex fr := by
  refine st_ext (fun a b => ?_) rfl (fun _ => rfl) (fun _ => rfl) rfl
  unfold sI stR; dsimp only
  by_cases h : a = 0 ∧ b = 31
  · obtain ⟨rfl, rfl⟩ := h; rfl
  · rw [if_neg h, if_neg h, if_neg h]
theorem stR_32 (τ : St) (s : WS) (v : Nat → Int64) (fl ck ex x : Int32) (fr : Nat → Int32) : sI (stR τ s v fl ck ex fr) 0 32 x = stR τ s v fl ck x fr := by
  refine st_ext (fun a b => ?_) rfl (fun _ => rfl) (fun _ => rfl) rfl
  unfold sI stR; dsimp only
  by_cases h : a = 0 ∧ b = 32
  · obtain ⟨rfl, rfl⟩ := h; rfl
  · rw [if_neg h, if_neg h, if_neg h]
theorem stR_20 (τ : St) (s : WS) (v v' : Nat → Int64) (fl ck ex : Int32) (fr : Nat → Int32) : sL (stR τ s v fl ck ex fr) 20 v' = stR τ s v' fl ck ex fr := by
  refine st_ext (fun _ _ => rfl) rfl (fun _ => rfl) (fun a => ?_) rfl
  unfold sL stR; dsimp only
  by_cases h : a = 20
  · rw [if_pos h, if_pos h]
  · rw [if_neg h, if_neg h, if_neg h]
theorem stR_21 (τ : St) (s : WS) (v : Nat → Int64) (fl ck ex : Int32) (fr fr' : Nat → Int32) : sA (stR τ s v fl ck ex fr) 21 fr' = stR τ s v fl ck ex fr' := by
  refine st_ext (fun _ _ => rfl) rfl (fun a => ?_) (fun _ => rfl) rfl
  unfold sA stR; dsimp only
  by_cases h : a = 21
  · subst h; rfl
  · rw [if_neg h, if_neg h, if_neg h]
theorem stW_R (τ : St) (s s' : WS) (v : Nat → Int64) (fl ck ex : Int32) (fr : Nat → Int32) : stW (stR τ s v fl ck ex fr) s' = stR τ s' v fl ck ex fr := by
  refine st_ext (fun a b => ?_) rfl (fun a => ?_) (fun _ => rfl) rfl
  · unfold stW sI sA stR; dsimp only
    by_cases h1 : a = 0 ∧ b = 13
    · simp only [if_pos h1]
    · by_cases h2 : a = 0 ∧ b = 14
      · simp only [if_neg h1, if_pos h2]
      · simp only [if_neg h1, if_neg h2]
  · unfold stW sI sA stR; dsimp only
    by_cases h : a = 8
    · simp only [if_pos h]
    · simp only [if_neg h]
theorem stR_of (τ : St) (s : WS) : stW τ s = stR τ s (τ.2.2.2.1 20) (τ.1 0 30) (τ.1 0 31) (τ.1 0 32) (τ.2.2.1 21) := by
  refine st_ext (fun a b => ?_) rfl (fun a => ?_) (fun a => ?_) rfl
  · unfold stW sI sA stR; dsimp only
    by_cases h1 : a = 0 ∧ b = 13
    · rw [if_pos h1, if_pos h1]
    · rw [if_neg h1, if_neg h1]
      by_cases h2 : a = 0 ∧ b = 14
      · rw [if_pos h2, if_pos h2]
      · rw [if_neg h2, if_neg h2]
        by_cases h3 : a = 0 ∧ b = 30
        · obtain ⟨rfl, rfl⟩ := h3; rfl
        · rw [if_neg h3]
          by_cases h4 : a = 0 ∧ b = 31
          · obtain ⟨rfl, rfl⟩ := h4; rfl
          · rw [if_neg h4]
            by_cases h5 : a = 0 ∧ b = 32
            · obtain ⟨rfl, rfl⟩ := h5; rfl
            · rw [if_neg h5]
  · unfold stW sI sA stR; dsimp only
    by_cases h : a = 8
    · rw [if_pos h, if_pos h]
    · rw [if_neg h, if_neg h]
      by_cases h2 : a = 21
      · subst h2; rfl
      · rw [if_neg h2]
  · unfold stW sI sA stR; dsimp only
    by_cases h : a = 20
    · subst h; rfl
    · rw [if_neg h]
section R2
variable {l : Launch} {G : cxG} {adr : Nat → Nat} {Lf Rt : va_W} {τ : St}
theorem chk_loop {sz : Nat} {w0 : va_W} {fin : OC → Prop} (s : WS) (v : Nat → Int64) (fl ex : Int32) (b e : Nat) (he : e < 30) (hb : b < 30) (hp : τ.2.2.1 5 b = nI e)
    (hok : ∀ i, b < i → i < e → τ.2.2.1 7 i = nI b → τ.2.2.1 19 i = 3 → (∃ w, w < 8 ∧ τ.2.2.1 1 (1 + 4 * i + 1) = nI w) ∧ okOp (stepA (τ.2.2.1 1) i)) :
    ∀ (r i : Nat) (y : Int32 × (Nat → Int32)), (i + r = e ∨ (r = 0 ∧ e ≤ i)) → b < i → i < 1000 →
      fin (.inl (none, wp G adr LM Lf Rt (stR τ s v fl (chkL (τ.2.2.1 1) v (τ.2.2.1 7) (τ.2.2.1 19) b r i y).1 ex (chkL (τ.2.2.1 1) v (τ.2.2.1 7) (τ.2.2.1 19) b r i y).2))) →
      PW l G mX11_checksLoop w0 sz fin 4 [(0, .ref (adr 0)), (1, .int (nI b)), (2, .int (nI i))] [] 0 0 (wp G adr LM Lf Rt (stR τ s v fl y.1 ex y.2)) := by
  intro r
  have eb : (nI b).toNatClampNeg = b := nI_clamp (by omega)
  induction r with
  | zero =>
    intro i y hi hbi hi2 hf
    have hle : e ≤ i := by omega
    refine pw_iload_n dX11_checksLoop_4 rfl ?_
    refine pw_aload_n dX11_checksLoop_5 rfl ?_
    refine lp_getr 5 dX11_checksLoop_6 fp_RX11_22.FL rfl rfl rfl ?_
    refine pw_iload_n dX11_checksLoop_9 rfl ?_
    refine lp_iald dX11_checksLoop_10 rfl (vp_in_nI hb (by decide)) ?_
    refine pw_top (nI e) ?_ ?_
    · rw [eb]; exact hp
    refine pw_icmp_ge 88 dX11_checksLoop_11 (by decide) (fun c_11 => ?_) (fun c_11 => absurd (nI_le hle (by omega)) c_11)
    exact pw_vret rfl dX11_checksLoop_88 (Nat.zero_le _) (Nat.zero_le _) hf
  | succ r ih =>
    intro i y hi hbi hi2 hf
    have hlt : i < e := by omega
    have ei : (nI i).toNatClampNeg = i := nI_clamp (by omega)
    have ih1 := ih (i + 1) (if τ.2.2.1 7 i = nI b ∧ τ.2.2.1 19 i = 3 then (y.1 + 1, upd y.2 i (bI (isI (v (tN (τ.2.2.1 1 (1 + 4 * i + 1))) + (τ.2.2.1 1 (1 + 4 * b + 1)).toInt64 * vOf v (stepA (τ.2.2.1 1) i))))) else y) (by omega) (by omega) (by omega) hf
    by_cases c1 : τ.2.2.1 7 i = nI b
    · by_cases c2 : τ.2.2.1 19 i = 3
      · rw [if_pos ⟨c1, c2⟩] at ih1
        obtain ⟨⟨w, g1, g2⟩, g3⟩ := hok i hbi hlt c1 c2
        have ew : (nI w).toNatClampNeg = w := nI_clamp (by omega)
        have etw : tN (τ.2.2.1 1 (1 + 4 * i + 1)) = w := by rw [g2]; exact ew
        rw [etw] at ih1
        refine pw_iload_n dX11_checksLoop_4 rfl ?_
        refine pw_aload_n dX11_checksLoop_5 rfl ?_
        refine lp_getr 5 dX11_checksLoop_6 fp_RX11_22.FL rfl rfl rfl ?_
        refine pw_iload_n dX11_checksLoop_9 rfl ?_
        refine lp_iald dX11_checksLoop_10 rfl (vp_in_nI hb (by decide)) ?_
        refine pw_top (nI e) ?_ ?_
        · rw [eb]; exact hp
        refine pw_icmp_ge 88 dX11_checksLoop_11 (by decide) (fun c_11 => absurd c_11 (nI_ge hlt (by omega))) (fun c_11 => ?_)
        refine pw_aload_n dX11_checksLoop_14 rfl ?_
        refine lp_getr 7 dX11_checksLoop_15 fp_RX11_28.FL rfl rfl rfl ?_
        refine pw_iload_n dX11_checksLoop_18 rfl ?_
        refine lp_iald dX11_checksLoop_19 rfl (vp_in_nI (by omega) (by decide)) ?_
        refine pw_top (nI b) ?_ ?_
        · rw [ei]; exact c1
        refine pw_iload_n dX11_checksLoop_20 rfl ?_
        refine pw_icmp_ne 82 dX11_checksLoop_21 (by decide) (fun c_21 => absurd c_21 (fun z => z rfl)) (fun c_21 => ?_)
        refine pw_aload_n dX11_checksLoop_24 rfl ?_
        refine lp_getr 19 dX11_checksLoop_25 fp_RX11_66.FL rfl rfl rfl ?_
        refine pw_iload_n dX11_checksLoop_28 rfl ?_
        refine lp_iald dX11_checksLoop_29 rfl (vp_in_nI (by omega) (by decide)) ?_
        refine pw_top 3 ?_ ?_
        · rw [ei]; exact c2
        refine pw_iconst (v := 3) dX11_checksLoop_30 rfl ?_
        refine pw_icmp_ne 82 dX11_checksLoop_31 (by decide) (fun c_31 => absurd c_31 (fun z => z rfl)) (fun c_31 => ?_)
        refine pw_aload_n dX11_checksLoop_34 rfl ?_
        refine pw_dup dX11_checksLoop_35 rfl ?_
        refine lp_geti dX11_checksLoop_36 fp_RX11_242.FL rfl rfl ?_
        refine pw_iconst (v := 1) dX11_checksLoop_39 rfl ?_
        refine pw_iadd dX11_checksLoop_40 ?_
        refine lp_puti dX11_checksLoop_41 fp_RX11_242 rfl rfl rfl rfl ?_
        rw [stR_31]
        refine pw_aload_n dX11_checksLoop_44 rfl ?_
        refine lp_getr 21 dX11_checksLoop_45 fp_RX11_72.FL rfl rfl rfl ?_
        refine pw_iload_n dX11_checksLoop_48 rfl ?_
        refine pw_aload_n dX11_checksLoop_49 rfl ?_
        refine lp_getr 20 dX11_checksLoop_50 fp_RX11_69.FL rfl rfl rfl ?_
        refine pw_aload_n dX11_checksLoop_53 rfl ?_
        refine pw_iload_n dX11_checksLoop_54 rfl ?_
        refine pw_iconst (v := 1) dX11_checksLoop_55 rfl ?_
        refine lp_cV1 (mi' := mX11_of) (As := [_, _]) (q := (RX11, TX11, 33)) dX11_checksLoop_56 lk_RX11_82 mk_X11_of mi_X11_of me_X11_of ⟨by decide, by decide⟩ rfl rfl (Nat.le_of_ble_eq_true rfl) rfl rfl ⟨rfl, rfl⟩ ⟨Nat.zero_le _, Nat.zero_le _⟩ (r_of i 1 (by omega)) ?_
        refine pw_top (nI w) g2 ?_
        refine lp_lald dX11_checksLoop_59 rfl (vp_in_nI g1 (by decide)) ?_
        rw [ew]
        refine pw_aload_n dX11_checksLoop_60 rfl ?_
        refine pw_iload_n dX11_checksLoop_61 rfl ?_
        refine pw_iconst (v := 1) dX11_checksLoop_62 rfl ?_
        refine lp_cV1 (mi' := mX11_of) (As := [_, _]) (q := (RX11, TX11, 33)) dX11_checksLoop_63 lk_RX11_82 mk_X11_of mi_X11_of me_X11_of ⟨by decide, by decide⟩ rfl rfl (Nat.le_of_ble_eq_true rfl) rfl rfl ⟨rfl, rfl⟩ ⟨Nat.zero_le _, Nat.zero_le _⟩ (r_of b 1 (by omega)) ?_
        refine pw_i2l dX11_checksLoop_66 ?_
        refine pw_aload_n dX11_checksLoop_67 rfl ?_
        refine pw_aload_n dX11_checksLoop_68 rfl ?_
        refine pw_iload_n dX11_checksLoop_69 rfl ?_
        refine lp_cV1 (mi' := mX11_stepOf) (As := [_]) (q := (RX11, TX11, 33)) dX11_checksLoop_70 lk_RX11_224 mk_X11_stepOf mi_X11_stepOf me_X11_stepOf ⟨by decide, by decide⟩ rfl rfl (Nat.le_of_ble_eq_true rfl) rfl rfl ⟨rfl, rfl⟩ ⟨Nat.zero_le _, Nat.zero_le _⟩ (r_stepOf i (by omega)) ?_
        refine lp_cV1 (mi' := mX11_valueOf) (As := [_]) (q := (RX11, TX11, 33)) dX11_checksLoop_73 lk_RX11_239 mk_X11_valueOf mi_X11_valueOf me_X11_valueOf ⟨by decide, by decide⟩ rfl rfl (Nat.le_of_ble_eq_true rfl) rfl rfl ⟨rfl, rfl⟩ ⟨Nat.zero_le _, Nat.zero_le _⟩ (r_valueOf _ g3) ?_
        refine pw_lmul dX11_checksLoop_76 ?_
        refine pw_ladd dX11_checksLoop_77 ?_
        refine lp_cS1 (mi' := mX11_isInt) (As := [_]) dX11_checksLoop_78 lk_RX11_245 mk_X11_isInt ms_X11_isInt ⟨by decide, by decide⟩ rfl rfl (Nat.le_of_ble_eq_true rfl) ⟨rfl, rfl⟩ ⟨Nat.zero_le _, Nat.zero_le _⟩ (r_isInt _ _) ?_
        refine lp_zast dX11_checksLoop_81 rfl (vp_in_nI (by omega) (by decide)) bI_vnar ?_
        rw [ei, stR_21]
        refine pw_iinc dX11_checksLoop_82 rfl (by decide) ?_
        refine pw_goto (tgt := 4) dX11_checksLoop_85 (by decide) ?_
        exact pw_lk [(0, .ref (adr 0)), (1, .int (nI b)), (2, .int (nI (i + 1)))] ⟨rfl, rfl, congrArg (fun x => some (Value.int x)) (nI_1 i), trivial⟩ ih1
      · rw [if_neg (fun z => c2 z.2)] at ih1
        refine pw_iload_n dX11_checksLoop_4 rfl ?_
        refine pw_aload_n dX11_checksLoop_5 rfl ?_
        refine lp_getr 5 dX11_checksLoop_6 fp_RX11_22.FL rfl rfl rfl ?_
        refine pw_iload_n dX11_checksLoop_9 rfl ?_
        refine lp_iald dX11_checksLoop_10 rfl (vp_in_nI hb (by decide)) ?_
        refine pw_top (nI e) ?_ ?_
        · rw [eb]; exact hp
        refine pw_icmp_ge 88 dX11_checksLoop_11 (by decide) (fun c_11 => absurd c_11 (nI_ge hlt (by omega))) (fun c_11 => ?_)
        refine pw_aload_n dX11_checksLoop_14 rfl ?_
        refine lp_getr 7 dX11_checksLoop_15 fp_RX11_28.FL rfl rfl rfl ?_
        refine pw_iload_n dX11_checksLoop_18 rfl ?_
        refine lp_iald dX11_checksLoop_19 rfl (vp_in_nI (by omega) (by decide)) ?_
        refine pw_top (nI b) ?_ ?_
        · rw [ei]; exact c1
        refine pw_iload_n dX11_checksLoop_20 rfl ?_
        refine pw_icmp_ne 82 dX11_checksLoop_21 (by decide) (fun c_21 => absurd c_21 (fun z => z rfl)) (fun c_21 => ?_)
        refine pw_aload_n dX11_checksLoop_24 rfl ?_
        refine lp_getr 19 dX11_checksLoop_25 fp_RX11_66.FL rfl rfl rfl ?_
        refine pw_iload_n dX11_checksLoop_28 rfl ?_
        refine lp_iald dX11_checksLoop_29 rfl (vp_in_nI (by omega) (by decide)) ?_
        rw [ei]
        refine pw_iconst (v := 3) dX11_checksLoop_30 rfl ?_
        refine pw_icmp_ne 82 dX11_checksLoop_31 (by decide) (fun c_31 => ?_) (fun c_31 => absurd c_31 c2)
        refine pw_iinc dX11_checksLoop_82 rfl (by decide) ?_
        refine pw_goto (tgt := 4) dX11_checksLoop_85 (by decide) ?_
        exact pw_lk [(0, .ref (adr 0)), (1, .int (nI b)), (2, .int (nI (i + 1)))] ⟨rfl, rfl, congrArg (fun x => some (Value.int x)) (nI_1 i), trivial⟩ ih1
    · rw [if_neg (fun z => c1 z.1)] at ih1
      refine pw_iload_n dX11_checksLoop_4 rfl ?_
      refine pw_aload_n dX11_checksLoop_5 rfl ?_
      refine lp_getr 5 dX11_checksLoop_6 fp_RX11_22.FL rfl rfl rfl ?_
      refine pw_iload_n dX11_checksLoop_9 rfl ?_
      refine lp_iald dX11_checksLoop_10 rfl (vp_in_nI hb (by decide)) ?_
      refine pw_top (nI e) ?_ ?_
      · rw [eb]; exact hp
      refine pw_icmp_ge 88 dX11_checksLoop_11 (by decide) (fun c_11 => absurd c_11 (nI_ge hlt (by omega))) (fun c_11 => ?_)
      refine pw_aload_n dX11_checksLoop_14 rfl ?_
      refine lp_getr 7 dX11_checksLoop_15 fp_RX11_28.FL rfl rfl rfl ?_
      refine pw_iload_n dX11_checksLoop_18 rfl ?_
      refine lp_iald dX11_checksLoop_19 rfl (vp_in_nI (by omega) (by decide)) ?_
      rw [ei]
      refine pw_iload_n dX11_checksLoop_20 rfl ?_
      refine pw_icmp_ne 82 dX11_checksLoop_21 (by decide) (fun c_21 => ?_) (fun c_21 => absurd c_21 c1)
      refine pw_iinc dX11_checksLoop_82 rfl (by decide) ?_
      refine pw_goto (tgt := 4) dX11_checksLoop_85 (by decide) ?_
      exact pw_lk [(0, .ref (adr 0)), (1, .int (nI b)), (2, .int (nI (i + 1)))] ⟨rfl, rfl, congrArg (fun x => some (Value.int x)) (nI_1 i), trivial⟩ ih1
theorem r_checksLoop (s : WS) (v : Nat → Int64) (fl ck ex : Int32) (fr : Nat → Int32) (b e : Nat) (he : e < 30) (hbe : b < e) (hp : τ.2.2.1 5 b = nI e)
    (hok : ∀ i, b < i → i < e → τ.2.2.1 7 i = nI b → τ.2.2.1 19 i = 3 → (∃ w, w < 8 ∧ τ.2.2.1 1 (1 + 4 * i + 1) = nI w) ∧ okOp (stepA (τ.2.2.1 1) i)) :
    SpecD l G mX11_checksLoop [.ref (adr 0), .int (nI b)] (wp G adr LM Lf Rt (stR τ s v fl ck ex fr)) none (wp G adr LM Lf Rt (stR τ s v fl (chkL (τ.2.2.1 1) v (τ.2.2.1 7) (τ.2.2.1 19) b (e - (b + 1)) (b + 1) (ck, fr)).1 ex (chkL (τ.2.2.1 1) v (τ.2.2.1 7) (τ.2.2.1 19) b (e - (b + 1)) (b + 1) (ck, fr)).2)) := by
  refine spec_of (by decide) (Nat.le_of_ble_eq_true rfl) (fun sz => ?_)
  refine pw_iload_n dX11_checksLoop_0 rfl ?_
  refine pw_iconst (v := 1) dX11_checksLoop_1 rfl ?_
  refine pw_iadd dX11_checksLoop_2 ?_
  refine pw_istore_n dX11_checksLoop_3 (by decide) ?_
  exact pw_lk [(0, .ref (adr 0)), (1, .int (nI b)), (2, .int (nI (b + 1)))] ⟨rfl, rfl, congrArg (fun x => some (Value.int x)) (nI_1 b), trivial⟩ (chk_loop s v fl ex b e he (by omega) hp hok (e - (b + 1)) (b + 1) (ck, fr) (by omega) (by omega) (by omega) rfl)
end R2
