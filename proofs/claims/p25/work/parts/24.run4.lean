def pfxL (i : Nat) (g f : Nat → Int64) : Nat → Int64 := fun j => if j < i then g j else f j
theorem pfxL_upd (i : Nat) (g f : Nat → Int64) : vp_updL (pfxL i g f) i (g i) = pfxL (i + 1) g f := by
  funext j
  unfold vp_updL pfxL
  by_cases h : j = i
  · subst h; rw [if_pos rfl, if_pos (by omega)]
  · rw [if_neg h]
    by_cases h2 : j < i
    · rw [if_pos h2, if_pos (by omega)]
    · rw [if_neg h2, if_neg (by omega)]
theorem pfxL_0 (g f : Nat → Int64) : pfxL 0 g f = f := by funext j; unfold pfxL; rw [if_neg (by omega)]
def inV (al : Nat → Int32) (j : Nat) : Int64 := (al (121 + 3 * j + 2)).toInt64
section R4
variable {l : Launch} {G : cxG} {adr : Nat → Nat} {Lf Rt : va_W} {τ σ : St}
theorem run_loop {sz : Nat} {w0 : va_W} {fin : OC → Prop} {N : Nat} {f0 : Nat → Int32} (hP : wfP (τ.2.2.1 1) N) (hpt : τ.2.2.1 5 = lpt (τ.2.2.1 1) f0 N) (opt : Bool) (h3 : opt = true → st3ok (τ.2.2.1 1) (τ.2.2.1 19) N) :
    ∀ (n : Nat) (x : AR), WInv (τ.2.2.1 1) N x.1 → wmu (τ.2.2.1 1) (τ.2.2.1 5) N x.1 < n →
      fin (.inl (none, wp G adr LM Lf Rt (stA τ (rIter (τ.2.2.1 1) (τ.2.2.1 5) (τ.2.2.1 7) (τ.2.2.1 19) opt N n x)))) →
      PW l G mX11_runs w0 sz fin 53 [(0, .ref (adr 0)), (1, .int (bI opt))] [] 0 0 (wp G adr LM Lf Rt (stA τ x)) := by
  intro n
  induction n with
  | zero => intro x _ h; omega
  | succ n ih =>
    intro x hI hmu hf
    have hN := hP.1
    have hxN := hI.1
    have eW : stA τ x = stW (stA τ x) x.1 := (stW_R ..).symm
    have hwk : SpecD l G mX11_walks [.ref (adr 0)] (wp G adr LM Lf Rt (stA τ x)) (some (.int (bI (decide (x.1.1 < N))))) (wp G adr LM Lf Rt (stA τ x)) := by
      have := r_walks (l := l) (G := G) (adr := adr) (Lf := Lf) (Rt := Rt) (σ := stA τ x) x.1 N hP.2.1 hN (by omega)
      rw [← eW] at this
      exact this
    unfold rIter at hf
    by_cases hlt : x.1.1 < N
    · by_cases hfl : x.2.2.1 = -1
      · rw [if_pos ⟨hlt, hfl⟩] at hf
        have hnx := wnext_ok (f0 := f0) hP.2.2.1 hN hP.2.2.2.1 hI hlt
        rw [← hpt] at hnx
        -- behind the step: on with the walk
        have hgo : ∀ y : AR, y.1 = x.1 → SpecD l G mX11_goesOn [.ref (adr 0)] (wp G adr LM Lf Rt (stA τ y)) none (wp G adr LM Lf Rt (stA τ (wnext (τ.2.2.1 1) (τ.2.2.1 5) x.1, y.2))) := by
          intro y hy
          have e1 : stA τ y = stW (stA τ y) x.1 := by rw [← hy]; exact (stW_R ..).symm
          have e2 : stW (stA τ y) (wnext (τ.2.2.1 1) (τ.2.2.1 5) x.1) = stA τ (wnext (τ.2.2.1 1) (τ.2.2.1 5) x.1, y.2) := stW_R ..
          have h := r_goesOn (l := l) (G := G) (adr := adr) (Lf := Lf) (Rt := Rt) (σ := stA τ y) x.1 (by omega)
            (fun k4 => by rw [hI.2.1]; exact (hP.2.2.1.1 x.1.1 hlt).1 k4)
            (fun k5 => by
              have hd := (hP.2.2.1.1 x.1.1 hlt).2 k5
              have h2 := (lsc_inv hP.2.2.1 x.1.1 (by omega)).1
              obtain ⟨b, b1, b2, b3, b4⟩ := lsc_within hP.2.2.1 (show x.1.1 ≤ N by omega) hd
              refine ⟨by rw [hI.2.1]; exact hd, by rw [hI.2.1]; exact h2, b, by omega, ?_⟩
              show τ.2.2.1 5 x.1.1 = nI b
              rw [hpt]
              exact (lpt_end hP.2.2.1 hN f0 N (Nat.le_refl _) x.1.1 hlt k5 b b1 b2).1)
          rw [← e1] at h
          refine specD_eq h rfl ?_
          exact congrArg (wp G adr LM Lf Rt) e2
        have htail : PW l G mX11_runs w0 sz fin 92 [(0, .ref (adr 0)), (1, .int (bI opt))] [] 0 0 (wp G adr LM Lf Rt (stA τ (rPre (τ.2.2.1 1) (τ.2.2.1 5) (τ.2.2.1 7) (τ.2.2.1 19) opt x))) := by
          refine run_mid hP opt _ (by rw [rPre_1]; exact hlt) ?_
          have hm1 : (rMid (τ.2.2.1 1) (τ.2.2.1 19) opt (rPre (τ.2.2.1 1) (τ.2.2.1 5) (τ.2.2.1 7) (τ.2.2.1 19) opt x)).1 = x.1 := by
            rw [← rPre_1 (al := τ.2.2.1 1) (pt := τ.2.2.1 5) (inr := τ.2.2.1 7) (stt := τ.2.2.1 19) (opt := opt) (x := x)]
            generalize rPre (τ.2.2.1 1) (τ.2.2.1 5) (τ.2.2.1 7) (τ.2.2.1 19) opt x = y
            unfold rMid
            split
            · rfl
            · split <;> rfl
          have ih1 := ih (rStep (τ.2.2.1 1) (τ.2.2.1 5) (τ.2.2.1 7) (τ.2.2.1 19) opt x) hnx.1 (by have := hnx.2; show wmu _ _ _ (wnext _ _ _) < n; omega) hf
          refine pw_aload_n dX11_runs_190 rfl ?_
          refine lp_cV0 (mi' := mX11_goesOn) (As := []) (q := (RX11, TX11, 33)) dX11_runs_191 lk_RX11_211 mk_X11_goesOn mi_X11_goesOn me_X11_goesOn ⟨by decide, by decide⟩ rfl rfl (Nat.le_of_ble_eq_true rfl) rfl rfl ⟨rfl, rfl⟩ ⟨Nat.zero_le _, Nat.zero_le _⟩ (hgo _ hm1) ?_
          refine pw_goto (tgt := 53) dX11_runs_194 (by decide) ?_
          exact ih1
        have hkd := r_kind (l := l) (G := G) (adr := adr) (Lf := Lf) (Rt := Rt) (σ := stA τ x) x.1.1 (by omega)
        by_cases k4 : kdA (τ.2.2.1 1) x.1.1 = 4
        · cases opt with
          | false =>
            have ep : rPre (τ.2.2.1 1) (τ.2.2.1 5) (τ.2.2.1 7) (τ.2.2.1 19) false x = x := by unfold rPre; rw [if_neg (by simp)]
            rw [ep] at htail
            refine pw_aload_n dX11_runs_53 rfl ?_
            refine lp_cV1 (mi' := mX11_walks) (As := []) (q := (RX11, TX11, 33)) dX11_runs_54 lk_RX11_205 mk_X11_walks mi_X11_walks me_X11_walks ⟨by decide, by decide⟩ rfl rfl (Nat.le_of_ble_eq_true rfl) rfl rfl ⟨rfl, rfl⟩ ⟨Nat.zero_le _, Nat.zero_le _⟩ hwk ?_
            rw [decide_eq_true hlt]
            refine pw_if_eq 197 dX11_runs_57 (by decide) (fun c_57 => absurd (show (1 : Int32) = 0 from c_57) (by decide)) (fun c_57 => ?_)
            refine pw_aload_n dX11_runs_60 rfl ?_
            refine lp_geti dX11_runs_61 fp_RX11_249.FL rfl rfl ?_
            refine pw_top (-1) hfl ?_
            refine pw_iconst (v := -1) dX11_runs_64 rfl ?_
            refine pw_icmp_ne 197 dX11_runs_65 (by decide) (fun c_65 => absurd c_65 (fun z => z rfl)) (fun c_65 => ?_)
            refine pw_aload_n dX11_runs_68 rfl ?_
            refine pw_aload_n dX11_runs_69 rfl ?_
            refine lp_geti dX11_runs_70 fp_RX11_174.FL rfl rfl ?_
            refine lp_cV1 (mi' := mX11_kind) (As := [_]) (q := (RX11, TX11, 33)) dX11_runs_73 lk_RX11_86 mk_X11_kind mi_X11_kind me_X11_kind ⟨by decide, by decide⟩ rfl rfl (Nat.le_of_ble_eq_true rfl) rfl rfl ⟨rfl, rfl⟩ ⟨Nat.zero_le _, Nat.zero_le _⟩ hkd ?_
            refine pw_iconst (v := 4) dX11_runs_76 rfl ?_
            refine pw_icmp_ne 92 dX11_runs_77 (by decide) (fun c_77 => absurd c_77 (fun z => z k4)) (fun c_77 => ?_)
            refine pw_iload_n dX11_runs_80 rfl ?_
            refine pw_if_eq 92 dX11_runs_81 (by decide) (fun c_81 => ?_) (fun c_81 => absurd rfl c_81)
            exact htail
          | true =>
            have hd1 : 0 < (lsc (τ.2.2.1 1) (x.1.1 + 1)).1 := by rw [lsc_4 k4]; simp
            obtain ⟨b, e, s1, s2, s3, s4, s5, s6, s7, -⟩ := lsc_span hP.2.2.1 hN f0 (show x.1.1 + 1 ≤ N by omega) hd1
            rw [lsc_4 k4] at s4
            have hbw : x.1.1 = b := nI_inj (by omega) (by omega) s4
            have hpe : τ.2.2.1 5 x.1.1 = nI e := by rw [hpt, hbw]; exact s7
            have hte : tN (τ.2.2.1 5 x.1.1) = e := by rw [hpe]; exact nI_clamp (by omega)
            have hck := r_checksLoop (l := l) (G := G) (adr := adr) (Lf := Lf) (Rt := Rt) (τ := τ) x.1 x.2.1 x.2.2.1 x.2.2.2.1 x.2.2.2.2.1 x.2.2.2.2.2 x.1.1 e (by omega) (by omega) hpe (fun i h1 h2 _ h4 => h3 rfl i (by omega) h4)
            have ep : rPre (τ.2.2.1 1) (τ.2.2.1 5) (τ.2.2.1 7) (τ.2.2.1 19) true x = (x.1, x.2.1, x.2.2.1, (chkL (τ.2.2.1 1) x.2.1 (τ.2.2.1 7) (τ.2.2.1 19) x.1.1 (e - (x.1.1 + 1)) (x.1.1 + 1) (x.2.2.2.1, x.2.2.2.2.2)).1, x.2.2.2.2.1, (chkL (τ.2.2.1 1) x.2.1 (τ.2.2.1 7) (τ.2.2.1 19) x.1.1 (e - (x.1.1 + 1)) (x.1.1 + 1) (x.2.2.2.1, x.2.2.2.2.2)).2) := by unfold rPre; rw [if_pos ⟨k4, rfl⟩, hte]
            rw [ep] at htail
            refine pw_aload_n dX11_runs_53 rfl ?_
            refine lp_cV1 (mi' := mX11_walks) (As := []) (q := (RX11, TX11, 33)) dX11_runs_54 lk_RX11_205 mk_X11_walks mi_X11_walks me_X11_walks ⟨by decide, by decide⟩ rfl rfl (Nat.le_of_ble_eq_true rfl) rfl rfl ⟨rfl, rfl⟩ ⟨Nat.zero_le _, Nat.zero_le _⟩ hwk ?_
            rw [decide_eq_true hlt]
            refine pw_if_eq 197 dX11_runs_57 (by decide) (fun c_57 => absurd (show (1 : Int32) = 0 from c_57) (by decide)) (fun c_57 => ?_)
            refine pw_aload_n dX11_runs_60 rfl ?_
            refine lp_geti dX11_runs_61 fp_RX11_249.FL rfl rfl ?_
            refine pw_top (-1) hfl ?_
            refine pw_iconst (v := -1) dX11_runs_64 rfl ?_
            refine pw_icmp_ne 197 dX11_runs_65 (by decide) (fun c_65 => absurd c_65 (fun z => z rfl)) (fun c_65 => ?_)
            refine pw_aload_n dX11_runs_68 rfl ?_
            refine pw_aload_n dX11_runs_69 rfl ?_
            refine lp_geti dX11_runs_70 fp_RX11_174.FL rfl rfl ?_
            refine lp_cV1 (mi' := mX11_kind) (As := [_]) (q := (RX11, TX11, 33)) dX11_runs_73 lk_RX11_86 mk_X11_kind mi_X11_kind me_X11_kind ⟨by decide, by decide⟩ rfl rfl (Nat.le_of_ble_eq_true rfl) rfl rfl ⟨rfl, rfl⟩ ⟨Nat.zero_le _, Nat.zero_le _⟩ hkd ?_
            refine pw_iconst (v := 4) dX11_runs_76 rfl ?_
            refine pw_icmp_ne 92 dX11_runs_77 (by decide) (fun c_77 => absurd c_77 (fun z => z k4)) (fun c_77 => ?_)
            refine pw_iload_n dX11_runs_80 rfl ?_
            refine pw_if_eq 92 dX11_runs_81 (by decide) (fun c_81 => absurd (show (1 : Int32) = 0 from c_81) (by decide)) (fun c_81 => ?_)
            refine pw_aload_n dX11_runs_84 rfl ?_
            refine pw_aload_n dX11_runs_85 rfl ?_
            refine lp_geti dX11_runs_86 fp_RX11_174.FL rfl rfl ?_
            refine lp_cV0 (mi' := mX11_checksLoop) (As := [_]) (q := (RX11, TX11, 33)) dX11_runs_89 lk_RX11_255 mk_X11_checksLoop mi_X11_checksLoop me_X11_checksLoop ⟨by decide, by decide⟩ rfl rfl (Nat.le_of_ble_eq_true rfl) rfl rfl ⟨rfl, rfl⟩ ⟨Nat.zero_le _, Nat.zero_le _⟩ hck ?_
            exact htail
        · have ep : rPre (τ.2.2.1 1) (τ.2.2.1 5) (τ.2.2.1 7) (τ.2.2.1 19) opt x = x := by unfold rPre; rw [if_neg (fun z => k4 z.1)]
          rw [ep] at htail
          refine pw_aload_n dX11_runs_53 rfl ?_
          refine lp_cV1 (mi' := mX11_walks) (As := []) (q := (RX11, TX11, 33)) dX11_runs_54 lk_RX11_205 mk_X11_walks mi_X11_walks me_X11_walks ⟨by decide, by decide⟩ rfl rfl (Nat.le_of_ble_eq_true rfl) rfl rfl ⟨rfl, rfl⟩ ⟨Nat.zero_le _, Nat.zero_le _⟩ hwk ?_
          rw [decide_eq_true hlt]
          refine pw_if_eq 197 dX11_runs_57 (by decide) (fun c_57 => absurd (show (1 : Int32) = 0 from c_57) (by decide)) (fun c_57 => ?_)
          refine pw_aload_n dX11_runs_60 rfl ?_
          refine lp_geti dX11_runs_61 fp_RX11_249.FL rfl rfl ?_
          refine pw_top (-1) hfl ?_
          refine pw_iconst (v := -1) dX11_runs_64 rfl ?_
          refine pw_icmp_ne 197 dX11_runs_65 (by decide) (fun c_65 => absurd c_65 (fun z => z rfl)) (fun c_65 => ?_)
          refine pw_aload_n dX11_runs_68 rfl ?_
          refine pw_aload_n dX11_runs_69 rfl ?_
          refine lp_geti dX11_runs_70 fp_RX11_174.FL rfl rfl ?_
          refine lp_cV1 (mi' := mX11_kind) (As := [_]) (q := (RX11, TX11, 33)) dX11_runs_73 lk_RX11_86 mk_X11_kind mi_X11_kind me_X11_kind ⟨by decide, by decide⟩ rfl rfl (Nat.le_of_ble_eq_true rfl) rfl rfl ⟨rfl, rfl⟩ ⟨Nat.zero_le _, Nat.zero_le _⟩ hkd ?_
          refine pw_iconst (v := 4) dX11_runs_76 rfl ?_
          refine pw_icmp_ne 92 dX11_runs_77 (by decide) (fun c_77 => ?_) (fun c_77 => absurd c_77 k4)
          exact htail
      · rw [if_neg (fun z => hfl z.2)] at hf
        refine pw_aload_n dX11_runs_53 rfl ?_
        refine lp_cV1 (mi' := mX11_walks) (As := []) (q := (RX11, TX11, 33)) dX11_runs_54 lk_RX11_205 mk_X11_walks mi_X11_walks me_X11_walks ⟨by decide, by decide⟩ rfl rfl (Nat.le_of_ble_eq_true rfl) rfl rfl ⟨rfl, rfl⟩ ⟨Nat.zero_le _, Nat.zero_le _⟩ hwk ?_
        rw [decide_eq_true hlt]
        refine pw_if_eq 197 dX11_runs_57 (by decide) (fun c_57 => absurd (show (1 : Int32) = 0 from c_57) (by decide)) (fun c_57 => ?_)
        refine pw_aload_n dX11_runs_60 rfl ?_
        refine lp_geti dX11_runs_61 fp_RX11_249.FL rfl rfl ?_
        refine pw_iconst (v := -1) dX11_runs_64 rfl ?_
        refine pw_icmp_ne 197 dX11_runs_65 (by decide) (fun c_65 => ?_) (fun c_65 => absurd c_65 hfl)
        exact pw_vret rfl dX11_runs_197 (Nat.zero_le _) (Nat.zero_le _) hf
    · rw [if_neg (fun z => hlt z.1)] at hf
      refine pw_aload_n dX11_runs_53 rfl ?_
      refine lp_cV1 (mi' := mX11_walks) (As := []) (q := (RX11, TX11, 33)) dX11_runs_54 lk_RX11_205 mk_X11_walks mi_X11_walks me_X11_walks ⟨by decide, by decide⟩ rfl rfl (Nat.le_of_ble_eq_true rfl) rfl rfl ⟨rfl, rfl⟩ ⟨Nat.zero_le _, Nat.zero_le _⟩ hwk ?_
      rw [decide_eq_false hlt]
      refine pw_if_eq 197 dX11_runs_57 (by decide) (fun c_57 => ?_) (fun c_57 => absurd rfl c_57)
      exact pw_vret rfl dX11_runs_197 (Nat.zero_le _) (Nat.zero_le _) hf
theorem run_vals {sz : Nat} {w0 : va_W} {fin : OC → Prop} (opt : Bool) (s : WS) (fl ck ex : Int32) (fr : Nat → Int32) (old : Nat → Int64)
    (kk : PW l G mX11_runs w0 sz fin 38 [(0, .ref (adr 0)), (1, .int (bI opt))] [] 0 0 (wp G adr LM Lf Rt (stR τ s (pfxL 8 (inV (τ.2.2.1 1)) old) fl ck ex fr))) :
    ∀ (r i : Nat), i + r = 8 → PW l G mX11_runs w0 sz fin 6 [(0, .ref (adr 0)), (1, .int (bI opt)), (2, .int (nI i))] [] 0 0 (wp G adr LM Lf Rt (stR τ s (pfxL i (inV (τ.2.2.1 1)) old) fl ck ex fr)) := by
  intro r
  induction r with
  | zero =>
    intro i hi
    have hi : i = 8 := by omega
    subst hi
    refine pw_iload_n dX11_runs_6 rfl ?_
    refine pw_bipush (v := 8) dX11_runs_7 rfl ?_
    refine pw_icmp_ge 38 dX11_runs_9 (by decide) (fun c_9 => ?_) (fun c_9 => absurd (nI_le (Nat.le_refl 8) (by decide)) c_9)
    exact pw_lk [(0, .ref (adr 0)), (1, .int (bI opt))] ⟨rfl, rfl, trivial⟩ kk
  | succ r ih =>
    intro i hi
    have b2 : vp_in (121 + 3 * nI i + 2) 145 ∧ (121 + 3 * nI i + 2).toNatClampNeg = 121 + 3 * i + 2 := nI121 (v := i) (w := 2) (by omega)
    refine pw_iload_n dX11_runs_6 rfl ?_
    refine pw_bipush (v := 8) dX11_runs_7 rfl ?_
    refine pw_icmp_ge 38 dX11_runs_9 (by decide) (fun c_9 => absurd c_9 (nI_ge (a := i) (b := 8) (by omega) (by decide))) (fun c_9 => ?_)
    refine pw_aload_n dX11_runs_12 rfl ?_
    refine lp_getr 20 dX11_runs_13 fp_RX11_69.FL rfl rfl rfl ?_
    refine pw_iload_n dX11_runs_16 rfl ?_
    refine pw_aload_n dX11_runs_17 rfl ?_
    refine lp_getr 1 dX11_runs_18 fp_RX11_7.FL rfl rfl rfl ?_
    refine pw_bipush (v := 121) dX11_runs_21 rfl ?_
    refine pw_iconst (v := 3) dX11_runs_23 rfl ?_
    refine pw_iload_n dX11_runs_24 rfl ?_
    refine pw_imul dX11_runs_25 ?_
    refine pw_iadd dX11_runs_26 ?_
    refine pw_iconst (v := 2) dX11_runs_27 rfl ?_
    refine pw_iadd dX11_runs_28 ?_
    refine lp_iald dX11_runs_29 rfl b2.1 ?_
    rw [b2.2]
    refine pw_i2l dX11_runs_30 ?_
    refine lp_last dX11_runs_31 rfl (vp_in_nI (by omega) (by decide)) ?_
    refine pw_st (σ' := stR τ s (pfxL (i + 1) (inV (τ.2.2.1 1)) old) fl ck ex fr) ?_ ?_
    · rw [nI_clamp (show i < 2 ^ 31 by omega), stR_20]
      exact congrArg (fun z => stR τ s z fl ck ex fr) (pfxL_upd i (inV (τ.2.2.1 1)) old)
    refine pw_iinc dX11_runs_32 rfl (by decide) ?_
    refine pw_goto (tgt := 6) dX11_runs_35 (by decide) ?_
    exact pw_lk [(0, .ref (adr 0)), (1, .int (bI opt)), (2, .int (nI (i + 1)))] ⟨rfl, rfl, congrArg (fun x => some (Value.int x)) (nI_1 i), trivial⟩ (ih (i + 1) (by omega))
/-- what a run starts with -/
def rIni (σ : St) : AR := ((0, 0, σ.2.2.1 8), pfxL 8 (inV (σ.2.2.1 1)) (σ.2.2.2.1 20), -1, 0, 0, σ.2.2.1 21)
def mRuns (σ : St) (opt : Bool) (N : Nat) : St := stA (mLays σ N) (rIter (σ.2.2.1 1) (lpt (σ.2.2.1 1) (σ.2.2.1 5) N) ((mLays σ N).2.2.1 7) (σ.2.2.1 19) opt N (1600 * N + 1) (rIni σ))
theorem r_runs {N : Nat} (hP : wfP (σ.2.2.1 1) N) (opt : Bool) (h3 : opt = true → st3ok (σ.2.2.1 1) (σ.2.2.1 19) N) : SpecD l G mX11_runs [.ref (adr 0), .int (bI opt)] (wp G adr LM Lf Rt σ) none (wp G adr LM Lf Rt (mRuns σ opt N)) := by
  refine spec_of (by decide) (Nat.le_of_ble_eq_true rfl) (fun sz => ?_)
  have hI : WInv (σ.2.2.1 1) N (0, 0, σ.2.2.1 8) := ⟨Nat.zero_le _, rfl, fun q => absurd q (Nat.lt_irrefl 0), fun q => absurd q (show ¬ (0 : Nat) = 2 by decide)⟩
  have hm : wmu (σ.2.2.1 1) (lpt (σ.2.2.1 1) (σ.2.2.1 5) N) N (0, 0, σ.2.2.1 8) < 1600 * N + 1 := by
    unfold wmu
    rw [if_pos (show (lsc (σ.2.2.1 1) 0).1 = 0 from rfl)]
    dsimp only
    omega
  refine pw_aload_n dX11_runs_0 rfl ?_
  refine lp_cV0 (mi' := mX11_startsWalk) (As := []) (q := (RX11, TX11, 33)) dX11_runs_1 lk_RX11_198 mk_X11_startsWalk mi_X11_startsWalk me_X11_startsWalk ⟨by decide, by decide⟩ rfl rfl (Nat.le_of_ble_eq_true rfl) rfl rfl ⟨rfl, rfl⟩ ⟨Nat.zero_le _, Nat.zero_le _⟩ (r_startsWalk hP.1 hP.2.1 hP.2.2.1) ?_
  refine pw_iconst (v := 0) dX11_runs_4 rfl ?_
  refine pw_istore_n dX11_runs_5 (by decide) ?_
  refine pw_lk [(0, .ref (adr 0)), (1, .int (bI opt)), (2, .int (nI 0))] ⟨rfl, rfl, rfl, trivial⟩ (pw_st ?_ (run_vals (τ := mLays σ N) opt (0, 0, σ.2.2.1 8) (σ.1 0 30) (σ.1 0 31) (σ.1 0 32) (σ.2.2.1 21) (σ.2.2.2.1 20) ?_ 8 0 rfl))
  · rw [stR_of, pfxL_0]
    rfl
  · refine pw_aload_n dX11_runs_38 rfl ?_
    refine pw_iconst (v := -1) dX11_runs_39 rfl ?_
    refine lp_puti dX11_runs_40 fp_RX11_249 rfl rfl rfl rfl ?_
    refine pw_aload_n dX11_runs_43 rfl ?_
    refine pw_iconst (v := 0) dX11_runs_44 rfl ?_
    refine lp_puti dX11_runs_45 fp_RX11_242 rfl rfl rfl rfl ?_
    refine pw_aload_n dX11_runs_48 rfl ?_
    refine pw_iconst (v := 0) dX11_runs_49 rfl ?_
    refine lp_puti dX11_runs_50 fp_RX11_252 rfl rfl rfl rfl ?_
    refine pw_st (σ' := stA (mLays σ N) (rIni σ)) ?_ (run_loop (τ := mLays σ N) (f0 := σ.2.2.1 5) hP rfl opt h3 (1600 * N + 1) (rIni σ) hI hm rfl)
    rw [stR_30, stR_31, stR_32]
    rfl
end R4
