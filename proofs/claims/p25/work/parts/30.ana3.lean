def aMid (al : Nat → Int32) (x : AN) : AN := if 4 ≤ kdA al x.1.1 then (x.1, x.2.1, x.2.2.1, x.2.2.2.1, x.2.2.2.2.1, x.2.2.2.2.2.1, x.2.2.2.2.2.2.1, x.2.2.2.2.2.2.2.1, x.2.2.2.2.2.2.2.2.1, 1)
  else (x.1, (rngS al x.1.1 x).2.2.1, (rngS al x.1.1 x).2.2.2.1, (rngS al x.1.1 x).2.2.2.2.1, (rngS al x.1.1 x).2.2.2.2.2.1, (rngS al x.1.1 x).2.2.2.2.2.2.1, (rngS al x.1.1 x).2.2.2.2.2.2.2.1, (rngS al x.1.1 x).2.2.2.2.2.2.2.2.1, (rngS al x.1.1 x).2.2.2.2.2.2.2.2.2.1, bI (rngS al x.1.1 x).1)
def aStep (al pt : Nat → Int32) (x : AN) : AN := (wnext al pt x.1, (aMid al x).2)
def aIter (al pt : Nat → Int32) (N : Nat) : Nat → AN → AN
  | 0, x => x
  | n + 1, x => if x.1.1 < N ∧ ¬ x.2.2.2.2.2.2.2.2.2 = 0 then aIter al pt N n (aStep al pt x) else x
theorem aMid_1 {al : Nat → Int32} {x : AN} : (aMid al x).1 = x.1 := by unfold aMid; split <;> rfl
section A3
variable {l : Launch} {G : cxG} {adr : Nat → Nat} {Lf Rt : va_W} {τ : St}
theorem ana_mid {sz : Nat} {w0 : va_W} {fin : OC → Prop} {N : Nat} (hP : wfP (τ.2.2.1 1) N) (x : AN) (hx : x.1.1 < N)
    (kk : PW l G mX11_analyses w0 sz fin 134 [(0, .ref (adr 0))] [] 0 0 (wp G adr LM Lf Rt (stN τ (aMid (τ.2.2.1 1) x)))) :
    PW l G mX11_analyses w0 sz fin 103 [(0, .ref (adr 0))] [] 0 0 (wp G adr LM Lf Rt (stN τ x)) := by
  have hw30 : x.1.1 < 30 := by have := hP.1; omega
  have hil := r_isLoop (l := l) (G := G) (adr := adr) (Lf := Lf) (Rt := Rt) (σ := stN τ x) x.1.1 hw30
  unfold aMid at kk
  by_cases hl : 4 ≤ kdA (τ.2.2.1 1) x.1.1
  · rw [if_pos hl] at kk
    refine pw_aload_n dX11_analyses_103 rfl ?_
    refine pw_aload_n dX11_analyses_104 rfl ?_
    refine pw_aload_n dX11_analyses_105 rfl ?_
    refine lp_geti dX11_analyses_106 fp_RX11_174.FL rfl rfl ?_
    refine lp_cV1 (mi' := mX11_isLoop) (As := [_]) (q := (RX11, TX11, 33)) dX11_analyses_109 lk_RX11_163 mk_X11_isLoop mi_X11_isLoop me_X11_isLoop ⟨by decide, by decide⟩ rfl rfl (Nat.le_of_ble_eq_true rfl) rfl rfl ⟨rfl, rfl⟩ ⟨Nat.zero_le _, Nat.zero_le _⟩ hil ?_
    rw [decide_eq_true (show 4 ≤ (stN τ x).2.2.1 1 (1 + 4 * x.1.1) from hl)]
    refine pw_if_ne 126 dX11_analyses_112 (by decide) (fun c_112 => ?_) (fun c_112 => absurd (show (1 : Int32) = 0 from c_112) (by decide))
    refine pw_iconst (v := 1) dX11_analyses_126 rfl ?_
    refine pw_goto (tgt := 131) dX11_analyses_127 (by decide) ?_
    refine lp_puti dX11_analyses_131 fp_RX11_201 rfl rfl rfl rfl ?_
    refine pw_st (σ' := stN τ (x.1, x.2.1, x.2.2.1, x.2.2.2.1, x.2.2.2.2.1, x.2.2.2.2.2.1, x.2.2.2.2.2.2.1, x.2.2.2.2.2.2.2.1, x.2.2.2.2.2.2.2.2.1, 1)) (stN_24 τ x.1 x.2.1 x.2.2.1 x.2.2.2.1 x.2.2.2.2.1 x.2.2.2.2.2.1 x.2.2.2.2.2.2.1 x.2.2.2.2.2.2.2.1 x.2.2.2.2.2.2.2.2.1 x.2.2.2.2.2.2.2.2.2 1) ?_
    exact kk
  · rw [if_neg hl] at kk
    obtain ⟨g1, g3, g4⟩ := hP.2.2.2.2.1 x.1.1 hx hl
    have hrg := r_ranges (l := l) (G := G) (adr := adr) (Lf := Lf) (Rt := Rt) (τ := τ) x.1.1 hw30 x g1 g3 g4
    have e1 : (rngS (τ.2.2.1 1) x.1.1 x).2.1 = x.1 := rfl
    generalize rngS (τ.2.2.1 1) x.1.1 x = q at hrg kk e1
    rw [← e1] at kk
    cases hq : q.1
    · rw [hq] at hrg kk
      refine pw_aload_n dX11_analyses_103 rfl ?_
      refine pw_aload_n dX11_analyses_104 rfl ?_
      refine pw_aload_n dX11_analyses_105 rfl ?_
      refine lp_geti dX11_analyses_106 fp_RX11_174.FL rfl rfl ?_
      refine lp_cV1 (mi' := mX11_isLoop) (As := [_]) (q := (RX11, TX11, 33)) dX11_analyses_109 lk_RX11_163 mk_X11_isLoop mi_X11_isLoop me_X11_isLoop ⟨by decide, by decide⟩ rfl rfl (Nat.le_of_ble_eq_true rfl) rfl rfl ⟨rfl, rfl⟩ ⟨Nat.zero_le _, Nat.zero_le _⟩ hil ?_
      rw [decide_eq_false (show ¬ 4 ≤ (stN τ x).2.2.1 1 (1 + 4 * x.1.1) from hl)]
      refine pw_if_ne 126 dX11_analyses_112 (by decide) (fun c_112 => absurd c_112 (fun z => z rfl)) (fun c_112 => ?_)
      refine pw_aload_n dX11_analyses_115 rfl ?_
      refine pw_aload_n dX11_analyses_116 rfl ?_
      refine lp_geti dX11_analyses_117 fp_RX11_174.FL rfl rfl ?_
      refine lp_cV1 (mi' := mX11_ranges) (As := [_]) (q := (RX11, TX11, 33)) dX11_analyses_120 lk_RX11_208 mk_X11_ranges mi_X11_ranges me_X11_ranges ⟨by decide, by decide⟩ rfl rfl (Nat.le_of_ble_eq_true rfl) rfl rfl ⟨rfl, rfl⟩ ⟨Nat.zero_le _, Nat.zero_le _⟩ hrg ?_
      refine pw_if_eq 130 dX11_analyses_123 (by decide) (fun c_123 => ?_) (fun c_123 => absurd rfl c_123)
      refine pw_iconst (v := 0) dX11_analyses_130 rfl ?_
      refine lp_puti dX11_analyses_131 fp_RX11_201 rfl rfl rfl rfl ?_
      refine pw_st (σ' := stN τ (q.2.1, q.2.2.1, q.2.2.2.1, q.2.2.2.2.1, q.2.2.2.2.2.1, q.2.2.2.2.2.2.1, q.2.2.2.2.2.2.2.1, q.2.2.2.2.2.2.2.2.1, q.2.2.2.2.2.2.2.2.2.1, 0)) (stN_24 τ q.2.1 q.2.2.1 q.2.2.2.1 q.2.2.2.2.1 q.2.2.2.2.2.1 q.2.2.2.2.2.2.1 q.2.2.2.2.2.2.2.1 q.2.2.2.2.2.2.2.2.1 q.2.2.2.2.2.2.2.2.2.1 q.2.2.2.2.2.2.2.2.2.2 0) ?_
      exact kk
    · rw [hq] at hrg kk
      refine pw_aload_n dX11_analyses_103 rfl ?_
      refine pw_aload_n dX11_analyses_104 rfl ?_
      refine pw_aload_n dX11_analyses_105 rfl ?_
      refine lp_geti dX11_analyses_106 fp_RX11_174.FL rfl rfl ?_
      refine lp_cV1 (mi' := mX11_isLoop) (As := [_]) (q := (RX11, TX11, 33)) dX11_analyses_109 lk_RX11_163 mk_X11_isLoop mi_X11_isLoop me_X11_isLoop ⟨by decide, by decide⟩ rfl rfl (Nat.le_of_ble_eq_true rfl) rfl rfl ⟨rfl, rfl⟩ ⟨Nat.zero_le _, Nat.zero_le _⟩ hil ?_
      rw [decide_eq_false (show ¬ 4 ≤ (stN τ x).2.2.1 1 (1 + 4 * x.1.1) from hl)]
      refine pw_if_ne 126 dX11_analyses_112 (by decide) (fun c_112 => absurd c_112 (fun z => z rfl)) (fun c_112 => ?_)
      refine pw_aload_n dX11_analyses_115 rfl ?_
      refine pw_aload_n dX11_analyses_116 rfl ?_
      refine lp_geti dX11_analyses_117 fp_RX11_174.FL rfl rfl ?_
      refine lp_cV1 (mi' := mX11_ranges) (As := [_]) (q := (RX11, TX11, 33)) dX11_analyses_120 lk_RX11_208 mk_X11_ranges mi_X11_ranges me_X11_ranges ⟨by decide, by decide⟩ rfl rfl (Nat.le_of_ble_eq_true rfl) rfl rfl ⟨rfl, rfl⟩ ⟨Nat.zero_le _, Nat.zero_le _⟩ hrg ?_
      refine pw_if_eq 130 dX11_analyses_123 (by decide) (fun c_123 => absurd (show (1 : Int32) = 0 from c_123) (by decide)) (fun c_123 => ?_)
      refine pw_iconst (v := 1) dX11_analyses_126 rfl ?_
      refine pw_goto (tgt := 131) dX11_analyses_127 (by decide) ?_
      refine lp_puti dX11_analyses_131 fp_RX11_201 rfl rfl rfl rfl ?_
      refine pw_st (σ' := stN τ (q.2.1, q.2.2.1, q.2.2.2.1, q.2.2.2.2.1, q.2.2.2.2.2.1, q.2.2.2.2.2.2.1, q.2.2.2.2.2.2.2.1, q.2.2.2.2.2.2.2.2.1, q.2.2.2.2.2.2.2.2.2.1, 1)) (stN_24 τ q.2.1 q.2.2.1 q.2.2.2.1 q.2.2.2.2.1 q.2.2.2.2.2.1 q.2.2.2.2.2.2.1 q.2.2.2.2.2.2.2.1 q.2.2.2.2.2.2.2.2.1 q.2.2.2.2.2.2.2.2.2.1 q.2.2.2.2.2.2.2.2.2.2 1) ?_
      exact kk
theorem ana_loop {sz : Nat} {w0 : va_W} {fin : OC → Prop} {N : Nat} {f0 : Nat → Int32} (hP : wfP (τ.2.2.1 1) N) (hpt : τ.2.2.1 5 = lpt (τ.2.2.1 1) f0 N) :
    ∀ (n : Nat) (x : AN), WInv (τ.2.2.1 1) N x.1 → wmu (τ.2.2.1 1) (τ.2.2.1 5) N x.1 < n →
      PW l G mX11_analyses w0 sz fin 141 [(0, .ref (adr 0))] [] 0 0 (wp G adr LM Lf Rt (stN τ (aIter (τ.2.2.1 1) (τ.2.2.1 5) N n x))) →
      PW l G mX11_analyses w0 sz fin 89 [(0, .ref (adr 0))] [] 0 0 (wp G adr LM Lf Rt (stN τ x)) := by
  intro n
  induction n with
  | zero => intro x _ h; omega
  | succ n ih =>
    intro x hI hmu kk
    have hN := hP.1
    have hxN := hI.1
    have eW : stN τ x = stW (stN τ x) x.1 := (stW_N ..).symm
    have hwk : SpecD l G mX11_walks [.ref (adr 0)] (wp G adr LM Lf Rt (stN τ x)) (some (.int (bI (decide (x.1.1 < N))))) (wp G adr LM Lf Rt (stN τ x)) := by
      have := r_walks (l := l) (G := G) (adr := adr) (Lf := Lf) (Rt := Rt) (σ := stN τ x) x.1 N hP.2.1 hN (by omega)
      rw [← eW] at this
      exact this
    unfold aIter at kk
    by_cases hlt : x.1.1 < N
    · by_cases hcp : x.2.2.2.2.2.2.2.2.2 = 0
      · rw [if_neg (fun z => z.2 hcp)] at kk
        refine pw_aload_n dX11_analyses_89 rfl ?_
        refine lp_cV1 (mi' := mX11_walks) (As := []) (q := (RX11, TX11, 33)) dX11_analyses_90 lk_RX11_205 mk_X11_walks mi_X11_walks me_X11_walks ⟨by decide, by decide⟩ rfl rfl (Nat.le_of_ble_eq_true rfl) rfl rfl ⟨rfl, rfl⟩ ⟨Nat.zero_le _, Nat.zero_le _⟩ hwk ?_
        rw [decide_eq_true hlt]
        refine pw_if_eq 141 dX11_analyses_93 (by decide) (fun c_93 => absurd (show (1 : Int32) = 0 from c_93) (by decide)) (fun c_93 => ?_)
        refine pw_aload_n dX11_analyses_96 rfl ?_
        refine lp_geti dX11_analyses_97 fp_RX11_201.FL rfl rfl ?_
        refine pw_if_eq 141 dX11_analyses_100 (by decide) (fun c_100 => ?_) (fun c_100 => absurd hcp c_100)
        exact kk
      · rw [if_pos ⟨hlt, hcp⟩] at kk
        have hnx := wnext_ok (f0 := f0) hP.2.2.1 hN hP.2.2.2.1 hI hlt
        rw [← hpt] at hnx
        have hgo : ∀ y : AN, y.1 = x.1 → SpecD l G mX11_goesOn [.ref (adr 0)] (wp G adr LM Lf Rt (stN τ y)) none (wp G adr LM Lf Rt (stN τ (wnext (τ.2.2.1 1) (τ.2.2.1 5) x.1, y.2))) := by
          intro y hy
          have e1 : stN τ y = stW (stN τ y) x.1 := by rw [← hy]; exact (stW_N ..).symm
          have e2 : stW (stN τ y) (wnext (τ.2.2.1 1) (τ.2.2.1 5) x.1) = stN τ (wnext (τ.2.2.1 1) (τ.2.2.1 5) x.1, y.2) := stW_N ..
          have h := r_goesOn (l := l) (G := G) (adr := adr) (Lf := Lf) (Rt := Rt) (σ := stN τ y) x.1 (by omega)
            (fun k4 => by rw [hI.2.1]; exact (hP.2.2.1.1 x.1.1 hlt).1 k4)
            (fun k5 => by
              have hd := (hP.2.2.1.1 x.1.1 hlt).2 k5
              have h2 := (lsc_inv hP.2.2.1 x.1.1 (by omega)).1
              obtain ⟨b, b1, b2, b3, b4⟩ := lsc_within hP.2.2.1 (show x.1.1 ≤ N by omega) hd
              refine ⟨by rw [hI.2.1]; exact hd, by rw [hI.2.1]; exact h2, b, by omega, ?_⟩
              show τ.2.2.1 5 x.1.1 = nI b
              rw [hpt]
              exact (lpt_end hP.2.2.1 hN f0 N (Nat.le_refl _) x.1.1 hlt k5 b b1 b2).1)
          rw [← e1] at h
          refine specD_eq h rfl ?_
          exact congrArg (wp G adr LM Lf Rt) e2
        have ih1 := ih (aStep (τ.2.2.1 1) (τ.2.2.1 5) x) hnx.1 (by have := hnx.2; show wmu _ _ _ (wnext _ _ _) < n; omega) kk
        have htail : PW l G mX11_analyses w0 sz fin 103 [(0, .ref (adr 0))] [] 0 0 (wp G adr LM Lf Rt (stN τ x)) := by
          refine ana_mid hP x hlt ?_
          refine pw_aload_n dX11_analyses_134 rfl ?_
          refine lp_cV0 (mi' := mX11_goesOn) (As := []) (q := (RX11, TX11, 33)) dX11_analyses_135 lk_RX11_211 mk_X11_goesOn mi_X11_goesOn me_X11_goesOn ⟨by decide, by decide⟩ rfl rfl (Nat.le_of_ble_eq_true rfl) rfl rfl ⟨rfl, rfl⟩ ⟨Nat.zero_le _, Nat.zero_le _⟩ (hgo _ aMid_1) ?_
          refine pw_goto (tgt := 89) dX11_analyses_138 (by decide) ?_
          exact ih1
        refine pw_aload_n dX11_analyses_89 rfl ?_
        refine lp_cV1 (mi' := mX11_walks) (As := []) (q := (RX11, TX11, 33)) dX11_analyses_90 lk_RX11_205 mk_X11_walks mi_X11_walks me_X11_walks ⟨by decide, by decide⟩ rfl rfl (Nat.le_of_ble_eq_true rfl) rfl rfl ⟨rfl, rfl⟩ ⟨Nat.zero_le _, Nat.zero_le _⟩ hwk ?_
        rw [decide_eq_true hlt]
        refine pw_if_eq 141 dX11_analyses_93 (by decide) (fun c_93 => absurd (show (1 : Int32) = 0 from c_93) (by decide)) (fun c_93 => ?_)
        refine pw_aload_n dX11_analyses_96 rfl ?_
        refine lp_geti dX11_analyses_97 fp_RX11_201.FL rfl rfl ?_
        refine pw_if_eq 141 dX11_analyses_100 (by decide) (fun c_100 => absurd c_100 hcp) (fun c_100 => ?_)
        exact htail
    · rw [if_neg (fun z => hlt z.1)] at kk
      refine pw_aload_n dX11_analyses_89 rfl ?_
      refine lp_cV1 (mi' := mX11_walks) (As := []) (q := (RX11, TX11, 33)) dX11_analyses_90 lk_RX11_205 mk_X11_walks mi_X11_walks me_X11_walks ⟨by decide, by decide⟩ rfl rfl (Nat.le_of_ble_eq_true rfl) rfl rfl ⟨rfl, rfl⟩ ⟨Nat.zero_le _, Nat.zero_le _⟩ hwk ?_
      rw [decide_eq_false hlt]
      refine pw_if_eq 141 dX11_analyses_93 (by decide) (fun c_93 => ?_) (fun c_93 => absurd rfl c_93)
      exact kk
def inL (al : Nat → Int32) (j : Nat) : Int64 := (al (121 + 3 * j)).toInt64
def inH (al : Nat → Int32) (j : Nat) : Int64 := (al (121 + 3 * j + 1)).toInt64
theorem ana_in {sz : Nat} {w0 : va_W} {fin : OC → Prop} (s : WS) (o9 o10 : Nat → Int64) (rc fa nf ns : Nat → Int32) (le gr : Nat → Int64) (cp : Int32)
    (kk : PW l G mX11_analyses w0 sz fin 56 [(0, .ref (adr 0))] [] 0 0 (wp G adr LM Lf Rt (stN τ (s, pfxL 8 (inL (τ.2.2.1 1)) o9, pfxL 8 (inH (τ.2.2.1 1)) o10, rc, fa, nf, ns, le, gr, cp)))) :
    ∀ (r i : Nat), i + r = 8 → PW l G mX11_analyses w0 sz fin 6 [(0, .ref (adr 0)), (1, .int (nI i))] [] 0 0 (wp G adr LM Lf Rt (stN τ (s, pfxL i (inL (τ.2.2.1 1)) o9, pfxL i (inH (τ.2.2.1 1)) o10, rc, fa, nf, ns, le, gr, cp))) := by
  intro r
  induction r with
  | zero =>
    intro i hi
    have hi : i = 8 := by omega
    subst hi
    refine pw_iload_n dX11_analyses_6 rfl ?_
    refine pw_bipush (v := 8) dX11_analyses_7 rfl ?_
    refine pw_icmp_ge 56 dX11_analyses_9 (by decide) (fun c_9 => ?_) (fun c_9 => absurd (nI_le (Nat.le_refl 8) (by decide)) c_9)
    refine pw_lk _ ?_ kk
    exact ⟨rfl, trivial⟩
  | succ r ih =>
    intro i hi
    have b0 := nI121' (v := i) (by omega)
    have b1 : vp_in (121 + 3 * nI i + 1) 145 ∧ (121 + 3 * nI i + 1).toNatClampNeg = 121 + 3 * i + 1 := nI121 (v := i) (w := 1) (by omega)
    have ei : (nI i).toNatClampNeg = i := nI_clamp (by omega)
    refine pw_iload_n dX11_analyses_6 rfl ?_
    refine pw_bipush (v := 8) dX11_analyses_7 rfl ?_
    refine pw_icmp_ge 56 dX11_analyses_9 (by decide) (fun c_9 => absurd c_9 (nI_ge (a := i) (b := 8) (by omega) (by decide))) (fun c_9 => ?_)
    refine pw_aload_n dX11_analyses_12 rfl ?_
    refine lp_getr 9 dX11_analyses_13 fp_RX11_34.FL rfl rfl rfl ?_
    refine pw_iload_n dX11_analyses_16 rfl ?_
    refine pw_aload_n dX11_analyses_17 rfl ?_
    refine lp_getr 1 dX11_analyses_18 fp_RX11_7.FL rfl rfl rfl ?_
    refine pw_bipush (v := 121) dX11_analyses_21 rfl ?_
    refine pw_iconst (v := 3) dX11_analyses_23 rfl ?_
    refine pw_iload_n dX11_analyses_24 rfl ?_
    refine pw_imul dX11_analyses_25 ?_
    refine pw_iadd dX11_analyses_26 ?_
    refine lp_iald dX11_analyses_27 rfl b0.1 ?_
    rw [b0.2]
    refine pw_i2l dX11_analyses_28 ?_
    refine lp_last dX11_analyses_29 rfl (vp_in_nI (by omega) (by decide)) ?_
    refine pw_st (σ' := stN τ (s, pfxL (i + 1) (inL (τ.2.2.1 1)) o9, pfxL i (inH (τ.2.2.1 1)) o10, rc, fa, nf, ns, le, gr, cp)) ?_ ?_
    · rw [ei, stN_9]
      exact congrArg (fun z => stN τ (s, z, pfxL i (inH (τ.2.2.1 1)) o10, rc, fa, nf, ns, le, gr, cp)) (pfxL_upd i (inL (τ.2.2.1 1)) o9)
    refine pw_aload_n dX11_analyses_30 rfl ?_
    refine lp_getr 10 dX11_analyses_31 fp_RX11_38.FL rfl rfl rfl ?_
    refine pw_iload_n dX11_analyses_34 rfl ?_
    refine pw_aload_n dX11_analyses_35 rfl ?_
    refine lp_getr 1 dX11_analyses_36 fp_RX11_7.FL rfl rfl rfl ?_
    refine pw_bipush (v := 121) dX11_analyses_39 rfl ?_
    refine pw_iconst (v := 3) dX11_analyses_41 rfl ?_
    refine pw_iload_n dX11_analyses_42 rfl ?_
    refine pw_imul dX11_analyses_43 ?_
    refine pw_iadd dX11_analyses_44 ?_
    refine pw_iconst (v := 1) dX11_analyses_45 rfl ?_
    refine pw_iadd dX11_analyses_46 ?_
    refine lp_iald dX11_analyses_47 rfl b1.1 ?_
    rw [b1.2]
    refine pw_i2l dX11_analyses_48 ?_
    refine lp_last dX11_analyses_49 rfl (vp_in_nI (by omega) (by decide)) ?_
    refine pw_st (σ' := stN τ (s, pfxL (i + 1) (inL (τ.2.2.1 1)) o9, pfxL (i + 1) (inH (τ.2.2.1 1)) o10, rc, fa, nf, ns, le, gr, cp)) ?_ ?_
    · rw [ei, stN_10]
      exact congrArg (fun z => stN τ (s, pfxL (i + 1) (inL (τ.2.2.1 1)) o9, z, rc, fa, nf, ns, le, gr, cp)) (pfxL_upd i (inH (τ.2.2.1 1)) o10)
    refine pw_iinc dX11_analyses_50 rfl (by decide) ?_
    refine pw_goto (tgt := 6) dX11_analyses_53 (by decide) ?_
    exact pw_lk [(0, .ref (adr 0)), (1, .int (nI (i + 1)))] ⟨rfl, congrArg (fun x => some (Value.int x)) (nI_1 i), trivial⟩ (ih (i + 1) (by omega))
theorem ana_cl {sz : Nat} {w0 : va_W} {fin : OC → Prop} (s : WS) (lo hi : Nat → Int64) (o11 o12 nf ns : Nat → Int32) (le gr : Nat → Int64) (cp : Int32)
    (kk : PW l G mX11_analyses w0 sz fin 84 [(0, .ref (adr 0))] [] 0 0 (wp G adr LM Lf Rt (stN τ (s, lo, hi, pfx 30 (fun _ => 0) o11, pfx 30 (fun _ => 0) o12, nf, ns, le, gr, cp)))) :
    ∀ (r i : Nat), i + r = 30 → PW l G mX11_analyses w0 sz fin 58 [(0, .ref (adr 0)), (1, .int (nI i))] [] 0 0 (wp G adr LM Lf Rt (stN τ (s, lo, hi, pfx i (fun _ => 0) o11, pfx i (fun _ => 0) o12, nf, ns, le, gr, cp))) := by
  intro r
  induction r with
  | zero =>
    intro i hi
    have hi : i = 30 := by omega
    subst hi
    refine pw_iload_n dX11_analyses_58 rfl ?_
    refine pw_bipush (v := 30) dX11_analyses_59 rfl ?_
    refine pw_icmp_ge 84 dX11_analyses_61 (by decide) (fun c_61 => ?_) (fun c_61 => absurd (nI_le (Nat.le_refl 30) (by decide)) c_61)
    refine pw_lk _ ?_ kk
    exact ⟨rfl, trivial⟩
  | succ r ih =>
    intro i hi2
    have ei : (nI i).toNatClampNeg = i := nI_clamp (by omega)
    refine pw_iload_n dX11_analyses_58 rfl ?_
    refine pw_bipush (v := 30) dX11_analyses_59 rfl ?_
    refine pw_icmp_ge 84 dX11_analyses_61 (by decide) (fun c_61 => absurd c_61 (nI_ge (a := i) (b := 30) (by omega) (by decide))) (fun c_61 => ?_)
    refine pw_aload_n dX11_analyses_64 rfl ?_
    refine lp_getr 11 dX11_analyses_65 fp_RX11_41.FL rfl rfl rfl ?_
    refine pw_iload_n dX11_analyses_68 rfl ?_
    refine pw_iconst (v := 0) dX11_analyses_69 rfl ?_
    refine lp_zast dX11_analyses_70 rfl (vp_in_nI (by omega) (by decide)) rfl ?_
    refine pw_st (σ' := stN τ (s, lo, hi, pfx (i + 1) (fun _ => 0) o11, pfx i (fun _ => 0) o12, nf, ns, le, gr, cp)) ?_ ?_
    · rw [ei, stN_11]
      exact congrArg (fun z => stN τ (s, lo, hi, z, pfx i (fun _ => 0) o12, nf, ns, le, gr, cp)) (pfx_upd i (fun _ => 0) o11)
    refine pw_aload_n dX11_analyses_71 rfl ?_
    refine lp_getr 12 dX11_analyses_72 fp_RX11_45.FL rfl rfl rfl ?_
    refine pw_iload_n dX11_analyses_75 rfl ?_
    refine pw_iconst (v := 0) dX11_analyses_76 rfl ?_
    refine lp_zast dX11_analyses_77 rfl (vp_in_nI (by omega) (by decide)) rfl ?_
    refine pw_st (σ' := stN τ (s, lo, hi, pfx (i + 1) (fun _ => 0) o11, pfx (i + 1) (fun _ => 0) o12, nf, ns, le, gr, cp)) ?_ ?_
    · rw [ei, stN_12]
      exact congrArg (fun z => stN τ (s, lo, hi, pfx (i + 1) (fun _ => 0) o11, z, nf, ns, le, gr, cp)) (pfx_upd i (fun _ => 0) o12)
    refine pw_iinc dX11_analyses_78 rfl (by decide) ?_
    refine pw_goto (tgt := 58) dX11_analyses_81 (by decide) ?_
    exact pw_lk [(0, .ref (adr 0)), (1, .int (nI (i + 1)))] ⟨rfl, congrArg (fun x => some (Value.int x)) (nI_1 i), trivial⟩ (ih (i + 1) (by omega))
end A3
