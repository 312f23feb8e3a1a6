/-! p25: ranges hold what runs do, so a block without open checks holds no failing input -/
theorem lin1 {a b x y : Int} (h1 : a ≤ x) (h2 : x ≤ b) : min (a * y) (b * y) ≤ x * y ∧ x * y ≤ max (a * y) (b * y) := by
  rcases Int.le_total 0 y with hy | hy
  · have e1 := Int.mul_le_mul_of_nonneg_right h1 hy
    have e2 := Int.mul_le_mul_of_nonneg_right h2 hy
    omega
  · have e1 := Int.mul_le_mul_of_nonpos_right h1 hy
    have e2 := Int.mul_le_mul_of_nonpos_right h2 hy
    omega
theorem mul4 {a b x c d y : Int} (h1 : a ≤ x) (h2 : x ≤ b) (h3 : c ≤ y) (h4 : y ≤ d) : min (min (a * c) (a * d)) (min (b * c) (b * d)) ≤ x * y ∧ x * y ≤ max (max (a * c) (a * d)) (max (b * c) (b * d)) := by
  have e1 := lin1 (y := y) h1 h2
  have e2 := lin1 (y := a) h3 h4
  have e3 := lin1 (y := b) h3 h4
  rw [Int.mul_comm c a, Int.mul_comm d a, Int.mul_comm y a] at e2
  rw [Int.mul_comm c b, Int.mul_comm d b, Int.mul_comm y b] at e3
  generalize x * y = p at e1 ⊢
  generalize a * y = p1 at e1 e2
  generalize b * y = p2 at e1 e3
  generalize a * c = q1 at e2 ⊢
  generalize a * d = q2 at e2 ⊢
  generalize b * c = q3 at e3 ⊢
  generalize b * d = q4 at e3 ⊢
  omega
/-- the values lie within the ranges -/
def InR (lo hi u : Nat → Int64) : Prop := ∀ w, w < 8 → (lo w).toInt ≤ (u w).toInt ∧ (u w).toInt ≤ (hi w).toInt
theorem vOf_in {lo hi u : Nat → Int64} (h : InR lo hi u) (hl : lhOK lo hi) {a : Int32} (ha : okOp a) : (vOf lo a).toInt ≤ (vOf u a).toInt ∧ (vOf u a).toInt ≤ (vOf hi a).toInt ∧ iR (vOf u a) := by
  have hv := vOf_lh hl ha
  suffices q : (vOf lo a).toInt ≤ (vOf u a).toInt ∧ (vOf u a).toInt ≤ (vOf hi a).toInt by
    refine ⟨q.1, q.2, ?_, ?_⟩
    · have := hv.1.1; omega
    · have := hv.2.1.2; omega
  unfold vOf
  rcases ha with ⟨w, hw, rfl⟩ | ha
  · have e : nI w < 8 := nI_lt (b := 8) hw (by decide)
    rw [if_pos e, if_pos e, if_pos e, show tN (nI w) = w from nI_clamp (by omega)]
    exact h w hw
  · rw [if_neg ha, if_neg ha, if_neg ha]
    exact ⟨Int.le_refl _, Int.le_refl _⟩
theorem iR0 : iR 0 := by unfold iR; decide
theorem ex_in {al : Nat → Int32} {N i : Nat} {lo hi u : Nat → Int64} (hW : wfP al N) (hi' : i < N) (hl : ¬ 4 ≤ kdA al i) (h : lhOK lo hi) (hu : InR lo hi u) : (rgF al lo hi i).toInt ≤ (exV al u i).toInt ∧ (exV al u i).toInt ≤ (rgT al lo hi i).toInt := by
  obtain ⟨-, g3, g4⟩ := hW.2.2.2.2.1 i hi' hl
  obtain ⟨a1, a2, a3⟩ := vOf_in hu h g3
  obtain ⟨b1, b2, -⟩ := vOf_lh h g3
  have k := kd03 hW hi' hl
  by_cases k0 : kdA al i = 0
  · unfold rgF rgT exV rgC
    rw [k0]
    simp +decide only [if_true, if_false]
    rw [add_I b1 iR0, add_I b2 iR0, add_I a3 iR0]
    omega
  · obtain ⟨c1, c2, c3⟩ := vOf_in hu h (g4 k0)
    obtain ⟨d1, d2, -⟩ := vOf_lh h (g4 k0)
    rcases k with k | k | k | k
    · exact absurd k k0
    · unfold rgF rgT exV rgC
      rw [k]
      simp +decide only [if_true, if_false]
      rw [add_I b1 d1, add_I b2 d2, add_I a3 c3]
      omega
    · unfold rgF rgT exV rgC
      rw [k]
      simp +decide only [if_true, if_false]
      rw [sub_I b1 d2, sub_I b2 d1, sub_I a3 c3]
      omega
    · unfold rgF rgT exV rgC
      rw [k]
      simp +decide only [if_true, if_false]
      rw [lsr_I, lsr_I, lsr_I, gtr_I, gtr_I, gtr_I, mul_I b1 d1, mul_I b1 d2, mul_I b2 d1, mul_I b2 d2, mul_I a3 c3]
      exact mul4 a1 a2 c1 c2
theorem AInv_step {al pt : Nat → Int32} {N : Nat} {x : AN} (hW : wfP al N) (hx : x.1.1 < N) (hI : AInv al N x) : AInv al N (aStep al pt x) := AInv_mid hW hx hI
theorem AInv_iter {al pt : Nat → Int32} {N : Nat} (hW : wfP al N) : ∀ n (x : AN), AInv al N x → AInv al N (aIter al pt N n x) := by
  intro n
  induction n with
  | zero => intro x h; exact h
  | succ n ih =>
    intro x h
    rw [aIter]
    split
    · rename_i q; exact ih _ (AInv_step hW q.1 h)
    · exact h
theorem flag_mid {al : Nat → Int32} {N : Nat} {x : AN} (hI : AInv al N x) {j : Nat} (hj : j < 30) (h : (aMid al x).2.2.2.2.1 j = 0) : x.2.2.2.2.1 j = 0 := by
  unfold aMid at h
  split at h
  · exact h
  · refine Decidable.byContradiction (fun hn => ?_)
    have hr := (hI.2.1 j hj).2.2.1 hn
    dsimp only [rngS] at h
    unfold upd at h
    split at h
    · rename_i e
      subst e
      rw [decide_eq_true (Or.inl ⟨hr, hn⟩)] at h
      exact absurd h (by decide)
    · exact hn h
theorem flag_iter {al pt : Nat → Int32} {N : Nat} (hW : wfP al N) : ∀ n (x : AN), AInv al N x → (∀ j, j < 30 → (aIter al pt N n x).2.2.2.2.1 j = 0) → ∀ j, j < 30 → x.2.2.2.2.1 j = 0 := by
  intro n
  induction n with
  | zero => intro x _ h; exact h
  | succ n ih =>
    intro x hI h j hj
    rw [aIter] at h
    split at h
    · rename_i q
      exact flag_mid hI hj (ih (aStep al pt x) (AInv_step hW q.1 hI) h j hj)
    · exact h j hj
theorem wnext_congr {al al' pt : Nat → Int32} (h : ∀ k, k < 121 → al k = al' k) {s : WS} (hs : s.1 < 30) : wnext al pt s = wnext al' pt s := by
  have hk : kdA al s.1 = kdA al' s.1 := h (1 + 4 * s.1) (by omega)
  unfold wnext
  rw [hk, h (1 + 4 * s.1 + 1) (by omega)]
theorem exV_congr {al al' : Nat → Int32} (h : ∀ k, k < 121 → al k = al' k) {i : Nat} (hi : i < 30) (u : Nat → Int64) : exV al u i = exV al' u i := by
  have hk : kdA al i = kdA al' i := h (1 + 4 * i) (by omega)
  unfold exV
  rw [hk, h (1 + 4 * i + 2) (by omega), h (1 + 4 * i + 3) (by omega)]
theorem sim {a1 a2 pt z1 z2 : Nat → Int32} {N : Nat} (hW : wfP a1 N) (h12 : ∀ k, k < 121 → a1 k = a2 k) : ∀ n (xa : AN) (xr : AR), xa.1 = xr.1 → InR xa.2.1 xa.2.2.1 xr.2.1 → xr.2.2.1 = -1 → ¬ xa.2.2.2.2.2.2.2.2.2 = 0 → AInv a1 N xa → (∀ j, j < 30 → (aIter a1 pt N n xa).2.2.2.2.1 j = 0) → (rIter a2 pt z1 z2 false N n xr).2.2.1 = -1 := by
  intro n
  induction n with
  | zero => intro xa xr _ _ h3 _ _ _; exact h3
  | succ n ih =>
    intro xa xr h1 h2 h3 h4 hI hF
    have hN := hW.1
    rw [rIter]
    by_cases hx : xr.1.1 < N
    · rw [if_pos ⟨hx, h3⟩]
      have hxa : xa.1.1 < N := by rw [h1]; exact hx
      rw [aIter, if_pos ⟨hxa, h4⟩] at hF
      have hI2 := AInv_step (pt := pt) hW hxa hI
      have hF2 := flag_iter hW n _ hI2 hF
      have hw : wnext a1 pt xa.1 = wnext a2 pt xr.1 := by rw [h1]; exact wnext_congr h12 (by omega)
      have hk : kdA a1 xa.1.1 = kdA a2 xr.1.1 := by rw [h1]; exact h12 (1 + 4 * xr.1.1) (by omega)
      have hpre : rPre a2 pt z1 z2 false xr = xr := by
        unfold rPre
        rw [if_neg (fun q => absurd q.2 (by decide))]
      by_cases hl : 4 ≤ kdA a1 xa.1.1
      · have em : (aMid a1 xa).2 = (xa.2.1, xa.2.2.1, xa.2.2.2.1, xa.2.2.2.2.1, xa.2.2.2.2.2.1, xa.2.2.2.2.2.2.1, xa.2.2.2.2.2.2.2.1, xa.2.2.2.2.2.2.2.2.1, 1) := by
          unfold aMid; rw [if_pos hl]
        have er : (rMid a2 z2 false xr) = xr := by
          unfold rMid; rw [if_pos (by rw [← hk]; exact hl)]
        refine ih (aStep a1 pt xa) (rStep a2 pt z1 z2 false xr) hw ?_ ?_ ?_ hI2 hF
        · show InR (aMid a1 xa).2.1 (aMid a1 xa).2.2.1 (rMid a2 z2 false (rPre a2 pt z1 z2 false xr)).2.1
          rw [hpre, er, em]; exact h2
        · show (rMid a2 z2 false (rPre a2 pt z1 z2 false xr)).2.2.1 = -1
          rw [hpre, er]; exact h3
        · show ¬ (aMid a1 xa).2.2.2.2.2.2.2.2.2 = 0
          rw [em]; exact (by decide : ¬ (1 : Int32) = 0)
      · have hr := ex_in hW hxa hl hI.1 h2
        have hle := rg_le hW hxa hl hI.1
        have hfi : (aMid a1 xa).2.2.2.2.1 xa.1.1 = 0 := hF2 xa.1.1 (by omega)
        have hnf : ¬ (rgF a1 xa.2.1 xa.2.2.1 xa.1.1 < -2147483648 ∨ 2147483647 < rgT a1 xa.2.1 xa.2.2.1 xa.1.1) := by
          intro q
          unfold aMid at hfi
          rw [if_neg hl] at hfi
          dsimp only [rngS] at hfi
          unfold upd at hfi
          rw [if_pos rfl, decide_eq_true (Or.inr q)] at hfi
          exact absurd hfi (by decide)
        obtain ⟨fF, fT⟩ := (rng_in hle).mpr hnf
        obtain ⟨eF, eT⟩ := cut_id fF fT
        have hFT : rgF a1 xa.2.1 xa.2.2.1 xa.1.1 ≤ rgT a1 xa.2.1 xa.2.2.1 xa.1.1 := Int64.le_iff_toInt_le.mpr hle
        have eV : exV a2 xr.2.1 xr.1.1 = exV a1 xr.2.1 xa.1.1 := by rw [h1]; exact (exV_congr h12 (by omega) _).symm
        have hV : isI (exV a2 xr.2.1 xr.1.1) = true := by
          rw [isI_iff, eV]
          exact ⟨Int.le_trans fF.1 hr.1, Int.le_trans hr.2 fT.2⟩
        have er : rMid a2 z2 false xr = (xr.1, vp_updL xr.2.1 (tN (a2 (1 + 4 * xr.1.1 + 1))) (exV a2 xr.2.1 xr.1.1), xr.2.2.1, xr.2.2.2.1 + bI (chkd a2 z2 xr.2.2.2.2.2 false xr.1.1), xr.2.2.2.2.1 + 1, xr.2.2.2.2.2) := by
          unfold rMid
          rw [if_neg (by rw [← hk]; exact hl), if_neg (fun q => absurd (q.2.symm.trans hV) (by decide))]
        have e1 : (aMid a1 xa).2.1 = vp_updL xa.2.1 (tN (a1 (1 + 4 * xa.1.1 + 1))) (rgF a1 xa.2.1 xa.2.2.1 xa.1.1) := by
          unfold aMid; rw [if_neg hl]; dsimp only [rngS]; rw [eF, eT, if_pos hFT]
        have e2 : (aMid a1 xa).2.2.1 = vp_updL xa.2.2.1 (tN (a1 (1 + 4 * xa.1.1 + 1))) (rgT a1 xa.2.1 xa.2.2.1 xa.1.1) := by
          unfold aMid; rw [if_neg hl]; dsimp only [rngS]; rw [eF, eT, if_pos hFT]
        have e3 : (aMid a1 xa).2.2.2.2.2.2.2.2.2 = 1 := by
          unfold aMid; rw [if_neg hl]; dsimp only [rngS]; rw [eF, eT, decide_eq_true hFT]; rfl
        have ed : a2 (1 + 4 * xr.1.1 + 1) = a1 (1 + 4 * xa.1.1 + 1) := by rw [h1]; exact (h12 _ (by omega)).symm
        refine ih (aStep a1 pt xa) (rStep a2 pt z1 z2 false xr) hw ?_ ?_ ?_ hI2 hF
        · show InR (aMid a1 xa).2.1 (aMid a1 xa).2.2.1 (rMid a2 z2 false (rPre a2 pt z1 z2 false xr)).2.1
          rw [hpre, er, e1, e2]
          dsimp only
          rw [ed, eV]
          intro w hw
          unfold vp_updL
          by_cases q : w = tN (a1 (1 + 4 * xa.1.1 + 1))
          · rw [if_pos q, if_pos q, if_pos q]; exact hr
          · rw [if_neg q, if_neg q, if_neg q]; exact h2 w hw
        · show (rMid a2 z2 false (rPre a2 pt z1 z2 false xr)).2.2.1 = -1
          rw [hpre, er]; exact h3
        · show ¬ (aMid a1 xa).2.2.2.2.2.2.2.2.2 = 0
          rw [e3]; decide
    · rw [if_neg (fun q => hx q.1)]; exact h3
theorem cntF_zero {f : Nat → Int32} : ∀ n, cntF f n = 0 → ∀ j, j < n → f j = 0 := by
  intro n
  induction n with
  | zero => intro _ j hj; omega
  | succ n ih =>
    intro h j hj
    have h : cntF f n + (if f n = 0 then 0 else 1) = 0 := h
    rcases Nat.lt_or_ge j n with q | q
    · exact ih (by omega) j q
    · rw [show j = n by omega]
      refine Decidable.byContradiction (fun hn => ?_)
      rw [if_neg hn] at h
      omega
theorem fs_all {al : Nat → Int32} {N v : Nat} (hW : wfP al N) (hv : v < 8) : FS al N v := by
  intro lo hi x h1 h2 h0
  have hN := hW.1
  have l1 : ∀ k, k < 121 → al k = alW (alN al) v lo hi k := fun k hk => (alN_lt k hk).trans (alW_lt k hk)
  have l2 : ∀ k, k < 121 → al k = upd al (121 + 3 * v + 2) x k := fun k hk => by unfold upd; rw [if_neg (by omega)]
  have l12 : ∀ k, k < 121 → alW (alN al) v lo hi k = upd al (121 + 3 * v + 2) x k := fun k hk => (l1 k hk).symm.trans (l2 k hk)
  have hW1 : wfP (alW (alN al) v lo hi) N := wfP_congr l1 hW
  have hlh : lo ≤ hi := Int32.le_trans h1 h2
  have hI0 := AInv_ini (al := alW (alN al) v lo hi) (N := N) (alW_ok alN_ok hlh)
  have hI := AInv_iter (pt := cPt (alW (alN al) v lo hi) N) hW1 (1600 * N + 1) _ hI0
  have hc := opn_cnt hN (show AInv (alW (alN al) v lo hi) N (cAna (alW (alN al) v lo hi) N) from hI)
  have hb := cntF_le (f := (cAna (alW (alN al) v lo hi) N).2.2.2.2.1) 30
  rw [hc, Int32.lt_iff_toInt_lt, nI_toInt (by omega)] at h0
  have e0 : (0 : Int32).toInt = 0 := rfl
  have hz := cntF_zero (f := (cAna (alW (alN al) v lo hi) N).2.2.2.2.1) 30 (by omega)
  have hpt : cPt (alW (alN al) v lo hi) N = cPt (upd al (121 + 3 * v + 2) x) N := lpt_congr (al := alW (alN al) v lo hi) (al' := upd al (121 + 3 * v + 2) x) (fun i hi => l12 (1 + 4 * i) (by omega)) _ N hN
  unfold cRun
  rw [← hpt]
  refine sim hW1 l12 (1600 * N + 1) (cIni (alW (alN al) v lo hi)) _ rfl ?_ rfl (by show ¬ (1 : Int32) = 0; decide) hI0 hz
  intro w hw
  show (inL (alW (alN al) v lo hi) w).toInt ≤ (inV (upd al (121 + 3 * v + 2) x) w).toInt ∧ (inV (upd al (121 + 3 * v + 2) x) w).toInt ≤ (inH (alW (alN al) v lo hi) w).toInt
  unfold inL inH inV
  rw [Int32.toInt_toInt64, Int32.toInt_toInt64, Int32.toInt_toInt64, (alW_v w).1, (alW_v w).2]
  by_cases e : w = v
  · rw [if_pos e, if_pos e]
    subst e
    rw [show upd al (121 + 3 * w + 2) x (121 + 3 * w + 2) = x from if_pos rfl]
    exact ⟨Int32.le_iff_toInt_le.mp h1, Int32.le_iff_toInt_le.mp h2⟩
  · rw [if_neg e, if_neg e, (alN_v w).1, (alN_v w).2, show upd al (121 + 3 * v + 2) x (121 + 3 * w + 2) = al (121 + 3 * w + 2) from if_neg (by omega)]
    exact ⟨Int.le_refl _, Int.le_refl _⟩
theorem sm_failingInputE {l : Launch} {G : cxG} {adX adM : Nat → Nat} {σX σM : St} (hl : l.stackTraces = false) (h : LI σX σM) (x : Int32) : SE l G adX adM σX σM mX10_failingInput mX11_failingInput [.ref (adX 0), .int x] [.ref (adM 0), .int x] ∨ SemTh l G adX adM σX σM mX10_failingInput mX11_failingInput [.ref (adX 0), .int x] [.ref (adM 0), .int x] VI sIOB 1 := by
  obtain ⟨t, m, tl, N, al, sv, tx, hX, hM⟩ := h
  obtain ⟨p1, p2, p3, p4, p5, p6⟩ := hM.p
  have hw : wfP (σM.2.2.1 1) N := by rw [p4]; exact hX.2.1.1
  by_cases hv : 0 ≤ x ∧ x < 8
  · obtain ⟨v, h1, rfl⟩ := xvar_of hv
    have hm := fun Lf Rt => r_failingInput_ok (l := l) (G := G) (adr := adM) (Lf := Lf) (Rt := Rt) (σ := σM) hw v h1
    rw [p4] at hm
    exact Or.inl ⟨_, ok_of hM (fun Rt => r1_mono (x_failG hX.2.1 v h1) (fun w τ q => by obtain ⟨r, q1, q2, q3⟩ := q; exact ⟨q1.trans (congrArg Value.int (q3 (fs_all hX.2.1.1 h1))), hX.trial q2⟩)) hm⟩
  · exact Or.inr (th_of hX hM ⟨_, rfl⟩ (fun Rt => x_failingInput_t1 hl x hv) (fun Lf Rt => r_failingInput_no x (fun q => hv (xlt8_7.mpr q))))
