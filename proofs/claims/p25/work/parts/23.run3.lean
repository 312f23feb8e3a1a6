abbrev AR : Type := WS × (Nat → Int64) × Int32 × Int32 × Int32 × (Nat → Int32)
def stA (τ : St) (x : AR) : St := stR τ x.1 x.2.1 x.2.2.1 x.2.2.2.1 x.2.2.2.2.1 x.2.2.2.2.2
def rPre (al pt inr stt : Nat → Int32) (opt : Bool) (x : AR) : AR := if kdA al x.1.1 = 4 ∧ opt = true then (x.1, x.2.1, x.2.2.1, (chkL al x.2.1 inr stt x.1.1 (tN (pt x.1.1) - (x.1.1 + 1)) (x.1.1 + 1) (x.2.2.2.1, x.2.2.2.2.2)).1, x.2.2.2.2.1, (chkL al x.2.1 inr stt x.1.1 (tN (pt x.1.1) - (x.1.1 + 1)) (x.1.1 + 1) (x.2.2.2.1, x.2.2.2.2.2)).2) else x
def rMid (al stt : Nat → Int32) (opt : Bool) (x : AR) : AR := if 4 ≤ kdA al x.1.1 then x else
  if chkd al stt x.2.2.2.2.2 opt x.1.1 = true ∧ isI (exV al x.2.1 x.1.1) = false then (x.1, x.2.1, nI x.1.1, x.2.2.2.1 + 1, x.2.2.2.2.1, x.2.2.2.2.2)
  else (x.1, vp_updL x.2.1 (tN (al (1 + 4 * x.1.1 + 1))) (exV al x.2.1 x.1.1), x.2.2.1, x.2.2.2.1 + bI (chkd al stt x.2.2.2.2.2 opt x.1.1), x.2.2.2.2.1 + 1, x.2.2.2.2.2)
def rStep (al pt inr stt : Nat → Int32) (opt : Bool) (x : AR) : AR := (wnext al pt x.1, (rMid al stt opt (rPre al pt inr stt opt x)).2)
def rIter (al pt inr stt : Nat → Int32) (opt : Bool) (N : Nat) : Nat → AR → AR
  | 0, x => x
  | n + 1, x => if x.1.1 < N ∧ x.2.2.1 = -1 then rIter al pt inr stt opt N n (rStep al pt inr stt opt x) else x
/-- a program as it must be -/
def wfP (al : Nat → Int32) (N : Nat) : Prop := N ≤ 30 ∧ al 0 = nI N ∧ wfL al N ∧ wfC al N ∧ wfO al N ∧ ∀ i, i < N → ∃ k, k ≤ 5 ∧ kdA al i = nI k
def st3ok (al stt : Nat → Int32) (N : Nat) : Prop := ∀ i, i < N → stt i = 3 → (∃ w, w < 8 ∧ al (1 + 4 * i + 1) = nI w) ∧ okOp (stepA al i)
theorem rPre_1 {al pt inr stt : Nat → Int32} {opt : Bool} {x : AR} : (rPre al pt inr stt opt x).1 = x.1 := by unfold rPre; split <;> rfl
theorem kd_loop {al : Nat → Int32} {N i : Nat} (h : wfP al N) (hi : i < N) : 4 ≤ kdA al i ↔ (kdA al i = 4 ∨ kdA al i = 5) := by
  obtain ⟨k, h1, h2⟩ := h.2.2.2.2.2 i hi
  rw [h2]
  constructor
  · intro q
    have : 4 ≤ k := (nI_leI (a := 4) (b := k) (by decide) (by omega)).mp q
    rcases (show k = 4 ∨ k = 5 by omega) with e | e
    · left; rw [e]; rfl
    · right; rw [e]; rfl
  · rintro (q | q)
    · rw [q]; decide
    · rw [q]; decide
section R3
variable {l : Launch} {G : cxG} {adr : Nat → Nat} {Lf Rt : va_W} {τ : St}
theorem run_mid {sz : Nat} {w0 : va_W} {fin : OC → Prop} {N : Nat} (hP : wfP (τ.2.2.1 1) N) (opt : Bool) (x : AR) (hx : x.1.1 < N)
    (kk : PW l G mX11_runs w0 sz fin 190 [(0, .ref (adr 0)), (1, .int (bI opt))] [] 0 0 (wp G adr LM Lf Rt (stA τ (rMid (τ.2.2.1 1) (τ.2.2.1 19) opt x)))) :
    PW l G mX11_runs w0 sz fin 92 [(0, .ref (adr 0)), (1, .int (bI opt))] [] 0 0 (wp G adr LM Lf Rt (stA τ x)) := by
  obtain ⟨s, v, fl, ck, ex, fr⟩ := x
  dsimp only at hx
  have hw30 : s.1 < 30 := by have := hP.1; omega
  unfold rMid at kk
  dsimp only at kk
  by_cases hl : 4 ≤ kdA (τ.2.2.1 1) s.1
  · rw [if_pos hl] at kk
    refine pw_aload_n dX11_runs_92 rfl ?_
    refine pw_aload_n dX11_runs_93 rfl ?_
    refine lp_geti dX11_runs_94 fp_RX11_174.FL rfl rfl ?_
    refine lp_cV1 (mi' := mX11_isLoop) (As := [_]) (q := (RX11, TX11, 33)) dX11_runs_97 lk_RX11_163 mk_X11_isLoop mi_X11_isLoop me_X11_isLoop ⟨by decide, by decide⟩ rfl rfl (Nat.le_of_ble_eq_true rfl) rfl rfl ⟨rfl, rfl⟩ ⟨Nat.zero_le _, Nat.zero_le _⟩ (r_isLoop (σ := stA τ (s, v, fl, ck, ex, fr)) s.1 hw30) ?_
    refine pw_if_ne 190 dX11_runs_100 (by decide) (fun c_100 => ?_) (fun c_100 => absurd c_100 (by rw [decide_eq_true (show 4 ≤ (stA τ (s, v, fl, ck, ex, fr)).2.2.1 1 (1 + 4 * s.1) from hl)]; decide))
    exact kk
  · rw [if_neg hl] at kk
    obtain ⟨⟨rv, g1, g2⟩, g3, g4⟩ := hP.2.2.2.2.1 s.1 hx hl
    have erv : (nI rv).toNatClampNeg = rv := nI_clamp (by omega)
    have etr : tN (τ.2.2.1 1 (1 + 4 * s.1 + 1)) = rv := by rw [g2]; exact erv
    rw [etr] at kk
    cases hc : chkd (τ.2.2.1 1) (τ.2.2.1 19) fr opt s.1 with
    | false =>
      rw [hc, if_neg (by simp)] at kk
      refine pw_aload_n dX11_runs_92 rfl ?_
      refine pw_aload_n dX11_runs_93 rfl ?_
      refine lp_geti dX11_runs_94 fp_RX11_174.FL rfl rfl ?_
      refine lp_cV1 (mi' := mX11_isLoop) (As := [_]) (q := (RX11, TX11, 33)) dX11_runs_97 lk_RX11_163 mk_X11_isLoop mi_X11_isLoop me_X11_isLoop ⟨by decide, by decide⟩ rfl rfl (Nat.le_of_ble_eq_true rfl) rfl rfl ⟨rfl, rfl⟩ ⟨Nat.zero_le _, Nat.zero_le _⟩ (r_isLoop (σ := stA τ (s, v, fl, ck, ex, fr)) s.1 hw30) ?_
      refine pw_if_ne 190 dX11_runs_100 (by decide) (fun c_100 => absurd c_100 (fun z => z (by rw [decide_eq_false (show ¬ 4 ≤ (stA τ (s, v, fl, ck, ex, fr)).2.2.1 1 (1 + 4 * s.1) from hl)]; rfl))) (fun c_100 => ?_)
      refine pw_aload_n dX11_runs_103 rfl ?_
      refine pw_aload_n dX11_runs_104 rfl ?_
      refine lp_geti dX11_runs_105 fp_RX11_174.FL rfl rfl ?_
      refine lp_cV1 (mi' := mX11_exact) (As := [_]) (q := (RX11, TX11, 33)) dX11_runs_108 lk_RX11_259 mk_X11_exact mi_X11_exact me_X11_exact ⟨by decide, by decide⟩ rfl rfl (Nat.le_of_ble_eq_true rfl) rfl rfl ⟨rfl, rfl⟩ ⟨Nat.zero_le _, Nat.zero_le _⟩ (r_exact (σ := stA τ (s, v, fl, ck, ex, fr)) s.1 hw30 g3 g4) ?_
      refine pw_lstore_n dX11_runs_111 (by decide) ?_
      refine pw_aload_n dX11_runs_112 rfl ?_
      refine pw_aload_n dX11_runs_113 rfl ?_
      refine lp_geti dX11_runs_114 fp_RX11_174.FL rfl rfl ?_
      refine pw_iload_n dX11_runs_117 rfl ?_
      refine lp_cV1 (mi' := mX11_isChecked) (As := [_, _]) (q := (RX11, TX11, 33)) dX11_runs_118 lk_RX11_262 mk_X11_isChecked mi_X11_isChecked me_X11_isChecked ⟨by decide, by decide⟩ rfl rfl (Nat.le_of_ble_eq_true rfl) rfl rfl ⟨rfl, rfl⟩ ⟨Nat.zero_le _, Nat.zero_le _⟩ (r_isChecked (σ := stA τ (s, v, fl, ck, ex, fr)) s.1 hw30 opt) ?_
      refine pw_top 0 (show bI (chkd (τ.2.2.1 1) (τ.2.2.1 19) fr opt s.1) = 0 by rw [hc]; rfl) ?_
      refine pw_istore dX11_runs_121 (by decide) ?_
      refine pw_aload_n dX11_runs_123 rfl ?_
      refine pw_dup dX11_runs_124 rfl ?_
      refine lp_geti dX11_runs_125 fp_RX11_242.FL rfl rfl ?_
      refine pw_iload dX11_runs_128 rfl ?_
      refine pw_if_eq 137 dX11_runs_130 (by decide) (fun c_130 => ?_) (fun c_130 => absurd rfl c_130)
      refine pw_iconst (v := 0) dX11_runs_137 rfl ?_
      refine pw_iadd dX11_runs_138 ?_
      refine lp_puti dX11_runs_139 fp_RX11_242 rfl rfl rfl rfl ?_
      refine pw_st (σ' := stA τ (s, v, fl, ck + 0, ex, fr)) (stR_31 ..) ?_
      refine pw_iload dX11_runs_142 rfl ?_
      refine pw_if_eq 165 dX11_runs_144 (by decide) (fun c_144 => ?_) (fun c_144 => absurd rfl c_144)
      refine pw_aload_n dX11_runs_165 rfl ?_
      refine lp_getr 20 dX11_runs_166 fp_RX11_69.FL rfl rfl rfl ?_
      refine pw_aload_n dX11_runs_169 rfl ?_
      refine pw_aload_n dX11_runs_170 rfl ?_
      refine lp_geti dX11_runs_171 fp_RX11_174.FL rfl rfl ?_
      refine pw_iconst (v := 1) dX11_runs_174 rfl ?_
      refine lp_cV1 (mi' := mX11_of) (As := [_, _]) (q := (RX11, TX11, 33)) dX11_runs_175 lk_RX11_82 mk_X11_of mi_X11_of me_X11_of ⟨by decide, by decide⟩ rfl rfl (Nat.le_of_ble_eq_true rfl) rfl rfl ⟨rfl, rfl⟩ ⟨Nat.zero_le _, Nat.zero_le _⟩ (r_of (σ := stA τ (s, v, fl, ck + 0, ex, fr)) s.1 1 (by omega)) ?_
      refine pw_top (nI rv) g2 ?_
      refine pw_lload_n dX11_runs_178 rfl ?_
      refine lp_last dX11_runs_179 rfl (vp_in_nI g1 (by decide)) ?_
      refine pw_st (σ' := stA τ (s, vp_updL v rv (exV (τ.2.2.1 1) v s.1), fl, ck + 0, ex, fr)) ?_ ?_
      · rw [erv]; exact stR_20 ..
      refine pw_aload_n dX11_runs_180 rfl ?_
      refine pw_dup dX11_runs_181 rfl ?_
      refine lp_geti dX11_runs_182 fp_RX11_252.FL rfl rfl ?_
      refine pw_iconst (v := 1) dX11_runs_185 rfl ?_
      refine pw_iadd dX11_runs_186 ?_
      refine lp_puti dX11_runs_187 fp_RX11_252 rfl rfl rfl rfl ?_
      refine pw_st (σ' := stA τ (s, vp_updL v rv (exV (τ.2.2.1 1) v s.1), fl, ck + 0, ex + 1, fr)) (stR_32 ..) ?_
      exact pw_lk [(0, .ref (adr 0)), (1, .int (bI opt))] ⟨rfl, rfl, trivial⟩ kk
    | true =>
      rw [hc] at kk
      cases he : isI (exV (τ.2.2.1 1) v s.1) with
      | false =>
        rw [he, if_pos ⟨rfl, rfl⟩] at kk
        refine pw_aload_n dX11_runs_92 rfl ?_
        refine pw_aload_n dX11_runs_93 rfl ?_
        refine lp_geti dX11_runs_94 fp_RX11_174.FL rfl rfl ?_
        refine lp_cV1 (mi' := mX11_isLoop) (As := [_]) (q := (RX11, TX11, 33)) dX11_runs_97 lk_RX11_163 mk_X11_isLoop mi_X11_isLoop me_X11_isLoop ⟨by decide, by decide⟩ rfl rfl (Nat.le_of_ble_eq_true rfl) rfl rfl ⟨rfl, rfl⟩ ⟨Nat.zero_le _, Nat.zero_le _⟩ (r_isLoop (σ := stA τ (s, v, fl, ck, ex, fr)) s.1 hw30) ?_
        refine pw_if_ne 190 dX11_runs_100 (by decide) (fun c_100 => absurd c_100 (fun z => z (by rw [decide_eq_false (show ¬ 4 ≤ (stA τ (s, v, fl, ck, ex, fr)).2.2.1 1 (1 + 4 * s.1) from hl)]; rfl))) (fun c_100 => ?_)
        refine pw_aload_n dX11_runs_103 rfl ?_
        refine pw_aload_n dX11_runs_104 rfl ?_
        refine lp_geti dX11_runs_105 fp_RX11_174.FL rfl rfl ?_
        refine lp_cV1 (mi' := mX11_exact) (As := [_]) (q := (RX11, TX11, 33)) dX11_runs_108 lk_RX11_259 mk_X11_exact mi_X11_exact me_X11_exact ⟨by decide, by decide⟩ rfl rfl (Nat.le_of_ble_eq_true rfl) rfl rfl ⟨rfl, rfl⟩ ⟨Nat.zero_le _, Nat.zero_le _⟩ (r_exact (σ := stA τ (s, v, fl, ck, ex, fr)) s.1 hw30 g3 g4) ?_
        refine pw_lstore_n dX11_runs_111 (by decide) ?_
        refine pw_aload_n dX11_runs_112 rfl ?_
        refine pw_aload_n dX11_runs_113 rfl ?_
        refine lp_geti dX11_runs_114 fp_RX11_174.FL rfl rfl ?_
        refine pw_iload_n dX11_runs_117 rfl ?_
        refine lp_cV1 (mi' := mX11_isChecked) (As := [_, _]) (q := (RX11, TX11, 33)) dX11_runs_118 lk_RX11_262 mk_X11_isChecked mi_X11_isChecked me_X11_isChecked ⟨by decide, by decide⟩ rfl rfl (Nat.le_of_ble_eq_true rfl) rfl rfl ⟨rfl, rfl⟩ ⟨Nat.zero_le _, Nat.zero_le _⟩ (r_isChecked (σ := stA τ (s, v, fl, ck, ex, fr)) s.1 hw30 opt) ?_
        refine pw_top 1 (show bI (chkd (τ.2.2.1 1) (τ.2.2.1 19) fr opt s.1) = 1 by rw [hc]; rfl) ?_
        refine pw_istore dX11_runs_121 (by decide) ?_
        refine pw_aload_n dX11_runs_123 rfl ?_
        refine pw_dup dX11_runs_124 rfl ?_
        refine lp_geti dX11_runs_125 fp_RX11_242.FL rfl rfl ?_
        refine pw_iload dX11_runs_128 rfl ?_
        refine pw_if_eq 137 dX11_runs_130 (by decide) (fun c_130 => absurd (show (1 : Int32) = 0 from c_130) (by decide)) (fun c_130 => ?_)
        refine pw_iconst (v := 1) dX11_runs_133 rfl ?_
        refine pw_goto (tgt := 138) dX11_runs_134 (by decide) ?_
        refine pw_iadd dX11_runs_138 ?_
        refine lp_puti dX11_runs_139 fp_RX11_242 rfl rfl rfl rfl ?_
        refine pw_st (σ' := stA τ (s, v, fl, ck + 1, ex, fr)) (stR_31 ..) ?_
        refine pw_iload dX11_runs_142 rfl ?_
        refine pw_if_eq 165 dX11_runs_144 (by decide) (fun c_144 => absurd (show (1 : Int32) = 0 from c_144) (by decide)) (fun c_144 => ?_)
        refine pw_lload_n dX11_runs_147 rfl ?_
        refine lp_cS1 (mi' := mX11_isInt) (As := [_]) dX11_runs_148 lk_RX11_245 mk_X11_isInt ms_X11_isInt ⟨by decide, by decide⟩ rfl rfl (Nat.le_of_ble_eq_true rfl) ⟨rfl, rfl⟩ ⟨Nat.zero_le _, Nat.zero_le _⟩ (r_isInt _ _) ?_
        refine pw_top 0 (show bI (isI (exV (τ.2.2.1 1) v s.1)) = 0 by rw [he]; rfl) ?_
        refine pw_if_ne 165 dX11_runs_151 (by decide) (fun c_151 => absurd c_151 (fun z => z rfl)) (fun c_151 => ?_)
        refine pw_aload_n dX11_runs_154 rfl ?_
        refine pw_aload_n dX11_runs_155 rfl ?_
        refine lp_geti dX11_runs_156 fp_RX11_174.FL rfl rfl ?_
        refine lp_puti dX11_runs_159 fp_RX11_249 rfl rfl rfl rfl ?_
        refine pw_st (σ' := stA τ (s, v, nI s.1, ck + 1, ex, fr)) (stR_30 ..) ?_
        refine pw_goto (tgt := 190) dX11_runs_162 (by decide) ?_
        exact pw_lk [(0, .ref (adr 0)), (1, .int (bI opt))] ⟨rfl, rfl, trivial⟩ kk
      | true =>
        rw [he, if_neg (by simp)] at kk
        refine pw_aload_n dX11_runs_92 rfl ?_
        refine pw_aload_n dX11_runs_93 rfl ?_
        refine lp_geti dX11_runs_94 fp_RX11_174.FL rfl rfl ?_
        refine lp_cV1 (mi' := mX11_isLoop) (As := [_]) (q := (RX11, TX11, 33)) dX11_runs_97 lk_RX11_163 mk_X11_isLoop mi_X11_isLoop me_X11_isLoop ⟨by decide, by decide⟩ rfl rfl (Nat.le_of_ble_eq_true rfl) rfl rfl ⟨rfl, rfl⟩ ⟨Nat.zero_le _, Nat.zero_le _⟩ (r_isLoop (σ := stA τ (s, v, fl, ck, ex, fr)) s.1 hw30) ?_
        refine pw_if_ne 190 dX11_runs_100 (by decide) (fun c_100 => absurd c_100 (fun z => z (by rw [decide_eq_false (show ¬ 4 ≤ (stA τ (s, v, fl, ck, ex, fr)).2.2.1 1 (1 + 4 * s.1) from hl)]; rfl))) (fun c_100 => ?_)
        refine pw_aload_n dX11_runs_103 rfl ?_
        refine pw_aload_n dX11_runs_104 rfl ?_
        refine lp_geti dX11_runs_105 fp_RX11_174.FL rfl rfl ?_
        refine lp_cV1 (mi' := mX11_exact) (As := [_]) (q := (RX11, TX11, 33)) dX11_runs_108 lk_RX11_259 mk_X11_exact mi_X11_exact me_X11_exact ⟨by decide, by decide⟩ rfl rfl (Nat.le_of_ble_eq_true rfl) rfl rfl ⟨rfl, rfl⟩ ⟨Nat.zero_le _, Nat.zero_le _⟩ (r_exact (σ := stA τ (s, v, fl, ck, ex, fr)) s.1 hw30 g3 g4) ?_
        refine pw_lstore_n dX11_runs_111 (by decide) ?_
        refine pw_aload_n dX11_runs_112 rfl ?_
        refine pw_aload_n dX11_runs_113 rfl ?_
        refine lp_geti dX11_runs_114 fp_RX11_174.FL rfl rfl ?_
        refine pw_iload_n dX11_runs_117 rfl ?_
        refine lp_cV1 (mi' := mX11_isChecked) (As := [_, _]) (q := (RX11, TX11, 33)) dX11_runs_118 lk_RX11_262 mk_X11_isChecked mi_X11_isChecked me_X11_isChecked ⟨by decide, by decide⟩ rfl rfl (Nat.le_of_ble_eq_true rfl) rfl rfl ⟨rfl, rfl⟩ ⟨Nat.zero_le _, Nat.zero_le _⟩ (r_isChecked (σ := stA τ (s, v, fl, ck, ex, fr)) s.1 hw30 opt) ?_
        refine pw_top 1 (show bI (chkd (τ.2.2.1 1) (τ.2.2.1 19) fr opt s.1) = 1 by rw [hc]; rfl) ?_
        refine pw_istore dX11_runs_121 (by decide) ?_
        refine pw_aload_n dX11_runs_123 rfl ?_
        refine pw_dup dX11_runs_124 rfl ?_
        refine lp_geti dX11_runs_125 fp_RX11_242.FL rfl rfl ?_
        refine pw_iload dX11_runs_128 rfl ?_
        refine pw_if_eq 137 dX11_runs_130 (by decide) (fun c_130 => absurd (show (1 : Int32) = 0 from c_130) (by decide)) (fun c_130 => ?_)
        refine pw_iconst (v := 1) dX11_runs_133 rfl ?_
        refine pw_goto (tgt := 138) dX11_runs_134 (by decide) ?_
        refine pw_iadd dX11_runs_138 ?_
        refine lp_puti dX11_runs_139 fp_RX11_242 rfl rfl rfl rfl ?_
        refine pw_st (σ' := stA τ (s, v, fl, ck + 1, ex, fr)) (stR_31 ..) ?_
        refine pw_iload dX11_runs_142 rfl ?_
        refine pw_if_eq 165 dX11_runs_144 (by decide) (fun c_144 => absurd (show (1 : Int32) = 0 from c_144) (by decide)) (fun c_144 => ?_)
        refine pw_lload_n dX11_runs_147 rfl ?_
        refine lp_cS1 (mi' := mX11_isInt) (As := [_]) dX11_runs_148 lk_RX11_245 mk_X11_isInt ms_X11_isInt ⟨by decide, by decide⟩ rfl rfl (Nat.le_of_ble_eq_true rfl) ⟨rfl, rfl⟩ ⟨Nat.zero_le _, Nat.zero_le _⟩ (r_isInt _ _) ?_
        refine pw_top 1 (show bI (isI (exV (τ.2.2.1 1) v s.1)) = 1 by rw [he]; rfl) ?_
        refine pw_if_ne 165 dX11_runs_151 (by decide) (fun c_151 => ?_) (fun c_151 => absurd (show (1 : Int32) = 0 from c_151) (by decide))
        refine pw_aload_n dX11_runs_165 rfl ?_
        refine lp_getr 20 dX11_runs_166 fp_RX11_69.FL rfl rfl rfl ?_
        refine pw_aload_n dX11_runs_169 rfl ?_
        refine pw_aload_n dX11_runs_170 rfl ?_
        refine lp_geti dX11_runs_171 fp_RX11_174.FL rfl rfl ?_
        refine pw_iconst (v := 1) dX11_runs_174 rfl ?_
        refine lp_cV1 (mi' := mX11_of) (As := [_, _]) (q := (RX11, TX11, 33)) dX11_runs_175 lk_RX11_82 mk_X11_of mi_X11_of me_X11_of ⟨by decide, by decide⟩ rfl rfl (Nat.le_of_ble_eq_true rfl) rfl rfl ⟨rfl, rfl⟩ ⟨Nat.zero_le _, Nat.zero_le _⟩ (r_of (σ := stA τ (s, v, fl, ck + 1, ex, fr)) s.1 1 (by omega)) ?_
        refine pw_top (nI rv) g2 ?_
        refine pw_lload_n dX11_runs_178 rfl ?_
        refine lp_last dX11_runs_179 rfl (vp_in_nI g1 (by decide)) ?_
        refine pw_st (σ' := stA τ (s, vp_updL v rv (exV (τ.2.2.1 1) v s.1), fl, ck + 1, ex, fr)) ?_ ?_
        · rw [erv]; exact stR_20 ..
        refine pw_aload_n dX11_runs_180 rfl ?_
        refine pw_dup dX11_runs_181 rfl ?_
        refine lp_geti dX11_runs_182 fp_RX11_252.FL rfl rfl ?_
        refine pw_iconst (v := 1) dX11_runs_185 rfl ?_
        refine pw_iadd dX11_runs_186 ?_
        refine lp_puti dX11_runs_187 fp_RX11_252 rfl rfl rfl rfl ?_
        refine pw_st (σ' := stA τ (s, vp_updL v rv (exV (τ.2.2.1 1) v s.1), fl, ck + 1, ex + 1, fr)) (stR_32 ..) ?_
        exact pw_lk [(0, .ref (adr 0)), (1, .int (bI opt))] ⟨rfl, rfl, trivial⟩ kk
end R3
