def stW (σ : St) (s : WS) : St := sI (sI (sA σ 8 s.2.2) 0 14 (nI s.2.1)) 0 13 (nI s.1)
theorem stW_8 (σ : St) (s : WS) (f : Nat → Int32) : sA (stW σ s) 8 f = stW σ (s.1, s.2.1, f) := by
  unfold stW; rw [sA_sI, sA_sI, sA_sA]
theorem stW_14 (σ : St) (s : WS) (j : Nat) : sI (stW σ s) 0 14 (nI j) = stW σ (s.1, j, s.2.2) := by
  unfold stW; rw [sI_comm _ 0 13 14 _ _ (by decide), sI_sI]
theorem stW_13 (σ : St) (s : WS) (j : Nat) : sI (stW σ s) 0 13 (nI j) = stW σ (j, s.2.1, s.2.2) := by
  unfold stW; rw [sI_sI]
theorem stW_stW (σ : St) (s s' : WS) : stW (stW σ s) s' = stW σ s' := by
  show sI (sI (sA (stW σ s) 8 s'.2.2) 0 14 (nI s'.2.1)) 0 13 (nI s'.1) = _
  rw [stW_8, stW_14, stW_13]
section W2
variable {l : Launch} {G : cxG} {adr : Nat → Nat} {Lf Rt : va_W} {σ : St}
theorem r_told (i : Nat) (c : Nat) (hi : i < 30) (hc : c < 4) : SpecD l G mX11_told [.ref (adr 0), .int (nI i), .int (nI c)] (wp G adr LM Lf Rt σ) (some (.int (if c = 0 then σ.2.2.1 1 (1 + 4 * i) else if c = 1 then σ.2.2.1 1 (1 + 4 * i + 1) else if c = 2 then σ.2.2.1 6 i else σ.2.2.1 5 i))) (wp G adr LM Lf Rt σ) := by
  refine spec_of (by decide) (Nat.le_of_ble_eq_true rfl) (fun sz => ?_)
  rcases (show c = 0 ∨ c = 1 ∨ c = 2 ∨ c = 3 by omega) with e | e | e | e
  · subst e
    refine pw_iload_n dX11_told_0 rfl ?_
    refine pw_tableIn (off := 27) 28 dX11_told_1 (by decide) (by decide) rfl (by decide) ?_
    refine pw_aload_n dX11_told_28 rfl ?_
    refine pw_iload_n dX11_told_29 rfl ?_
    refine lp_cV1 (mi' := mX11_kind) (As := [_]) (q := (RX11, TX11, 33)) dX11_told_30 lk_RX11_86 mk_X11_kind mi_X11_kind me_X11_kind ⟨by decide, by decide⟩ rfl rfl (Nat.le_of_ble_eq_true rfl) rfl rfl ⟨rfl, rfl⟩ ⟨Nat.zero_le _, Nat.zero_le _⟩ (r_kind i hi) ?_
    exact pw_iret rfl rfl dX11_told_33 (Nat.zero_le _) (Nat.zero_le _) rfl
  · subst e
    refine pw_iload_n dX11_told_0 rfl ?_
    refine pw_tableIn (off := 33) 34 dX11_told_1 (by decide) (by decide) rfl (by decide) ?_
    refine pw_aload_n dX11_told_34 rfl ?_
    refine pw_iload_n dX11_told_35 rfl ?_
    refine pw_iconst (v := 1) dX11_told_36 rfl ?_
    refine lp_cV1 (mi' := mX11_of) (As := [_, _]) (q := (RX11, TX11, 33)) dX11_told_37 lk_RX11_82 mk_X11_of mi_X11_of me_X11_of ⟨by decide, by decide⟩ rfl rfl (Nat.le_of_ble_eq_true rfl) rfl rfl ⟨rfl, rfl⟩ ⟨Nat.zero_le _, Nat.zero_le _⟩ (r_of i 1 (by omega)) ?_
    exact pw_iret rfl rfl dX11_told_40 (Nat.zero_le _) (Nat.zero_le _) rfl
  · subst e
    refine pw_iload_n dX11_told_0 rfl ?_
    refine pw_tableIn (off := 40) 41 dX11_told_1 (by decide) (by decide) rfl (by decide) ?_
    refine pw_aload_n dX11_told_41 rfl ?_
    refine lp_getr 6 dX11_told_42 fp_RX11_25.FL rfl rfl rfl ?_
    refine pw_iload_n dX11_told_45 rfl ?_
    refine lp_iald dX11_told_46 rfl (vp_in_nI (by omega) (by decide)) ?_
    rw [nI_clamp (show i < 2 ^ 31 by omega)]
    exact pw_iret rfl rfl dX11_told_47 (Nat.zero_le _) (Nat.zero_le _) rfl
  · subst e
    refine pw_iload_n dX11_told_0 rfl ?_
    refine pw_tableOut 48 dX11_told_1 (Or.inr (by decide)) (by decide) ?_
    refine pw_aload_n dX11_told_48 rfl ?_
    refine lp_getr 5 dX11_told_49 fp_RX11_22.FL rfl rfl rfl ?_
    refine pw_iload_n dX11_told_52 rfl ?_
    refine lp_iald dX11_told_53 rfl (vp_in_nI (by omega) (by decide)) ?_
    rw [nI_clamp (show i < 2 ^ 31 by omega)]
    exact pw_iret rfl rfl dX11_told_54 (Nat.zero_le _) (Nat.zero_le _) rfl
theorem r_startsWalk {N : Nat} (hN : N ≤ 30) (h0 : σ.2.2.1 1 0 = nI N) (hw : wfL (σ.2.2.1 1) N) : SpecD l G mX11_startsWalk [.ref (adr 0)] (wp G adr LM Lf Rt σ) none (wp G adr LM Lf Rt (stW (mLays σ N) (0, 0, σ.2.2.1 8))) := by
  refine spec_of (by decide) (Nat.le_of_ble_eq_true rfl) (fun sz => ?_)
  refine pw_aload_n dX11_startsWalk_0 rfl ?_
  refine lp_cV0 (mi' := mX11_laysLoops) (As := []) (q := (RX11, TX11, 33)) dX11_startsWalk_1 lk_RX11_168 mk_X11_laysLoops mi_X11_laysLoops me_X11_laysLoops ⟨by decide, by decide⟩ rfl rfl (Nat.le_of_ble_eq_true rfl) rfl rfl ⟨rfl, rfl⟩ ⟨Nat.zero_le _, Nat.zero_le _⟩ (r_laysLoops hN h0 hw) ?_
  refine pw_aload_n dX11_startsWalk_4 rfl ?_
  refine pw_iconst (v := 0) dX11_startsWalk_5 rfl ?_
  refine lp_puti dX11_startsWalk_6 fp_RX11_174 rfl rfl rfl rfl ?_
  refine pw_aload_n dX11_startsWalk_9 rfl ?_
  refine pw_iconst (v := 0) dX11_startsWalk_10 rfl ?_
  refine lp_puti dX11_startsWalk_11 fp_RX11_177 rfl rfl rfl rfl ?_
  refine pw_st (σ' := stW (mLays σ N) (0, 0, σ.2.2.1 8)) ?_ ?_
  · rw [sI_comm _ 0 13 14 _ _ (by decide)]
    show _ = sI (sI (sA (mLays σ N) 8 ((mLays σ N).2.2.1 8)) 0 14 0) 0 13 0
    rw [sA_self]
  exact pw_vret rfl dX11_startsWalk_14 (Nat.zero_le _) (Nat.zero_le _) rfl
theorem r_walks (s : WS) (N : Nat) (h0 : σ.2.2.1 1 0 = nI N) (hN : N ≤ 30) (hs : s.1 < 1000) : SpecD l G mX11_walks [.ref (adr 0)] (wp G adr LM Lf Rt (stW σ s)) (some (.int (bI (decide (s.1 < N))))) (wp G adr LM Lf Rt (stW σ s)) := by
  refine spec_of (by decide) (Nat.le_of_ble_eq_true rfl) (fun sz => ?_)
  by_cases h : s.1 < N
  · rw [decide_eq_true h]
    refine pw_aload_n dX11_walks_0 rfl ?_
    refine lp_geti dX11_walks_1 fp_RX11_174.FL rfl rfl ?_
    refine pw_aload_n dX11_walks_4 rfl ?_
    refine lp_getr 1 dX11_walks_5 fp_RX11_7.FL rfl rfl rfl ?_
    refine pw_iconst (v := 0) dX11_walks_8 rfl ?_
    refine lp_iald dX11_walks_9 rfl (vp_in_nI (n := 0) (by decide) (by decide)) ?_
    refine pw_icmp_ge 17 dX11_walks_10 (by decide) (fun c_10 => absurd c_10 (by show ¬ σ.2.2.1 1 0 ≤ nI s.1; rw [h0]; exact nI_ge h (by omega))) (fun c_10 => ?_)
    refine pw_iconst (v := 1) dX11_walks_13 rfl ?_
    refine pw_goto (tgt := 18) dX11_walks_14 (by decide) ?_
    exact pw_iret rfl rfl dX11_walks_18 (Nat.zero_le _) (Nat.zero_le _) rfl
  · rw [decide_eq_false h]
    refine pw_aload_n dX11_walks_0 rfl ?_
    refine lp_geti dX11_walks_1 fp_RX11_174.FL rfl rfl ?_
    refine pw_aload_n dX11_walks_4 rfl ?_
    refine lp_getr 1 dX11_walks_5 fp_RX11_7.FL rfl rfl rfl ?_
    refine pw_iconst (v := 0) dX11_walks_8 rfl ?_
    refine lp_iald dX11_walks_9 rfl (vp_in_nI (n := 0) (by decide) (by decide)) ?_
    refine pw_icmp_ge 17 dX11_walks_10 (by decide) (fun c_10 => ?_) (fun c_10 => absurd (by show σ.2.2.1 1 0 ≤ nI s.1; rw [h0]; exact nI_le (by omega) (by omega)) c_10)
    refine pw_iconst (v := 0) dX11_walks_17 rfl ?_
    exact pw_iret rfl rfl dX11_walks_18 (Nat.zero_le _) (Nat.zero_le _) rfl
theorem go_tail {sz : Nat} {w0 : va_W} {fin : OC → Prop} (s : WS) (hf : fin (.inl (none, wp G adr LM Lf Rt (stW σ (s.1 + 1, s.2.1, s.2.2))))) : PW l G mX11_goesOn w0 sz fin 110 [(0, .ref (adr 0))] [] 0 0 (wp G adr LM Lf Rt (stW σ s)) := by
  refine pw_aload_n dX11_goesOn_110 rfl ?_
  refine pw_dup dX11_goesOn_111 rfl ?_
  refine lp_geti dX11_goesOn_112 fp_RX11_174.FL rfl rfl ?_
  refine pw_iconst (v := 1) dX11_goesOn_115 rfl ?_
  refine pw_iadd dX11_goesOn_116 ?_
  refine pw_top (nI (s.1 + 1)) (nI_1 s.1) ?_
  refine lp_puti dX11_goesOn_117 fp_RX11_174 rfl rfl rfl rfl ?_
  rw [stW_13]
  exact pw_vret rfl dX11_goesOn_120 (Nat.zero_le _) (Nat.zero_le _) hf
theorem r_goesOn (s : WS) (hs : s.1 < 30) (h4 : kdA (σ.2.2.1 1) s.1 = 4 → s.2.1 < 2) (h5 : kdA (σ.2.2.1 1) s.1 = 5 → 1 ≤ s.2.1 ∧ s.2.1 ≤ 2 ∧ ∃ b, b < 30 ∧ σ.2.2.1 5 s.1 = nI b) : SpecD l G mX11_goesOn [.ref (adr 0)] (wp G adr LM Lf Rt (stW σ s)) none (wp G adr LM Lf Rt (stW σ (wnext (σ.2.2.1 1) (σ.2.2.1 5) s))) := by
  refine spec_of (by decide) (Nat.le_of_ble_eq_true rfl) (fun sz => ?_)
  unfold wnext
  by_cases k4 : kdA (σ.2.2.1 1) s.1 = 4
  · rw [if_pos k4]
    have hop := h4 k4
    refine pw_aload_n dX11_goesOn_0 rfl ?_
    refine pw_aload_n dX11_goesOn_1 rfl ?_
    refine lp_geti dX11_goesOn_2 fp_RX11_174.FL rfl rfl ?_
    refine lp_cV1 (mi' := mX11_kind) (As := [_]) (q := (RX11, TX11, 33)) dX11_goesOn_5 lk_RX11_86 mk_X11_kind mi_X11_kind me_X11_kind ⟨by decide, by decide⟩ rfl rfl (Nat.le_of_ble_eq_true rfl) rfl rfl ⟨rfl, rfl⟩ ⟨Nat.zero_le _, Nat.zero_le _⟩ (r_kind (σ := stW σ s) s.1 hs) ?_
    refine pw_iconst (v := 4) dX11_goesOn_8 rfl ?_
    refine pw_icmp_ne 43 dX11_goesOn_9 (by decide) (fun c_9 => absurd c_9 (fun z => z k4)) (fun c_9 => ?_)
    refine pw_aload_n dX11_goesOn_12 rfl ?_
    refine lp_getr 8 dX11_goesOn_13 fp_RX11_31.FL rfl rfl rfl ?_
    refine pw_aload_n dX11_goesOn_16 rfl ?_
    refine lp_geti dX11_goesOn_17 fp_RX11_177.FL rfl rfl ?_
    refine pw_aload_n dX11_goesOn_20 rfl ?_
    refine pw_aload_n dX11_goesOn_21 rfl ?_
    refine lp_geti dX11_goesOn_22 fp_RX11_174.FL rfl rfl ?_
    refine pw_iconst (v := 1) dX11_goesOn_25 rfl ?_
    refine lp_cV1 (mi' := mX11_of) (As := [_, _]) (q := (RX11, TX11, 33)) dX11_goesOn_26 lk_RX11_82 mk_X11_of mi_X11_of me_X11_of ⟨by decide, by decide⟩ rfl rfl (Nat.le_of_ble_eq_true rfl) rfl rfl ⟨rfl, rfl⟩ ⟨Nat.zero_le _, Nat.zero_le _⟩ (r_of (σ := stW σ s) s.1 1 (by omega)) ?_
    refine lp_iast dX11_goesOn_29 rfl (vp_in_nI hop (by decide)) ?_
    rw [show (stW σ s).1 0 14 = nI s.2.1 from rfl, nI_clamp (show s.2.1 < 2 ^ 31 by omega), stW_8]
    refine pw_aload_n dX11_goesOn_30 rfl ?_
    refine pw_dup dX11_goesOn_31 rfl ?_
    refine lp_geti dX11_goesOn_32 fp_RX11_177.FL rfl rfl ?_
    refine pw_iconst (v := 1) dX11_goesOn_35 rfl ?_
    refine pw_iadd dX11_goesOn_36 ?_
    refine pw_top (nI (s.2.1 + 1)) (nI_1 s.2.1) ?_
    refine lp_puti dX11_goesOn_37 fp_RX11_177 rfl rfl rfl rfl ?_
    rw [stW_14]
    refine pw_goto (tgt := 110) dX11_goesOn_40 (by decide) ?_
    exact pw_lk [(0, .ref (adr 0))] ⟨rfl, trivial⟩ (go_tail _ rfl)
  · rw [if_neg k4]
    by_cases k5 : kdA (σ.2.2.1 1) s.1 = 5
    · rw [if_pos k5]
      obtain ⟨g1, g2, b, g3, g4⟩ := h5 k5
      have eo : (stW σ s).1 0 14 - 1 = nI (s.2.1 - 1) := nI_m1 g1
      have et : (nI (s.2.1 - 1)).toNatClampNeg = s.2.1 - 1 := nI_clamp (by omega)
      by_cases hx : 0 < s.2.2 (s.2.1 - 1) - 1
      · rw [if_pos hx, g4]
        have eb : (nI b).toNatClampNeg = b := nI_clamp (by omega)
        rw [eb]
        refine pw_aload_n dX11_goesOn_0 rfl ?_
        refine pw_aload_n dX11_goesOn_1 rfl ?_
        refine lp_geti dX11_goesOn_2 fp_RX11_174.FL rfl rfl ?_
        refine lp_cV1 (mi' := mX11_kind) (As := [_]) (q := (RX11, TX11, 33)) dX11_goesOn_5 lk_RX11_86 mk_X11_kind mi_X11_kind me_X11_kind ⟨by decide, by decide⟩ rfl rfl (Nat.le_of_ble_eq_true rfl) rfl rfl ⟨rfl, rfl⟩ ⟨Nat.zero_le _, Nat.zero_le _⟩ (r_kind (σ := stW σ s) s.1 hs) ?_
        refine pw_iconst (v := 4) dX11_goesOn_8 rfl ?_
        refine pw_icmp_ne 43 dX11_goesOn_9 (by decide) (fun c_9 => ?_) (fun c_9 => absurd c_9 k4)
        refine pw_aload_n dX11_goesOn_43 rfl ?_
        refine pw_aload_n dX11_goesOn_44 rfl ?_
        refine lp_geti dX11_goesOn_45 fp_RX11_174.FL rfl rfl ?_
        refine lp_cV1 (mi' := mX11_kind) (As := [_]) (q := (RX11, TX11, 33)) dX11_goesOn_48 lk_RX11_86 mk_X11_kind mi_X11_kind me_X11_kind ⟨by decide, by decide⟩ rfl rfl (Nat.le_of_ble_eq_true rfl) rfl rfl ⟨rfl, rfl⟩ ⟨Nat.zero_le _, Nat.zero_le _⟩ (r_kind (σ := stW σ s) s.1 hs) ?_
        refine pw_iconst (v := 5) dX11_goesOn_51 rfl ?_
        refine pw_icmp_ne 110 dX11_goesOn_52 (by decide) (fun c_52 => absurd c_52 (fun z => z k5)) (fun c_52 => ?_)
        refine pw_aload_n dX11_goesOn_55 rfl ?_
        refine lp_getr 8 dX11_goesOn_56 fp_RX11_31.FL rfl rfl rfl ?_
        refine pw_aload_n dX11_goesOn_59 rfl ?_
        refine lp_geti dX11_goesOn_60 fp_RX11_177.FL rfl rfl ?_
        refine pw_iconst (v := 1) dX11_goesOn_63 rfl ?_
        refine pw_isub dX11_goesOn_64 ?_
        refine pw_top (nI (s.2.1 - 1)) eo ?_
        refine pw_dup2 dX11_goesOn_65 rfl rfl ?_
        refine lp_iald dX11_goesOn_66 rfl (vp_in_nI (by omega) (by decide)) ?_
        rw [et]
        refine pw_iconst (v := 1) dX11_goesOn_67 rfl ?_
        refine pw_isub dX11_goesOn_68 ?_
        refine lp_iast dX11_goesOn_69 rfl (vp_in_nI (by omega) (by decide)) ?_
        rw [et, stW_8]
        refine pw_aload_n dX11_goesOn_70 rfl ?_
        refine lp_getr 8 dX11_goesOn_71 fp_RX11_31.FL rfl rfl rfl ?_
        refine pw_aload_n dX11_goesOn_74 rfl ?_
        refine lp_geti dX11_goesOn_75 fp_RX11_177.FL rfl rfl ?_
        refine pw_iconst (v := 1) dX11_goesOn_78 rfl ?_
        refine pw_isub dX11_goesOn_79 ?_
        refine pw_top (nI (s.2.1 - 1)) eo ?_
        refine lp_iald dX11_goesOn_80 rfl (vp_in_nI (by omega) (by decide)) ?_
        refine pw_top (s.2.2 (s.2.1 - 1) - 1) ?_ ?_
        · rw [et]
          show upd s.2.2 (s.2.1 - 1) (s.2.2 (s.2.1 - 1) - 1) (s.2.1 - 1) = _
          rw [upd_s]
        refine pw_if_le 100 dX11_goesOn_81 (by decide) (fun c_81 => absurd c_81 (Int32.not_le.mpr hx)) (fun c_81 => ?_)
        refine pw_aload_n dX11_goesOn_84 rfl ?_
        refine pw_aload_n dX11_goesOn_85 rfl ?_
        refine lp_getr 5 dX11_goesOn_86 fp_RX11_22.FL rfl rfl rfl ?_
        refine pw_aload_n dX11_goesOn_89 rfl ?_
        refine lp_geti dX11_goesOn_90 fp_RX11_174.FL rfl rfl ?_
        refine lp_iald dX11_goesOn_93 rfl (vp_in_nI hs (by decide)) ?_
        refine pw_top (nI b) ?_ ?_
        · show σ.2.2.1 5 (nI s.1).toNatClampNeg = _
          rw [nI_clamp (show s.1 < 2 ^ 31 by omega)]; exact g4
        refine lp_puti dX11_goesOn_94 fp_RX11_174 rfl rfl rfl rfl ?_
        rw [stW_13]
        refine pw_goto (tgt := 110) dX11_goesOn_97 (by decide) ?_
        exact pw_lk [(0, .ref (adr 0))] ⟨rfl, trivial⟩ (go_tail _ rfl)
      · rw [if_neg hx]
        refine pw_aload_n dX11_goesOn_0 rfl ?_
        refine pw_aload_n dX11_goesOn_1 rfl ?_
        refine lp_geti dX11_goesOn_2 fp_RX11_174.FL rfl rfl ?_
        refine lp_cV1 (mi' := mX11_kind) (As := [_]) (q := (RX11, TX11, 33)) dX11_goesOn_5 lk_RX11_86 mk_X11_kind mi_X11_kind me_X11_kind ⟨by decide, by decide⟩ rfl rfl (Nat.le_of_ble_eq_true rfl) rfl rfl ⟨rfl, rfl⟩ ⟨Nat.zero_le _, Nat.zero_le _⟩ (r_kind (σ := stW σ s) s.1 hs) ?_
        refine pw_iconst (v := 4) dX11_goesOn_8 rfl ?_
        refine pw_icmp_ne 43 dX11_goesOn_9 (by decide) (fun c_9 => ?_) (fun c_9 => absurd c_9 k4)
        refine pw_aload_n dX11_goesOn_43 rfl ?_
        refine pw_aload_n dX11_goesOn_44 rfl ?_
        refine lp_geti dX11_goesOn_45 fp_RX11_174.FL rfl rfl ?_
        refine lp_cV1 (mi' := mX11_kind) (As := [_]) (q := (RX11, TX11, 33)) dX11_goesOn_48 lk_RX11_86 mk_X11_kind mi_X11_kind me_X11_kind ⟨by decide, by decide⟩ rfl rfl (Nat.le_of_ble_eq_true rfl) rfl rfl ⟨rfl, rfl⟩ ⟨Nat.zero_le _, Nat.zero_le _⟩ (r_kind (σ := stW σ s) s.1 hs) ?_
        refine pw_iconst (v := 5) dX11_goesOn_51 rfl ?_
        refine pw_icmp_ne 110 dX11_goesOn_52 (by decide) (fun c_52 => absurd c_52 (fun z => z k5)) (fun c_52 => ?_)
        refine pw_aload_n dX11_goesOn_55 rfl ?_
        refine lp_getr 8 dX11_goesOn_56 fp_RX11_31.FL rfl rfl rfl ?_
        refine pw_aload_n dX11_goesOn_59 rfl ?_
        refine lp_geti dX11_goesOn_60 fp_RX11_177.FL rfl rfl ?_
        refine pw_iconst (v := 1) dX11_goesOn_63 rfl ?_
        refine pw_isub dX11_goesOn_64 ?_
        refine pw_top (nI (s.2.1 - 1)) eo ?_
        refine pw_dup2 dX11_goesOn_65 rfl rfl ?_
        refine lp_iald dX11_goesOn_66 rfl (vp_in_nI (by omega) (by decide)) ?_
        rw [et]
        refine pw_iconst (v := 1) dX11_goesOn_67 rfl ?_
        refine pw_isub dX11_goesOn_68 ?_
        refine lp_iast dX11_goesOn_69 rfl (vp_in_nI (by omega) (by decide)) ?_
        rw [et, stW_8]
        refine pw_aload_n dX11_goesOn_70 rfl ?_
        refine lp_getr 8 dX11_goesOn_71 fp_RX11_31.FL rfl rfl rfl ?_
        refine pw_aload_n dX11_goesOn_74 rfl ?_
        refine lp_geti dX11_goesOn_75 fp_RX11_177.FL rfl rfl ?_
        refine pw_iconst (v := 1) dX11_goesOn_78 rfl ?_
        refine pw_isub dX11_goesOn_79 ?_
        refine pw_top (nI (s.2.1 - 1)) eo ?_
        refine lp_iald dX11_goesOn_80 rfl (vp_in_nI (by omega) (by decide)) ?_
        refine pw_top (s.2.2 (s.2.1 - 1) - 1) ?_ ?_
        · rw [et]
          show upd s.2.2 (s.2.1 - 1) (s.2.2 (s.2.1 - 1) - 1) (s.2.1 - 1) = _
          rw [upd_s]
        refine pw_if_le 100 dX11_goesOn_81 (by decide) (fun c_81 => ?_) (fun c_81 => absurd (Int32.not_lt.mp hx) c_81)
        refine pw_aload_n dX11_goesOn_100 rfl ?_
        refine pw_dup dX11_goesOn_101 rfl ?_
        refine lp_geti dX11_goesOn_102 fp_RX11_177.FL rfl rfl ?_
        refine pw_iconst (v := 1) dX11_goesOn_105 rfl ?_
        refine pw_isub dX11_goesOn_106 ?_
        refine pw_top (nI (s.2.1 - 1)) eo ?_
        refine lp_puti dX11_goesOn_107 fp_RX11_177 rfl rfl rfl rfl ?_
        rw [stW_14]
        exact pw_lk [(0, .ref (adr 0))] ⟨rfl, trivial⟩ (go_tail _ rfl)
    · rw [if_neg k5]
      refine pw_aload_n dX11_goesOn_0 rfl ?_
      refine pw_aload_n dX11_goesOn_1 rfl ?_
      refine lp_geti dX11_goesOn_2 fp_RX11_174.FL rfl rfl ?_
      refine lp_cV1 (mi' := mX11_kind) (As := [_]) (q := (RX11, TX11, 33)) dX11_goesOn_5 lk_RX11_86 mk_X11_kind mi_X11_kind me_X11_kind ⟨by decide, by decide⟩ rfl rfl (Nat.le_of_ble_eq_true rfl) rfl rfl ⟨rfl, rfl⟩ ⟨Nat.zero_le _, Nat.zero_le _⟩ (r_kind (σ := stW σ s) s.1 hs) ?_
      refine pw_iconst (v := 4) dX11_goesOn_8 rfl ?_
      refine pw_icmp_ne 43 dX11_goesOn_9 (by decide) (fun c_9 => ?_) (fun c_9 => absurd c_9 k4)
      refine pw_aload_n dX11_goesOn_43 rfl ?_
      refine pw_aload_n dX11_goesOn_44 rfl ?_
      refine lp_geti dX11_goesOn_45 fp_RX11_174.FL rfl rfl ?_
      refine lp_cV1 (mi' := mX11_kind) (As := [_]) (q := (RX11, TX11, 33)) dX11_goesOn_48 lk_RX11_86 mk_X11_kind mi_X11_kind me_X11_kind ⟨by decide, by decide⟩ rfl rfl (Nat.le_of_ble_eq_true rfl) rfl rfl ⟨rfl, rfl⟩ ⟨Nat.zero_le _, Nat.zero_le _⟩ (r_kind (σ := stW σ s) s.1 hs) ?_
      refine pw_iconst (v := 5) dX11_goesOn_51 rfl ?_
      refine pw_icmp_ne 110 dX11_goesOn_52 (by decide) (fun c_52 => ?_) (fun c_52 => absurd c_52 k5)
      exact pw_lk [(0, .ref (adr 0))] ⟨rfl, trivial⟩ (go_tail _ rfl)
end W2
