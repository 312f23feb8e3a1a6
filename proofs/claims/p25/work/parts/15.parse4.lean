abbrev Quad : Type := Int32 × Int32 × Int32 × Int32
def rdNext (t : Nat → Int32) (tl p r d : Nat) : Nat × Option (Quad × Nat) :=
  if r = 30 then (p, none) else
  if isLet (ch t tl p) = true then ((rdAsg t tl p).1, (rdAsg t tl p).2.map (fun q => (q, d))) else
  if isFig (ch t tl p) = true then (if d < 2 then ((rdCnt t tl p).1, (rdCnt t tl p).2.map (fun n => ((4, n, -1, -1), d + 1))) else (p, none)) else
  if ch t tl p = 125 ∧ d ≠ 0 then (p + 1, some ((5, -1, -1, -1), d - 1)) else (p, none)
def nxtSt (σ : St) (r : Nat) (q : Nat × Option (Quad × Nat)) : St := match q.2 with
  | none => sI σ 0 6 (nI q.1)
  | some ((a, b, c, e), d) => sI (sI (mTakes σ r a b c e) 0 9 (nI d)) 0 6 (nI q.1)
theorem asg_nxt {σ : St} {r d : Nat} (h9 : σ.1 0 9 = nI d) (q : Nat × Option Quad) : asgSt σ r q = nxtSt σ r (q.1, q.2.map (fun x => (x, d))) := by
  obtain ⟨p, o⟩ := q
  cases o with
  | none => rfl
  | some x =>
    obtain ⟨a, b, c, e⟩ := x
    show sI (mTakes σ r a b c e) 0 6 (nI p) = sI (sI (mTakes σ r a b c e) 0 9 (nI d)) 0 6 (nI p)
    rw [← h9]
    exact congrArg (fun τ => sI τ 0 6 (nI p)) (sI_self (mTakes σ r a b c e) 0 9).symm
theorem cnt_nxt {σ : St} {r d : Nat} (q : Nat × Option Int32) : cntSt σ r d q = nxtSt σ r (q.1, q.2.map (fun n => ((4, n, -1, -1), d + 1))) := by
  obtain ⟨p, o⟩ := q
  cases o <;> rfl
section P4
variable {l : Launch} {G : cxG} {adr : Nat → Nat} {Lf Rt : va_W} {σ : St}
theorem r_readsNext {tl r d p : Nat} (h5 : σ.1 0 5 = nI tl) (ht : tl ≤ 200) (h8 : σ.1 0 8 = nI r) (hr : r ≤ 30) (h9 : σ.1 0 9 = nI d) (hd2 : d ≤ 2) (hp : p ≤ 200) : SpecD l G mX11_readsNext [.ref (adr 0)] (wp G adr LM Lf Rt (sI σ 0 6 (nI p))) (some (.int (bI (rdNext (σ.2.2.1 3) tl p r d).2.isSome))) (wp G adr LM Lf Rt (nxtSt σ r (rdNext (σ.2.2.1 3) tl p r d))) := by
  refine spec_of (by decide) (Nat.le_of_ble_eq_true rfl) (fun sz => ?_)
  unfold rdNext
  by_cases h30 : r = 30
  · rw [if_pos h30]
    subst h30
    refine pw_aload_n dX11_readsNext_0 rfl ?_
    refine lp_geti dX11_readsNext_1 fp_RX11_120.FL rfl rfl ?_
    refine pw_bipush (v := 30) dX11_readsNext_4 rfl ?_
    refine pw_icmp_ne 11 dX11_readsNext_6 (by decide) (fun c_6 => absurd h8 c_6) (fun c_6 => ?_)
    refine pw_iconst (v := 0) dX11_readsNext_9 rfl ?_
    exact pw_iret rfl rfl dX11_readsNext_10 (Nat.zero_le _) (Nat.zero_le _) rfl
  · rw [if_neg h30]
    have h30N : ¬ (sI σ 0 6 (nI p)).1 0 8 = 30 := fun q => h30 ((nI_eq (by omega) (by decide)).mp (h8.symm.trans q))
    by_cases hL : isLet (ch (σ.2.2.1 3) tl p) = true
    · rw [if_pos hL, ← asg_nxt h9]
      have e : (Option.map (fun q : Quad => (q, d)) (rdAsg (σ.2.2.1 3) tl p).2).isSome = (rdAsg (σ.2.2.1 3) tl p).2.isSome := by cases (rdAsg (σ.2.2.1 3) tl p).2 <;> rfl
      dsimp only
      rw [e]
      refine pw_aload_n dX11_readsNext_0 rfl ?_
      refine lp_geti dX11_readsNext_1 fp_RX11_120.FL rfl rfl ?_
      refine pw_bipush (v := 30) dX11_readsNext_4 rfl ?_
      refine pw_icmp_ne 11 dX11_readsNext_6 (by decide) (fun c_6 => ?_) (fun c_6 => absurd c_6 h30N)
      refine pw_aload_n dX11_readsNext_11 rfl ?_
      refine lp_cV1 (mi' := mX11_isLetter) (As := []) (q := (RX11, TX11, 33)) dX11_readsNext_12 lk_RX11_123 mk_X11_isLetter mi_X11_isLetter me_X11_isLetter ⟨by decide, by decide⟩ rfl rfl (Nat.le_of_ble_eq_true rfl) rfl rfl ⟨rfl, rfl⟩ ⟨Nat.zero_le _, Nat.zero_le _⟩ (p_isLetter h5 ht (by omega)) ?_
      refine pw_if_eq 23 dX11_readsNext_15 (by decide) (fun c_15 => absurd c_15 (by rw [bI_1 hL]; decide)) (fun c_15 => ?_)
      refine pw_aload_n dX11_readsNext_18 rfl ?_
      refine lp_cV1 (mi' := mX11_readsAssignment) (As := []) (q := (RX11, TX11, 33)) dX11_readsNext_19 lk_RX11_142 mk_X11_readsAssignment mi_X11_readsAssignment me_X11_readsAssignment ⟨by decide, by decide⟩ rfl rfl (Nat.le_of_ble_eq_true rfl) rfl rfl ⟨rfl, rfl⟩ ⟨Nat.zero_le _, Nat.zero_le _⟩ (r_readsAssignment h5 ht h8 (by omega) hp) ?_
      exact pw_iret rfl bI_nar dX11_readsNext_22 (Nat.zero_le _) (Nat.zero_le _) rfl
    · rw [if_neg hL]
      have hLF : isLet (ch (σ.2.2.1 3) tl p) = false := Bool.not_eq_true _ ▸ hL
      by_cases hF : isFig (ch (σ.2.2.1 3) tl p) = true
      · rw [if_pos hF]
        by_cases hd : d < 2
        · rw [if_pos hd, ← cnt_nxt]
          have e : (Option.map (fun n : Int32 => (((4, n, -1, -1) : Quad), d + 1)) (rdCnt (σ.2.2.1 3) tl p).2).isSome = (rdCnt (σ.2.2.1 3) tl p).2.isSome := by cases (rdCnt (σ.2.2.1 3) tl p).2 <;> rfl
          dsimp only
          rw [e]
          cases hc : (rdCnt (σ.2.2.1 3) tl p).2.isSome
          · refine pw_aload_n dX11_readsNext_0 rfl ?_
            refine lp_geti dX11_readsNext_1 fp_RX11_120.FL rfl rfl ?_
            refine pw_bipush (v := 30) dX11_readsNext_4 rfl ?_
            refine pw_icmp_ne 11 dX11_readsNext_6 (by decide) (fun c_6 => ?_) (fun c_6 => absurd c_6 h30N)
            refine pw_aload_n dX11_readsNext_11 rfl ?_
            refine lp_cV1 (mi' := mX11_isLetter) (As := []) (q := (RX11, TX11, 33)) dX11_readsNext_12 lk_RX11_123 mk_X11_isLetter mi_X11_isLetter me_X11_isLetter ⟨by decide, by decide⟩ rfl rfl (Nat.le_of_ble_eq_true rfl) rfl rfl ⟨rfl, rfl⟩ ⟨Nat.zero_le _, Nat.zero_le _⟩ (p_isLetter h5 ht (by omega)) ?_
            refine pw_if_eq 23 dX11_readsNext_15 (by decide) (fun c_15 => ?_) (fun c_15 => absurd (bI_f hLF) c_15)
            refine pw_aload_n dX11_readsNext_23 rfl ?_
            refine lp_cV1 (mi' := mX11_isFigure) (As := []) (q := (RX11, TX11, 33)) dX11_readsNext_24 lk_RX11_127 mk_X11_isFigure mi_X11_isFigure me_X11_isFigure ⟨by decide, by decide⟩ rfl rfl (Nat.le_of_ble_eq_true rfl) rfl rfl ⟨rfl, rfl⟩ ⟨Nat.zero_le _, Nat.zero_le _⟩ (p_isFigure h5 ht (by omega)) ?_
            refine pw_if_eq 51 dX11_readsNext_27 (by decide) (fun c_27 => absurd c_27 (by rw [bI_1 hF]; decide)) (fun c_27 => ?_)
            refine pw_aload_n dX11_readsNext_30 rfl ?_
            refine lp_geti dX11_readsNext_31 fp_RX11_139.FL rfl rfl ?_
            refine pw_iconst (v := 2) dX11_readsNext_34 rfl ?_
            refine pw_icmp_ge 49 dX11_readsNext_35 (by decide) (fun c_35 => absurd c_35 (by show ¬ (2 : Int32) ≤ σ.1 0 9; rw [h9]; exact nI_ge (a := d) (b := 2) hd (by decide))) (fun c_35 => ?_)
            refine pw_aload_n dX11_readsNext_38 rfl ?_
            refine lp_cV1 (mi' := mX11_readsCount) (As := []) (q := (RX11, TX11, 33)) dX11_readsNext_39 lk_RX11_145 mk_X11_readsCount mi_X11_readsCount me_X11_readsCount ⟨by decide, by decide⟩ rfl rfl (Nat.le_of_ble_eq_true rfl) rfl rfl ⟨rfl, rfl⟩ ⟨Nat.zero_le _, Nat.zero_le _⟩ (r_readsCount h5 ht h8 (by omega) h9 hp) ?_
            rw [hc]
            refine pw_if_eq 49 dX11_readsNext_42 (by decide) (fun c_42 => ?_) (fun c_42 => absurd rfl c_42)
            refine pw_iconst (v := 0) dX11_readsNext_49 rfl ?_
            exact pw_iret rfl rfl dX11_readsNext_50 (Nat.zero_le _) (Nat.zero_le _) rfl
          · refine pw_aload_n dX11_readsNext_0 rfl ?_
            refine lp_geti dX11_readsNext_1 fp_RX11_120.FL rfl rfl ?_
            refine pw_bipush (v := 30) dX11_readsNext_4 rfl ?_
            refine pw_icmp_ne 11 dX11_readsNext_6 (by decide) (fun c_6 => ?_) (fun c_6 => absurd c_6 h30N)
            refine pw_aload_n dX11_readsNext_11 rfl ?_
            refine lp_cV1 (mi' := mX11_isLetter) (As := []) (q := (RX11, TX11, 33)) dX11_readsNext_12 lk_RX11_123 mk_X11_isLetter mi_X11_isLetter me_X11_isLetter ⟨by decide, by decide⟩ rfl rfl (Nat.le_of_ble_eq_true rfl) rfl rfl ⟨rfl, rfl⟩ ⟨Nat.zero_le _, Nat.zero_le _⟩ (p_isLetter h5 ht (by omega)) ?_
            refine pw_if_eq 23 dX11_readsNext_15 (by decide) (fun c_15 => ?_) (fun c_15 => absurd (bI_f hLF) c_15)
            refine pw_aload_n dX11_readsNext_23 rfl ?_
            refine lp_cV1 (mi' := mX11_isFigure) (As := []) (q := (RX11, TX11, 33)) dX11_readsNext_24 lk_RX11_127 mk_X11_isFigure mi_X11_isFigure me_X11_isFigure ⟨by decide, by decide⟩ rfl rfl (Nat.le_of_ble_eq_true rfl) rfl rfl ⟨rfl, rfl⟩ ⟨Nat.zero_le _, Nat.zero_le _⟩ (p_isFigure h5 ht (by omega)) ?_
            refine pw_if_eq 51 dX11_readsNext_27 (by decide) (fun c_27 => absurd c_27 (by rw [bI_1 hF]; decide)) (fun c_27 => ?_)
            refine pw_aload_n dX11_readsNext_30 rfl ?_
            refine lp_geti dX11_readsNext_31 fp_RX11_139.FL rfl rfl ?_
            refine pw_iconst (v := 2) dX11_readsNext_34 rfl ?_
            refine pw_icmp_ge 49 dX11_readsNext_35 (by decide) (fun c_35 => absurd c_35 (by show ¬ (2 : Int32) ≤ σ.1 0 9; rw [h9]; exact nI_ge (a := d) (b := 2) hd (by decide))) (fun c_35 => ?_)
            refine pw_aload_n dX11_readsNext_38 rfl ?_
            refine lp_cV1 (mi' := mX11_readsCount) (As := []) (q := (RX11, TX11, 33)) dX11_readsNext_39 lk_RX11_145 mk_X11_readsCount mi_X11_readsCount me_X11_readsCount ⟨by decide, by decide⟩ rfl rfl (Nat.le_of_ble_eq_true rfl) rfl rfl ⟨rfl, rfl⟩ ⟨Nat.zero_le _, Nat.zero_le _⟩ (r_readsCount h5 ht h8 (by omega) h9 hp) ?_
            rw [hc]
            refine pw_if_eq 49 dX11_readsNext_42 (by decide) (fun c_42 => absurd (show (1 : Int32) = 0 from c_42) (by decide)) (fun c_42 => ?_)
            refine pw_iconst (v := 1) dX11_readsNext_45 rfl ?_
            refine pw_goto (tgt := 50) dX11_readsNext_46 (by decide) ?_
            exact pw_iret rfl rfl dX11_readsNext_50 (Nat.zero_le _) (Nat.zero_le _) rfl
        · rw [if_neg hd]
          refine pw_aload_n dX11_readsNext_0 rfl ?_
          refine lp_geti dX11_readsNext_1 fp_RX11_120.FL rfl rfl ?_
          refine pw_bipush (v := 30) dX11_readsNext_4 rfl ?_
          refine pw_icmp_ne 11 dX11_readsNext_6 (by decide) (fun c_6 => ?_) (fun c_6 => absurd c_6 h30N)
          refine pw_aload_n dX11_readsNext_11 rfl ?_
          refine lp_cV1 (mi' := mX11_isLetter) (As := []) (q := (RX11, TX11, 33)) dX11_readsNext_12 lk_RX11_123 mk_X11_isLetter mi_X11_isLetter me_X11_isLetter ⟨by decide, by decide⟩ rfl rfl (Nat.le_of_ble_eq_true rfl) rfl rfl ⟨rfl, rfl⟩ ⟨Nat.zero_le _, Nat.zero_le _⟩ (p_isLetter h5 ht (by omega)) ?_
          refine pw_if_eq 23 dX11_readsNext_15 (by decide) (fun c_15 => ?_) (fun c_15 => absurd (bI_f hLF) c_15)
          refine pw_aload_n dX11_readsNext_23 rfl ?_
          refine lp_cV1 (mi' := mX11_isFigure) (As := []) (q := (RX11, TX11, 33)) dX11_readsNext_24 lk_RX11_127 mk_X11_isFigure mi_X11_isFigure me_X11_isFigure ⟨by decide, by decide⟩ rfl rfl (Nat.le_of_ble_eq_true rfl) rfl rfl ⟨rfl, rfl⟩ ⟨Nat.zero_le _, Nat.zero_le _⟩ (p_isFigure h5 ht (by omega)) ?_
          refine pw_if_eq 51 dX11_readsNext_27 (by decide) (fun c_27 => absurd c_27 (by rw [bI_1 hF]; decide)) (fun c_27 => ?_)
          refine pw_aload_n dX11_readsNext_30 rfl ?_
          refine lp_geti dX11_readsNext_31 fp_RX11_139.FL rfl rfl ?_
          refine pw_iconst (v := 2) dX11_readsNext_34 rfl ?_
          refine pw_icmp_ge 49 dX11_readsNext_35 (by decide) (fun c_35 => ?_) (fun c_35 => absurd (by show (2 : Int32) ≤ σ.1 0 9; rw [h9]; exact nI_le (a := 2) (b := d) (by omega) (by omega)) c_35)
          refine pw_iconst (v := 0) dX11_readsNext_49 rfl ?_
          exact pw_iret rfl rfl dX11_readsNext_50 (Nat.zero_le _) (Nat.zero_le _) rfl
      · rw [if_neg hF]
        have hFF : isFig (ch (σ.2.2.1 3) tl p) = false := Bool.not_eq_true _ ▸ hF
        by_cases hb : ch (σ.2.2.1 3) tl p = 125
        · by_cases hd0 : d = 0
          · rw [if_neg (fun q => q.2 hd0)]
            subst hd0
            refine pw_aload_n dX11_readsNext_0 rfl ?_
            refine lp_geti dX11_readsNext_1 fp_RX11_120.FL rfl rfl ?_
            refine pw_bipush (v := 30) dX11_readsNext_4 rfl ?_
            refine pw_icmp_ne 11 dX11_readsNext_6 (by decide) (fun c_6 => ?_) (fun c_6 => absurd c_6 h30N)
            refine pw_aload_n dX11_readsNext_11 rfl ?_
            refine lp_cV1 (mi' := mX11_isLetter) (As := []) (q := (RX11, TX11, 33)) dX11_readsNext_12 lk_RX11_123 mk_X11_isLetter mi_X11_isLetter me_X11_isLetter ⟨by decide, by decide⟩ rfl rfl (Nat.le_of_ble_eq_true rfl) rfl rfl ⟨rfl, rfl⟩ ⟨Nat.zero_le _, Nat.zero_le _⟩ (p_isLetter h5 ht (by omega)) ?_
            refine pw_if_eq 23 dX11_readsNext_15 (by decide) (fun c_15 => ?_) (fun c_15 => absurd (bI_f hLF) c_15)
            refine pw_aload_n dX11_readsNext_23 rfl ?_
            refine lp_cV1 (mi' := mX11_isFigure) (As := []) (q := (RX11, TX11, 33)) dX11_readsNext_24 lk_RX11_127 mk_X11_isFigure mi_X11_isFigure me_X11_isFigure ⟨by decide, by decide⟩ rfl rfl (Nat.le_of_ble_eq_true rfl) rfl rfl ⟨rfl, rfl⟩ ⟨Nat.zero_le _, Nat.zero_le _⟩ (p_isFigure h5 ht (by omega)) ?_
            refine pw_if_eq 51 dX11_readsNext_27 (by decide) (fun c_27 => ?_) (fun c_27 => absurd (bI_f hFF) c_27)
            refine pw_aload_n dX11_readsNext_51 rfl ?_
            refine lp_cV1 (mi' := mX11_here) (As := []) (q := (RX11, TX11, 33)) dX11_readsNext_52 lk_RX11_108 mk_X11_here mi_X11_here me_X11_here ⟨by decide, by decide⟩ rfl rfl (Nat.le_of_ble_eq_true rfl) rfl rfl ⟨rfl, rfl⟩ ⟨Nat.zero_le _, Nat.zero_le _⟩ (p_here h5 ht (by omega)) ?_
            refine pw_bipush (v := 125) dX11_readsNext_55 rfl ?_
            refine pw_icmp_ne 67 dX11_readsNext_57 (by decide) (fun c_57 => absurd hb c_57) (fun c_57 => ?_)
            refine pw_aload_n dX11_readsNext_60 rfl ?_
            refine lp_geti dX11_readsNext_61 fp_RX11_139.FL rfl rfl ?_
            refine pw_if_ne 69 dX11_readsNext_64 (by decide) (fun c_64 => absurd h9 c_64) (fun c_64 => ?_)
            refine pw_iconst (v := 0) dX11_readsNext_67 rfl ?_
            exact pw_iret rfl rfl dX11_readsNext_68 (Nat.zero_le _) (Nat.zero_le _) rfl
          · rw [if_pos ⟨hb, hd0⟩]
            refine pw_aload_n dX11_readsNext_0 rfl ?_
            refine lp_geti dX11_readsNext_1 fp_RX11_120.FL rfl rfl ?_
            refine pw_bipush (v := 30) dX11_readsNext_4 rfl ?_
            refine pw_icmp_ne 11 dX11_readsNext_6 (by decide) (fun c_6 => ?_) (fun c_6 => absurd c_6 h30N)
            refine pw_aload_n dX11_readsNext_11 rfl ?_
            refine lp_cV1 (mi' := mX11_isLetter) (As := []) (q := (RX11, TX11, 33)) dX11_readsNext_12 lk_RX11_123 mk_X11_isLetter mi_X11_isLetter me_X11_isLetter ⟨by decide, by decide⟩ rfl rfl (Nat.le_of_ble_eq_true rfl) rfl rfl ⟨rfl, rfl⟩ ⟨Nat.zero_le _, Nat.zero_le _⟩ (p_isLetter h5 ht (by omega)) ?_
            refine pw_if_eq 23 dX11_readsNext_15 (by decide) (fun c_15 => ?_) (fun c_15 => absurd (bI_f hLF) c_15)
            refine pw_aload_n dX11_readsNext_23 rfl ?_
            refine lp_cV1 (mi' := mX11_isFigure) (As := []) (q := (RX11, TX11, 33)) dX11_readsNext_24 lk_RX11_127 mk_X11_isFigure mi_X11_isFigure me_X11_isFigure ⟨by decide, by decide⟩ rfl rfl (Nat.le_of_ble_eq_true rfl) rfl rfl ⟨rfl, rfl⟩ ⟨Nat.zero_le _, Nat.zero_le _⟩ (p_isFigure h5 ht (by omega)) ?_
            refine pw_if_eq 51 dX11_readsNext_27 (by decide) (fun c_27 => ?_) (fun c_27 => absurd (bI_f hFF) c_27)
            refine pw_aload_n dX11_readsNext_51 rfl ?_
            refine lp_cV1 (mi' := mX11_here) (As := []) (q := (RX11, TX11, 33)) dX11_readsNext_52 lk_RX11_108 mk_X11_here mi_X11_here me_X11_here ⟨by decide, by decide⟩ rfl rfl (Nat.le_of_ble_eq_true rfl) rfl rfl ⟨rfl, rfl⟩ ⟨Nat.zero_le _, Nat.zero_le _⟩ (p_here h5 ht (by omega)) ?_
            refine pw_bipush (v := 125) dX11_readsNext_55 rfl ?_
            refine pw_icmp_ne 67 dX11_readsNext_57 (by decide) (fun c_57 => absurd hb c_57) (fun c_57 => ?_)
            refine pw_aload_n dX11_readsNext_60 rfl ?_
            refine lp_geti dX11_readsNext_61 fp_RX11_139.FL rfl rfl ?_
            refine pw_if_ne 69 dX11_readsNext_64 (by decide) (fun c_64 => ?_) (fun c_64 => absurd c_64 (by show ¬ σ.1 0 9 = 0; rw [h9]; exact nI_ne0 (by omega) (by omega)))
            refine pw_aload_n dX11_readsNext_69 rfl ?_
            refine pw_dup dX11_readsNext_70 rfl ?_
            refine lp_geti dX11_readsNext_71 fp_RX11_105.FL rfl rfl ?_
            refine pw_iconst (v := 1) dX11_readsNext_74 rfl ?_
            refine pw_iadd dX11_readsNext_75 ?_
            refine lp_puti dX11_readsNext_76 fp_RX11_105 rfl rfl rfl rfl ?_
            rw [pl_step]
            refine pw_aload_n dX11_readsNext_79 rfl ?_
            refine pw_dup dX11_readsNext_80 rfl ?_
            refine lp_geti dX11_readsNext_81 fp_RX11_139.FL rfl rfl ?_
            refine pw_iconst (v := 1) dX11_readsNext_84 rfl ?_
            refine pw_isub dX11_readsNext_85 ?_
            refine lp_puti dX11_readsNext_86 fp_RX11_139 rfl rfl rfl rfl ?_
            refine pw_st (σ' := sI (sI σ 0 9 (nI (d - 1))) 0 6 (nI (p + 1))) ?_ ?_
            · show sI (sI σ 0 6 (nI (p + 1))) 0 9 (σ.1 0 9 - 1) = _
              have e := nI_pred (d - 1)
              rw [show d - 1 + 1 = d by omega] at e
              rw [h9, e, sI_comm _ 0 6 9 _ _ (by decide)]
            refine pw_aload_n dX11_readsNext_89 rfl ?_
            refine pw_iconst (v := 5) dX11_readsNext_90 rfl ?_
            refine pw_iconst (v := -1) dX11_readsNext_91 rfl ?_
            refine pw_iconst (v := -1) dX11_readsNext_92 rfl ?_
            refine pw_iconst (v := -1) dX11_readsNext_93 rfl ?_
            refine lp_cV0 (mi' := mX11_takes) (As := [_, _, _, _]) (q := (RX11, TX11, 33)) dX11_readsNext_94 lk_RX11_133 mk_X11_takes mi_X11_takes me_X11_takes ⟨by decide, by decide⟩ rfl rfl (Nat.le_of_ble_eq_true rfl) rfl rfl ⟨rfl, rfl⟩ ⟨Nat.zero_le _, Nat.zero_le _⟩ (r_takes (σ := sI (sI σ 0 9 (nI (d - 1))) 0 6 (nI (p + 1))) r 5 (-1) (-1) (-1) (by omega) h8) ?_
            refine pw_st (σ' := sI (sI (mTakes σ r 5 (-1) (-1) (-1)) 0 9 (nI (d - 1))) 0 6 (nI (p + 1))) ?_ ?_
            · rw [takes_pl]
              congr 1
              unfold mTakes
              rw [sA_sI, sI_comm _ 0 9 8 _ _ (by decide)]
              rfl
            refine pw_iconst (v := 1) dX11_readsNext_97 rfl ?_
            exact pw_iret rfl rfl dX11_readsNext_98 (Nat.zero_le _) (Nat.zero_le _) rfl
        · rw [if_neg (fun q => hb q.1)]
          refine pw_aload_n dX11_readsNext_0 rfl ?_
          refine lp_geti dX11_readsNext_1 fp_RX11_120.FL rfl rfl ?_
          refine pw_bipush (v := 30) dX11_readsNext_4 rfl ?_
          refine pw_icmp_ne 11 dX11_readsNext_6 (by decide) (fun c_6 => ?_) (fun c_6 => absurd c_6 h30N)
          refine pw_aload_n dX11_readsNext_11 rfl ?_
          refine lp_cV1 (mi' := mX11_isLetter) (As := []) (q := (RX11, TX11, 33)) dX11_readsNext_12 lk_RX11_123 mk_X11_isLetter mi_X11_isLetter me_X11_isLetter ⟨by decide, by decide⟩ rfl rfl (Nat.le_of_ble_eq_true rfl) rfl rfl ⟨rfl, rfl⟩ ⟨Nat.zero_le _, Nat.zero_le _⟩ (p_isLetter h5 ht (by omega)) ?_
          refine pw_if_eq 23 dX11_readsNext_15 (by decide) (fun c_15 => ?_) (fun c_15 => absurd (bI_f hLF) c_15)
          refine pw_aload_n dX11_readsNext_23 rfl ?_
          refine lp_cV1 (mi' := mX11_isFigure) (As := []) (q := (RX11, TX11, 33)) dX11_readsNext_24 lk_RX11_127 mk_X11_isFigure mi_X11_isFigure me_X11_isFigure ⟨by decide, by decide⟩ rfl rfl (Nat.le_of_ble_eq_true rfl) rfl rfl ⟨rfl, rfl⟩ ⟨Nat.zero_le _, Nat.zero_le _⟩ (p_isFigure h5 ht (by omega)) ?_
          refine pw_if_eq 51 dX11_readsNext_27 (by decide) (fun c_27 => ?_) (fun c_27 => absurd (bI_f hFF) c_27)
          refine pw_aload_n dX11_readsNext_51 rfl ?_
          refine lp_cV1 (mi' := mX11_here) (As := []) (q := (RX11, TX11, 33)) dX11_readsNext_52 lk_RX11_108 mk_X11_here mi_X11_here me_X11_here ⟨by decide, by decide⟩ rfl rfl (Nat.le_of_ble_eq_true rfl) rfl rfl ⟨rfl, rfl⟩ ⟨Nat.zero_le _, Nat.zero_le _⟩ (p_here h5 ht (by omega)) ?_
          refine pw_bipush (v := 125) dX11_readsNext_55 rfl ?_
          refine pw_icmp_ne 67 dX11_readsNext_57 (by decide) (fun c_57 => ?_) (fun c_57 => absurd c_57 hb)
          refine pw_iconst (v := 0) dX11_readsNext_67 rfl ?_
          exact pw_iret rfl rfl dX11_readsNext_68 (Nat.zero_le _) (Nat.zero_le _) rfl
end P4
