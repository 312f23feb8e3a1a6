def asgSt (σ : St) (r : Nat) (q : Nat × Option (Int32 × Int32 × Int32 × Int32)) : St := match q.2 with
  | none => sI σ 0 6 (nI q.1)
  | some (a, b, c, d) => sI (mTakes σ r a b c d) 0 6 (nI q.1)
def cntSt (σ : St) (r d : Nat) (q : Nat × Option Int32) : St := match q.2 with
  | none => sI σ 0 6 (nI q.1)
  | some n => sI (sI (mTakes σ r 4 n (-1) (-1)) 0 9 (nI (d + 1))) 0 6 (nI q.1)
section P3
variable {l : Launch} {G : cxG} {adr : Nat → Nat} {Lf Rt : va_W} {σ : St}
theorem asg_tail {sz : Nat} {w0 : va_W} {fin : OC → Prop} {tl r p : Nat} (h5 : σ.1 0 5 = nI tl) (ht : tl ≤ 200) (h8 : σ.1 0 8 = nI r) (hr : r < 30) (hp : p < 900) (v f kd s : Int32)
    (hf1 : ch (σ.2.2.1 3) tl p = 59 → fin (.inl (some (.int 1), wp G adr LM Lf Rt (sI (mTakes σ r kd v f s) 0 6 (nI (p + 1))))))
    (hf0 : ¬ ch (σ.2.2.1 3) tl p = 59 → fin (.inl (some (.int 0), wp G adr LM Lf Rt (sI σ 0 6 (nI p))))) :
    PW l G mX11_readsAssignment w0 sz fin 121 [(0, .ref (adr 0)), (1, .int v), (2, .int f), (4, .int kd), (5, .int s)] [] 0 0 (wp G adr LM Lf Rt (sI σ 0 6 (nI p))) := by
  refine pw_aload_n dX11_readsAssignment_121 rfl ?_
  refine lp_cV1 (mi' := mX11_here) (As := []) (q := (RX11, TX11, 33)) dX11_readsAssignment_122 lk_RX11_108 mk_X11_here mi_X11_here me_X11_here ⟨by decide, by decide⟩ rfl rfl (Nat.le_of_ble_eq_true rfl) rfl rfl ⟨rfl, rfl⟩ ⟨Nat.zero_le _, Nat.zero_le _⟩ (p_here h5 ht (by omega)) ?_
  refine pw_bipush (v := 59) dX11_readsAssignment_125 rfl ?_
  refine pw_icmp_eq 132 dX11_readsAssignment_127 (by decide) (fun c_127 => ?_) (fun c_127 => ?_)
  · refine pw_aload_n dX11_readsAssignment_132 rfl ?_
    refine pw_dup dX11_readsAssignment_133 rfl ?_
    refine lp_geti dX11_readsAssignment_134 fp_RX11_105.FL rfl rfl ?_
    refine pw_iconst (v := 1) dX11_readsAssignment_137 rfl ?_
    refine pw_iadd dX11_readsAssignment_138 ?_
    refine lp_puti dX11_readsAssignment_139 fp_RX11_105 rfl rfl rfl rfl ?_
    rw [pl_step]
    refine pw_aload_n dX11_readsAssignment_142 rfl ?_
    refine pw_iload dX11_readsAssignment_143 rfl ?_
    refine pw_iload_n dX11_readsAssignment_145 rfl ?_
    refine pw_iload_n dX11_readsAssignment_146 rfl ?_
    refine pw_iload dX11_readsAssignment_147 rfl ?_
    refine lp_cV0 (mi' := mX11_takes) (As := [_, _, _, _]) (q := (RX11, TX11, 33)) dX11_readsAssignment_149 lk_RX11_133 mk_X11_takes mi_X11_takes me_X11_takes ⟨by decide, by decide⟩ rfl rfl (Nat.le_of_ble_eq_true rfl) rfl rfl ⟨rfl, rfl⟩ ⟨Nat.zero_le _, Nat.zero_le _⟩ (r_takes (σ := sI σ 0 6 (nI (p + 1))) r kd v f s hr h8) ?_
    rw [takes_pl]
    refine pw_iconst (v := 1) dX11_readsAssignment_152 rfl ?_
    exact pw_iret rfl rfl dX11_readsAssignment_153 (Nat.zero_le _) (Nat.zero_le _) (hf1 c_127)
  · refine pw_iconst (v := 0) dX11_readsAssignment_130 rfl ?_
    exact pw_iret rfl rfl dX11_readsAssignment_131 (Nat.zero_le _) (Nat.zero_le _) (hf0 c_127)
theorem r_readsAssignment {tl r p : Nat} (h5 : σ.1 0 5 = nI tl) (ht : tl ≤ 200) (h8 : σ.1 0 8 = nI r) (hr : r < 30) (hp : p ≤ 200) : SpecD l G mX11_readsAssignment [.ref (adr 0)] (wp G adr LM Lf Rt (sI σ 0 6 (nI p))) (some (.int (bI (rdAsg (σ.2.2.1 3) tl p).2.isSome))) (wp G adr LM Lf Rt (asgSt σ r (rdAsg (σ.2.2.1 3) tl p))) := by
  refine spec_of (by decide) (Nat.le_of_ble_eq_true rfl) (fun sz => ?_)
  unfold rdAsg
  have hq := rdOpd_le (t := σ.2.2.1 3) (tl := tl) (p := p + 2)
  have hq2 := rdOpd_le (t := σ.2.2.1 3) (tl := tl) (p := (rdOpd (σ.2.2.1 3) tl (p + 2)).1 + 1)
  have s2 := fun (Lf Rt : va_W) => r_operandRead (l := l) (G := G) (adr := adr) (Lf := Lf) (Rt := Rt) h5 ht (show (rdOpd (σ.2.2.1 3) tl (p + 2)).1 + 1 ≤ 250 by omega)
  have s1 := fun (Lf Rt : va_W) => r_operandRead (l := l) (G := G) (adr := adr) (Lf := Lf) (Rt := Rt) h5 ht (show p + 2 ≤ 250 by omega)
  generalize rdOpd (σ.2.2.1 3) tl (p + 2) = q at hq hq2 s1 s2 ⊢
  generalize rdOpd (σ.2.2.1 3) tl (q.1 + 1) = q2 at hq2 s2 ⊢
  by_cases h61 : ch (σ.2.2.1 3) tl (p + 1) = 61
  · rw [if_pos h61]
    by_cases hn : q.2 = -1
    · rw [if_pos hn]
      refine pw_aload_n dX11_readsAssignment_0 rfl ?_
      refine lp_cV1 (mi' := mX11_here) (As := []) (q := (RX11, TX11, 33)) dX11_readsAssignment_1 lk_RX11_108 mk_X11_here mi_X11_here me_X11_here ⟨by decide, by decide⟩ rfl rfl (Nat.le_of_ble_eq_true rfl) rfl rfl ⟨rfl, rfl⟩ ⟨Nat.zero_le _, Nat.zero_le _⟩ (p_here h5 ht (by omega)) ?_
      refine pw_bipush (v := 97) dX11_readsAssignment_4 rfl ?_
      refine pw_isub dX11_readsAssignment_6 ?_
      refine pw_istore_n dX11_readsAssignment_7 (by decide) ?_
      refine pw_aload_n dX11_readsAssignment_8 rfl ?_
      refine pw_dup dX11_readsAssignment_9 rfl ?_
      refine lp_geti dX11_readsAssignment_10 fp_RX11_105.FL rfl rfl ?_
      refine pw_iconst (v := 1) dX11_readsAssignment_13 rfl ?_
      refine pw_iadd dX11_readsAssignment_14 ?_
      refine lp_puti dX11_readsAssignment_15 fp_RX11_105 rfl rfl rfl rfl ?_
      rw [pl_step]
      refine pw_aload_n dX11_readsAssignment_18 rfl ?_
      refine lp_cV1 (mi' := mX11_here) (As := []) (q := (RX11, TX11, 33)) dX11_readsAssignment_19 lk_RX11_108 mk_X11_here mi_X11_here me_X11_here ⟨by decide, by decide⟩ rfl rfl (Nat.le_of_ble_eq_true rfl) rfl rfl ⟨rfl, rfl⟩ ⟨Nat.zero_le _, Nat.zero_le _⟩ (p_here h5 ht (by omega)) ?_
      refine pw_bipush (v := 61) dX11_readsAssignment_22 rfl ?_
      refine pw_icmp_eq 29 dX11_readsAssignment_24 (by decide) (fun c_24 => ?_) (fun c_24 => absurd h61 c_24)
      refine pw_aload_n dX11_readsAssignment_29 rfl ?_
      refine pw_dup dX11_readsAssignment_30 rfl ?_
      refine lp_geti dX11_readsAssignment_31 fp_RX11_105.FL rfl rfl ?_
      refine pw_iconst (v := 1) dX11_readsAssignment_34 rfl ?_
      refine pw_iadd dX11_readsAssignment_35 ?_
      refine lp_puti dX11_readsAssignment_36 fp_RX11_105 rfl rfl rfl rfl ?_
      rw [pl_step]
      refine pw_aload_n dX11_readsAssignment_39 rfl ?_
      refine lp_cV1 (mi' := mX11_operandRead) (As := []) (q := (RX11, TX11, 33)) dX11_readsAssignment_40 lk_RX11_130 mk_X11_operandRead mi_X11_operandRead me_X11_operandRead ⟨by decide, by decide⟩ rfl rfl (Nat.le_of_ble_eq_true rfl) rfl rfl ⟨rfl, rfl⟩ ⟨Nat.zero_le _, Nat.zero_le _⟩ (s1 Lf Rt) ?_
      refine pw_istore_n dX11_readsAssignment_43 (by decide) ?_
      refine pw_iload_n dX11_readsAssignment_44 rfl ?_
      refine pw_iconst (v := -1) dX11_readsAssignment_45 rfl ?_
      refine pw_icmp_ne 51 dX11_readsAssignment_46 (by decide) (fun c_46 => absurd hn c_46) (fun c_46 => ?_)
      refine pw_iconst (v := 0) dX11_readsAssignment_49 rfl ?_
      exact pw_iret rfl rfl dX11_readsAssignment_50 (Nat.zero_le _) (Nat.zero_le _) rfl
    · rw [if_neg hn]
      by_cases hk : kindC (ch (σ.2.2.1 3) tl q.1) = 0
      · rw [if_pos hk]
        refine pw_aload_n dX11_readsAssignment_0 rfl ?_
        refine lp_cV1 (mi' := mX11_here) (As := []) (q := (RX11, TX11, 33)) dX11_readsAssignment_1 lk_RX11_108 mk_X11_here mi_X11_here me_X11_here ⟨by decide, by decide⟩ rfl rfl (Nat.le_of_ble_eq_true rfl) rfl rfl ⟨rfl, rfl⟩ ⟨Nat.zero_le _, Nat.zero_le _⟩ (p_here h5 ht (by omega)) ?_
        refine pw_bipush (v := 97) dX11_readsAssignment_4 rfl ?_
        refine pw_isub dX11_readsAssignment_6 ?_
        refine pw_istore_n dX11_readsAssignment_7 (by decide) ?_
        refine pw_aload_n dX11_readsAssignment_8 rfl ?_
        refine pw_dup dX11_readsAssignment_9 rfl ?_
        refine lp_geti dX11_readsAssignment_10 fp_RX11_105.FL rfl rfl ?_
        refine pw_iconst (v := 1) dX11_readsAssignment_13 rfl ?_
        refine pw_iadd dX11_readsAssignment_14 ?_
        refine lp_puti dX11_readsAssignment_15 fp_RX11_105 rfl rfl rfl rfl ?_
        rw [pl_step]
        refine pw_aload_n dX11_readsAssignment_18 rfl ?_
        refine lp_cV1 (mi' := mX11_here) (As := []) (q := (RX11, TX11, 33)) dX11_readsAssignment_19 lk_RX11_108 mk_X11_here mi_X11_here me_X11_here ⟨by decide, by decide⟩ rfl rfl (Nat.le_of_ble_eq_true rfl) rfl rfl ⟨rfl, rfl⟩ ⟨Nat.zero_le _, Nat.zero_le _⟩ (p_here h5 ht (by omega)) ?_
        refine pw_bipush (v := 61) dX11_readsAssignment_22 rfl ?_
        refine pw_icmp_eq 29 dX11_readsAssignment_24 (by decide) (fun c_24 => ?_) (fun c_24 => absurd h61 c_24)
        refine pw_aload_n dX11_readsAssignment_29 rfl ?_
        refine pw_dup dX11_readsAssignment_30 rfl ?_
        refine lp_geti dX11_readsAssignment_31 fp_RX11_105.FL rfl rfl ?_
        refine pw_iconst (v := 1) dX11_readsAssignment_34 rfl ?_
        refine pw_iadd dX11_readsAssignment_35 ?_
        refine lp_puti dX11_readsAssignment_36 fp_RX11_105 rfl rfl rfl rfl ?_
        rw [pl_step]
        refine pw_aload_n dX11_readsAssignment_39 rfl ?_
        refine lp_cV1 (mi' := mX11_operandRead) (As := []) (q := (RX11, TX11, 33)) dX11_readsAssignment_40 lk_RX11_130 mk_X11_operandRead mi_X11_operandRead me_X11_operandRead ⟨by decide, by decide⟩ rfl rfl (Nat.le_of_ble_eq_true rfl) rfl rfl ⟨rfl, rfl⟩ ⟨Nat.zero_le _, Nat.zero_le _⟩ (s1 Lf Rt) ?_
        refine pw_istore_n dX11_readsAssignment_43 (by decide) ?_
        refine pw_iload_n dX11_readsAssignment_44 rfl ?_
        refine pw_iconst (v := -1) dX11_readsAssignment_45 rfl ?_
        refine pw_icmp_ne 51 dX11_readsAssignment_46 (by decide) (fun c_46 => ?_) (fun c_46 => absurd c_46 hn)
        refine pw_aload_n dX11_readsAssignment_51 rfl ?_
        refine lp_cV1 (mi' := mX11_here) (As := []) (q := (RX11, TX11, 33)) dX11_readsAssignment_52 lk_RX11_108 mk_X11_here mi_X11_here me_X11_here ⟨by decide, by decide⟩ rfl rfl (Nat.le_of_ble_eq_true rfl) rfl rfl ⟨rfl, rfl⟩ ⟨Nat.zero_le _, Nat.zero_le _⟩ (p_here h5 ht (by omega)) ?_
        refine pw_istore_n dX11_readsAssignment_55 (by decide) ?_
        refine pw_iload_n dX11_readsAssignment_56 rfl ?_
        refine pw_bipush (v := 43) dX11_readsAssignment_57 rfl ?_
        refine pw_icmp_ne 66 dX11_readsAssignment_59 (by decide) (fun c_59 => ?_) (fun c_59 => ?_)
        · refine pw_iload_n dX11_readsAssignment_66 rfl ?_
          refine pw_bipush (v := 45) dX11_readsAssignment_67 rfl ?_
          refine pw_icmp_ne 76 dX11_readsAssignment_69 (by decide) (fun c_69 => ?_) (fun c_69 => ?_)
          · refine pw_iload_n dX11_readsAssignment_76 rfl ?_
            refine pw_bipush (v := 42) dX11_readsAssignment_77 rfl ?_
            refine pw_icmp_ne 86 dX11_readsAssignment_79 (by decide) (fun c_79 => ?_) (fun c_79 => ?_)
            · refine pw_iconst (v := 0) dX11_readsAssignment_86 rfl ?_
              refine pw_top (kindC (ch (σ.2.2.1 3) tl q.1)) ?_ ?_
              · unfold kindC
                first | rw [if_neg c_59, if_neg c_69, if_neg c_79] | rw [if_neg c_59, if_neg c_69, if_pos c_79] | rw [if_neg c_59, if_pos c_69] | rw [if_pos c_59]
              refine pw_istore dX11_readsAssignment_87 (by decide) ?_
              refine pw_iconst (v := -1) dX11_readsAssignment_89 rfl ?_
              refine pw_istore dX11_readsAssignment_90 (by decide) ?_
              refine pw_iload dX11_readsAssignment_92 rfl ?_
              refine pw_if_eq 121 dX11_readsAssignment_94 (by decide) (fun c_94 => ?_) (fun c_94 => absurd hk c_94)
              refine pw_lk [(0, .ref (adr 0)), (1, .int (ch (σ.2.2.1 3) tl p - 97)), (2, .int q.2), (4, .int 0), (5, .int (-1))] ⟨rfl, rfl, rfl, congrArg (fun x => some (Value.int x)) hk, rfl, trivial⟩ (asg_tail h5 ht h8 hr (by omega) _ _ _ _ ?_ ?_)
              · intro h; rw [if_pos h]; rfl
              · intro h; rw [if_neg h]; rfl
            · refine pw_iconst (v := 3) dX11_readsAssignment_82 rfl ?_
              refine pw_goto (tgt := 87) dX11_readsAssignment_83 (by decide) ?_
              refine pw_top (kindC (ch (σ.2.2.1 3) tl q.1)) ?_ ?_
              · unfold kindC
                first | rw [if_neg c_59, if_neg c_69, if_neg c_79] | rw [if_neg c_59, if_neg c_69, if_pos c_79] | rw [if_neg c_59, if_pos c_69] | rw [if_pos c_59]
              refine pw_istore dX11_readsAssignment_87 (by decide) ?_
              refine pw_iconst (v := -1) dX11_readsAssignment_89 rfl ?_
              refine pw_istore dX11_readsAssignment_90 (by decide) ?_
              refine pw_iload dX11_readsAssignment_92 rfl ?_
              refine pw_if_eq 121 dX11_readsAssignment_94 (by decide) (fun c_94 => ?_) (fun c_94 => absurd hk c_94)
              refine pw_lk [(0, .ref (adr 0)), (1, .int (ch (σ.2.2.1 3) tl p - 97)), (2, .int q.2), (4, .int 0), (5, .int (-1))] ⟨rfl, rfl, rfl, congrArg (fun x => some (Value.int x)) hk, rfl, trivial⟩ (asg_tail h5 ht h8 hr (by omega) _ _ _ _ ?_ ?_)
              · intro h; rw [if_pos h]; rfl
              · intro h; rw [if_neg h]; rfl
          · refine pw_iconst (v := 2) dX11_readsAssignment_72 rfl ?_
            refine pw_goto (tgt := 87) dX11_readsAssignment_73 (by decide) ?_
            refine pw_top (kindC (ch (σ.2.2.1 3) tl q.1)) ?_ ?_
            · unfold kindC
              first | rw [if_neg c_59, if_neg c_69, if_neg c_79] | rw [if_neg c_59, if_neg c_69, if_pos c_79] | rw [if_neg c_59, if_pos c_69] | rw [if_pos c_59]
            refine pw_istore dX11_readsAssignment_87 (by decide) ?_
            refine pw_iconst (v := -1) dX11_readsAssignment_89 rfl ?_
            refine pw_istore dX11_readsAssignment_90 (by decide) ?_
            refine pw_iload dX11_readsAssignment_92 rfl ?_
            refine pw_if_eq 121 dX11_readsAssignment_94 (by decide) (fun c_94 => ?_) (fun c_94 => absurd hk c_94)
            refine pw_lk [(0, .ref (adr 0)), (1, .int (ch (σ.2.2.1 3) tl p - 97)), (2, .int q.2), (4, .int 0), (5, .int (-1))] ⟨rfl, rfl, rfl, congrArg (fun x => some (Value.int x)) hk, rfl, trivial⟩ (asg_tail h5 ht h8 hr (by omega) _ _ _ _ ?_ ?_)
            · intro h; rw [if_pos h]; rfl
            · intro h; rw [if_neg h]; rfl
        · refine pw_iconst (v := 1) dX11_readsAssignment_62 rfl ?_
          refine pw_goto (tgt := 87) dX11_readsAssignment_63 (by decide) ?_
          refine pw_top (kindC (ch (σ.2.2.1 3) tl q.1)) ?_ ?_
          · unfold kindC
            first | rw [if_neg c_59, if_neg c_69, if_neg c_79] | rw [if_neg c_59, if_neg c_69, if_pos c_79] | rw [if_neg c_59, if_pos c_69] | rw [if_pos c_59]
          refine pw_istore dX11_readsAssignment_87 (by decide) ?_
          refine pw_iconst (v := -1) dX11_readsAssignment_89 rfl ?_
          refine pw_istore dX11_readsAssignment_90 (by decide) ?_
          refine pw_iload dX11_readsAssignment_92 rfl ?_
          refine pw_if_eq 121 dX11_readsAssignment_94 (by decide) (fun c_94 => ?_) (fun c_94 => absurd hk c_94)
          refine pw_lk [(0, .ref (adr 0)), (1, .int (ch (σ.2.2.1 3) tl p - 97)), (2, .int q.2), (4, .int 0), (5, .int (-1))] ⟨rfl, rfl, rfl, congrArg (fun x => some (Value.int x)) hk, rfl, trivial⟩ (asg_tail h5 ht h8 hr (by omega) _ _ _ _ ?_ ?_)
          · intro h; rw [if_pos h]; rfl
          · intro h; rw [if_neg h]; rfl
      · rw [if_neg hk]
        by_cases hn2 : q2.2 = -1
        · rw [if_pos hn2]
          refine pw_aload_n dX11_readsAssignment_0 rfl ?_
          refine lp_cV1 (mi' := mX11_here) (As := []) (q := (RX11, TX11, 33)) dX11_readsAssignment_1 lk_RX11_108 mk_X11_here mi_X11_here me_X11_here ⟨by decide, by decide⟩ rfl rfl (Nat.le_of_ble_eq_true rfl) rfl rfl ⟨rfl, rfl⟩ ⟨Nat.zero_le _, Nat.zero_le _⟩ (p_here h5 ht (by omega)) ?_
          refine pw_bipush (v := 97) dX11_readsAssignment_4 rfl ?_
          refine pw_isub dX11_readsAssignment_6 ?_
          refine pw_istore_n dX11_readsAssignment_7 (by decide) ?_
          refine pw_aload_n dX11_readsAssignment_8 rfl ?_
          refine pw_dup dX11_readsAssignment_9 rfl ?_
          refine lp_geti dX11_readsAssignment_10 fp_RX11_105.FL rfl rfl ?_
          refine pw_iconst (v := 1) dX11_readsAssignment_13 rfl ?_
          refine pw_iadd dX11_readsAssignment_14 ?_
          refine lp_puti dX11_readsAssignment_15 fp_RX11_105 rfl rfl rfl rfl ?_
          rw [pl_step]
          refine pw_aload_n dX11_readsAssignment_18 rfl ?_
          refine lp_cV1 (mi' := mX11_here) (As := []) (q := (RX11, TX11, 33)) dX11_readsAssignment_19 lk_RX11_108 mk_X11_here mi_X11_here me_X11_here ⟨by decide, by decide⟩ rfl rfl (Nat.le_of_ble_eq_true rfl) rfl rfl ⟨rfl, rfl⟩ ⟨Nat.zero_le _, Nat.zero_le _⟩ (p_here h5 ht (by omega)) ?_
          refine pw_bipush (v := 61) dX11_readsAssignment_22 rfl ?_
          refine pw_icmp_eq 29 dX11_readsAssignment_24 (by decide) (fun c_24 => ?_) (fun c_24 => absurd h61 c_24)
          refine pw_aload_n dX11_readsAssignment_29 rfl ?_
          refine pw_dup dX11_readsAssignment_30 rfl ?_
          refine lp_geti dX11_readsAssignment_31 fp_RX11_105.FL rfl rfl ?_
          refine pw_iconst (v := 1) dX11_readsAssignment_34 rfl ?_
          refine pw_iadd dX11_readsAssignment_35 ?_
          refine lp_puti dX11_readsAssignment_36 fp_RX11_105 rfl rfl rfl rfl ?_
          rw [pl_step]
          refine pw_aload_n dX11_readsAssignment_39 rfl ?_
          refine lp_cV1 (mi' := mX11_operandRead) (As := []) (q := (RX11, TX11, 33)) dX11_readsAssignment_40 lk_RX11_130 mk_X11_operandRead mi_X11_operandRead me_X11_operandRead ⟨by decide, by decide⟩ rfl rfl (Nat.le_of_ble_eq_true rfl) rfl rfl ⟨rfl, rfl⟩ ⟨Nat.zero_le _, Nat.zero_le _⟩ (s1 Lf Rt) ?_
          refine pw_istore_n dX11_readsAssignment_43 (by decide) ?_
          refine pw_iload_n dX11_readsAssignment_44 rfl ?_
          refine pw_iconst (v := -1) dX11_readsAssignment_45 rfl ?_
          refine pw_icmp_ne 51 dX11_readsAssignment_46 (by decide) (fun c_46 => ?_) (fun c_46 => absurd c_46 hn)
          refine pw_aload_n dX11_readsAssignment_51 rfl ?_
          refine lp_cV1 (mi' := mX11_here) (As := []) (q := (RX11, TX11, 33)) dX11_readsAssignment_52 lk_RX11_108 mk_X11_here mi_X11_here me_X11_here ⟨by decide, by decide⟩ rfl rfl (Nat.le_of_ble_eq_true rfl) rfl rfl ⟨rfl, rfl⟩ ⟨Nat.zero_le _, Nat.zero_le _⟩ (p_here h5 ht (by omega)) ?_
          refine pw_istore_n dX11_readsAssignment_55 (by decide) ?_
          refine pw_iload_n dX11_readsAssignment_56 rfl ?_
          refine pw_bipush (v := 43) dX11_readsAssignment_57 rfl ?_
          refine pw_icmp_ne 66 dX11_readsAssignment_59 (by decide) (fun c_59 => ?_) (fun c_59 => ?_)
          · refine pw_iload_n dX11_readsAssignment_66 rfl ?_
            refine pw_bipush (v := 45) dX11_readsAssignment_67 rfl ?_
            refine pw_icmp_ne 76 dX11_readsAssignment_69 (by decide) (fun c_69 => ?_) (fun c_69 => ?_)
            · refine pw_iload_n dX11_readsAssignment_76 rfl ?_
              refine pw_bipush (v := 42) dX11_readsAssignment_77 rfl ?_
              refine pw_icmp_ne 86 dX11_readsAssignment_79 (by decide) (fun c_79 => ?_) (fun c_79 => ?_)
              · refine pw_iconst (v := 0) dX11_readsAssignment_86 rfl ?_
                refine pw_top (kindC (ch (σ.2.2.1 3) tl q.1)) ?_ ?_
                · unfold kindC
                  first | rw [if_neg c_59, if_neg c_69, if_neg c_79] | rw [if_neg c_59, if_neg c_69, if_pos c_79] | rw [if_neg c_59, if_pos c_69] | rw [if_pos c_59]
                refine pw_istore dX11_readsAssignment_87 (by decide) ?_
                refine pw_iconst (v := -1) dX11_readsAssignment_89 rfl ?_
                refine pw_istore dX11_readsAssignment_90 (by decide) ?_
                refine pw_iload dX11_readsAssignment_92 rfl ?_
                refine pw_if_eq 121 dX11_readsAssignment_94 (by decide) (fun c_94 => absurd c_94 hk) (fun c_94 => ?_)
                refine pw_aload_n dX11_readsAssignment_97 rfl ?_
                refine pw_dup dX11_readsAssignment_98 rfl ?_
                refine lp_geti dX11_readsAssignment_99 fp_RX11_105.FL rfl rfl ?_
                refine pw_iconst (v := 1) dX11_readsAssignment_102 rfl ?_
                refine pw_iadd dX11_readsAssignment_103 ?_
                refine lp_puti dX11_readsAssignment_104 fp_RX11_105 rfl rfl rfl rfl ?_
                rw [pl_step]
                refine pw_aload_n dX11_readsAssignment_107 rfl ?_
                refine lp_cV1 (mi' := mX11_operandRead) (As := []) (q := (RX11, TX11, 33)) dX11_readsAssignment_108 lk_RX11_130 mk_X11_operandRead mi_X11_operandRead me_X11_operandRead ⟨by decide, by decide⟩ rfl rfl (Nat.le_of_ble_eq_true rfl) rfl rfl ⟨rfl, rfl⟩ ⟨Nat.zero_le _, Nat.zero_le _⟩ (s2 Lf Rt) ?_
                refine pw_istore dX11_readsAssignment_111 (by decide) ?_
                refine pw_iload dX11_readsAssignment_113 rfl ?_
                refine pw_iconst (v := -1) dX11_readsAssignment_115 rfl ?_
                refine pw_icmp_ne 121 dX11_readsAssignment_116 (by decide) (fun c_116 => absurd hn2 c_116) (fun c_116 => ?_)
                refine pw_iconst (v := 0) dX11_readsAssignment_119 rfl ?_
                exact pw_iret rfl rfl dX11_readsAssignment_120 (Nat.zero_le _) (Nat.zero_le _) rfl
              · refine pw_iconst (v := 3) dX11_readsAssignment_82 rfl ?_
                refine pw_goto (tgt := 87) dX11_readsAssignment_83 (by decide) ?_
                refine pw_top (kindC (ch (σ.2.2.1 3) tl q.1)) ?_ ?_
                · unfold kindC
                  first | rw [if_neg c_59, if_neg c_69, if_neg c_79] | rw [if_neg c_59, if_neg c_69, if_pos c_79] | rw [if_neg c_59, if_pos c_69] | rw [if_pos c_59]
                refine pw_istore dX11_readsAssignment_87 (by decide) ?_
                refine pw_iconst (v := -1) dX11_readsAssignment_89 rfl ?_
                refine pw_istore dX11_readsAssignment_90 (by decide) ?_
                refine pw_iload dX11_readsAssignment_92 rfl ?_
                refine pw_if_eq 121 dX11_readsAssignment_94 (by decide) (fun c_94 => absurd c_94 hk) (fun c_94 => ?_)
                refine pw_aload_n dX11_readsAssignment_97 rfl ?_
                refine pw_dup dX11_readsAssignment_98 rfl ?_
                refine lp_geti dX11_readsAssignment_99 fp_RX11_105.FL rfl rfl ?_
                refine pw_iconst (v := 1) dX11_readsAssignment_102 rfl ?_
                refine pw_iadd dX11_readsAssignment_103 ?_
                refine lp_puti dX11_readsAssignment_104 fp_RX11_105 rfl rfl rfl rfl ?_
                rw [pl_step]
                refine pw_aload_n dX11_readsAssignment_107 rfl ?_
                refine lp_cV1 (mi' := mX11_operandRead) (As := []) (q := (RX11, TX11, 33)) dX11_readsAssignment_108 lk_RX11_130 mk_X11_operandRead mi_X11_operandRead me_X11_operandRead ⟨by decide, by decide⟩ rfl rfl (Nat.le_of_ble_eq_true rfl) rfl rfl ⟨rfl, rfl⟩ ⟨Nat.zero_le _, Nat.zero_le _⟩ (s2 Lf Rt) ?_
                refine pw_istore dX11_readsAssignment_111 (by decide) ?_
                refine pw_iload dX11_readsAssignment_113 rfl ?_
                refine pw_iconst (v := -1) dX11_readsAssignment_115 rfl ?_
                refine pw_icmp_ne 121 dX11_readsAssignment_116 (by decide) (fun c_116 => absurd hn2 c_116) (fun c_116 => ?_)
                refine pw_iconst (v := 0) dX11_readsAssignment_119 rfl ?_
                exact pw_iret rfl rfl dX11_readsAssignment_120 (Nat.zero_le _) (Nat.zero_le _) rfl
            · refine pw_iconst (v := 2) dX11_readsAssignment_72 rfl ?_
              refine pw_goto (tgt := 87) dX11_readsAssignment_73 (by decide) ?_
              refine pw_top (kindC (ch (σ.2.2.1 3) tl q.1)) ?_ ?_
              · unfold kindC
                first | rw [if_neg c_59, if_neg c_69, if_neg c_79] | rw [if_neg c_59, if_neg c_69, if_pos c_79] | rw [if_neg c_59, if_pos c_69] | rw [if_pos c_59]
              refine pw_istore dX11_readsAssignment_87 (by decide) ?_
              refine pw_iconst (v := -1) dX11_readsAssignment_89 rfl ?_
              refine pw_istore dX11_readsAssignment_90 (by decide) ?_
              refine pw_iload dX11_readsAssignment_92 rfl ?_
              refine pw_if_eq 121 dX11_readsAssignment_94 (by decide) (fun c_94 => absurd c_94 hk) (fun c_94 => ?_)
              refine pw_aload_n dX11_readsAssignment_97 rfl ?_
              refine pw_dup dX11_readsAssignment_98 rfl ?_
              refine lp_geti dX11_readsAssignment_99 fp_RX11_105.FL rfl rfl ?_
              refine pw_iconst (v := 1) dX11_readsAssignment_102 rfl ?_
              refine pw_iadd dX11_readsAssignment_103 ?_
              refine lp_puti dX11_readsAssignment_104 fp_RX11_105 rfl rfl rfl rfl ?_
              rw [pl_step]
              refine pw_aload_n dX11_readsAssignment_107 rfl ?_
              refine lp_cV1 (mi' := mX11_operandRead) (As := []) (q := (RX11, TX11, 33)) dX11_readsAssignment_108 lk_RX11_130 mk_X11_operandRead mi_X11_operandRead me_X11_operandRead ⟨by decide, by decide⟩ rfl rfl (Nat.le_of_ble_eq_true rfl) rfl rfl ⟨rfl, rfl⟩ ⟨Nat.zero_le _, Nat.zero_le _⟩ (s2 Lf Rt) ?_
              refine pw_istore dX11_readsAssignment_111 (by decide) ?_
              refine pw_iload dX11_readsAssignment_113 rfl ?_
              refine pw_iconst (v := -1) dX11_readsAssignment_115 rfl ?_
              refine pw_icmp_ne 121 dX11_readsAssignment_116 (by decide) (fun c_116 => absurd hn2 c_116) (fun c_116 => ?_)
              refine pw_iconst (v := 0) dX11_readsAssignment_119 rfl ?_
              exact pw_iret rfl rfl dX11_readsAssignment_120 (Nat.zero_le _) (Nat.zero_le _) rfl
          · refine pw_iconst (v := 1) dX11_readsAssignment_62 rfl ?_
            refine pw_goto (tgt := 87) dX11_readsAssignment_63 (by decide) ?_
            refine pw_top (kindC (ch (σ.2.2.1 3) tl q.1)) ?_ ?_
            · unfold kindC
              first | rw [if_neg c_59, if_neg c_69, if_neg c_79] | rw [if_neg c_59, if_neg c_69, if_pos c_79] | rw [if_neg c_59, if_pos c_69] | rw [if_pos c_59]
            refine pw_istore dX11_readsAssignment_87 (by decide) ?_
            refine pw_iconst (v := -1) dX11_readsAssignment_89 rfl ?_
            refine pw_istore dX11_readsAssignment_90 (by decide) ?_
            refine pw_iload dX11_readsAssignment_92 rfl ?_
            refine pw_if_eq 121 dX11_readsAssignment_94 (by decide) (fun c_94 => absurd c_94 hk) (fun c_94 => ?_)
            refine pw_aload_n dX11_readsAssignment_97 rfl ?_
            refine pw_dup dX11_readsAssignment_98 rfl ?_
            refine lp_geti dX11_readsAssignment_99 fp_RX11_105.FL rfl rfl ?_
            refine pw_iconst (v := 1) dX11_readsAssignment_102 rfl ?_
            refine pw_iadd dX11_readsAssignment_103 ?_
            refine lp_puti dX11_readsAssignment_104 fp_RX11_105 rfl rfl rfl rfl ?_
            rw [pl_step]
            refine pw_aload_n dX11_readsAssignment_107 rfl ?_
            refine lp_cV1 (mi' := mX11_operandRead) (As := []) (q := (RX11, TX11, 33)) dX11_readsAssignment_108 lk_RX11_130 mk_X11_operandRead mi_X11_operandRead me_X11_operandRead ⟨by decide, by decide⟩ rfl rfl (Nat.le_of_ble_eq_true rfl) rfl rfl ⟨rfl, rfl⟩ ⟨Nat.zero_le _, Nat.zero_le _⟩ (s2 Lf Rt) ?_
            refine pw_istore dX11_readsAssignment_111 (by decide) ?_
            refine pw_iload dX11_readsAssignment_113 rfl ?_
            refine pw_iconst (v := -1) dX11_readsAssignment_115 rfl ?_
            refine pw_icmp_ne 121 dX11_readsAssignment_116 (by decide) (fun c_116 => absurd hn2 c_116) (fun c_116 => ?_)
            refine pw_iconst (v := 0) dX11_readsAssignment_119 rfl ?_
            exact pw_iret rfl rfl dX11_readsAssignment_120 (Nat.zero_le _) (Nat.zero_le _) rfl
        · rw [if_neg hn2]
          refine pw_aload_n dX11_readsAssignment_0 rfl ?_
          refine lp_cV1 (mi' := mX11_here) (As := []) (q := (RX11, TX11, 33)) dX11_readsAssignment_1 lk_RX11_108 mk_X11_here mi_X11_here me_X11_here ⟨by decide, by decide⟩ rfl rfl (Nat.le_of_ble_eq_true rfl) rfl rfl ⟨rfl, rfl⟩ ⟨Nat.zero_le _, Nat.zero_le _⟩ (p_here h5 ht (by omega)) ?_
          refine pw_bipush (v := 97) dX11_readsAssignment_4 rfl ?_
          refine pw_isub dX11_readsAssignment_6 ?_
          refine pw_istore_n dX11_readsAssignment_7 (by decide) ?_
          refine pw_aload_n dX11_readsAssignment_8 rfl ?_
          refine pw_dup dX11_readsAssignment_9 rfl ?_
          refine lp_geti dX11_readsAssignment_10 fp_RX11_105.FL rfl rfl ?_
          refine pw_iconst (v := 1) dX11_readsAssignment_13 rfl ?_
          refine pw_iadd dX11_readsAssignment_14 ?_
          refine lp_puti dX11_readsAssignment_15 fp_RX11_105 rfl rfl rfl rfl ?_
          rw [pl_step]
          refine pw_aload_n dX11_readsAssignment_18 rfl ?_
          refine lp_cV1 (mi' := mX11_here) (As := []) (q := (RX11, TX11, 33)) dX11_readsAssignment_19 lk_RX11_108 mk_X11_here mi_X11_here me_X11_here ⟨by decide, by decide⟩ rfl rfl (Nat.le_of_ble_eq_true rfl) rfl rfl ⟨rfl, rfl⟩ ⟨Nat.zero_le _, Nat.zero_le _⟩ (p_here h5 ht (by omega)) ?_
          refine pw_bipush (v := 61) dX11_readsAssignment_22 rfl ?_
          refine pw_icmp_eq 29 dX11_readsAssignment_24 (by decide) (fun c_24 => ?_) (fun c_24 => absurd h61 c_24)
          refine pw_aload_n dX11_readsAssignment_29 rfl ?_
          refine pw_dup dX11_readsAssignment_30 rfl ?_
          refine lp_geti dX11_readsAssignment_31 fp_RX11_105.FL rfl rfl ?_
          refine pw_iconst (v := 1) dX11_readsAssignment_34 rfl ?_
          refine pw_iadd dX11_readsAssignment_35 ?_
          refine lp_puti dX11_readsAssignment_36 fp_RX11_105 rfl rfl rfl rfl ?_
          rw [pl_step]
          refine pw_aload_n dX11_readsAssignment_39 rfl ?_
          refine lp_cV1 (mi' := mX11_operandRead) (As := []) (q := (RX11, TX11, 33)) dX11_readsAssignment_40 lk_RX11_130 mk_X11_operandRead mi_X11_operandRead me_X11_operandRead ⟨by decide, by decide⟩ rfl rfl (Nat.le_of_ble_eq_true rfl) rfl rfl ⟨rfl, rfl⟩ ⟨Nat.zero_le _, Nat.zero_le _⟩ (s1 Lf Rt) ?_
          refine pw_istore_n dX11_readsAssignment_43 (by decide) ?_
          refine pw_iload_n dX11_readsAssignment_44 rfl ?_
          refine pw_iconst (v := -1) dX11_readsAssignment_45 rfl ?_
          refine pw_icmp_ne 51 dX11_readsAssignment_46 (by decide) (fun c_46 => ?_) (fun c_46 => absurd c_46 hn)
          refine pw_aload_n dX11_readsAssignment_51 rfl ?_
          refine lp_cV1 (mi' := mX11_here) (As := []) (q := (RX11, TX11, 33)) dX11_readsAssignment_52 lk_RX11_108 mk_X11_here mi_X11_here me_X11_here ⟨by decide, by decide⟩ rfl rfl (Nat.le_of_ble_eq_true rfl) rfl rfl ⟨rfl, rfl⟩ ⟨Nat.zero_le _, Nat.zero_le _⟩ (p_here h5 ht (by omega)) ?_
          refine pw_istore_n dX11_readsAssignment_55 (by decide) ?_
          refine pw_iload_n dX11_readsAssignment_56 rfl ?_
          refine pw_bipush (v := 43) dX11_readsAssignment_57 rfl ?_
          refine pw_icmp_ne 66 dX11_readsAssignment_59 (by decide) (fun c_59 => ?_) (fun c_59 => ?_)
          · refine pw_iload_n dX11_readsAssignment_66 rfl ?_
            refine pw_bipush (v := 45) dX11_readsAssignment_67 rfl ?_
            refine pw_icmp_ne 76 dX11_readsAssignment_69 (by decide) (fun c_69 => ?_) (fun c_69 => ?_)
            · refine pw_iload_n dX11_readsAssignment_76 rfl ?_
              refine pw_bipush (v := 42) dX11_readsAssignment_77 rfl ?_
              refine pw_icmp_ne 86 dX11_readsAssignment_79 (by decide) (fun c_79 => ?_) (fun c_79 => ?_)
              · refine pw_iconst (v := 0) dX11_readsAssignment_86 rfl ?_
                refine pw_top (kindC (ch (σ.2.2.1 3) tl q.1)) ?_ ?_
                · unfold kindC
                  first | rw [if_neg c_59, if_neg c_69, if_neg c_79] | rw [if_neg c_59, if_neg c_69, if_pos c_79] | rw [if_neg c_59, if_pos c_69] | rw [if_pos c_59]
                refine pw_istore dX11_readsAssignment_87 (by decide) ?_
                refine pw_iconst (v := -1) dX11_readsAssignment_89 rfl ?_
                refine pw_istore dX11_readsAssignment_90 (by decide) ?_
                refine pw_iload dX11_readsAssignment_92 rfl ?_
                refine pw_if_eq 121 dX11_readsAssignment_94 (by decide) (fun c_94 => absurd c_94 hk) (fun c_94 => ?_)
                refine pw_aload_n dX11_readsAssignment_97 rfl ?_
                refine pw_dup dX11_readsAssignment_98 rfl ?_
                refine lp_geti dX11_readsAssignment_99 fp_RX11_105.FL rfl rfl ?_
                refine pw_iconst (v := 1) dX11_readsAssignment_102 rfl ?_
                refine pw_iadd dX11_readsAssignment_103 ?_
                refine lp_puti dX11_readsAssignment_104 fp_RX11_105 rfl rfl rfl rfl ?_
                rw [pl_step]
                refine pw_aload_n dX11_readsAssignment_107 rfl ?_
                refine lp_cV1 (mi' := mX11_operandRead) (As := []) (q := (RX11, TX11, 33)) dX11_readsAssignment_108 lk_RX11_130 mk_X11_operandRead mi_X11_operandRead me_X11_operandRead ⟨by decide, by decide⟩ rfl rfl (Nat.le_of_ble_eq_true rfl) rfl rfl ⟨rfl, rfl⟩ ⟨Nat.zero_le _, Nat.zero_le _⟩ (s2 Lf Rt) ?_
                refine pw_istore dX11_readsAssignment_111 (by decide) ?_
                refine pw_iload dX11_readsAssignment_113 rfl ?_
                refine pw_iconst (v := -1) dX11_readsAssignment_115 rfl ?_
                refine pw_icmp_ne 121 dX11_readsAssignment_116 (by decide) (fun c_116 => ?_) (fun c_116 => absurd c_116 hn2)
                refine pw_lk [(0, .ref (adr 0)), (1, .int (ch (σ.2.2.1 3) tl p - 97)), (2, .int q.2), (4, .int (kindC (ch (σ.2.2.1 3) tl q.1))), (5, .int q2.2)] ⟨rfl, rfl, rfl, rfl, rfl, trivial⟩ (asg_tail h5 ht h8 hr (by omega) _ _ _ _ ?_ ?_)
                · intro h; rw [if_pos h]; rfl
                · intro h; rw [if_neg h]; rfl
              · refine pw_iconst (v := 3) dX11_readsAssignment_82 rfl ?_
                refine pw_goto (tgt := 87) dX11_readsAssignment_83 (by decide) ?_
                refine pw_top (kindC (ch (σ.2.2.1 3) tl q.1)) ?_ ?_
                · unfold kindC
                  first | rw [if_neg c_59, if_neg c_69, if_neg c_79] | rw [if_neg c_59, if_neg c_69, if_pos c_79] | rw [if_neg c_59, if_pos c_69] | rw [if_pos c_59]
                refine pw_istore dX11_readsAssignment_87 (by decide) ?_
                refine pw_iconst (v := -1) dX11_readsAssignment_89 rfl ?_
                refine pw_istore dX11_readsAssignment_90 (by decide) ?_
                refine pw_iload dX11_readsAssignment_92 rfl ?_
                refine pw_if_eq 121 dX11_readsAssignment_94 (by decide) (fun c_94 => absurd c_94 hk) (fun c_94 => ?_)
                refine pw_aload_n dX11_readsAssignment_97 rfl ?_
                refine pw_dup dX11_readsAssignment_98 rfl ?_
                refine lp_geti dX11_readsAssignment_99 fp_RX11_105.FL rfl rfl ?_
                refine pw_iconst (v := 1) dX11_readsAssignment_102 rfl ?_
                refine pw_iadd dX11_readsAssignment_103 ?_
                refine lp_puti dX11_readsAssignment_104 fp_RX11_105 rfl rfl rfl rfl ?_
                rw [pl_step]
                refine pw_aload_n dX11_readsAssignment_107 rfl ?_
                refine lp_cV1 (mi' := mX11_operandRead) (As := []) (q := (RX11, TX11, 33)) dX11_readsAssignment_108 lk_RX11_130 mk_X11_operandRead mi_X11_operandRead me_X11_operandRead ⟨by decide, by decide⟩ rfl rfl (Nat.le_of_ble_eq_true rfl) rfl rfl ⟨rfl, rfl⟩ ⟨Nat.zero_le _, Nat.zero_le _⟩ (s2 Lf Rt) ?_
                refine pw_istore dX11_readsAssignment_111 (by decide) ?_
                refine pw_iload dX11_readsAssignment_113 rfl ?_
                refine pw_iconst (v := -1) dX11_readsAssignment_115 rfl ?_
                refine pw_icmp_ne 121 dX11_readsAssignment_116 (by decide) (fun c_116 => ?_) (fun c_116 => absurd c_116 hn2)
                refine pw_lk [(0, .ref (adr 0)), (1, .int (ch (σ.2.2.1 3) tl p - 97)), (2, .int q.2), (4, .int (kindC (ch (σ.2.2.1 3) tl q.1))), (5, .int q2.2)] ⟨rfl, rfl, rfl, rfl, rfl, trivial⟩ (asg_tail h5 ht h8 hr (by omega) _ _ _ _ ?_ ?_)
                · intro h; rw [if_pos h]; rfl
                · intro h; rw [if_neg h]; rfl
            · refine pw_iconst (v := 2) dX11_readsAssignment_72 rfl ?_
              refine pw_goto (tgt := 87) dX11_readsAssignment_73 (by decide) ?_
              refine pw_top (kindC (ch (σ.2.2.1 3) tl q.1)) ?_ ?_
              · unfold kindC
                first | rw [if_neg c_59, if_neg c_69, if_neg c_79] | rw [if_neg c_59, if_neg c_69, if_pos c_79] | rw [if_neg c_59, if_pos c_69] | rw [if_pos c_59]
              refine pw_istore dX11_readsAssignment_87 (by decide) ?_
              refine pw_iconst (v := -1) dX11_readsAssignment_89 rfl ?_
              refine pw_istore dX11_readsAssignment_90 (by decide) ?_
              refine pw_iload dX11_readsAssignment_92 rfl ?_
              refine pw_if_eq 121 dX11_readsAssignment_94 (by decide) (fun c_94 => absurd c_94 hk) (fun c_94 => ?_)
              refine pw_aload_n dX11_readsAssignment_97 rfl ?_
              refine pw_dup dX11_readsAssignment_98 rfl ?_
              refine lp_geti dX11_readsAssignment_99 fp_RX11_105.FL rfl rfl ?_
              refine pw_iconst (v := 1) dX11_readsAssignment_102 rfl ?_
              refine pw_iadd dX11_readsAssignment_103 ?_
              refine lp_puti dX11_readsAssignment_104 fp_RX11_105 rfl rfl rfl rfl ?_
              rw [pl_step]
              refine pw_aload_n dX11_readsAssignment_107 rfl ?_
              refine lp_cV1 (mi' := mX11_operandRead) (As := []) (q := (RX11, TX11, 33)) dX11_readsAssignment_108 lk_RX11_130 mk_X11_operandRead mi_X11_operandRead me_X11_operandRead ⟨by decide, by decide⟩ rfl rfl (Nat.le_of_ble_eq_true rfl) rfl rfl ⟨rfl, rfl⟩ ⟨Nat.zero_le _, Nat.zero_le _⟩ (s2 Lf Rt) ?_
              refine pw_istore dX11_readsAssignment_111 (by decide) ?_
              refine pw_iload dX11_readsAssignment_113 rfl ?_
              refine pw_iconst (v := -1) dX11_readsAssignment_115 rfl ?_
              refine pw_icmp_ne 121 dX11_readsAssignment_116 (by decide) (fun c_116 => ?_) (fun c_116 => absurd c_116 hn2)
              refine pw_lk [(0, .ref (adr 0)), (1, .int (ch (σ.2.2.1 3) tl p - 97)), (2, .int q.2), (4, .int (kindC (ch (σ.2.2.1 3) tl q.1))), (5, .int q2.2)] ⟨rfl, rfl, rfl, rfl, rfl, trivial⟩ (asg_tail h5 ht h8 hr (by omega) _ _ _ _ ?_ ?_)
              · intro h; rw [if_pos h]; rfl
              · intro h; rw [if_neg h]; rfl
          · refine pw_iconst (v := 1) dX11_readsAssignment_62 rfl ?_
            refine pw_goto (tgt := 87) dX11_readsAssignment_63 (by decide) ?_
            refine pw_top (kindC (ch (σ.2.2.1 3) tl q.1)) ?_ ?_
            · unfold kindC
              first | rw [if_neg c_59, if_neg c_69, if_neg c_79] | rw [if_neg c_59, if_neg c_69, if_pos c_79] | rw [if_neg c_59, if_pos c_69] | rw [if_pos c_59]
            refine pw_istore dX11_readsAssignment_87 (by decide) ?_
            refine pw_iconst (v := -1) dX11_readsAssignment_89 rfl ?_
            refine pw_istore dX11_readsAssignment_90 (by decide) ?_
            refine pw_iload dX11_readsAssignment_92 rfl ?_
            refine pw_if_eq 121 dX11_readsAssignment_94 (by decide) (fun c_94 => absurd c_94 hk) (fun c_94 => ?_)
            refine pw_aload_n dX11_readsAssignment_97 rfl ?_
            refine pw_dup dX11_readsAssignment_98 rfl ?_
            refine lp_geti dX11_readsAssignment_99 fp_RX11_105.FL rfl rfl ?_
            refine pw_iconst (v := 1) dX11_readsAssignment_102 rfl ?_
            refine pw_iadd dX11_readsAssignment_103 ?_
            refine lp_puti dX11_readsAssignment_104 fp_RX11_105 rfl rfl rfl rfl ?_
            rw [pl_step]
            refine pw_aload_n dX11_readsAssignment_107 rfl ?_
            refine lp_cV1 (mi' := mX11_operandRead) (As := []) (q := (RX11, TX11, 33)) dX11_readsAssignment_108 lk_RX11_130 mk_X11_operandRead mi_X11_operandRead me_X11_operandRead ⟨by decide, by decide⟩ rfl rfl (Nat.le_of_ble_eq_true rfl) rfl rfl ⟨rfl, rfl⟩ ⟨Nat.zero_le _, Nat.zero_le _⟩ (s2 Lf Rt) ?_
            refine pw_istore dX11_readsAssignment_111 (by decide) ?_
            refine pw_iload dX11_readsAssignment_113 rfl ?_
            refine pw_iconst (v := -1) dX11_readsAssignment_115 rfl ?_
            refine pw_icmp_ne 121 dX11_readsAssignment_116 (by decide) (fun c_116 => ?_) (fun c_116 => absurd c_116 hn2)
            refine pw_lk [(0, .ref (adr 0)), (1, .int (ch (σ.2.2.1 3) tl p - 97)), (2, .int q.2), (4, .int (kindC (ch (σ.2.2.1 3) tl q.1))), (5, .int q2.2)] ⟨rfl, rfl, rfl, rfl, rfl, trivial⟩ (asg_tail h5 ht h8 hr (by omega) _ _ _ _ ?_ ?_)
            · intro h; rw [if_pos h]; rfl
            · intro h; rw [if_neg h]; rfl
  · rw [if_neg h61]
    refine pw_aload_n dX11_readsAssignment_0 rfl ?_
    refine lp_cV1 (mi' := mX11_here) (As := []) (q := (RX11, TX11, 33)) dX11_readsAssignment_1 lk_RX11_108 mk_X11_here mi_X11_here me_X11_here ⟨by decide, by decide⟩ rfl rfl (Nat.le_of_ble_eq_true rfl) rfl rfl ⟨rfl, rfl⟩ ⟨Nat.zero_le _, Nat.zero_le _⟩ (p_here h5 ht (by omega)) ?_
    refine pw_bipush (v := 97) dX11_readsAssignment_4 rfl ?_
    refine pw_isub dX11_readsAssignment_6 ?_
    refine pw_istore_n dX11_readsAssignment_7 (by decide) ?_
    refine pw_aload_n dX11_readsAssignment_8 rfl ?_
    refine pw_dup dX11_readsAssignment_9 rfl ?_
    refine lp_geti dX11_readsAssignment_10 fp_RX11_105.FL rfl rfl ?_
    refine pw_iconst (v := 1) dX11_readsAssignment_13 rfl ?_
    refine pw_iadd dX11_readsAssignment_14 ?_
    refine lp_puti dX11_readsAssignment_15 fp_RX11_105 rfl rfl rfl rfl ?_
    rw [pl_step]
    refine pw_aload_n dX11_readsAssignment_18 rfl ?_
    refine lp_cV1 (mi' := mX11_here) (As := []) (q := (RX11, TX11, 33)) dX11_readsAssignment_19 lk_RX11_108 mk_X11_here mi_X11_here me_X11_here ⟨by decide, by decide⟩ rfl rfl (Nat.le_of_ble_eq_true rfl) rfl rfl ⟨rfl, rfl⟩ ⟨Nat.zero_le _, Nat.zero_le _⟩ (p_here h5 ht (by omega)) ?_
    refine pw_bipush (v := 61) dX11_readsAssignment_22 rfl ?_
    refine pw_icmp_eq 29 dX11_readsAssignment_24 (by decide) (fun c_24 => absurd c_24 h61) (fun c_24 => ?_)
    refine pw_iconst (v := 0) dX11_readsAssignment_27 rfl ?_
    exact pw_iret rfl rfl dX11_readsAssignment_28 (Nat.zero_le _) (Nat.zero_le _) rfl
theorem cnt_loop {sz : Nat} {w0 : va_W} {fin : OC → Prop} {tl : Nat} (h5 : σ.1 0 5 = nI tl) (ht : tl ≤ 200) (p0 : Nat) (hp0 : p0 ≤ 300) :
    ∀ (k p : Nat) (v : Int32), p + k = p0 + 2 →
      PW l G mX11_readsCount w0 sz fin 55 [(0, .ref (adr 0)), (1, .int (nI p0)), (2, .int (rdNum (σ.2.2.1 3) tl k p v).2)] [] 0 0 (wp G adr LM Lf Rt (sI σ 0 6 (nI (rdNum (σ.2.2.1 3) tl k p v).1))) →
      PW l G mX11_readsCount w0 sz fin 7 [(0, .ref (adr 0)), (1, .int (nI p0)), (2, .int v)] [] 0 0 (wp G adr LM Lf Rt (sI σ 0 6 (nI p))) := by
  have e2 : nI p0 + 2 = nI (p0 + 2) := by rw [show (2 : Int32) = nI 2 from rfl, nI_add]
  intro k
  induction k with
  | zero =>
    intro p v hp kk
    have hp : p = p0 + 2 := by omega
    subst hp
    refine pw_aload_n dX11_readsCount_7 rfl ?_
    refine lp_cV1 (mi' := mX11_isFigure) (As := []) (q := (RX11, TX11, 33)) dX11_readsCount_8 lk_RX11_127 mk_X11_isFigure mi_X11_isFigure me_X11_isFigure ⟨by decide, by decide⟩ rfl rfl (Nat.le_of_ble_eq_true rfl) rfl rfl ⟨rfl, rfl⟩ ⟨Nat.zero_le _, Nat.zero_le _⟩ (p_isFigure h5 ht (by omega)) ?_
    refine pw_if_eq 55 dX11_readsCount_11 (by decide) (fun c_11 => ?_) (fun c_11 => ?_)
    · exact kk
    · refine pw_aload_n dX11_readsCount_14 rfl ?_
      refine lp_geti dX11_readsCount_15 fp_RX11_105.FL rfl rfl ?_
      refine pw_iload_n dX11_readsCount_18 rfl ?_
      refine pw_iconst (v := 2) dX11_readsCount_19 rfl ?_
      refine pw_iadd dX11_readsCount_20 ?_
      refine pw_icmp_ge 55 dX11_readsCount_21 (by decide) (fun c_21 => ?_) (fun c_21 => absurd (by rw [e2]; exact Int32.le_refl _) c_21)
      exact kk
  | succ k ih =>
    intro p v hp kk
    by_cases hd : isFig (ch (σ.2.2.1 3) tl p) = true
    · have hlt := isFig_lt hd
      have er : rdNum (σ.2.2.1 3) tl (k + 1) p v = rdNum (σ.2.2.1 3) tl k (p + 1) (10 * v + σ.2.2.1 3 p - 48) := by rw [rdNum, if_pos hd]
      rw [er] at kk
      refine pw_aload_n dX11_readsCount_7 rfl ?_
      refine lp_cV1 (mi' := mX11_isFigure) (As := []) (q := (RX11, TX11, 33)) dX11_readsCount_8 lk_RX11_127 mk_X11_isFigure mi_X11_isFigure me_X11_isFigure ⟨by decide, by decide⟩ rfl rfl (Nat.le_of_ble_eq_true rfl) rfl rfl ⟨rfl, rfl⟩ ⟨Nat.zero_le _, Nat.zero_le _⟩ (p_isFigure h5 ht (by omega)) ?_
      refine pw_if_eq 55 dX11_readsCount_11 (by decide) (fun c_11 => absurd c_11 (by rw [bI_1 hd]; decide)) (fun c_11 => ?_)
      refine pw_aload_n dX11_readsCount_14 rfl ?_
      refine lp_geti dX11_readsCount_15 fp_RX11_105.FL rfl rfl ?_
      refine pw_iload_n dX11_readsCount_18 rfl ?_
      refine pw_iconst (v := 2) dX11_readsCount_19 rfl ?_
      refine pw_iadd dX11_readsCount_20 ?_
      refine pw_icmp_ge 55 dX11_readsCount_21 (by decide) (fun c_21 => absurd c_21 (by rw [e2]; exact nI_ge (a := p) (b := p0 + 2) (by omega) (by omega))) (fun c_21 => ?_)
      refine pw_bipush (v := 10) dX11_readsCount_24 rfl ?_
      refine pw_iload_n dX11_readsCount_26 rfl ?_
      refine pw_imul dX11_readsCount_27 ?_
      refine pw_aload_n dX11_readsCount_28 rfl ?_
      refine lp_getr 3 dX11_readsCount_29 fp_RX11_16.FL rfl rfl rfl ?_
      refine pw_aload_n dX11_readsCount_32 rfl ?_
      refine lp_geti dX11_readsCount_33 fp_RX11_105.FL rfl rfl ?_
      refine lp_iald dX11_readsCount_36 rfl (vp_in_nI (by omega) (by decide)) ?_
      refine pw_iadd dX11_readsCount_37 ?_
      refine pw_bipush (v := 48) dX11_readsCount_38 rfl ?_
      refine pw_isub dX11_readsCount_40 ?_
      refine pw_istore_n dX11_readsCount_41 (by decide) ?_
      refine pw_aload_n dX11_readsCount_42 rfl ?_
      refine pw_dup dX11_readsCount_43 rfl ?_
      refine lp_geti dX11_readsCount_44 fp_RX11_105.FL rfl rfl ?_
      refine pw_iconst (v := 1) dX11_readsCount_47 rfl ?_
      refine pw_iadd dX11_readsCount_48 ?_
      refine lp_puti dX11_readsCount_49 fp_RX11_105 rfl rfl rfl rfl ?_
      rw [pl_step]
      refine pw_goto (tgt := 7) dX11_readsCount_52 (by decide) ?_
      refine pw_lk [(0, .ref (adr 0)), (1, .int (nI p0)), (2, .int (10 * v + σ.2.2.1 3 p - 48))] ⟨rfl, rfl, ?_, trivial⟩ (ih (p + 1) _ (by omega) kk)
      show some (Value.int (10 * v + σ.2.2.1 3 (nI p).toNatClampNeg - 48)) = _
      rw [nI_clamp (by omega)]
    · have er : rdNum (σ.2.2.1 3) tl (k + 1) p v = (p, v) := by rw [rdNum, if_neg hd]
      rw [er] at kk
      refine pw_aload_n dX11_readsCount_7 rfl ?_
      refine lp_cV1 (mi' := mX11_isFigure) (As := []) (q := (RX11, TX11, 33)) dX11_readsCount_8 lk_RX11_127 mk_X11_isFigure mi_X11_isFigure me_X11_isFigure ⟨by decide, by decide⟩ rfl rfl (Nat.le_of_ble_eq_true rfl) rfl rfl ⟨rfl, rfl⟩ ⟨Nat.zero_le _, Nat.zero_le _⟩ (p_isFigure h5 ht (by omega)) ?_
      refine pw_if_eq 55 dX11_readsCount_11 (by decide) (fun c_11 => ?_) (fun c_11 => absurd (bI_f (Bool.not_eq_true _ ▸ hd)) c_11)
      exact kk
theorem r_readsCount {tl r d p : Nat} (h5 : σ.1 0 5 = nI tl) (ht : tl ≤ 200) (h8 : σ.1 0 8 = nI r) (hr : r < 30) (h9 : σ.1 0 9 = nI d) (hp : p ≤ 200) : SpecD l G mX11_readsCount [.ref (adr 0)] (wp G adr LM Lf Rt (sI σ 0 6 (nI p))) (some (.int (bI (rdCnt (σ.2.2.1 3) tl p).2.isSome))) (wp G adr LM Lf Rt (cntSt σ r d (rdCnt (σ.2.2.1 3) tl p))) := by
  refine spec_of (by decide) (Nat.le_of_ble_eq_true rfl) (fun sz => ?_)
  have hle := rdNum_le (t := σ.2.2.1 3) (tl := tl) 2 p 0
  refine pw_aload_n dX11_readsCount_0 rfl ?_
  refine lp_geti dX11_readsCount_1 fp_RX11_105.FL rfl rfl ?_
  refine pw_istore_n dX11_readsCount_4 (by decide) ?_
  refine pw_iconst (v := 0) dX11_readsCount_5 rfl ?_
  refine pw_istore_n dX11_readsCount_6 (by decide) ?_
  refine pw_lk [(0, .ref (adr 0)), (1, .int (nI p)), (2, .int 0)] ⟨rfl, rfl, rfl, trivial⟩ (cnt_loop h5 ht p (by omega) 2 p 0 rfl ?_)
  unfold rdCnt
  generalize rdNum (σ.2.2.1 3) tl 2 p 0 = q at hle ⊢
  by_cases hd : isFig (ch (σ.2.2.1 3) tl q.1) = true
  · rw [if_pos hd]
    refine pw_aload_n dX11_readsCount_55 rfl ?_
    refine lp_cV1 (mi' := mX11_isFigure) (As := []) (q := (RX11, TX11, 33)) dX11_readsCount_56 lk_RX11_127 mk_X11_isFigure mi_X11_isFigure me_X11_isFigure ⟨by decide, by decide⟩ rfl rfl (Nat.le_of_ble_eq_true rfl) rfl rfl ⟨rfl, rfl⟩ ⟨Nat.zero_le _, Nat.zero_le _⟩ (p_isFigure h5 ht (by omega)) ?_
    refine pw_if_eq 64 dX11_readsCount_59 (by decide) (fun c_59 => absurd c_59 (by rw [bI_1 hd]; decide)) (fun c_59 => ?_)
    refine pw_iconst (v := 0) dX11_readsCount_62 rfl ?_
    exact pw_iret rfl rfl dX11_readsCount_63 (Nat.zero_le _) (Nat.zero_le _) rfl
  · rw [if_neg hd]
    have hdF : isFig (ch (σ.2.2.1 3) tl q.1) = false := Bool.not_eq_true _ ▸ hd
    by_cases hc : (1 : Int32) ≤ q.2 ∧ q.2 ≤ 40
    · rw [if_neg (fun z => z hc)]
      by_cases hb : ch (σ.2.2.1 3) tl q.1 = 123
      · rw [if_pos hb]
        refine pw_aload_n dX11_readsCount_55 rfl ?_
        refine lp_cV1 (mi' := mX11_isFigure) (As := []) (q := (RX11, TX11, 33)) dX11_readsCount_56 lk_RX11_127 mk_X11_isFigure mi_X11_isFigure me_X11_isFigure ⟨by decide, by decide⟩ rfl rfl (Nat.le_of_ble_eq_true rfl) rfl rfl ⟨rfl, rfl⟩ ⟨Nat.zero_le _, Nat.zero_le _⟩ (p_isFigure h5 ht (by omega)) ?_
        refine pw_if_eq 64 dX11_readsCount_59 (by decide) (fun c_59 => ?_) (fun c_59 => absurd (bI_f hdF) c_59)
        refine pw_iload_n dX11_readsCount_64 rfl ?_
        refine pw_i2l dX11_readsCount_65 ?_
        refine pw_lconst (v := 1) dX11_readsCount_66 rfl ?_
        refine pw_ldc2 dX11_readsCount_67 kc_RX11_137 ?_
        refine lp_cS1 (mi' := mX11_in) (As := [_, _, _]) dX11_readsCount_70 lk_RX11_90 mk_X11_in ms_X11_in ⟨by decide, by decide⟩ rfl rfl (Nat.le_of_ble_eq_true rfl) ⟨rfl, rfl⟩ ⟨Nat.zero_le _, Nat.zero_le _⟩ (r_in32 q.2 1 40 _) ?_
        rw [decide_eq_true hc]
        refine pw_if_ne 83 dX11_readsCount_73 (by decide) (fun c_73 => ?_) (fun c_73 => absurd (show (1 : Int32) = 0 from c_73) (by decide))
        refine pw_aload_n dX11_readsCount_83 rfl ?_
        refine lp_cV1 (mi' := mX11_here) (As := []) (q := (RX11, TX11, 33)) dX11_readsCount_84 lk_RX11_108 mk_X11_here mi_X11_here me_X11_here ⟨by decide, by decide⟩ rfl rfl (Nat.le_of_ble_eq_true rfl) rfl rfl ⟨rfl, rfl⟩ ⟨Nat.zero_le _, Nat.zero_le _⟩ (p_here h5 ht (by omega)) ?_
        refine pw_bipush (v := 123) dX11_readsCount_87 rfl ?_
        refine pw_icmp_eq 94 dX11_readsCount_89 (by decide) (fun c_89 => ?_) (fun c_89 => absurd hb c_89)
        refine pw_aload_n dX11_readsCount_94 rfl ?_
        refine pw_dup dX11_readsCount_95 rfl ?_
        refine lp_geti dX11_readsCount_96 fp_RX11_105.FL rfl rfl ?_
        refine pw_iconst (v := 1) dX11_readsCount_99 rfl ?_
        refine pw_iadd dX11_readsCount_100 ?_
        refine lp_puti dX11_readsCount_101 fp_RX11_105 rfl rfl rfl rfl ?_
        rw [pl_step]
        refine pw_aload_n dX11_readsCount_104 rfl ?_
        refine pw_iconst (v := 4) dX11_readsCount_105 rfl ?_
        refine pw_iload_n dX11_readsCount_106 rfl ?_
        refine pw_iconst (v := -1) dX11_readsCount_107 rfl ?_
        refine pw_iconst (v := -1) dX11_readsCount_108 rfl ?_
        refine lp_cV0 (mi' := mX11_takes) (As := [_, _, _, _]) (q := (RX11, TX11, 33)) dX11_readsCount_109 lk_RX11_133 mk_X11_takes mi_X11_takes me_X11_takes ⟨by decide, by decide⟩ rfl rfl (Nat.le_of_ble_eq_true rfl) rfl rfl ⟨rfl, rfl⟩ ⟨Nat.zero_le _, Nat.zero_le _⟩ (r_takes (σ := sI σ 0 6 (nI (q.1 + 1))) r 4 q.2 (-1) (-1) hr h8) ?_
        rw [takes_pl]
        refine pw_aload_n dX11_readsCount_112 rfl ?_
        refine pw_dup dX11_readsCount_113 rfl ?_
        refine lp_geti dX11_readsCount_114 fp_RX11_139.FL rfl rfl ?_
        refine pw_iconst (v := 1) dX11_readsCount_117 rfl ?_
        refine pw_iadd dX11_readsCount_118 ?_
        refine lp_puti dX11_readsCount_119 fp_RX11_139 rfl rfl rfl rfl ?_
        refine pw_st (σ' := sI (sI (mTakes σ r 4 q.2 (-1) (-1)) 0 9 (nI (d + 1))) 0 6 (nI (q.1 + 1))) ?_ ?_
        · show sI (sI (mTakes σ r 4 q.2 (-1) (-1)) 0 6 (nI (q.1 + 1))) 0 9 (σ.1 0 9 + 1) = _
          rw [h9, nI_1, sI_comm _ 0 6 9 _ _ (by decide)]
        refine pw_iconst (v := 1) dX11_readsCount_122 rfl ?_
        exact pw_iret rfl rfl dX11_readsCount_123 (Nat.zero_le _) (Nat.zero_le _) rfl
      · rw [if_neg hb]
        refine pw_aload_n dX11_readsCount_55 rfl ?_
        refine lp_cV1 (mi' := mX11_isFigure) (As := []) (q := (RX11, TX11, 33)) dX11_readsCount_56 lk_RX11_127 mk_X11_isFigure mi_X11_isFigure me_X11_isFigure ⟨by decide, by decide⟩ rfl rfl (Nat.le_of_ble_eq_true rfl) rfl rfl ⟨rfl, rfl⟩ ⟨Nat.zero_le _, Nat.zero_le _⟩ (p_isFigure h5 ht (by omega)) ?_
        refine pw_if_eq 64 dX11_readsCount_59 (by decide) (fun c_59 => ?_) (fun c_59 => absurd (bI_f hdF) c_59)
        refine pw_iload_n dX11_readsCount_64 rfl ?_
        refine pw_i2l dX11_readsCount_65 ?_
        refine pw_lconst (v := 1) dX11_readsCount_66 rfl ?_
        refine pw_ldc2 dX11_readsCount_67 kc_RX11_137 ?_
        refine lp_cS1 (mi' := mX11_in) (As := [_, _, _]) dX11_readsCount_70 lk_RX11_90 mk_X11_in ms_X11_in ⟨by decide, by decide⟩ rfl rfl (Nat.le_of_ble_eq_true rfl) ⟨rfl, rfl⟩ ⟨Nat.zero_le _, Nat.zero_le _⟩ (r_in32 q.2 1 40 _) ?_
        rw [decide_eq_true hc]
        refine pw_if_ne 83 dX11_readsCount_73 (by decide) (fun c_73 => ?_) (fun c_73 => absurd (show (1 : Int32) = 0 from c_73) (by decide))
        refine pw_aload_n dX11_readsCount_83 rfl ?_
        refine lp_cV1 (mi' := mX11_here) (As := []) (q := (RX11, TX11, 33)) dX11_readsCount_84 lk_RX11_108 mk_X11_here mi_X11_here me_X11_here ⟨by decide, by decide⟩ rfl rfl (Nat.le_of_ble_eq_true rfl) rfl rfl ⟨rfl, rfl⟩ ⟨Nat.zero_le _, Nat.zero_le _⟩ (p_here h5 ht (by omega)) ?_
        refine pw_bipush (v := 123) dX11_readsCount_87 rfl ?_
        refine pw_icmp_eq 94 dX11_readsCount_89 (by decide) (fun c_89 => absurd c_89 hb) (fun c_89 => ?_)
        refine pw_iconst (v := 0) dX11_readsCount_92 rfl ?_
        exact pw_iret rfl rfl dX11_readsCount_93 (Nat.zero_le _) (Nat.zero_le _) rfl
    · rw [if_pos hc]
      refine pw_aload_n dX11_readsCount_55 rfl ?_
      refine lp_cV1 (mi' := mX11_isFigure) (As := []) (q := (RX11, TX11, 33)) dX11_readsCount_56 lk_RX11_127 mk_X11_isFigure mi_X11_isFigure me_X11_isFigure ⟨by decide, by decide⟩ rfl rfl (Nat.le_of_ble_eq_true rfl) rfl rfl ⟨rfl, rfl⟩ ⟨Nat.zero_le _, Nat.zero_le _⟩ (p_isFigure h5 ht (by omega)) ?_
      refine pw_if_eq 64 dX11_readsCount_59 (by decide) (fun c_59 => ?_) (fun c_59 => absurd (bI_f hdF) c_59)
      refine pw_iload_n dX11_readsCount_64 rfl ?_
      refine pw_i2l dX11_readsCount_65 ?_
      refine pw_lconst (v := 1) dX11_readsCount_66 rfl ?_
      refine pw_ldc2 dX11_readsCount_67 kc_RX11_137 ?_
      refine lp_cS1 (mi' := mX11_in) (As := [_, _, _]) dX11_readsCount_70 lk_RX11_90 mk_X11_in ms_X11_in ⟨by decide, by decide⟩ rfl rfl (Nat.le_of_ble_eq_true rfl) ⟨rfl, rfl⟩ ⟨Nat.zero_le _, Nat.zero_le _⟩ (r_in32 q.2 1 40 _) ?_
      rw [decide_eq_false hc]
      refine pw_if_ne 83 dX11_readsCount_73 (by decide) (fun c_73 => absurd c_73 (fun z => z rfl)) (fun c_73 => ?_)
      refine pw_aload_n dX11_readsCount_76 rfl ?_
      refine pw_iload_n dX11_readsCount_77 rfl ?_
      refine lp_puti dX11_readsCount_78 fp_RX11_105 rfl rfl rfl rfl ?_
      rw [sI_sI]
      refine pw_iconst (v := 0) dX11_readsCount_81 rfl ?_
      exact pw_iret rfl rfl dX11_readsCount_82 (Nat.zero_le _) (Nat.zero_le _) rfl
end P3
