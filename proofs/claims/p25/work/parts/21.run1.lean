/-! RUNS: pure words, and the reference's small methods of them -/
def okOp (x : Int32) : Prop := (∃ v, v < 8 ∧ x = nI v) ∨ ¬ x < 8
def vOf (v : Nat → Int64) (x : Int32) : Int64 := if x < 8 then v (tN x) else (x - 20000).toInt64
def exV (al : Nat → Int32) (v : Nat → Int64) (i : Nat) : Int64 :=
  if kdA al i = 2 then vOf v (al (1 + 4 * i + 2)) - (if kdA al i = 0 then 0 else vOf v (al (1 + 4 * i + 3))) else
  if kdA al i = 3 then vOf v (al (1 + 4 * i + 2)) * (if kdA al i = 0 then 0 else vOf v (al (1 + 4 * i + 3))) else
  vOf v (al (1 + 4 * i + 2)) + (if kdA al i = 0 then 0 else vOf v (al (1 + 4 * i + 3)))
def isI (x : Int64) : Bool := decide (-2147483648 ≤ x ∧ x ≤ 2147483647)
def chkd (al stt fr : Nat → Int32) (opt : Bool) (i : Nat) : Bool := !decide (kdA al i = 0) && (!opt || decide (stt i = 4) || (decide (stt i = 3) && decide (fr i = 0)))
def stepA (al : Nat → Int32) (i : Nat) : Int32 := if decide (al (1 + 4 * i + 2) = al (1 + 4 * i + 1)) = decide (al (1 + 4 * i + 3) = al (1 + 4 * i + 1)) then -1 else if al (1 + 4 * i + 2) = al (1 + 4 * i + 1) then al (1 + 4 * i + 3) else al (1 + 4 * i + 2)
/-- the instructions that are no loops: results and operands -/
def wfO (al : Nat → Int32) (N : Nat) : Prop := ∀ i, i < N → ¬ 4 ≤ kdA al i → (∃ v, v < 8 ∧ al (1 + 4 * i + 1) = nI v) ∧ okOp (al (1 + 4 * i + 2)) ∧ (¬ kdA al i = 0 → okOp (al (1 + 4 * i + 3)))
theorem pw_topv {l : Launch} {G : cxG} {mi : MI} {w0 : va_W} {sz : Nat} {fin : OC → Prop} {pc : Nat} {lv : List (Nat × Value)} {st : List Value} {k n : Nat} {ws : va_W} {x : Value} (y : Value) (h : x = y) (kk : PW l G mi w0 sz fin pc lv (y :: st) k n ws) : PW l G mi w0 sz fin pc lv (x :: st) k n ws := by rw [h]; exact kk
section R1
variable {l : Launch} {G : cxG} {adr : Nat → Nat} {Lf Rt : va_W} {σ : St}
theorem r_valueOf (x : Int32) (hx : okOp x) : SpecD l G mX11_valueOf [.ref (adr 0), .int x] (wp G adr LM Lf Rt σ) (some (.long (vOf (σ.2.2.2.1 20) x))) (wp G adr LM Lf Rt σ) := by
  refine spec_of (by decide) (Nat.le_of_ble_eq_true rfl) (fun sz => ?_)
  unfold vOf
  by_cases h : x < 8
  · rw [if_pos h]
    have hb : vp_in x 8 := by
      rcases hx with ⟨v, h1, h2⟩ | h2
      · rw [h2]; exact vp_in_nI h1 (by decide)
      · exact absurd h h2
    refine pw_iload_n dX11_valueOf_0 rfl ?_
    refine pw_bipush (v := 8) dX11_valueOf_1 rfl ?_
    refine pw_icmp_ge 15 dX11_valueOf_3 (by decide) (fun c_3 => absurd h (Int32.not_lt.mpr c_3)) (fun c_3 => ?_)
    refine pw_aload_n dX11_valueOf_6 rfl ?_
    refine lp_getr 20 dX11_valueOf_7 fp_RX11_69.FL rfl rfl rfl ?_
    refine pw_iload_n dX11_valueOf_10 rfl ?_
    refine lp_lald dX11_valueOf_11 rfl hb ?_
    refine pw_goto (tgt := 21) dX11_valueOf_12 (by decide) ?_
    exact pw_lret rfl dX11_valueOf_21 (Nat.zero_le _) (Nat.zero_le _) rfl
  · rw [if_neg h]
    refine pw_iload_n dX11_valueOf_0 rfl ?_
    refine pw_bipush (v := 8) dX11_valueOf_1 rfl ?_
    refine pw_icmp_ge 15 dX11_valueOf_3 (by decide) (fun c_3 => ?_) (fun c_3 => absurd (Int32.not_lt.mp h) c_3)
    refine pw_iload_n dX11_valueOf_15 rfl ?_
    refine pw_sipush (v := 20000) dX11_valueOf_16 rfl ?_
    refine pw_isub dX11_valueOf_19 ?_
    refine pw_i2l dX11_valueOf_20 ?_
    exact pw_lret rfl dX11_valueOf_21 (Nat.zero_le _) (Nat.zero_le _) rfl
theorem ex_tail {sz : Nat} {w0 : va_W} {fin : OC → Prop} (i : Nat) (hi : i < 30) (p q : Int64) (hf : fin (.inl (some (.long (if kdA (σ.2.2.1 1) i = 2 then p - q else if kdA (σ.2.2.1 1) i = 3 then p * q else p + q)), wp G adr LM Lf Rt σ))) : PW l G mX11_exact w0 sz fin 35 [(0, .ref (adr 0)), (1, .int (nI i)), (2, .long p), (4, .long q)] [] 0 0 (wp G adr LM Lf Rt σ) := by
  by_cases k2 : kdA (σ.2.2.1 1) i = 2
  · rw [if_pos k2] at hf
    refine pw_aload_n dX11_exact_35 rfl ?_
    refine pw_iload_n dX11_exact_36 rfl ?_
    refine lp_cV1 (mi' := mX11_kind) (As := [_]) (q := (RX11, TX11, 33)) dX11_exact_37 lk_RX11_86 mk_X11_kind mi_X11_kind me_X11_kind ⟨by decide, by decide⟩ rfl rfl (Nat.le_of_ble_eq_true rfl) rfl rfl ⟨rfl, rfl⟩ ⟨Nat.zero_le _, Nat.zero_le _⟩ (r_kind i hi) ?_
    refine pw_iconst (v := 2) dX11_exact_40 rfl ?_
    refine pw_icmp_ne 51 dX11_exact_41 (by decide) (fun c_41 => absurd c_41 (fun z => z k2)) (fun c_41 => ?_)
    refine pw_lload_n dX11_exact_44 rfl ?_
    refine pw_lload dX11_exact_45 rfl ?_
    refine pw_lsub dX11_exact_47 ?_
    refine pw_goto (tgt := 71) dX11_exact_48 (by decide) ?_
    exact pw_lret rfl dX11_exact_71 (Nat.zero_le _) (Nat.zero_le _) hf
  · rw [if_neg k2] at hf
    by_cases k3 : kdA (σ.2.2.1 1) i = 3
    · rw [if_pos k3] at hf
      refine pw_aload_n dX11_exact_35 rfl ?_
      refine pw_iload_n dX11_exact_36 rfl ?_
      refine lp_cV1 (mi' := mX11_kind) (As := [_]) (q := (RX11, TX11, 33)) dX11_exact_37 lk_RX11_86 mk_X11_kind mi_X11_kind me_X11_kind ⟨by decide, by decide⟩ rfl rfl (Nat.le_of_ble_eq_true rfl) rfl rfl ⟨rfl, rfl⟩ ⟨Nat.zero_le _, Nat.zero_le _⟩ (r_kind i hi) ?_
      refine pw_iconst (v := 2) dX11_exact_40 rfl ?_
      refine pw_icmp_ne 51 dX11_exact_41 (by decide) (fun c_41 => ?_) (fun c_41 => absurd c_41 k2)
      refine pw_aload_n dX11_exact_51 rfl ?_
      refine pw_iload_n dX11_exact_52 rfl ?_
      refine lp_cV1 (mi' := mX11_kind) (As := [_]) (q := (RX11, TX11, 33)) dX11_exact_53 lk_RX11_86 mk_X11_kind mi_X11_kind me_X11_kind ⟨by decide, by decide⟩ rfl rfl (Nat.le_of_ble_eq_true rfl) rfl rfl ⟨rfl, rfl⟩ ⟨Nat.zero_le _, Nat.zero_le _⟩ (r_kind i hi) ?_
      refine pw_iconst (v := 3) dX11_exact_56 rfl ?_
      refine pw_icmp_ne 67 dX11_exact_57 (by decide) (fun c_57 => absurd c_57 (fun z => z k3)) (fun c_57 => ?_)
      refine pw_lload_n dX11_exact_60 rfl ?_
      refine pw_lload dX11_exact_61 rfl ?_
      refine pw_lmul dX11_exact_63 ?_
      refine pw_goto (tgt := 71) dX11_exact_64 (by decide) ?_
      exact pw_lret rfl dX11_exact_71 (Nat.zero_le _) (Nat.zero_le _) hf
    · rw [if_neg k3] at hf
      refine pw_aload_n dX11_exact_35 rfl ?_
      refine pw_iload_n dX11_exact_36 rfl ?_
      refine lp_cV1 (mi' := mX11_kind) (As := [_]) (q := (RX11, TX11, 33)) dX11_exact_37 lk_RX11_86 mk_X11_kind mi_X11_kind me_X11_kind ⟨by decide, by decide⟩ rfl rfl (Nat.le_of_ble_eq_true rfl) rfl rfl ⟨rfl, rfl⟩ ⟨Nat.zero_le _, Nat.zero_le _⟩ (r_kind i hi) ?_
      refine pw_iconst (v := 2) dX11_exact_40 rfl ?_
      refine pw_icmp_ne 51 dX11_exact_41 (by decide) (fun c_41 => ?_) (fun c_41 => absurd c_41 k2)
      refine pw_aload_n dX11_exact_51 rfl ?_
      refine pw_iload_n dX11_exact_52 rfl ?_
      refine lp_cV1 (mi' := mX11_kind) (As := [_]) (q := (RX11, TX11, 33)) dX11_exact_53 lk_RX11_86 mk_X11_kind mi_X11_kind me_X11_kind ⟨by decide, by decide⟩ rfl rfl (Nat.le_of_ble_eq_true rfl) rfl rfl ⟨rfl, rfl⟩ ⟨Nat.zero_le _, Nat.zero_le _⟩ (r_kind i hi) ?_
      refine pw_iconst (v := 3) dX11_exact_56 rfl ?_
      refine pw_icmp_ne 67 dX11_exact_57 (by decide) (fun c_57 => ?_) (fun c_57 => absurd c_57 k3)
      refine pw_lload_n dX11_exact_67 rfl ?_
      refine pw_lload dX11_exact_68 rfl ?_
      refine pw_ladd dX11_exact_70 ?_
      exact pw_lret rfl dX11_exact_71 (Nat.zero_le _) (Nat.zero_le _) hf
theorem r_exact (i : Nat) (hi : i < 30) (h2 : okOp (σ.2.2.1 1 (1 + 4 * i + 2))) (h3 : ¬ kdA (σ.2.2.1 1) i = 0 → okOp (σ.2.2.1 1 (1 + 4 * i + 3))) : SpecD l G mX11_exact [.ref (adr 0), .int (nI i)] (wp G adr LM Lf Rt σ) (some (.long (exV (σ.2.2.1 1) (σ.2.2.2.1 20) i))) (wp G adr LM Lf Rt σ) := by
  refine spec_of (by decide) (Nat.le_of_ble_eq_true rfl) (fun sz => ?_)
  unfold exV
  by_cases k0 : kdA (σ.2.2.1 1) i = 0
  · rw [if_pos k0]
    refine pw_aload_n dX11_exact_0 rfl ?_
    refine pw_aload_n dX11_exact_1 rfl ?_
    refine pw_iload_n dX11_exact_2 rfl ?_
    refine pw_iconst (v := 2) dX11_exact_3 rfl ?_
    refine lp_cV1 (mi' := mX11_of) (As := [_, _]) (q := (RX11, TX11, 33)) dX11_exact_4 lk_RX11_82 mk_X11_of mi_X11_of me_X11_of ⟨by decide, by decide⟩ rfl rfl (Nat.le_of_ble_eq_true rfl) rfl rfl ⟨rfl, rfl⟩ ⟨Nat.zero_le _, Nat.zero_le _⟩ (r_of i 2 (by omega)) ?_
    refine lp_cV1 (mi' := mX11_valueOf) (As := [_]) (q := (RX11, TX11, 33)) dX11_exact_7 lk_RX11_239 mk_X11_valueOf mi_X11_valueOf me_X11_valueOf ⟨by decide, by decide⟩ rfl rfl (Nat.le_of_ble_eq_true rfl) rfl rfl ⟨rfl, rfl⟩ ⟨Nat.zero_le _, Nat.zero_le _⟩ (r_valueOf _ h2) ?_
    refine pw_lstore_n dX11_exact_10 (by decide) ?_
    refine pw_aload_n dX11_exact_11 rfl ?_
    refine pw_iload_n dX11_exact_12 rfl ?_
    refine lp_cV1 (mi' := mX11_kind) (As := [_]) (q := (RX11, TX11, 33)) dX11_exact_13 lk_RX11_86 mk_X11_kind mi_X11_kind me_X11_kind ⟨by decide, by decide⟩ rfl rfl (Nat.le_of_ble_eq_true rfl) rfl rfl ⟨rfl, rfl⟩ ⟨Nat.zero_le _, Nat.zero_le _⟩ (r_kind i hi) ?_
    refine pw_if_ne 23 dX11_exact_16 (by decide) (fun c_16 => absurd c_16 (fun z => z k0)) (fun c_16 => ?_)
    refine pw_lconst (v := 0) dX11_exact_19 rfl ?_
    refine pw_goto (tgt := 33) dX11_exact_20 (by decide) ?_
    refine pw_lstore dX11_exact_33 (by decide) ?_
    exact pw_lk [(0, .ref (adr 0)), (1, .int (nI i)), (2, .long (vOf (σ.2.2.2.1 20) (σ.2.2.1 1 (1 + 4 * i + 2)))), (4, .long 0)] ⟨rfl, rfl, rfl, rfl, trivial⟩ (ex_tail i hi _ _ rfl)
  · rw [if_neg k0]
    refine pw_aload_n dX11_exact_0 rfl ?_
    refine pw_aload_n dX11_exact_1 rfl ?_
    refine pw_iload_n dX11_exact_2 rfl ?_
    refine pw_iconst (v := 2) dX11_exact_3 rfl ?_
    refine lp_cV1 (mi' := mX11_of) (As := [_, _]) (q := (RX11, TX11, 33)) dX11_exact_4 lk_RX11_82 mk_X11_of mi_X11_of me_X11_of ⟨by decide, by decide⟩ rfl rfl (Nat.le_of_ble_eq_true rfl) rfl rfl ⟨rfl, rfl⟩ ⟨Nat.zero_le _, Nat.zero_le _⟩ (r_of i 2 (by omega)) ?_
    refine lp_cV1 (mi' := mX11_valueOf) (As := [_]) (q := (RX11, TX11, 33)) dX11_exact_7 lk_RX11_239 mk_X11_valueOf mi_X11_valueOf me_X11_valueOf ⟨by decide, by decide⟩ rfl rfl (Nat.le_of_ble_eq_true rfl) rfl rfl ⟨rfl, rfl⟩ ⟨Nat.zero_le _, Nat.zero_le _⟩ (r_valueOf _ h2) ?_
    refine pw_lstore_n dX11_exact_10 (by decide) ?_
    refine pw_aload_n dX11_exact_11 rfl ?_
    refine pw_iload_n dX11_exact_12 rfl ?_
    refine lp_cV1 (mi' := mX11_kind) (As := [_]) (q := (RX11, TX11, 33)) dX11_exact_13 lk_RX11_86 mk_X11_kind mi_X11_kind me_X11_kind ⟨by decide, by decide⟩ rfl rfl (Nat.le_of_ble_eq_true rfl) rfl rfl ⟨rfl, rfl⟩ ⟨Nat.zero_le _, Nat.zero_le _⟩ (r_kind i hi) ?_
    refine pw_if_ne 23 dX11_exact_16 (by decide) (fun c_16 => ?_) (fun c_16 => absurd c_16 k0)
    refine pw_aload_n dX11_exact_23 rfl ?_
    refine pw_aload_n dX11_exact_24 rfl ?_
    refine pw_iload_n dX11_exact_25 rfl ?_
    refine pw_iconst (v := 3) dX11_exact_26 rfl ?_
    refine lp_cV1 (mi' := mX11_of) (As := [_, _]) (q := (RX11, TX11, 33)) dX11_exact_27 lk_RX11_82 mk_X11_of mi_X11_of me_X11_of ⟨by decide, by decide⟩ rfl rfl (Nat.le_of_ble_eq_true rfl) rfl rfl ⟨rfl, rfl⟩ ⟨Nat.zero_le _, Nat.zero_le _⟩ (r_of i 3 (by omega)) ?_
    refine lp_cV1 (mi' := mX11_valueOf) (As := [_]) (q := (RX11, TX11, 33)) dX11_exact_30 lk_RX11_239 mk_X11_valueOf mi_X11_valueOf me_X11_valueOf ⟨by decide, by decide⟩ rfl rfl (Nat.le_of_ble_eq_true rfl) rfl rfl ⟨rfl, rfl⟩ ⟨Nat.zero_le _, Nat.zero_le _⟩ (r_valueOf _ (h3 k0)) ?_
    refine pw_lstore dX11_exact_33 (by decide) ?_
    exact pw_lk [(0, .ref (adr 0)), (1, .int (nI i)), (2, .long (vOf (σ.2.2.2.1 20) (σ.2.2.1 1 (1 + 4 * i + 2)))), (4, .long (vOf (σ.2.2.2.1 20) (σ.2.2.1 1 (1 + 4 * i + 3))))] ⟨rfl, rfl, rfl, rfl, trivial⟩ (ex_tail i hi _ _ rfl)
theorem r_isInt (x : Int64) (ws : va_W) : SpecD l G mX11_isInt [.long x] ws (some (.int (bI (isI x)))) ws := by
  refine spec_of (by decide) (Nat.le_of_ble_eq_true rfl) (fun sz => ?_)
  refine pw_lload_n dX11_isInt_0 rfl ?_
  refine pw_ldc2 dX11_isInt_1 kc_RX11_194 ?_
  refine pw_ldc2 dX11_isInt_4 kc_RX11_196 ?_
  refine lp_cS1 (mi' := mX11_in) (As := [_, _, _]) dX11_isInt_7 lk_RX11_90 mk_X11_in ms_X11_in ⟨by decide, by decide⟩ rfl rfl (Nat.le_of_ble_eq_true rfl) ⟨rfl, rfl⟩ ⟨Nat.zero_le _, Nat.zero_le _⟩ (r_in x _ _ _) ?_
  exact pw_iret rfl bI_nar dX11_isInt_10 (Nat.zero_le _) (Nat.zero_le _) rfl
theorem r_isChecked (i : Nat) (hi : i < 30) (opt : Bool) : SpecD l G mX11_isChecked [.ref (adr 0), .int (nI i), .int (bI opt)] (wp G adr LM Lf Rt σ) (some (.int (bI (chkd (σ.2.2.1 1) (σ.2.2.1 19) (σ.2.2.1 21) opt i)))) (wp G adr LM Lf Rt σ) := by
  refine spec_of (by decide) (Nat.le_of_ble_eq_true rfl) (fun sz => ?_)
  have ei : (nI i).toNatClampNeg = i := nI_clamp (by omega)
  unfold chkd
  by_cases k0 : kdA (σ.2.2.1 1) i = 0
  · rw [decide_eq_true k0]
    refine pw_aload_n dX11_isChecked_0 rfl ?_
    refine pw_iload_n dX11_isChecked_1 rfl ?_
    refine lp_cV1 (mi' := mX11_kind) (As := [_]) (q := (RX11, TX11, 33)) dX11_isChecked_2 lk_RX11_86 mk_X11_kind mi_X11_kind me_X11_kind ⟨by decide, by decide⟩ rfl rfl (Nat.le_of_ble_eq_true rfl) rfl rfl ⟨rfl, rfl⟩ ⟨Nat.zero_le _, Nat.zero_le _⟩ (r_kind i hi) ?_
    refine pw_if_eq 45 dX11_isChecked_5 (by decide) (fun c_5 => ?_) (fun c_5 => absurd k0 c_5)
    refine pw_iconst (v := 0) dX11_isChecked_45 rfl ?_
    exact pw_iret rfl rfl dX11_isChecked_46 (Nat.zero_le _) (Nat.zero_le _) rfl
  · rw [decide_eq_false k0]
    cases opt
    · refine pw_aload_n dX11_isChecked_0 rfl ?_
      refine pw_iload_n dX11_isChecked_1 rfl ?_
      refine lp_cV1 (mi' := mX11_kind) (As := [_]) (q := (RX11, TX11, 33)) dX11_isChecked_2 lk_RX11_86 mk_X11_kind mi_X11_kind me_X11_kind ⟨by decide, by decide⟩ rfl rfl (Nat.le_of_ble_eq_true rfl) rfl rfl ⟨rfl, rfl⟩ ⟨Nat.zero_le _, Nat.zero_le _⟩ (r_kind i hi) ?_
      refine pw_if_eq 45 dX11_isChecked_5 (by decide) (fun c_5 => absurd c_5 k0) (fun c_5 => ?_)
      refine pw_iload_n dX11_isChecked_8 rfl ?_
      refine pw_if_eq 41 dX11_isChecked_9 (by decide) (fun c_9 => ?_) (fun c_9 => absurd rfl c_9)
      refine pw_iconst (v := 1) dX11_isChecked_41 rfl ?_
      refine pw_goto (tgt := 46) dX11_isChecked_42 (by decide) ?_
      exact pw_iret rfl rfl dX11_isChecked_46 (Nat.zero_le _) (Nat.zero_le _) rfl
    · by_cases s4 : σ.2.2.1 19 i = 4
      · rw [decide_eq_true s4]
        refine pw_aload_n dX11_isChecked_0 rfl ?_
        refine pw_iload_n dX11_isChecked_1 rfl ?_
        refine lp_cV1 (mi' := mX11_kind) (As := [_]) (q := (RX11, TX11, 33)) dX11_isChecked_2 lk_RX11_86 mk_X11_kind mi_X11_kind me_X11_kind ⟨by decide, by decide⟩ rfl rfl (Nat.le_of_ble_eq_true rfl) rfl rfl ⟨rfl, rfl⟩ ⟨Nat.zero_le _, Nat.zero_le _⟩ (r_kind i hi) ?_
        refine pw_if_eq 45 dX11_isChecked_5 (by decide) (fun c_5 => absurd c_5 k0) (fun c_5 => ?_)
        refine pw_iload_n dX11_isChecked_8 rfl ?_
        refine pw_if_eq 41 dX11_isChecked_9 (by decide) (fun c_9 => absurd (show (1 : Int32) = 0 from c_9) (by decide)) (fun c_9 => ?_)
        refine pw_aload_n dX11_isChecked_12 rfl ?_
        refine lp_getr 19 dX11_isChecked_13 fp_RX11_66.FL rfl rfl rfl ?_
        refine pw_iload_n dX11_isChecked_16 rfl ?_
        refine lp_iald dX11_isChecked_17 rfl (vp_in_nI hi (by decide)) ?_
        rw [ei]
        refine pw_iconst (v := 4) dX11_isChecked_18 rfl ?_
        refine pw_icmp_eq 41 dX11_isChecked_19 (by decide) (fun c_19 => ?_) (fun c_19 => absurd s4 c_19)
        refine pw_iconst (v := 1) dX11_isChecked_41 rfl ?_
        refine pw_goto (tgt := 46) dX11_isChecked_42 (by decide) ?_
        exact pw_iret rfl rfl dX11_isChecked_46 (Nat.zero_le _) (Nat.zero_le _) rfl
      · rw [decide_eq_false s4]
        by_cases s3 : σ.2.2.1 19 i = 3
        · rw [decide_eq_true s3]
          by_cases hf : σ.2.2.1 21 i = 0
          · rw [decide_eq_true hf]
            refine pw_aload_n dX11_isChecked_0 rfl ?_
            refine pw_iload_n dX11_isChecked_1 rfl ?_
            refine lp_cV1 (mi' := mX11_kind) (As := [_]) (q := (RX11, TX11, 33)) dX11_isChecked_2 lk_RX11_86 mk_X11_kind mi_X11_kind me_X11_kind ⟨by decide, by decide⟩ rfl rfl (Nat.le_of_ble_eq_true rfl) rfl rfl ⟨rfl, rfl⟩ ⟨Nat.zero_le _, Nat.zero_le _⟩ (r_kind i hi) ?_
            refine pw_if_eq 45 dX11_isChecked_5 (by decide) (fun c_5 => absurd c_5 k0) (fun c_5 => ?_)
            refine pw_iload_n dX11_isChecked_8 rfl ?_
            refine pw_if_eq 41 dX11_isChecked_9 (by decide) (fun c_9 => absurd (show (1 : Int32) = 0 from c_9) (by decide)) (fun c_9 => ?_)
            refine pw_aload_n dX11_isChecked_12 rfl ?_
            refine lp_getr 19 dX11_isChecked_13 fp_RX11_66.FL rfl rfl rfl ?_
            refine pw_iload_n dX11_isChecked_16 rfl ?_
            refine lp_iald dX11_isChecked_17 rfl (vp_in_nI hi (by decide)) ?_
            rw [ei]
            refine pw_iconst (v := 4) dX11_isChecked_18 rfl ?_
            refine pw_icmp_eq 41 dX11_isChecked_19 (by decide) (fun c_19 => absurd c_19 s4) (fun c_19 => ?_)
            refine pw_aload_n dX11_isChecked_22 rfl ?_
            refine lp_getr 19 dX11_isChecked_23 fp_RX11_66.FL rfl rfl rfl ?_
            refine pw_iload_n dX11_isChecked_26 rfl ?_
            refine lp_iald dX11_isChecked_27 rfl (vp_in_nI hi (by decide)) ?_
            rw [ei]
            refine pw_iconst (v := 3) dX11_isChecked_28 rfl ?_
            refine pw_icmp_ne 45 dX11_isChecked_29 (by decide) (fun c_29 => absurd c_29 (fun z => z s3)) (fun c_29 => ?_)
            refine pw_aload_n dX11_isChecked_32 rfl ?_
            refine lp_getr 21 dX11_isChecked_33 fp_RX11_72.FL rfl rfl rfl ?_
            refine pw_iload_n dX11_isChecked_36 rfl ?_
            refine lp_zald dX11_isChecked_37 rfl (vp_in_nI hi (by decide)) ?_
            rw [ei]
            refine pw_if_ne 45 dX11_isChecked_38 (by decide) (fun c_38 => absurd hf c_38) (fun c_38 => ?_)
            refine pw_iconst (v := 1) dX11_isChecked_41 rfl ?_
            refine pw_goto (tgt := 46) dX11_isChecked_42 (by decide) ?_
            exact pw_iret rfl rfl dX11_isChecked_46 (Nat.zero_le _) (Nat.zero_le _) rfl
          · rw [decide_eq_false hf]
            refine pw_aload_n dX11_isChecked_0 rfl ?_
            refine pw_iload_n dX11_isChecked_1 rfl ?_
            refine lp_cV1 (mi' := mX11_kind) (As := [_]) (q := (RX11, TX11, 33)) dX11_isChecked_2 lk_RX11_86 mk_X11_kind mi_X11_kind me_X11_kind ⟨by decide, by decide⟩ rfl rfl (Nat.le_of_ble_eq_true rfl) rfl rfl ⟨rfl, rfl⟩ ⟨Nat.zero_le _, Nat.zero_le _⟩ (r_kind i hi) ?_
            refine pw_if_eq 45 dX11_isChecked_5 (by decide) (fun c_5 => absurd c_5 k0) (fun c_5 => ?_)
            refine pw_iload_n dX11_isChecked_8 rfl ?_
            refine pw_if_eq 41 dX11_isChecked_9 (by decide) (fun c_9 => absurd (show (1 : Int32) = 0 from c_9) (by decide)) (fun c_9 => ?_)
            refine pw_aload_n dX11_isChecked_12 rfl ?_
            refine lp_getr 19 dX11_isChecked_13 fp_RX11_66.FL rfl rfl rfl ?_
            refine pw_iload_n dX11_isChecked_16 rfl ?_
            refine lp_iald dX11_isChecked_17 rfl (vp_in_nI hi (by decide)) ?_
            rw [ei]
            refine pw_iconst (v := 4) dX11_isChecked_18 rfl ?_
            refine pw_icmp_eq 41 dX11_isChecked_19 (by decide) (fun c_19 => absurd c_19 s4) (fun c_19 => ?_)
            refine pw_aload_n dX11_isChecked_22 rfl ?_
            refine lp_getr 19 dX11_isChecked_23 fp_RX11_66.FL rfl rfl rfl ?_
            refine pw_iload_n dX11_isChecked_26 rfl ?_
            refine lp_iald dX11_isChecked_27 rfl (vp_in_nI hi (by decide)) ?_
            rw [ei]
            refine pw_iconst (v := 3) dX11_isChecked_28 rfl ?_
            refine pw_icmp_ne 45 dX11_isChecked_29 (by decide) (fun c_29 => absurd c_29 (fun z => z s3)) (fun c_29 => ?_)
            refine pw_aload_n dX11_isChecked_32 rfl ?_
            refine lp_getr 21 dX11_isChecked_33 fp_RX11_72.FL rfl rfl rfl ?_
            refine pw_iload_n dX11_isChecked_36 rfl ?_
            refine lp_zald dX11_isChecked_37 rfl (vp_in_nI hi (by decide)) ?_
            rw [ei]
            refine pw_if_ne 45 dX11_isChecked_38 (by decide) (fun c_38 => ?_) (fun c_38 => absurd c_38 hf)
            refine pw_iconst (v := 0) dX11_isChecked_45 rfl ?_
            exact pw_iret rfl rfl dX11_isChecked_46 (Nat.zero_le _) (Nat.zero_le _) rfl
        · rw [decide_eq_false s3]
          refine pw_aload_n dX11_isChecked_0 rfl ?_
          refine pw_iload_n dX11_isChecked_1 rfl ?_
          refine lp_cV1 (mi' := mX11_kind) (As := [_]) (q := (RX11, TX11, 33)) dX11_isChecked_2 lk_RX11_86 mk_X11_kind mi_X11_kind me_X11_kind ⟨by decide, by decide⟩ rfl rfl (Nat.le_of_ble_eq_true rfl) rfl rfl ⟨rfl, rfl⟩ ⟨Nat.zero_le _, Nat.zero_le _⟩ (r_kind i hi) ?_
          refine pw_if_eq 45 dX11_isChecked_5 (by decide) (fun c_5 => absurd c_5 k0) (fun c_5 => ?_)
          refine pw_iload_n dX11_isChecked_8 rfl ?_
          refine pw_if_eq 41 dX11_isChecked_9 (by decide) (fun c_9 => absurd (show (1 : Int32) = 0 from c_9) (by decide)) (fun c_9 => ?_)
          refine pw_aload_n dX11_isChecked_12 rfl ?_
          refine lp_getr 19 dX11_isChecked_13 fp_RX11_66.FL rfl rfl rfl ?_
          refine pw_iload_n dX11_isChecked_16 rfl ?_
          refine lp_iald dX11_isChecked_17 rfl (vp_in_nI hi (by decide)) ?_
          rw [ei]
          refine pw_iconst (v := 4) dX11_isChecked_18 rfl ?_
          refine pw_icmp_eq 41 dX11_isChecked_19 (by decide) (fun c_19 => absurd c_19 s4) (fun c_19 => ?_)
          refine pw_aload_n dX11_isChecked_22 rfl ?_
          refine lp_getr 19 dX11_isChecked_23 fp_RX11_66.FL rfl rfl rfl ?_
          refine pw_iload_n dX11_isChecked_26 rfl ?_
          refine lp_iald dX11_isChecked_27 rfl (vp_in_nI hi (by decide)) ?_
          rw [ei]
          refine pw_iconst (v := 3) dX11_isChecked_28 rfl ?_
          refine pw_icmp_ne 45 dX11_isChecked_29 (by decide) (fun c_29 => ?_) (fun c_29 => absurd c_29 s3)
          refine pw_iconst (v := 0) dX11_isChecked_45 rfl ?_
          exact pw_iret rfl rfl dX11_isChecked_46 (Nat.zero_le _) (Nat.zero_le _) rfl
theorem r_stepOf (i : Nat) (hi : i < 30) : SpecD l G mX11_stepOf [.ref (adr 0), .int (nI i)] (wp G adr LM Lf Rt σ) (some (.int (stepA (σ.2.2.1 1) i))) (wp G adr LM Lf Rt σ) := by
  refine spec_of (by decide) (Nat.le_of_ble_eq_true rfl) (fun sz => ?_)
  unfold stepA
  by_cases a2 : σ.2.2.1 1 (1 + 4 * i + 2) = σ.2.2.1 1 (1 + 4 * i + 1)
  · by_cases a3 : σ.2.2.1 1 (1 + 4 * i + 3) = σ.2.2.1 1 (1 + 4 * i + 1)
    · rw [if_pos (by rw [decide_eq_true a2, decide_eq_true a3])]
      refine pw_aload_n dX11_stepOf_0 rfl ?_
      refine pw_iload_n dX11_stepOf_1 rfl ?_
      refine pw_iconst (v := 1) dX11_stepOf_2 rfl ?_
      refine lp_cV1 (mi' := mX11_of) (As := [_, _]) (q := (RX11, TX11, 33)) dX11_stepOf_3 lk_RX11_82 mk_X11_of mi_X11_of me_X11_of ⟨by decide, by decide⟩ rfl rfl (Nat.le_of_ble_eq_true rfl) rfl rfl ⟨rfl, rfl⟩ ⟨Nat.zero_le _, Nat.zero_le _⟩ (r_of i 1 (by omega)) ?_
      refine pw_istore_n dX11_stepOf_6 (by decide) ?_
      refine pw_aload_n dX11_stepOf_7 rfl ?_
      refine pw_iload_n dX11_stepOf_8 rfl ?_
      refine pw_iconst (v := 2) dX11_stepOf_9 rfl ?_
      refine lp_cV1 (mi' := mX11_of) (As := [_, _]) (q := (RX11, TX11, 33)) dX11_stepOf_10 lk_RX11_82 mk_X11_of mi_X11_of me_X11_of ⟨by decide, by decide⟩ rfl rfl (Nat.le_of_ble_eq_true rfl) rfl rfl ⟨rfl, rfl⟩ ⟨Nat.zero_le _, Nat.zero_le _⟩ (r_of i 2 (by omega)) ?_
      refine pw_iload_n dX11_stepOf_13 rfl ?_
      refine pw_icmp_ne 21 dX11_stepOf_14 (by decide) (fun c_14 => absurd c_14 (fun z => z a2)) (fun c_14 => ?_)
      refine pw_iconst (v := 1) dX11_stepOf_17 rfl ?_
      refine pw_goto (tgt := 22) dX11_stepOf_18 (by decide) ?_
      refine pw_istore_n dX11_stepOf_22 (by decide) ?_
      refine pw_aload_n dX11_stepOf_23 rfl ?_
      refine pw_iload_n dX11_stepOf_24 rfl ?_
      refine pw_iconst (v := 3) dX11_stepOf_25 rfl ?_
      refine lp_cV1 (mi' := mX11_of) (As := [_, _]) (q := (RX11, TX11, 33)) dX11_stepOf_26 lk_RX11_82 mk_X11_of mi_X11_of me_X11_of ⟨by decide, by decide⟩ rfl rfl (Nat.le_of_ble_eq_true rfl) rfl rfl ⟨rfl, rfl⟩ ⟨Nat.zero_le _, Nat.zero_le _⟩ (r_of i 3 (by omega)) ?_
      refine pw_iload_n dX11_stepOf_29 rfl ?_
      refine pw_icmp_ne 37 dX11_stepOf_30 (by decide) (fun c_30 => absurd c_30 (fun z => z a3)) (fun c_30 => ?_)
      refine pw_iconst (v := 1) dX11_stepOf_33 rfl ?_
      refine pw_goto (tgt := 38) dX11_stepOf_34 (by decide) ?_
      refine pw_istore dX11_stepOf_38 (by decide) ?_
      refine pw_iload_n dX11_stepOf_40 rfl ?_
      refine pw_iload dX11_stepOf_41 rfl ?_
      refine pw_icmp_ne 50 dX11_stepOf_43 (by decide) (fun c_43 => absurd rfl c_43) (fun c_43 => ?_)
      refine pw_iconst (v := -1) dX11_stepOf_46 rfl ?_
      refine pw_goto (tgt := 69) dX11_stepOf_47 (by decide) ?_
      exact pw_iret rfl rfl dX11_stepOf_69 (Nat.zero_le _) (Nat.zero_le _) rfl
    · rw [if_neg (by rw [decide_eq_true a2, decide_eq_false a3]; decide), if_pos a2]
      refine pw_aload_n dX11_stepOf_0 rfl ?_
      refine pw_iload_n dX11_stepOf_1 rfl ?_
      refine pw_iconst (v := 1) dX11_stepOf_2 rfl ?_
      refine lp_cV1 (mi' := mX11_of) (As := [_, _]) (q := (RX11, TX11, 33)) dX11_stepOf_3 lk_RX11_82 mk_X11_of mi_X11_of me_X11_of ⟨by decide, by decide⟩ rfl rfl (Nat.le_of_ble_eq_true rfl) rfl rfl ⟨rfl, rfl⟩ ⟨Nat.zero_le _, Nat.zero_le _⟩ (r_of i 1 (by omega)) ?_
      refine pw_istore_n dX11_stepOf_6 (by decide) ?_
      refine pw_aload_n dX11_stepOf_7 rfl ?_
      refine pw_iload_n dX11_stepOf_8 rfl ?_
      refine pw_iconst (v := 2) dX11_stepOf_9 rfl ?_
      refine lp_cV1 (mi' := mX11_of) (As := [_, _]) (q := (RX11, TX11, 33)) dX11_stepOf_10 lk_RX11_82 mk_X11_of mi_X11_of me_X11_of ⟨by decide, by decide⟩ rfl rfl (Nat.le_of_ble_eq_true rfl) rfl rfl ⟨rfl, rfl⟩ ⟨Nat.zero_le _, Nat.zero_le _⟩ (r_of i 2 (by omega)) ?_
      refine pw_iload_n dX11_stepOf_13 rfl ?_
      refine pw_icmp_ne 21 dX11_stepOf_14 (by decide) (fun c_14 => absurd c_14 (fun z => z a2)) (fun c_14 => ?_)
      refine pw_iconst (v := 1) dX11_stepOf_17 rfl ?_
      refine pw_goto (tgt := 22) dX11_stepOf_18 (by decide) ?_
      refine pw_istore_n dX11_stepOf_22 (by decide) ?_
      refine pw_aload_n dX11_stepOf_23 rfl ?_
      refine pw_iload_n dX11_stepOf_24 rfl ?_
      refine pw_iconst (v := 3) dX11_stepOf_25 rfl ?_
      refine lp_cV1 (mi' := mX11_of) (As := [_, _]) (q := (RX11, TX11, 33)) dX11_stepOf_26 lk_RX11_82 mk_X11_of mi_X11_of me_X11_of ⟨by decide, by decide⟩ rfl rfl (Nat.le_of_ble_eq_true rfl) rfl rfl ⟨rfl, rfl⟩ ⟨Nat.zero_le _, Nat.zero_le _⟩ (r_of i 3 (by omega)) ?_
      refine pw_iload_n dX11_stepOf_29 rfl ?_
      refine pw_icmp_ne 37 dX11_stepOf_30 (by decide) (fun c_30 => ?_) (fun c_30 => absurd c_30 a3)
      refine pw_iconst (v := 0) dX11_stepOf_37 rfl ?_
      refine pw_istore dX11_stepOf_38 (by decide) ?_
      refine pw_iload_n dX11_stepOf_40 rfl ?_
      refine pw_iload dX11_stepOf_41 rfl ?_
      refine pw_icmp_ne 50 dX11_stepOf_43 (by decide) (fun c_43 => ?_) (fun c_43 => absurd c_43 (by decide))
      refine pw_iload_n dX11_stepOf_50 rfl ?_
      refine pw_if_eq 63 dX11_stepOf_51 (by decide) (fun c_51 => absurd (show (1 : Int32) = 0 from c_51) (by decide)) (fun c_51 => ?_)
      refine pw_aload_n dX11_stepOf_54 rfl ?_
      refine pw_iload_n dX11_stepOf_55 rfl ?_
      refine pw_iconst (v := 3) dX11_stepOf_56 rfl ?_
      refine lp_cV1 (mi' := mX11_of) (As := [_, _]) (q := (RX11, TX11, 33)) dX11_stepOf_57 lk_RX11_82 mk_X11_of mi_X11_of me_X11_of ⟨by decide, by decide⟩ rfl rfl (Nat.le_of_ble_eq_true rfl) rfl rfl ⟨rfl, rfl⟩ ⟨Nat.zero_le _, Nat.zero_le _⟩ (r_of i 3 (by omega)) ?_
      refine pw_goto (tgt := 69) dX11_stepOf_60 (by decide) ?_
      exact pw_iret rfl rfl dX11_stepOf_69 (Nat.zero_le _) (Nat.zero_le _) rfl
  · by_cases a3 : σ.2.2.1 1 (1 + 4 * i + 3) = σ.2.2.1 1 (1 + 4 * i + 1)
    · rw [if_neg (by rw [decide_eq_false a2, decide_eq_true a3]; decide), if_neg a2]
      refine pw_aload_n dX11_stepOf_0 rfl ?_
      refine pw_iload_n dX11_stepOf_1 rfl ?_
      refine pw_iconst (v := 1) dX11_stepOf_2 rfl ?_
      refine lp_cV1 (mi' := mX11_of) (As := [_, _]) (q := (RX11, TX11, 33)) dX11_stepOf_3 lk_RX11_82 mk_X11_of mi_X11_of me_X11_of ⟨by decide, by decide⟩ rfl rfl (Nat.le_of_ble_eq_true rfl) rfl rfl ⟨rfl, rfl⟩ ⟨Nat.zero_le _, Nat.zero_le _⟩ (r_of i 1 (by omega)) ?_
      refine pw_istore_n dX11_stepOf_6 (by decide) ?_
      refine pw_aload_n dX11_stepOf_7 rfl ?_
      refine pw_iload_n dX11_stepOf_8 rfl ?_
      refine pw_iconst (v := 2) dX11_stepOf_9 rfl ?_
      refine lp_cV1 (mi' := mX11_of) (As := [_, _]) (q := (RX11, TX11, 33)) dX11_stepOf_10 lk_RX11_82 mk_X11_of mi_X11_of me_X11_of ⟨by decide, by decide⟩ rfl rfl (Nat.le_of_ble_eq_true rfl) rfl rfl ⟨rfl, rfl⟩ ⟨Nat.zero_le _, Nat.zero_le _⟩ (r_of i 2 (by omega)) ?_
      refine pw_iload_n dX11_stepOf_13 rfl ?_
      refine pw_icmp_ne 21 dX11_stepOf_14 (by decide) (fun c_14 => ?_) (fun c_14 => absurd c_14 a2)
      refine pw_iconst (v := 0) dX11_stepOf_21 rfl ?_
      refine pw_istore_n dX11_stepOf_22 (by decide) ?_
      refine pw_aload_n dX11_stepOf_23 rfl ?_
      refine pw_iload_n dX11_stepOf_24 rfl ?_
      refine pw_iconst (v := 3) dX11_stepOf_25 rfl ?_
      refine lp_cV1 (mi' := mX11_of) (As := [_, _]) (q := (RX11, TX11, 33)) dX11_stepOf_26 lk_RX11_82 mk_X11_of mi_X11_of me_X11_of ⟨by decide, by decide⟩ rfl rfl (Nat.le_of_ble_eq_true rfl) rfl rfl ⟨rfl, rfl⟩ ⟨Nat.zero_le _, Nat.zero_le _⟩ (r_of i 3 (by omega)) ?_
      refine pw_iload_n dX11_stepOf_29 rfl ?_
      refine pw_icmp_ne 37 dX11_stepOf_30 (by decide) (fun c_30 => absurd c_30 (fun z => z a3)) (fun c_30 => ?_)
      refine pw_iconst (v := 1) dX11_stepOf_33 rfl ?_
      refine pw_goto (tgt := 38) dX11_stepOf_34 (by decide) ?_
      refine pw_istore dX11_stepOf_38 (by decide) ?_
      refine pw_iload_n dX11_stepOf_40 rfl ?_
      refine pw_iload dX11_stepOf_41 rfl ?_
      refine pw_icmp_ne 50 dX11_stepOf_43 (by decide) (fun c_43 => ?_) (fun c_43 => absurd c_43 (by decide))
      refine pw_iload_n dX11_stepOf_50 rfl ?_
      refine pw_if_eq 63 dX11_stepOf_51 (by decide) (fun c_51 => ?_) (fun c_51 => absurd rfl c_51)
      refine pw_aload_n dX11_stepOf_63 rfl ?_
      refine pw_iload_n dX11_stepOf_64 rfl ?_
      refine pw_iconst (v := 2) dX11_stepOf_65 rfl ?_
      refine lp_cV1 (mi' := mX11_of) (As := [_, _]) (q := (RX11, TX11, 33)) dX11_stepOf_66 lk_RX11_82 mk_X11_of mi_X11_of me_X11_of ⟨by decide, by decide⟩ rfl rfl (Nat.le_of_ble_eq_true rfl) rfl rfl ⟨rfl, rfl⟩ ⟨Nat.zero_le _, Nat.zero_le _⟩ (r_of i 2 (by omega)) ?_
      exact pw_iret rfl rfl dX11_stepOf_69 (Nat.zero_le _) (Nat.zero_le _) rfl
    · rw [if_pos (by rw [decide_eq_false a2, decide_eq_false a3])]
      refine pw_aload_n dX11_stepOf_0 rfl ?_
      refine pw_iload_n dX11_stepOf_1 rfl ?_
      refine pw_iconst (v := 1) dX11_stepOf_2 rfl ?_
      refine lp_cV1 (mi' := mX11_of) (As := [_, _]) (q := (RX11, TX11, 33)) dX11_stepOf_3 lk_RX11_82 mk_X11_of mi_X11_of me_X11_of ⟨by decide, by decide⟩ rfl rfl (Nat.le_of_ble_eq_true rfl) rfl rfl ⟨rfl, rfl⟩ ⟨Nat.zero_le _, Nat.zero_le _⟩ (r_of i 1 (by omega)) ?_
      refine pw_istore_n dX11_stepOf_6 (by decide) ?_
      refine pw_aload_n dX11_stepOf_7 rfl ?_
      refine pw_iload_n dX11_stepOf_8 rfl ?_
      refine pw_iconst (v := 2) dX11_stepOf_9 rfl ?_
      refine lp_cV1 (mi' := mX11_of) (As := [_, _]) (q := (RX11, TX11, 33)) dX11_stepOf_10 lk_RX11_82 mk_X11_of mi_X11_of me_X11_of ⟨by decide, by decide⟩ rfl rfl (Nat.le_of_ble_eq_true rfl) rfl rfl ⟨rfl, rfl⟩ ⟨Nat.zero_le _, Nat.zero_le _⟩ (r_of i 2 (by omega)) ?_
      refine pw_iload_n dX11_stepOf_13 rfl ?_
      refine pw_icmp_ne 21 dX11_stepOf_14 (by decide) (fun c_14 => ?_) (fun c_14 => absurd c_14 a2)
      refine pw_iconst (v := 0) dX11_stepOf_21 rfl ?_
      refine pw_istore_n dX11_stepOf_22 (by decide) ?_
      refine pw_aload_n dX11_stepOf_23 rfl ?_
      refine pw_iload_n dX11_stepOf_24 rfl ?_
      refine pw_iconst (v := 3) dX11_stepOf_25 rfl ?_
      refine lp_cV1 (mi' := mX11_of) (As := [_, _]) (q := (RX11, TX11, 33)) dX11_stepOf_26 lk_RX11_82 mk_X11_of mi_X11_of me_X11_of ⟨by decide, by decide⟩ rfl rfl (Nat.le_of_ble_eq_true rfl) rfl rfl ⟨rfl, rfl⟩ ⟨Nat.zero_le _, Nat.zero_le _⟩ (r_of i 3 (by omega)) ?_
      refine pw_iload_n dX11_stepOf_29 rfl ?_
      refine pw_icmp_ne 37 dX11_stepOf_30 (by decide) (fun c_30 => ?_) (fun c_30 => absurd c_30 a3)
      refine pw_iconst (v := 0) dX11_stepOf_37 rfl ?_
      refine pw_istore dX11_stepOf_38 (by decide) ?_
      refine pw_iload_n dX11_stepOf_40 rfl ?_
      refine pw_iload dX11_stepOf_41 rfl ?_
      refine pw_icmp_ne 50 dX11_stepOf_43 (by decide) (fun c_43 => absurd rfl c_43) (fun c_43 => ?_)
      refine pw_iconst (v := -1) dX11_stepOf_46 rfl ?_
      refine pw_goto (tgt := 69) dX11_stepOf_47 (by decide) ?_
      exact pw_iret rfl rfl dX11_stepOf_69 (Nat.zero_le _) (Nat.zero_le _) rfl
end R1
