/-! doubles -/
section PD
variable {l : Launch} {G : cxG} {mi : MI} {w0 : va_W} {sz : Nat} {fin : OC → Prop} {pc : Nat} {lv : List (Nat × Value)} {st : List Value} {k n : Nat} {ws : va_W}
theorem pw_dconst1 (hd : decode mi.2.1 pc = .ok (.dconst 1, 1)) (kk : PW l G mi w0 sz fin (pc + 1) lv (.double FP.dconst1 :: st) k n ws) : PW l G mi w0 sz fin pc lv st k n ws :=
  fun p e s m args below meth c H locs ls F hz hP hD hS hl => lv_dconst1 F.1 F.2.1 hd (kk p e s m args below meth c H locs ls F hz hP hD hS hl)
theorem pw_i2d {x : Int32} (hd : decode mi.2.1 pc = .ok (.i2d, 1)) (kk : PW l G mi w0 sz fin (pc + 1) lv (.double (FP.i2d x) :: st) k n ws) : PW l G mi w0 sz fin pc lv (.int x :: st) k n ws :=
  fun p e s m args below meth c H locs ls F hz hP hD hS hl => lv_i2d F.1 F.2.1 hd (kk p e s m args below meth c H locs ls F hz hP hD hS hl)
theorem pw_ddiv {x y : UInt64} (hd : decode mi.2.1 pc = .ok (.ddiv, 1)) (hne : vf_n64 (FP.ddiv x y)) (kk : PW l G mi w0 sz fin (pc + 1) lv (.double (FP.ddiv x y) :: st) k n ws) : PW l G mi w0 sz fin pc lv (.double y :: .double x :: st) k n ws :=
  fun p e s m args below meth c H locs ls F hz hP hD hS hl => lv_ddiv F.1 F.2.1 hd hne (kk p e s m args below meth c H locs ls F hz hP hD hS hl)
theorem pw_dsub {x y : UInt64} (hd : decode mi.2.1 pc = .ok (.dsub, 1)) (hne : vf_n64 (FP.dsub x y)) (kk : PW l G mi w0 sz fin (pc + 1) lv (.double (FP.dsub x y) :: st) k n ws) : PW l G mi w0 sz fin pc lv (.double y :: .double x :: st) k n ws :=
  fun p e s m args below meth c H locs ls F hz hP hD hS hl => lv_dsub F.1 F.2.1 hd hne (kk p e s m args below meth c H locs ls F hz hP hD hS hl)
end PD
/-- the share of the checks that are saved -/
def savV (p q : Int32) : UInt64 := if p = 0 then FP.dconst0 else FP.dsub FP.dconst1 (FP.ddiv (FP.i2d q) (FP.i2d p))
section SV
variable {l : Launch} {G : cxG} {adr : Nat → Nat} {Lf Rt : va_W} {σ : St}
theorem r_saving {N : Nat} (hP : wfP (σ.2.2.1 1) N) : SpR1 l G mX11_saving [.ref (adr 0)] adr LM Lf Rt σ (fun v σ' => v = .double (savV (mOutC (sI σ 0 3 0) false N) (mOutC (mOut (sI σ 0 3 0) false N) true N)) ∧ pers σ' = pers (sI σ 0 3 0)) := by
  refine spec_of (by decide) (Nat.le_of_ble_eq_true rfl) (fun sz => ?_)
  have p1 := mOut_pers (sI σ 0 3 0) false N
  have p2 := mOut_pers (mOut (sI σ 0 3 0) false N) true N
  have hP2 : wfP ((mOut (sI σ 0 3 0) false N).2.2.1 1) N := by rw [p1.2]; exact hP
  unfold savV
  by_cases h0 : mOutC (sI σ 0 3 0) false N = 0
  · rw [if_pos h0]
    refine pw_aload_n dX11_saving_0 rfl ?_
    refine pw_iconst (v := 0) dX11_saving_1 rfl ?_
    refine lp_puti dX11_saving_2 fp_RX11_75 rfl rfl rfl rfl ?_
    refine pw_aload_n dX11_saving_5 rfl ?_
    refine pw_iconst (v := 0) dX11_saving_6 rfl ?_
    refine lp_cV1 (mi' := mX11_outcome) (As := [_]) (q := (RX11, TX11, 33)) dX11_saving_7 lk_RX11_270 mk_X11_outcome mi_X11_outcome me_X11_outcome ⟨by decide, by decide⟩ rfl rfl (Nat.le_of_ble_eq_true rfl) rfl rfl ⟨rfl, rfl⟩ ⟨Nat.zero_le _, Nat.zero_le _⟩ (r_outcome (σ := sI σ 0 3 0) hP false) ?_
    refine pw_istore_n dX11_saving_10 (by decide) ?_
    refine pw_aload_n dX11_saving_11 rfl ?_
    refine pw_iconst (v := 1) dX11_saving_12 rfl ?_
    refine lp_cV1 (mi' := mX11_outcome) (As := [_]) (q := (RX11, TX11, 33)) dX11_saving_13 lk_RX11_270 mk_X11_outcome mi_X11_outcome me_X11_outcome ⟨by decide, by decide⟩ rfl rfl (Nat.le_of_ble_eq_true rfl) rfl rfl ⟨rfl, rfl⟩ ⟨Nat.zero_le _, Nat.zero_le _⟩ (r_outcome hP2 true) ?_
    refine pw_istore_n dX11_saving_16 (by decide) ?_
    refine pw_iload_n dX11_saving_17 rfl ?_
    refine pw_if_ne 25 dX11_saving_18 (by decide) (fun c_18 => absurd c_18 (fun z => z h0)) (fun c_18 => ?_)
    refine pw_dconst0 dX11_saving_21 ?_
    refine pw_goto (tgt := 32) dX11_saving_22 (by decide) ?_
    exact pw_dret rfl dX11_saving_32 (Nat.zero_le _) (Nat.zero_le _) ⟨_, _, rfl, rfl, p2.1.trans p1.1⟩
  · rw [if_neg h0]
    refine pw_aload_n dX11_saving_0 rfl ?_
    refine pw_iconst (v := 0) dX11_saving_1 rfl ?_
    refine lp_puti dX11_saving_2 fp_RX11_75 rfl rfl rfl rfl ?_
    refine pw_aload_n dX11_saving_5 rfl ?_
    refine pw_iconst (v := 0) dX11_saving_6 rfl ?_
    refine lp_cV1 (mi' := mX11_outcome) (As := [_]) (q := (RX11, TX11, 33)) dX11_saving_7 lk_RX11_270 mk_X11_outcome mi_X11_outcome me_X11_outcome ⟨by decide, by decide⟩ rfl rfl (Nat.le_of_ble_eq_true rfl) rfl rfl ⟨rfl, rfl⟩ ⟨Nat.zero_le _, Nat.zero_le _⟩ (r_outcome (σ := sI σ 0 3 0) hP false) ?_
    refine pw_istore_n dX11_saving_10 (by decide) ?_
    refine pw_aload_n dX11_saving_11 rfl ?_
    refine pw_iconst (v := 1) dX11_saving_12 rfl ?_
    refine lp_cV1 (mi' := mX11_outcome) (As := [_]) (q := (RX11, TX11, 33)) dX11_saving_13 lk_RX11_270 mk_X11_outcome mi_X11_outcome me_X11_outcome ⟨by decide, by decide⟩ rfl rfl (Nat.le_of_ble_eq_true rfl) rfl rfl ⟨rfl, rfl⟩ ⟨Nat.zero_le _, Nat.zero_le _⟩ (r_outcome hP2 true) ?_
    refine pw_istore_n dX11_saving_16 (by decide) ?_
    refine pw_iload_n dX11_saving_17 rfl ?_
    refine pw_if_ne 25 dX11_saving_18 (by decide) (fun c_18 => ?_) (fun c_18 => absurd c_18 h0)
    refine pw_dconst1 dX11_saving_25 ?_
    refine pw_iload_n dX11_saving_26 rfl ?_
    refine pw_i2d dX11_saving_27 ?_
    refine pw_iload_n dX11_saving_28 rfl ?_
    refine pw_i2d dX11_saving_29 ?_
    refine pw_ddiv dX11_saving_30 (n64_of (sav_div _ _ h0)) ?_
    refine pw_dsub dX11_saving_31 (n64_of (sav_sub _ _ h0)) ?_
    exact pw_dret rfl dX11_saving_32 (Nat.zero_le _) (Nat.zero_le _) ⟨_, _, rfl, rfl, p2.1.trans p1.1⟩
end SV
