/-! CONSTRUCTORS -/
section CN
variable {l : Launch} {G : cxG} {mi : MI} {w0 : va_W} {sz : Nat} {fin : OC → Prop} {pc : Nat} {lv : List (Nat × Value)} {st : List Value} {k n : Nat} {L r : va_W} {o ci : Nat} {fs : List Value} {x : Nat × va_E}
theorem cn_putF {idx j : Nat} {ty : FieldType} {v : Value} (hd : decode mi.2.1 pc = .ok (.putfield idx, 3)) (hf : FP mi.1.cls idx ci j true ty) (hown : (vwCl[ci]?).map (fun q => q.1) = some mi.1.cls) (hlk : ∀ C T N, vwCl[ci]? = some (C, T, N) → Cond.fieldLink mi.1.cls idx C (T j).2.1 (T j).2.2.1 ∈ TW) (hi : mi.1.name = "<init>") (hj : j < fs.length) (hn : narrow ty v = v) (hfit : fits ty v = true) (fs' : List Value) (hfs : fs.set j v = fs') (kk : PW l G mi w0 sz fin (pc + 3) lv st k n (L ++ ((o, .inr (ci, fs')) :: r))) : PW l G mi w0 sz fin pc lv (v :: .ref o :: st) k n (L ++ ((o, .inr (ci, fs)) :: r)) :=
  pw_putF hd hf hown hlk hi L.length (by simp) hj hn hfit (by rw [hfs, List.set_append_right _ _ (Nat.le_refl _), Nat.sub_self]; exact kk)
theorem cn_put {idx j : Nat} {ty : FieldType} {v : Value} (hd : decode mi.2.1 pc = .ok (.putfield idx, 3)) (hf : FP mi.1.cls idx ci j false ty) (hj : j < fs.length) (hn : narrow ty v = v) (hfit : fits ty v = true) (fs' : List Value) (hfs : fs.set j v = fs') (kk : PW l G mi w0 sz fin (pc + 3) lv st k n (L ++ ((o, .inr (ci, fs')) :: r))) : PW l G mi w0 sz fin pc lv (v :: .ref o :: st) k n (L ++ ((o, .inr (ci, fs)) :: r)) :=
  pw_put hd hf L.length (by simp) hj hn hfit (by rw [hfs, List.set_append_right _ _ (Nat.le_refl _), Nat.sub_self]; exact kk)
theorem cn_get {idx j : Nat} {v : Value} (hd : decode mi.2.1 pc = .ok (.getfield idx, 3)) (hf : FL mi.1.cls idx ci j) (hv : fs[j]? = some v) (kk : PW l G mi w0 sz fin (pc + 3) lv (v :: st) k n (L ++ ((o, .inr (ci, fs)) :: r))) : PW l G mi w0 sz fin pc lv (.ref o :: st) k n (L ++ ((o, .inr (ci, fs)) :: r)) :=
  pw_get hd hf L.length (by simp) hv kk
theorem cn_newI {z : Int32} (N' : Nat) (hd : decode mi.2.1 pc = .ok (.newarray .int, 2)) (hac : Cond.arrayClass .int ∈ TW) (hz0 : ¬ z < 0) (hzN : z.toNatClampNeg = N') (hby : N' * componentBytes .int ≤ 536870912) (h1 : k + 1 ≤ mi.2.2.2.2.cells) (h2 : n + N' ≤ mi.2.2.2.2.slots)
    (r' : Nat → va_W) (hr : ∀ q, r ++ [(q, .inl (G.2.1, N', .inl (fun _ => 0)))] = r' q) (k' n' : Nat) (hk : k + 1 = k') (hn : n + N' = n') (kk : ∀ q, PW l G mi w0 sz fin (pc + 2) lv (.ref q :: st) k' n' (L ++ (x :: r' q))) : PW l G mi w0 sz fin pc lv (.int z :: st) k n (L ++ (x :: r)) :=
  pw_newI N' hd hac hz0 hzN hby h1 h2 (fun q => by rw [List.append_assoc, List.cons_append, hr, hk, hn]; exact kk q)
theorem cn_newL {z : Int32} (N' : Nat) (hd : decode mi.2.1 pc = .ok (.newarray .long, 2)) (hac : Cond.arrayClass .long ∈ TW) (hz0 : ¬ z < 0) (hzN : z.toNatClampNeg = N') (hby : N' * componentBytes .long ≤ 536870912) (h1 : k + 1 ≤ mi.2.2.2.2.cells) (h2 : n + N' ≤ mi.2.2.2.2.slots)
    (r' : Nat → va_W) (hr : ∀ q, r ++ [(q, .inl (G.2.2.1, N', .inr (.inl (fun _ => 0))))] = r' q) (k' n' : Nat) (hk : k + 1 = k') (hn : n + N' = n') (kk : ∀ q, PW l G mi w0 sz fin (pc + 2) lv (.ref q :: st) k' n' (L ++ (x :: r' q))) : PW l G mi w0 sz fin pc lv (.int z :: st) k n (L ++ (x :: r)) :=
  pw_newL N' hd hac hz0 hzN hby h1 h2 (fun q => by rw [List.append_assoc, List.cons_append, hr, hk, hn]; exact kk q)
theorem cn_newZ {z : Int32} (N' : Nat) (hd : decode mi.2.1 pc = .ok (.newarray .boolean, 2)) (hac : Cond.arrayClass .boolean ∈ TW) (hz0 : ¬ z < 0) (hzN : z.toNatClampNeg = N') (hby : N' * componentBytes .boolean ≤ 536870912) (h1 : k + 1 ≤ mi.2.2.2.2.cells) (h2 : n + N' ≤ mi.2.2.2.2.slots)
    (r' : Nat → va_W) (hr : ∀ q, r ++ [(q, .inl (G.2.2.2.1, N', .inl (fun _ => 0)))] = r' q) (k' n' : Nat) (hk : k + 1 = k') (hn : n + N' = n') (kk : ∀ q, PW l G mi w0 sz fin (pc + 2) lv (.ref q :: st) k' n' (L ++ (x :: r' q))) : PW l G mi w0 sz fin pc lv (.int z :: st) k n (L ++ (x :: r)) :=
  pw_newZ N' hd hac hz0 hzN hby h1 h2 (fun q => by rw [List.append_assoc, List.cons_append, hr, hk, hn]; exact kk q)
end CN
def z0 : St := (fun _ _ => 0, fun _ _ => 0, fun _ _ => 0, fun _ _ => 0, fun _ _ => 0)
/-- the reference's inputs at first -/
def al0 (i : Nat) : Nat → Int32 := fun k => if 121 ≤ k ∧ k < 121 + 3 * i ∧ (k - 121) % 3 = 1 then 100 else 0
section I11
variable {l : Launch} {G : cxG} {L : va_W}
theorem init_loop {sz : Nat} {w0 : va_W} {fin : OC → Prop} {adr : Nat → Nat} (hf : fin (.inl (none, wp G adr LM L [] (sA z0 1 (al0 8))))) :
    ∀ (r i : Nat), i + r = 8 → PW l G mX11_init w0 sz fin 176 [(0, .ref (adr 0)), (1, .int (nI i))] [] 21 1461 (wp G adr LM L [] (sA z0 1 (al0 i))) := by
  intro r
  induction r with
  | zero =>
    intro i hi
    have hi : i = 8 := by omega
    subst hi
    refine pw_iload_n dX11_init_176 rfl ?_
    refine pw_bipush (v := 8) dX11_init_177 rfl ?_
    refine pw_icmp_ge 203 dX11_init_179 (by decide) (fun c_179 => ?_) (fun c_179 => absurd (nI_le (Nat.le_refl 8) (by decide)) c_179)
    exact pw_vret rfl dX11_init_203 (Nat.le_refl _) (Nat.le_refl _) hf
  | succ r ih =>
    intro i hi
    have b1 : vp_in (121 + 3 * nI i + 1) 145 ∧ (121 + 3 * nI i + 1).toNatClampNeg = 121 + 3 * i + 1 := nI121 (v := i) (w := 1) (by omega)
    refine pw_iload_n dX11_init_176 rfl ?_
    refine pw_bipush (v := 8) dX11_init_177 rfl ?_
    refine pw_icmp_ge 203 dX11_init_179 (by decide) (fun c_179 => absurd c_179 (nI_ge (a := i) (b := 8) (by omega) (by decide))) (fun c_179 => ?_)
    refine pw_aload_n dX11_init_182 rfl ?_
    refine lp_getr 1 dX11_init_183 fp_RX11_7.FL rfl rfl rfl ?_
    refine pw_bipush (v := 121) dX11_init_186 rfl ?_
    refine pw_iconst (v := 3) dX11_init_188 rfl ?_
    refine pw_iload_n dX11_init_189 rfl ?_
    refine pw_imul dX11_init_190 ?_
    refine pw_iadd dX11_init_191 ?_
    refine pw_iconst (v := 1) dX11_init_192 rfl ?_
    refine pw_iadd dX11_init_193 ?_
    refine pw_bipush (v := 100) dX11_init_194 rfl ?_
    refine lp_iast dX11_init_196 rfl b1.1 ?_
    refine pw_st (σ' := sA z0 1 (al0 (i + 1))) ?_ ?_
    · rw [sA_sA, b1.2]
      congr 1
      funext q
      show upd (al0 i) (121 + 3 * i + 1) 100 q = al0 (i + 1) q
      unfold upd al0
      by_cases hq : q = 121 + 3 * i + 1
      · rw [if_pos hq, if_pos (by omega)]
      · rw [if_neg hq]
        by_cases h2 : 121 ≤ q ∧ q < 121 + 3 * i ∧ (q - 121) % 3 = 1
        · rw [if_pos h2, if_pos (by omega)]
        · rw [if_neg h2, if_neg (by omega)]
    refine pw_iinc dX11_init_197 rfl (by decide) ?_
    refine pw_goto (tgt := 176) dX11_init_200 (by decide) ?_
    exact pw_lk [(0, .ref (adr 0)), (1, .int (nI (i + 1)))] ⟨rfl, congrArg (fun x => some (Value.int x)) (nI_1 i), trivial⟩ (ih (i + 1) (by omega))
theorem r_init (o : Nat) : Spec l G mX11_init [.ref o] (L ++ [(o, .inr (11, [.null, .null, .int 0, .int 0, .null, .int 0, .int 0, .null, .int 0, .int 0, .null, .null, .null, .int 0, .int 0, .null, .null, .null, .null, .null, .null, .null, .null, .null, .int 0, .null, .null, .null, .null, .null, .int 0, .int 0, .int 0]))]) (fun out => ∃ adr : Nat → Nat, adr 0 = o ∧ out = .inl (none, wp G adr LM L [] (sA z0 1 (al0 8)))) := by
  refine spec_of (by decide) (Nat.le_of_ble_eq_true rfl) (fun sz => ?_)
  refine pw_aload_n dX11_init_0 rfl ?_
  refine pw_objInit dX11_init_1 oi_RX11 oi_i oi_c (by decide) (Nat.le_of_ble_eq_true rfl) ?_
  refine pw_aload_n dX11_init_4 rfl ?_
  refine pw_sipush (v := 145) dX11_init_5 rfl ?_
  refine cn_newI 145 dX11_init_8 ak_int (by decide) (by decide) (by decide) (Nat.le_of_ble_eq_true rfl) (Nat.le_of_ble_eq_true rfl) (fun q1 => [(q1, .inl (G.2.1, 145, .inl (fun _ => 0)))]) (fun _ => rfl) 1 145 rfl rfl (fun q1 => ?_)
  refine cn_putF dX11_init_10 fp_RX11_7 rfl fk_RX11_7 rfl (Nat.le_of_ble_eq_true rfl) rfl rfl [.ref q1, .null, .int 0, .int 0, .null, .int 0, .int 0, .null, .int 0, .int 0, .null, .null, .null, .int 0, .int 0, .null, .null, .null, .null, .null, .null, .null, .null, .null, .int 0, .null, .null, .null, .null, .null, .int 0, .int 0, .int 0] rfl ?_
  refine pw_aload_n dX11_init_13 rfl ?_
  refine pw_sipush (v := 580) dX11_init_14 rfl ?_
  refine cn_newI 580 dX11_init_17 ak_int (by decide) (by decide) (by decide) (Nat.le_of_ble_eq_true rfl) (Nat.le_of_ble_eq_true rfl) (fun q2 => [(q1, .inl (G.2.1, 145, .inl (fun _ => 0))), (q2, .inl (G.2.1, 580, .inl (fun _ => 0)))]) (fun _ => rfl) 2 725 rfl rfl (fun q2 => ?_)
  refine cn_putF dX11_init_19 fp_RX11_13 rfl fk_RX11_13 rfl (Nat.le_of_ble_eq_true rfl) rfl rfl [.ref q1, .ref q2, .int 0, .int 0, .null, .int 0, .int 0, .null, .int 0, .int 0, .null, .null, .null, .int 0, .int 0, .null, .null, .null, .null, .null, .null, .null, .null, .null, .int 0, .null, .null, .null, .null, .null, .int 0, .int 0, .int 0] rfl ?_
  refine pw_aload_n dX11_init_22 rfl ?_
  refine pw_sipush (v := 200) dX11_init_23 rfl ?_
  refine cn_newI 200 dX11_init_26 ak_int (by decide) (by decide) (by decide) (Nat.le_of_ble_eq_true rfl) (Nat.le_of_ble_eq_true rfl) (fun q3 => [(q1, .inl (G.2.1, 145, .inl (fun _ => 0))), (q2, .inl (G.2.1, 580, .inl (fun _ => 0))), (q3, .inl (G.2.1, 200, .inl (fun _ => 0)))]) (fun _ => rfl) 3 925 rfl rfl (fun q3 => ?_)
  refine cn_putF dX11_init_28 fp_RX11_16 rfl fk_RX11_16 rfl (Nat.le_of_ble_eq_true rfl) rfl rfl [.ref q1, .ref q2, .int 0, .int 0, .ref q3, .int 0, .int 0, .null, .int 0, .int 0, .null, .null, .null, .int 0, .int 0, .null, .null, .null, .null, .null, .null, .null, .null, .null, .int 0, .null, .null, .null, .null, .null, .int 0, .int 0, .int 0] rfl ?_
  refine pw_aload_n dX11_init_31 rfl ?_
  refine pw_bipush (v := 120) dX11_init_32 rfl ?_
  refine cn_newI 120 dX11_init_34 ak_int (by decide) (by decide) (by decide) (Nat.le_of_ble_eq_true rfl) (Nat.le_of_ble_eq_true rfl) (fun q4 => [(q1, .inl (G.2.1, 145, .inl (fun _ => 0))), (q2, .inl (G.2.1, 580, .inl (fun _ => 0))), (q3, .inl (G.2.1, 200, .inl (fun _ => 0))), (q4, .inl (G.2.1, 120, .inl (fun _ => 0)))]) (fun _ => rfl) 4 1045 rfl rfl (fun q4 => ?_)
  refine cn_putF dX11_init_36 fp_RX11_19 rfl fk_RX11_19 rfl (Nat.le_of_ble_eq_true rfl) rfl rfl [.ref q1, .ref q2, .int 0, .int 0, .ref q3, .int 0, .int 0, .ref q4, .int 0, .int 0, .null, .null, .null, .int 0, .int 0, .null, .null, .null, .null, .null, .null, .null, .null, .null, .int 0, .null, .null, .null, .null, .null, .int 0, .int 0, .int 0] rfl ?_
  refine pw_aload_n dX11_init_39 rfl ?_
  refine pw_bipush (v := 30) dX11_init_40 rfl ?_
  refine cn_newI 30 dX11_init_42 ak_int (by decide) (by decide) (by decide) (Nat.le_of_ble_eq_true rfl) (Nat.le_of_ble_eq_true rfl) (fun q5 => [(q1, .inl (G.2.1, 145, .inl (fun _ => 0))), (q2, .inl (G.2.1, 580, .inl (fun _ => 0))), (q3, .inl (G.2.1, 200, .inl (fun _ => 0))), (q4, .inl (G.2.1, 120, .inl (fun _ => 0))), (q5, .inl (G.2.1, 30, .inl (fun _ => 0)))]) (fun _ => rfl) 5 1075 rfl rfl (fun q5 => ?_)
  refine cn_putF dX11_init_44 fp_RX11_22 rfl fk_RX11_22 rfl (Nat.le_of_ble_eq_true rfl) rfl rfl [.ref q1, .ref q2, .int 0, .int 0, .ref q3, .int 0, .int 0, .ref q4, .int 0, .int 0, .ref q5, .null, .null, .int 0, .int 0, .null, .null, .null, .null, .null, .null, .null, .null, .null, .int 0, .null, .null, .null, .null, .null, .int 0, .int 0, .int 0] rfl ?_
  refine pw_aload_n dX11_init_47 rfl ?_
  refine pw_bipush (v := 30) dX11_init_48 rfl ?_
  refine cn_newI 30 dX11_init_50 ak_int (by decide) (by decide) (by decide) (Nat.le_of_ble_eq_true rfl) (Nat.le_of_ble_eq_true rfl) (fun q6 => [(q1, .inl (G.2.1, 145, .inl (fun _ => 0))), (q2, .inl (G.2.1, 580, .inl (fun _ => 0))), (q3, .inl (G.2.1, 200, .inl (fun _ => 0))), (q4, .inl (G.2.1, 120, .inl (fun _ => 0))), (q5, .inl (G.2.1, 30, .inl (fun _ => 0))), (q6, .inl (G.2.1, 30, .inl (fun _ => 0)))]) (fun _ => rfl) 6 1105 rfl rfl (fun q6 => ?_)
  refine cn_putF dX11_init_52 fp_RX11_25 rfl fk_RX11_25 rfl (Nat.le_of_ble_eq_true rfl) rfl rfl [.ref q1, .ref q2, .int 0, .int 0, .ref q3, .int 0, .int 0, .ref q4, .int 0, .int 0, .ref q5, .ref q6, .null, .int 0, .int 0, .null, .null, .null, .null, .null, .null, .null, .null, .null, .int 0, .null, .null, .null, .null, .null, .int 0, .int 0, .int 0] rfl ?_
  refine pw_aload_n dX11_init_55 rfl ?_
  refine pw_bipush (v := 30) dX11_init_56 rfl ?_
  refine cn_newI 30 dX11_init_58 ak_int (by decide) (by decide) (by decide) (Nat.le_of_ble_eq_true rfl) (Nat.le_of_ble_eq_true rfl) (fun q7 => [(q1, .inl (G.2.1, 145, .inl (fun _ => 0))), (q2, .inl (G.2.1, 580, .inl (fun _ => 0))), (q3, .inl (G.2.1, 200, .inl (fun _ => 0))), (q4, .inl (G.2.1, 120, .inl (fun _ => 0))), (q5, .inl (G.2.1, 30, .inl (fun _ => 0))), (q6, .inl (G.2.1, 30, .inl (fun _ => 0))), (q7, .inl (G.2.1, 30, .inl (fun _ => 0)))]) (fun _ => rfl) 7 1135 rfl rfl (fun q7 => ?_)
  refine cn_putF dX11_init_60 fp_RX11_28 rfl fk_RX11_28 rfl (Nat.le_of_ble_eq_true rfl) rfl rfl [.ref q1, .ref q2, .int 0, .int 0, .ref q3, .int 0, .int 0, .ref q4, .int 0, .int 0, .ref q5, .ref q6, .ref q7, .int 0, .int 0, .null, .null, .null, .null, .null, .null, .null, .null, .null, .int 0, .null, .null, .null, .null, .null, .int 0, .int 0, .int 0] rfl ?_
  refine pw_aload_n dX11_init_63 rfl ?_
  refine pw_iconst (v := 2) dX11_init_64 rfl ?_
  refine cn_newI 2 dX11_init_65 ak_int (by decide) (by decide) (by decide) (Nat.le_of_ble_eq_true rfl) (Nat.le_of_ble_eq_true rfl) (fun q8 => [(q1, .inl (G.2.1, 145, .inl (fun _ => 0))), (q2, .inl (G.2.1, 580, .inl (fun _ => 0))), (q3, .inl (G.2.1, 200, .inl (fun _ => 0))), (q4, .inl (G.2.1, 120, .inl (fun _ => 0))), (q5, .inl (G.2.1, 30, .inl (fun _ => 0))), (q6, .inl (G.2.1, 30, .inl (fun _ => 0))), (q7, .inl (G.2.1, 30, .inl (fun _ => 0))), (q8, .inl (G.2.1, 2, .inl (fun _ => 0)))]) (fun _ => rfl) 8 1137 rfl rfl (fun q8 => ?_)
  refine cn_putF dX11_init_67 fp_RX11_31 rfl fk_RX11_31 rfl (Nat.le_of_ble_eq_true rfl) rfl rfl [.ref q1, .ref q2, .int 0, .int 0, .ref q3, .int 0, .int 0, .ref q4, .int 0, .int 0, .ref q5, .ref q6, .ref q7, .int 0, .int 0, .ref q8, .null, .null, .null, .null, .null, .null, .null, .null, .int 0, .null, .null, .null, .null, .null, .int 0, .int 0, .int 0] rfl ?_
  refine pw_aload_n dX11_init_70 rfl ?_
  refine pw_bipush (v := 8) dX11_init_71 rfl ?_
  refine cn_newL 8 dX11_init_73 ak_long (by decide) (by decide) (by decide) (Nat.le_of_ble_eq_true rfl) (Nat.le_of_ble_eq_true rfl) (fun q9 => [(q1, .inl (G.2.1, 145, .inl (fun _ => 0))), (q2, .inl (G.2.1, 580, .inl (fun _ => 0))), (q3, .inl (G.2.1, 200, .inl (fun _ => 0))), (q4, .inl (G.2.1, 120, .inl (fun _ => 0))), (q5, .inl (G.2.1, 30, .inl (fun _ => 0))), (q6, .inl (G.2.1, 30, .inl (fun _ => 0))), (q7, .inl (G.2.1, 30, .inl (fun _ => 0))), (q8, .inl (G.2.1, 2, .inl (fun _ => 0))), (q9, .inl (G.2.2.1, 8, .inr (.inl (fun _ => 0))))]) (fun _ => rfl) 9 1145 rfl rfl (fun q9 => ?_)
  refine cn_putF dX11_init_75 fp_RX11_34 rfl fk_RX11_34 rfl (Nat.le_of_ble_eq_true rfl) rfl rfl [.ref q1, .ref q2, .int 0, .int 0, .ref q3, .int 0, .int 0, .ref q4, .int 0, .int 0, .ref q5, .ref q6, .ref q7, .int 0, .int 0, .ref q8, .ref q9, .null, .null, .null, .null, .null, .null, .null, .int 0, .null, .null, .null, .null, .null, .int 0, .int 0, .int 0] rfl ?_
  refine pw_aload_n dX11_init_78 rfl ?_
  refine pw_bipush (v := 8) dX11_init_79 rfl ?_
  refine cn_newL 8 dX11_init_81 ak_long (by decide) (by decide) (by decide) (Nat.le_of_ble_eq_true rfl) (Nat.le_of_ble_eq_true rfl) (fun q10 => [(q1, .inl (G.2.1, 145, .inl (fun _ => 0))), (q2, .inl (G.2.1, 580, .inl (fun _ => 0))), (q3, .inl (G.2.1, 200, .inl (fun _ => 0))), (q4, .inl (G.2.1, 120, .inl (fun _ => 0))), (q5, .inl (G.2.1, 30, .inl (fun _ => 0))), (q6, .inl (G.2.1, 30, .inl (fun _ => 0))), (q7, .inl (G.2.1, 30, .inl (fun _ => 0))), (q8, .inl (G.2.1, 2, .inl (fun _ => 0))), (q9, .inl (G.2.2.1, 8, .inr (.inl (fun _ => 0)))), (q10, .inl (G.2.2.1, 8, .inr (.inl (fun _ => 0))))]) (fun _ => rfl) 10 1153 rfl rfl (fun q10 => ?_)
  refine cn_putF dX11_init_83 fp_RX11_38 rfl fk_RX11_38 rfl (Nat.le_of_ble_eq_true rfl) rfl rfl [.ref q1, .ref q2, .int 0, .int 0, .ref q3, .int 0, .int 0, .ref q4, .int 0, .int 0, .ref q5, .ref q6, .ref q7, .int 0, .int 0, .ref q8, .ref q9, .ref q10, .null, .null, .null, .null, .null, .null, .int 0, .null, .null, .null, .null, .null, .int 0, .int 0, .int 0] rfl ?_
  refine pw_aload_n dX11_init_86 rfl ?_
  refine pw_bipush (v := 30) dX11_init_87 rfl ?_
  refine cn_newZ 30 dX11_init_89 ak_boolean (by decide) (by decide) (by decide) (Nat.le_of_ble_eq_true rfl) (Nat.le_of_ble_eq_true rfl) (fun q11 => [(q1, .inl (G.2.1, 145, .inl (fun _ => 0))), (q2, .inl (G.2.1, 580, .inl (fun _ => 0))), (q3, .inl (G.2.1, 200, .inl (fun _ => 0))), (q4, .inl (G.2.1, 120, .inl (fun _ => 0))), (q5, .inl (G.2.1, 30, .inl (fun _ => 0))), (q6, .inl (G.2.1, 30, .inl (fun _ => 0))), (q7, .inl (G.2.1, 30, .inl (fun _ => 0))), (q8, .inl (G.2.1, 2, .inl (fun _ => 0))), (q9, .inl (G.2.2.1, 8, .inr (.inl (fun _ => 0)))), (q10, .inl (G.2.2.1, 8, .inr (.inl (fun _ => 0)))), (q11, .inl (G.2.2.2.1, 30, .inl (fun _ => 0)))]) (fun _ => rfl) 11 1183 rfl rfl (fun q11 => ?_)
  refine cn_putF dX11_init_91 fp_RX11_41 rfl fk_RX11_41 rfl (Nat.le_of_ble_eq_true rfl) rfl rfl [.ref q1, .ref q2, .int 0, .int 0, .ref q3, .int 0, .int 0, .ref q4, .int 0, .int 0, .ref q5, .ref q6, .ref q7, .int 0, .int 0, .ref q8, .ref q9, .ref q10, .ref q11, .null, .null, .null, .null, .null, .int 0, .null, .null, .null, .null, .null, .int 0, .int 0, .int 0] rfl ?_
  refine pw_aload_n dX11_init_94 rfl ?_
  refine pw_bipush (v := 30) dX11_init_95 rfl ?_
  refine cn_newZ 30 dX11_init_97 ak_boolean (by decide) (by decide) (by decide) (Nat.le_of_ble_eq_true rfl) (Nat.le_of_ble_eq_true rfl) (fun q12 => [(q1, .inl (G.2.1, 145, .inl (fun _ => 0))), (q2, .inl (G.2.1, 580, .inl (fun _ => 0))), (q3, .inl (G.2.1, 200, .inl (fun _ => 0))), (q4, .inl (G.2.1, 120, .inl (fun _ => 0))), (q5, .inl (G.2.1, 30, .inl (fun _ => 0))), (q6, .inl (G.2.1, 30, .inl (fun _ => 0))), (q7, .inl (G.2.1, 30, .inl (fun _ => 0))), (q8, .inl (G.2.1, 2, .inl (fun _ => 0))), (q9, .inl (G.2.2.1, 8, .inr (.inl (fun _ => 0)))), (q10, .inl (G.2.2.1, 8, .inr (.inl (fun _ => 0)))), (q11, .inl (G.2.2.2.1, 30, .inl (fun _ => 0))), (q12, .inl (G.2.2.2.1, 30, .inl (fun _ => 0)))]) (fun _ => rfl) 12 1213 rfl rfl (fun q12 => ?_)
  refine cn_putF dX11_init_99 fp_RX11_45 rfl fk_RX11_45 rfl (Nat.le_of_ble_eq_true rfl) rfl rfl [.ref q1, .ref q2, .int 0, .int 0, .ref q3, .int 0, .int 0, .ref q4, .int 0, .int 0, .ref q5, .ref q6, .ref q7, .int 0, .int 0, .ref q8, .ref q9, .ref q10, .ref q11, .ref q12, .null, .null, .null, .null, .int 0, .null, .null, .null, .null, .null, .int 0, .int 0, .int 0] rfl ?_
  refine pw_aload_n dX11_init_102 rfl ?_
  refine pw_bipush (v := 30) dX11_init_103 rfl ?_
  refine cn_newZ 30 dX11_init_105 ak_boolean (by decide) (by decide) (by decide) (Nat.le_of_ble_eq_true rfl) (Nat.le_of_ble_eq_true rfl) (fun q13 => [(q1, .inl (G.2.1, 145, .inl (fun _ => 0))), (q2, .inl (G.2.1, 580, .inl (fun _ => 0))), (q3, .inl (G.2.1, 200, .inl (fun _ => 0))), (q4, .inl (G.2.1, 120, .inl (fun _ => 0))), (q5, .inl (G.2.1, 30, .inl (fun _ => 0))), (q6, .inl (G.2.1, 30, .inl (fun _ => 0))), (q7, .inl (G.2.1, 30, .inl (fun _ => 0))), (q8, .inl (G.2.1, 2, .inl (fun _ => 0))), (q9, .inl (G.2.2.1, 8, .inr (.inl (fun _ => 0)))), (q10, .inl (G.2.2.1, 8, .inr (.inl (fun _ => 0)))), (q11, .inl (G.2.2.2.1, 30, .inl (fun _ => 0))), (q12, .inl (G.2.2.2.1, 30, .inl (fun _ => 0))), (q13, .inl (G.2.2.2.1, 30, .inl (fun _ => 0)))]) (fun _ => rfl) 13 1243 rfl rfl (fun q13 => ?_)
  refine cn_putF dX11_init_107 fp_RX11_48 rfl fk_RX11_48 rfl (Nat.le_of_ble_eq_true rfl) rfl rfl [.ref q1, .ref q2, .int 0, .int 0, .ref q3, .int 0, .int 0, .ref q4, .int 0, .int 0, .ref q5, .ref q6, .ref q7, .int 0, .int 0, .ref q8, .ref q9, .ref q10, .ref q11, .ref q12, .ref q13, .null, .null, .null, .int 0, .null, .null, .null, .null, .null, .int 0, .int 0, .int 0] rfl ?_
  refine pw_aload_n dX11_init_110 rfl ?_
  refine pw_bipush (v := 30) dX11_init_111 rfl ?_
  refine cn_newZ 30 dX11_init_113 ak_boolean (by decide) (by decide) (by decide) (Nat.le_of_ble_eq_true rfl) (Nat.le_of_ble_eq_true rfl) (fun q14 => [(q1, .inl (G.2.1, 145, .inl (fun _ => 0))), (q2, .inl (G.2.1, 580, .inl (fun _ => 0))), (q3, .inl (G.2.1, 200, .inl (fun _ => 0))), (q4, .inl (G.2.1, 120, .inl (fun _ => 0))), (q5, .inl (G.2.1, 30, .inl (fun _ => 0))), (q6, .inl (G.2.1, 30, .inl (fun _ => 0))), (q7, .inl (G.2.1, 30, .inl (fun _ => 0))), (q8, .inl (G.2.1, 2, .inl (fun _ => 0))), (q9, .inl (G.2.2.1, 8, .inr (.inl (fun _ => 0)))), (q10, .inl (G.2.2.1, 8, .inr (.inl (fun _ => 0)))), (q11, .inl (G.2.2.2.1, 30, .inl (fun _ => 0))), (q12, .inl (G.2.2.2.1, 30, .inl (fun _ => 0))), (q13, .inl (G.2.2.2.1, 30, .inl (fun _ => 0))), (q14, .inl (G.2.2.2.1, 30, .inl (fun _ => 0)))]) (fun _ => rfl) 14 1273 rfl rfl (fun q14 => ?_)
  refine cn_putF dX11_init_115 fp_RX11_51 rfl fk_RX11_51 rfl (Nat.le_of_ble_eq_true rfl) rfl rfl [.ref q1, .ref q2, .int 0, .int 0, .ref q3, .int 0, .int 0, .ref q4, .int 0, .int 0, .ref q5, .ref q6, .ref q7, .int 0, .int 0, .ref q8, .ref q9, .ref q10, .ref q11, .ref q12, .ref q13, .ref q14, .null, .null, .int 0, .null, .null, .null, .null, .null, .int 0, .int 0, .int 0] rfl ?_
  refine pw_aload_n dX11_init_118 rfl ?_
  refine pw_bipush (v := 30) dX11_init_119 rfl ?_
  refine cn_newL 30 dX11_init_121 ak_long (by decide) (by decide) (by decide) (Nat.le_of_ble_eq_true rfl) (Nat.le_of_ble_eq_true rfl) (fun q15 => [(q1, .inl (G.2.1, 145, .inl (fun _ => 0))), (q2, .inl (G.2.1, 580, .inl (fun _ => 0))), (q3, .inl (G.2.1, 200, .inl (fun _ => 0))), (q4, .inl (G.2.1, 120, .inl (fun _ => 0))), (q5, .inl (G.2.1, 30, .inl (fun _ => 0))), (q6, .inl (G.2.1, 30, .inl (fun _ => 0))), (q7, .inl (G.2.1, 30, .inl (fun _ => 0))), (q8, .inl (G.2.1, 2, .inl (fun _ => 0))), (q9, .inl (G.2.2.1, 8, .inr (.inl (fun _ => 0)))), (q10, .inl (G.2.2.1, 8, .inr (.inl (fun _ => 0)))), (q11, .inl (G.2.2.2.1, 30, .inl (fun _ => 0))), (q12, .inl (G.2.2.2.1, 30, .inl (fun _ => 0))), (q13, .inl (G.2.2.2.1, 30, .inl (fun _ => 0))), (q14, .inl (G.2.2.2.1, 30, .inl (fun _ => 0))), (q15, .inl (G.2.2.1, 30, .inr (.inl (fun _ => 0))))]) (fun _ => rfl) 15 1303 rfl rfl (fun q15 => ?_)
  refine cn_putF dX11_init_123 fp_RX11_54 rfl fk_RX11_54 rfl (Nat.le_of_ble_eq_true rfl) rfl rfl [.ref q1, .ref q2, .int 0, .int 0, .ref q3, .int 0, .int 0, .ref q4, .int 0, .int 0, .ref q5, .ref q6, .ref q7, .int 0, .int 0, .ref q8, .ref q9, .ref q10, .ref q11, .ref q12, .ref q13, .ref q14, .ref q15, .null, .int 0, .null, .null, .null, .null, .null, .int 0, .int 0, .int 0] rfl ?_
  refine pw_aload_n dX11_init_126 rfl ?_
  refine pw_bipush (v := 30) dX11_init_127 rfl ?_
  refine cn_newL 30 dX11_init_129 ak_long (by decide) (by decide) (by decide) (Nat.le_of_ble_eq_true rfl) (Nat.le_of_ble_eq_true rfl) (fun q16 => [(q1, .inl (G.2.1, 145, .inl (fun _ => 0))), (q2, .inl (G.2.1, 580, .inl (fun _ => 0))), (q3, .inl (G.2.1, 200, .inl (fun _ => 0))), (q4, .inl (G.2.1, 120, .inl (fun _ => 0))), (q5, .inl (G.2.1, 30, .inl (fun _ => 0))), (q6, .inl (G.2.1, 30, .inl (fun _ => 0))), (q7, .inl (G.2.1, 30, .inl (fun _ => 0))), (q8, .inl (G.2.1, 2, .inl (fun _ => 0))), (q9, .inl (G.2.2.1, 8, .inr (.inl (fun _ => 0)))), (q10, .inl (G.2.2.1, 8, .inr (.inl (fun _ => 0)))), (q11, .inl (G.2.2.2.1, 30, .inl (fun _ => 0))), (q12, .inl (G.2.2.2.1, 30, .inl (fun _ => 0))), (q13, .inl (G.2.2.2.1, 30, .inl (fun _ => 0))), (q14, .inl (G.2.2.2.1, 30, .inl (fun _ => 0))), (q15, .inl (G.2.2.1, 30, .inr (.inl (fun _ => 0)))), (q16, .inl (G.2.2.1, 30, .inr (.inl (fun _ => 0))))]) (fun _ => rfl) 16 1333 rfl rfl (fun q16 => ?_)
  refine cn_putF dX11_init_131 fp_RX11_57 rfl fk_RX11_57 rfl (Nat.le_of_ble_eq_true rfl) rfl rfl [.ref q1, .ref q2, .int 0, .int 0, .ref q3, .int 0, .int 0, .ref q4, .int 0, .int 0, .ref q5, .ref q6, .ref q7, .int 0, .int 0, .ref q8, .ref q9, .ref q10, .ref q11, .ref q12, .ref q13, .ref q14, .ref q15, .ref q16, .int 0, .null, .null, .null, .null, .null, .int 0, .int 0, .int 0] rfl ?_
  refine pw_aload_n dX11_init_134 rfl ?_
  refine pw_bipush (v := 30) dX11_init_135 rfl ?_
  refine cn_newI 30 dX11_init_137 ak_int (by decide) (by decide) (by decide) (Nat.le_of_ble_eq_true rfl) (Nat.le_of_ble_eq_true rfl) (fun q17 => [(q1, .inl (G.2.1, 145, .inl (fun _ => 0))), (q2, .inl (G.2.1, 580, .inl (fun _ => 0))), (q3, .inl (G.2.1, 200, .inl (fun _ => 0))), (q4, .inl (G.2.1, 120, .inl (fun _ => 0))), (q5, .inl (G.2.1, 30, .inl (fun _ => 0))), (q6, .inl (G.2.1, 30, .inl (fun _ => 0))), (q7, .inl (G.2.1, 30, .inl (fun _ => 0))), (q8, .inl (G.2.1, 2, .inl (fun _ => 0))), (q9, .inl (G.2.2.1, 8, .inr (.inl (fun _ => 0)))), (q10, .inl (G.2.2.1, 8, .inr (.inl (fun _ => 0)))), (q11, .inl (G.2.2.2.1, 30, .inl (fun _ => 0))), (q12, .inl (G.2.2.2.1, 30, .inl (fun _ => 0))), (q13, .inl (G.2.2.2.1, 30, .inl (fun _ => 0))), (q14, .inl (G.2.2.2.1, 30, .inl (fun _ => 0))), (q15, .inl (G.2.2.1, 30, .inr (.inl (fun _ => 0)))), (q16, .inl (G.2.2.1, 30, .inr (.inl (fun _ => 0)))), (q17, .inl (G.2.1, 30, .inl (fun _ => 0)))]) (fun _ => rfl) 17 1363 rfl rfl (fun q17 => ?_)
  refine cn_putF dX11_init_139 fp_RX11_60 rfl fk_RX11_60 rfl (Nat.le_of_ble_eq_true rfl) rfl rfl [.ref q1, .ref q2, .int 0, .int 0, .ref q3, .int 0, .int 0, .ref q4, .int 0, .int 0, .ref q5, .ref q6, .ref q7, .int 0, .int 0, .ref q8, .ref q9, .ref q10, .ref q11, .ref q12, .ref q13, .ref q14, .ref q15, .ref q16, .int 0, .ref q17, .null, .null, .null, .null, .int 0, .int 0, .int 0] rfl ?_
  refine pw_aload_n dX11_init_142 rfl ?_
  refine pw_bipush (v := 30) dX11_init_143 rfl ?_
  refine cn_newZ 30 dX11_init_145 ak_boolean (by decide) (by decide) (by decide) (Nat.le_of_ble_eq_true rfl) (Nat.le_of_ble_eq_true rfl) (fun q18 => [(q1, .inl (G.2.1, 145, .inl (fun _ => 0))), (q2, .inl (G.2.1, 580, .inl (fun _ => 0))), (q3, .inl (G.2.1, 200, .inl (fun _ => 0))), (q4, .inl (G.2.1, 120, .inl (fun _ => 0))), (q5, .inl (G.2.1, 30, .inl (fun _ => 0))), (q6, .inl (G.2.1, 30, .inl (fun _ => 0))), (q7, .inl (G.2.1, 30, .inl (fun _ => 0))), (q8, .inl (G.2.1, 2, .inl (fun _ => 0))), (q9, .inl (G.2.2.1, 8, .inr (.inl (fun _ => 0)))), (q10, .inl (G.2.2.1, 8, .inr (.inl (fun _ => 0)))), (q11, .inl (G.2.2.2.1, 30, .inl (fun _ => 0))), (q12, .inl (G.2.2.2.1, 30, .inl (fun _ => 0))), (q13, .inl (G.2.2.2.1, 30, .inl (fun _ => 0))), (q14, .inl (G.2.2.2.1, 30, .inl (fun _ => 0))), (q15, .inl (G.2.2.1, 30, .inr (.inl (fun _ => 0)))), (q16, .inl (G.2.2.1, 30, .inr (.inl (fun _ => 0)))), (q17, .inl (G.2.1, 30, .inl (fun _ => 0))), (q18, .inl (G.2.2.2.1, 30, .inl (fun _ => 0)))]) (fun _ => rfl) 18 1393 rfl rfl (fun q18 => ?_)
  refine cn_putF dX11_init_147 fp_RX11_63 rfl fk_RX11_63 rfl (Nat.le_of_ble_eq_true rfl) rfl rfl [.ref q1, .ref q2, .int 0, .int 0, .ref q3, .int 0, .int 0, .ref q4, .int 0, .int 0, .ref q5, .ref q6, .ref q7, .int 0, .int 0, .ref q8, .ref q9, .ref q10, .ref q11, .ref q12, .ref q13, .ref q14, .ref q15, .ref q16, .int 0, .ref q17, .ref q18, .null, .null, .null, .int 0, .int 0, .int 0] rfl ?_
  refine pw_aload_n dX11_init_150 rfl ?_
  refine pw_bipush (v := 30) dX11_init_151 rfl ?_
  refine cn_newI 30 dX11_init_153 ak_int (by decide) (by decide) (by decide) (Nat.le_of_ble_eq_true rfl) (Nat.le_of_ble_eq_true rfl) (fun q19 => [(q1, .inl (G.2.1, 145, .inl (fun _ => 0))), (q2, .inl (G.2.1, 580, .inl (fun _ => 0))), (q3, .inl (G.2.1, 200, .inl (fun _ => 0))), (q4, .inl (G.2.1, 120, .inl (fun _ => 0))), (q5, .inl (G.2.1, 30, .inl (fun _ => 0))), (q6, .inl (G.2.1, 30, .inl (fun _ => 0))), (q7, .inl (G.2.1, 30, .inl (fun _ => 0))), (q8, .inl (G.2.1, 2, .inl (fun _ => 0))), (q9, .inl (G.2.2.1, 8, .inr (.inl (fun _ => 0)))), (q10, .inl (G.2.2.1, 8, .inr (.inl (fun _ => 0)))), (q11, .inl (G.2.2.2.1, 30, .inl (fun _ => 0))), (q12, .inl (G.2.2.2.1, 30, .inl (fun _ => 0))), (q13, .inl (G.2.2.2.1, 30, .inl (fun _ => 0))), (q14, .inl (G.2.2.2.1, 30, .inl (fun _ => 0))), (q15, .inl (G.2.2.1, 30, .inr (.inl (fun _ => 0)))), (q16, .inl (G.2.2.1, 30, .inr (.inl (fun _ => 0)))), (q17, .inl (G.2.1, 30, .inl (fun _ => 0))), (q18, .inl (G.2.2.2.1, 30, .inl (fun _ => 0))), (q19, .inl (G.2.1, 30, .inl (fun _ => 0)))]) (fun _ => rfl) 19 1423 rfl rfl (fun q19 => ?_)
  refine cn_putF dX11_init_155 fp_RX11_66 rfl fk_RX11_66 rfl (Nat.le_of_ble_eq_true rfl) rfl rfl [.ref q1, .ref q2, .int 0, .int 0, .ref q3, .int 0, .int 0, .ref q4, .int 0, .int 0, .ref q5, .ref q6, .ref q7, .int 0, .int 0, .ref q8, .ref q9, .ref q10, .ref q11, .ref q12, .ref q13, .ref q14, .ref q15, .ref q16, .int 0, .ref q17, .ref q18, .ref q19, .null, .null, .int 0, .int 0, .int 0] rfl ?_
  refine pw_aload_n dX11_init_158 rfl ?_
  refine pw_bipush (v := 8) dX11_init_159 rfl ?_
  refine cn_newL 8 dX11_init_161 ak_long (by decide) (by decide) (by decide) (Nat.le_of_ble_eq_true rfl) (Nat.le_of_ble_eq_true rfl) (fun q20 => [(q1, .inl (G.2.1, 145, .inl (fun _ => 0))), (q2, .inl (G.2.1, 580, .inl (fun _ => 0))), (q3, .inl (G.2.1, 200, .inl (fun _ => 0))), (q4, .inl (G.2.1, 120, .inl (fun _ => 0))), (q5, .inl (G.2.1, 30, .inl (fun _ => 0))), (q6, .inl (G.2.1, 30, .inl (fun _ => 0))), (q7, .inl (G.2.1, 30, .inl (fun _ => 0))), (q8, .inl (G.2.1, 2, .inl (fun _ => 0))), (q9, .inl (G.2.2.1, 8, .inr (.inl (fun _ => 0)))), (q10, .inl (G.2.2.1, 8, .inr (.inl (fun _ => 0)))), (q11, .inl (G.2.2.2.1, 30, .inl (fun _ => 0))), (q12, .inl (G.2.2.2.1, 30, .inl (fun _ => 0))), (q13, .inl (G.2.2.2.1, 30, .inl (fun _ => 0))), (q14, .inl (G.2.2.2.1, 30, .inl (fun _ => 0))), (q15, .inl (G.2.2.1, 30, .inr (.inl (fun _ => 0)))), (q16, .inl (G.2.2.1, 30, .inr (.inl (fun _ => 0)))), (q17, .inl (G.2.1, 30, .inl (fun _ => 0))), (q18, .inl (G.2.2.2.1, 30, .inl (fun _ => 0))), (q19, .inl (G.2.1, 30, .inl (fun _ => 0))), (q20, .inl (G.2.2.1, 8, .inr (.inl (fun _ => 0))))]) (fun _ => rfl) 20 1431 rfl rfl (fun q20 => ?_)
  refine cn_putF dX11_init_163 fp_RX11_69 rfl fk_RX11_69 rfl (Nat.le_of_ble_eq_true rfl) rfl rfl [.ref q1, .ref q2, .int 0, .int 0, .ref q3, .int 0, .int 0, .ref q4, .int 0, .int 0, .ref q5, .ref q6, .ref q7, .int 0, .int 0, .ref q8, .ref q9, .ref q10, .ref q11, .ref q12, .ref q13, .ref q14, .ref q15, .ref q16, .int 0, .ref q17, .ref q18, .ref q19, .ref q20, .null, .int 0, .int 0, .int 0] rfl ?_
  refine pw_aload_n dX11_init_166 rfl ?_
  refine pw_bipush (v := 30) dX11_init_167 rfl ?_
  refine cn_newZ 30 dX11_init_169 ak_boolean (by decide) (by decide) (by decide) (Nat.le_of_ble_eq_true rfl) (Nat.le_of_ble_eq_true rfl) (fun q21 => [(q1, .inl (G.2.1, 145, .inl (fun _ => 0))), (q2, .inl (G.2.1, 580, .inl (fun _ => 0))), (q3, .inl (G.2.1, 200, .inl (fun _ => 0))), (q4, .inl (G.2.1, 120, .inl (fun _ => 0))), (q5, .inl (G.2.1, 30, .inl (fun _ => 0))), (q6, .inl (G.2.1, 30, .inl (fun _ => 0))), (q7, .inl (G.2.1, 30, .inl (fun _ => 0))), (q8, .inl (G.2.1, 2, .inl (fun _ => 0))), (q9, .inl (G.2.2.1, 8, .inr (.inl (fun _ => 0)))), (q10, .inl (G.2.2.1, 8, .inr (.inl (fun _ => 0)))), (q11, .inl (G.2.2.2.1, 30, .inl (fun _ => 0))), (q12, .inl (G.2.2.2.1, 30, .inl (fun _ => 0))), (q13, .inl (G.2.2.2.1, 30, .inl (fun _ => 0))), (q14, .inl (G.2.2.2.1, 30, .inl (fun _ => 0))), (q15, .inl (G.2.2.1, 30, .inr (.inl (fun _ => 0)))), (q16, .inl (G.2.2.1, 30, .inr (.inl (fun _ => 0)))), (q17, .inl (G.2.1, 30, .inl (fun _ => 0))), (q18, .inl (G.2.2.2.1, 30, .inl (fun _ => 0))), (q19, .inl (G.2.1, 30, .inl (fun _ => 0))), (q20, .inl (G.2.2.1, 8, .inr (.inl (fun _ => 0)))), (q21, .inl (G.2.2.2.1, 30, .inl (fun _ => 0)))]) (fun _ => rfl) 21 1461 rfl rfl (fun q21 => ?_)
  refine cn_putF dX11_init_171 fp_RX11_72 rfl fk_RX11_72 rfl (Nat.le_of_ble_eq_true rfl) rfl rfl [.ref q1, .ref q2, .int 0, .int 0, .ref q3, .int 0, .int 0, .ref q4, .int 0, .int 0, .ref q5, .ref q6, .ref q7, .int 0, .int 0, .ref q8, .ref q9, .ref q10, .ref q11, .ref q12, .ref q13, .ref q14, .ref q15, .ref q16, .int 0, .ref q17, .ref q18, .ref q19, .ref q20, .ref q21, .int 0, .int 0, .int 0] rfl ?_
  refine pw_iconst (v := 0) dX11_init_174 rfl ?_
  refine pw_istore_n dX11_init_175 (by decide) ?_
  refine pw_ws (ws' := wp G (fun i => ([o, q1, q2, q3, q4, q5, q6, q7, q8, q9, q10, q11, q12, q13, q14, q15, q16, q17, q18, q19, q20, q21] : List Nat).getD i 0) LM L [] (sA z0 1 (al0 0))) ?_ ?_
  · have e : sA z0 1 (al0 0) = z0 := by
      have e1 : al0 0 = z0.2.2.1 1 := by
        funext q
        show al0 0 q = 0
        unfold al0
        rw [if_neg (by omega)]
      rw [e1, sA_self]
    rw [e]
    rfl
  refine pw_lk [(0, .ref o), (1, .int (nI 0))] ⟨rfl, rfl, trivial⟩ ?_
  exact init_loop (adr := (fun i => ([o, q1, q2, q3, q4, q5, q6, q7, q8, q9, q10, q11, q12, q13, q14, q15, q16, q17, q18, q19, q20, q21] : List Nat).getD i 0)) ⟨(fun i => ([o, q1, q2, q3, q4, q5, q6, q7, q8, q9, q10, q11, q12, q13, q14, q15, q16, q17, q18, q19, q20, q21] : List Nat).getD i 0), rfl, rfl⟩ 8 0 rfl
end I11
