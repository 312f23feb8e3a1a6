/-! THE CLASS: its constructors -/
section CN2
variable {l : Launch} {G : cxG} {mi : MI} {w0 : va_W} {sz : Nat} {fin : OC → Prop} {pc : Nat} {lv : List (Nat × Value)} {st : List Value} {k n : Nat} {L r ws : va_W} {o ci : Nat} {fs : List Value} {x : Nat × va_E}
theorem pw_kn (k' n' : Nat) (hk : k = k') (hn : n = n') (kk : PW l G mi w0 sz fin pc lv st k' n' ws) : PW l G mi w0 sz fin pc lv st k n ws := by rw [hk, hn]; exact kk
theorem cn_nth {p : Nat} {c : Nat × va_E} (hr : r[p]? = some c) : (L ++ (x :: r))[L.length + 1 + p]? = some c := by
  rw [List.getElem?_append_right (by omega), show L.length + 1 + p - L.length = p + 1 by omega]; exact hr
theorem cn_set {p : Nat} {c : Nat × va_E} : (L ++ (x :: r)).set (L.length + 1 + p) c = L ++ (x :: r.set p c) := by
  rw [List.set_append_right _ _ (by omega), show L.length + 1 + p - L.length = p + 1 by omega]; rfl
theorem cn_iast {p a len : Nat} {f : Nat → Int32} {i y : Int32} (hd : decode mi.2.1 pc = .ok (.iastore, 1)) (hr : r[p]? = some (a, .inl (G.2.1, len, .inl f))) (hin : vp_in i len) (r' : va_W) (hr' : r.set p (a, .inl (G.2.1, len, .inl (upd f i.toNatClampNeg y))) = r') (kk : PW l G mi w0 sz fin (pc + 1) lv st k n (L ++ (x :: r'))) : PW l G mi w0 sz fin pc lv (.int y :: .int i :: .ref a :: st) k n (L ++ (x :: r)) :=
  pw_iast hd (L.length + 1 + p) (cn_nth hr) hin (by rw [cn_set, hr']; exact kk)
theorem pw_newR {z : Int32} {idx : Nat} (N' : Nat) (hd : decode mi.2.1 pc = .ok (.anewarray idx, 3)) (hcl : Cond.classLink mi.1.cls idx RX8 ∈ TW) (hz0 : ¬ z < 0) (hzN : z.toNatClampNeg = N') (hby : N' * 4 ≤ 536870912) (h1 : k + 1 ≤ mi.2.2.2.2.cells) (h2 : n + N' ≤ mi.2.2.2.2.slots)
    (kk : ∀ q, PW l G mi w0 sz fin (pc + 3) lv (.ref q :: st) (k + 1) (n + N') (ws ++ [(q, .inl (G.2.2.2.2, N', .inr (.inr (.inr (.inr (fun _ => none))))))])) : PW l G mi w0 sz fin pc lv (.int z :: st) k n ws := by
  intro p e s m args below meth c H locs ls F hz hP hD hS hl
  refine va_newq F.1 F.2.1 F.own (F.hts _ hcl) F.E.1.2.1 F.K hP hD hS (pw_A0 hz) hz0 hzN hby h1 h2 hd (fun q cA H1 hK1 hP1 hD1 hS1 => ?_)
  have hc : cA = G.2.2.2.2 := by
    obtain ⟨-, k1, c1, -, -, -, e1⟩ := hK1.2 4 (cA, .object RX8) rfl
    obtain ⟨-, k2, c2, -, -, -, e2⟩ := F.K.2 3 (G.2.2.2.2, .object RX8) rfl
    exact Option.some.inj (Eq.trans (Eq.symm e1) e2)
  subst hc
  exact kk q p e s m args below meth c H1 locs ls F hz hP1 hD1 hS1 hl
theorem cn_newR {z : Int32} {idx : Nat} (N' : Nat) (hd : decode mi.2.1 pc = .ok (.anewarray idx, 3)) (hcl : Cond.classLink mi.1.cls idx RX8 ∈ TW) (hz0 : ¬ z < 0) (hzN : z.toNatClampNeg = N') (hby : N' * 4 ≤ 536870912) (h1 : k + 1 ≤ mi.2.2.2.2.cells) (h2 : n + N' ≤ mi.2.2.2.2.slots)
    (r' : Nat → va_W) (hr : ∀ q, r ++ [(q, .inl (G.2.2.2.2, N', .inr (.inr (.inr (.inr (fun _ => none))))))] = r' q) (k' n' : Nat) (hk : k + 1 = k') (hn : n + N' = n') (kk : ∀ q, PW l G mi w0 sz fin (pc + 3) lv (.ref q :: st) k' n' (L ++ (x :: r' q))) : PW l G mi w0 sz fin pc lv (.int z :: st) k n (L ++ (x :: r)) :=
  pw_newR N' hd hcl hz0 hzN hby h1 h2 (fun q => by rw [List.append_assoc, List.cons_append, hr, hk, hn]; exact kk q)
theorem cn_aast {p pk a len v : Nat} {f : Nat → Option Nat} {i : Int32} {vs : List Value} (hd : decode mi.2.1 pc = .ok (.aastore, 1)) (hr : r[p]? = some (a, .inl (G.2.2.2.2, len, .inr (.inr (.inr (.inr f)))))) (hv : r[pk]? = some (v, .inr (8, vs))) (hin : vp_in i len) (r' : va_W) (hr' : r.set p (a, .inl (G.2.2.2.2, len, .inr (.inr (.inr (.inr (va_up f i.toNatClampNeg (some v))))))) = r') (kk : PW l G mi w0 sz fin (pc + 1) lv st k n (L ++ (x :: r'))) : PW l G mi w0 sz fin pc lv (.ref v :: .int i :: .ref a :: st) k n (L ++ (x :: r)) :=
  pw_aast hd (L.length + 1 + p) (L.length + 1 + pk) (cn_nth hr) (cn_nth hv) rfl hin (by rw [cn_set, hr']; exact kk)
theorem cn_asc (c : va_W) (kk : PW l G mi w0 sz fin pc lv st k n (L ++ (x :: (r ++ c)))) : PW l G mi w0 sz fin pc lv st k n ((L ++ (x :: r)) ++ c) := by rw [List.append_assoc]; exact kk
theorem cn_csa (c : va_W) (kk : PW l G mi w0 sz fin pc lv st k n ((L ++ (x :: r)) ++ c)) : PW l G mi w0 sz fin pc lv st k n (L ++ (x :: (r ++ c))) := by rw [List.append_assoc] at kk; exact kk
theorem cn_putL {idx j : Nat} {ty : FieldType} {v : Value} (hd : decode mi.2.1 pc = .ok (.putfield idx, 3)) (hf : FP mi.1.cls idx ci j false ty) (hj : j < fs.length) (hn : narrow ty v = v) (hfit : fits ty v = true) (fs' : List Value) (hfs : fs.set j v = fs') (kk : PW l G mi w0 sz fin (pc + 3) lv st k n (L ++ ((o, .inr (ci, fs')) :: r))) : PW l G mi w0 sz fin pc lv (v :: .ref o :: st) k n (L ++ ((o, .inr (ci, fs)) :: r)) := cn_put hd hf hj hn hfit fs' hfs kk
/-- a row's contents matter up to its length alone -/
theorem pw_cg {ws1 ws2 : va_W} (h1 : ws1.map Prod.fst = ws2.map Prod.fst) (h2 : ∀ (H : Heap), va_P G.1 vwCl ws1 H → va_P G.1 vwCl ws2 H) (kk : PW l G mi w0 sz fin pc lv st k n ws2) : PW l G mi w0 sz fin pc lv st k n ws1 := by
  intro p e s m args below meth c H locs ls F hz hP hD hS hl
  refine kk p e s m args below meth c H locs ls F hz (h2 H hP) ?_ hS hl
  have hg : ∀ (i : Nat) (q : Nat × va_E), ws2[i]? = some q → ∃ e1, ws1[i]? = some (q.1, e1) := by
    intro i q hq
    have := congrArg (fun t => t[i]?) h1
    simp only [List.getElem?_map, hq, Option.map_some] at this
    cases hw : ws1[i]? with
    | none => rw [hw] at this; cases this
    | some y =>
      rw [hw] at this
      have e9 : y.1 = q.1 := Option.some.inj this
      exact ⟨y.2, by rw [← e9]⟩
  refine ⟨fun i j a b ha hb hab => ?_, fun i q hq => ?_⟩
  · obtain ⟨e1, g1⟩ := hg i a ha
    obtain ⟨e2, g2⟩ := hg j b hb
    exact hD.1 i j _ _ g1 g2 hab
  · obtain ⟨e1, g1⟩ := hg i q hq
    have g2 := hD.2 i (q.1, e1) g1
    exact g2
theorem arrV_cg {cA : ClassId} {n : Nat} {f g : Nat → Value} (h : ∀ j, j < n → f j = g j) : arrV cA n f = arrV cA n g := by
  unfold arrV
  rw [show (fun (j : Fin n) => f j.val) = (fun (j : Fin n) => g j.val) from funext fun j => h j.val j.isLt]
/-- a row's contents matter up to its length alone -/
theorem cn_cg {a len : Nat} {f g : Nat → Option Nat} (h : ∀ j, j < len → f j = g j) (kk : PW l G mi w0 sz fin pc lv st k n (L ++ (x :: (a, .inl (G.2.2.2.2, len, .inr (.inr (.inr (.inr g))))) :: r))) : PW l G mi w0 sz fin pc lv st k n (L ++ (x :: (a, .inl (G.2.2.2.2, len, .inr (.inr (.inr (.inr f))))) :: r)) := by
  refine pw_cg (by simp) (fun H hP i q hq => ?_) kk
  by_cases hi : i = L.length + 1
  · subst hi
    rw [show (L ++ (x :: (a, .inl (G.2.2.2.2, len, .inr (.inr (.inr (.inr g))))) :: r))[L.length + 1]? = some (a, .inl (G.2.2.2.2, len, .inr (.inr (.inr (.inr g))))) from by rw [List.getElem?_append_right (by omega), Nat.add_sub_cancel_left]; rfl] at hq
    cases hq
    have h0 := hP (L.length + 1) (a, .inl (G.2.2.2.2, len, .inr (.inr (.inr (.inr f))))) (by rw [List.getElem?_append_right (by omega), Nat.add_sub_cancel_left]; rfl)
    have e : vp_cell G.2.2.2.2 (len, .inr (.inr (.inr (.inr f)))) = vp_cell G.2.2.2.2 (len, .inr (.inr (.inr (.inr g)))) := arrV_cg (f := fun j => va_rf (f j)) (g := fun j => va_rf (g j)) (fun j hj => by show va_rf (f j) = va_rf (g j); rw [h j hj])
    show H[a]? = some (vp_cell G.2.2.2.2 (len, .inr (.inr (.inr (.inr g)))))
    rw [← e]; exact h0
  · refine hP i q ?_
    rw [← hq]
    by_cases hl : i < L.length
    · rw [List.getElem?_append_left hl, List.getElem?_append_left hl]
    · rw [List.getElem?_append_right (by omega), List.getElem?_append_right (by omega)]
      obtain ⟨j, hj⟩ : ∃ j, i - L.length = j := ⟨_, rfl⟩
      rw [hj]
      match j, hj with
      | 0, _ => rfl
      | 1, h1 => exact absurd h1 (by omega)
      | j + 2, _ => rfl
def sl4 (a b c d j : Nat) : Nat := if j = 0 then a else if j = 1 then b else if j = 2 then c else d
end CN2
def hundred : Nat → Int32 := upd (upd (upd (upd (upd (upd (upd (upd (fun _ => 0) (nI 0).toNatClampNeg 100) (nI 1).toNatClampNeg 100) (nI 2).toNatClampNeg 100) (nI 3).toNatClampNeg 100) (nI 4).toNatClampNeg 100) (nI 5).toNatClampNeg 100) (nI 6).toNatClampNeg 100) (nI 7).toNatClampNeg 100
def bX9 (G : cxG) (o : Nat) (a : Nat → Nat) : va_W := [(o, .inr (9, [.ref (a 0), .int 0])), (a 0, .inl (G.2.1, 200, .inl (fun _ => 0)))]
def bX6 (G : cxG) (o : Nat) (a : Nat → Nat) : va_W := [(o, .inr (6, [.int 0, .ref (a 0), .ref (a 1), .ref (a 2), .ref (a 3), .ref (a 4), .ref (a 5)])), (a 0, .inl (G.2.1, 30, .inl (fun _ => 0))), (a 1, .inl (G.2.1, 30, .inl (fun _ => 0))), (a 2, .inl (G.2.1, 30, .inl (fun _ => 0))), (a 3, .inl (G.2.1, 30, .inl (fun _ => 0))), (a 4, .inl (G.2.1, 30, .inl (fun _ => 0))), (a 5, .inl (G.2.1, 30, .inl (fun _ => 0)))]
def bX3 (G : cxG) (o : Nat) (a : Nat → Nat) : va_W := [(o, .inr (3, [.ref (a 0), .ref (a 1), .ref (a 2)])), (a 0, .inl (G.2.1, 8, .inl (fun _ => 0))), (a 1, .inl (G.2.1, 8, .inl hundred)), (a 2, .inl (G.2.1, 8, .inl (fun _ => 0)))]
def bX1 (G : cxG) (o : Nat) (a : Nat → Nat) : va_W := [(o, .inr (1, [.int 0, .ref (a 0)])), (a 0, .inl (G.2.1, 2, .inl (fun _ => 0)))]
def bX5 (G : cxG) (o : Nat) (a : Nat → Nat) : va_W := [(o, .inr (5, [.ref (a 0), .ref (a 1), .ref (a 2)])), (a 0, .inl (G.2.1, 30, .inl (fun _ => 0))), (a 1, .inl (G.2.1, 30, .inl (fun _ => 0))), (a 2, .inl (G.2.2.2.1, 30, .inl (fun _ => 0)))]
def bX4 (G : cxG) (t p o : Nat) (a : Nat → Nat) : va_W := [(o, .inr (4, [.ref t, .ref p, .int 0, .int (-1), .int 0, .ref (a 0)])), (a 0, .inl (G.2.1, 2, .inl (fun _ => 0)))]
def bX8 (G : cxG) (o : Nat) (a : Nat → Nat) : va_W := (o, .inr (8, [.ref (a 0), .ref (a 7)])) :: (bX6 G (a 0) (fun i => a (i + 1)) ++ bX3 G (a 7) (fun i => a (i + 8)))
def bX0 (G : cxG) (o : Nat) (a : Nat → Nat) : va_W := (o, .inr (0, [.ref (a 0), .int 0, .int 0, .ref (a 2), .ref (a 3), .int 0, .ref (a 4), .ref (a 5), .ref (a 6), .ref (a 7), .ref (a 8), .long 0, .long 0])) :: (bX1 G (a 0) (fun i => a (i + 1)) ++ [(a 2, .inl (G.2.2.1, 8, .inr (.inl (fun _ => 0)))), (a 3, .inl (G.2.2.1, 8, .inr (.inl (fun _ => 0)))), (a 4, .inl (G.2.2.2.1, 30, .inl (fun _ => 0))), (a 5, .inl (G.2.2.2.1, 30, .inl (fun _ => 0))), (a 6, .inl (G.2.2.1, 30, .inr (.inl (fun _ => 0)))), (a 7, .inl (G.2.2.1, 30, .inr (.inl (fun _ => 0)))), (a 8, .inl (G.2.1, 30, .inl (fun _ => 0)))])
def bX7 (G : cxG) (o : Nat) (a : Nat → Nat) : va_W := (o, .inr (7, [.ref (a 0), .ref (a 2), .int (-1), .int 0, .int 0, .ref (a 3)])) :: (bX1 G (a 0) (fun i => a (i + 1)) ++ [(a 2, .inl (G.2.2.1, 8, .inr (.inl (fun _ => 0)))), (a 3, .inl (G.2.2.2.1, 30, .inl (fun _ => 0)))])
def bX2 (G : cxG) (o : Nat) (a : Nat → Nat) : va_W := (o, .inr (2, [.int 0, .ref (a 0)])) :: (a 0, .inl (G.2.2.2.2, 4, .inr (.inr (.inr (.inr (fun j => some (sl4 (a 1) (a 13) (a 25) (a 37) j))))))) :: (bX8 G (a 1) (fun i => a (i + 2)) ++ (bX8 G (a 13) (fun i => a (i + 14)) ++ (bX8 G (a 25) (fun i => a (i + 26)) ++ bX8 G (a 37) (fun i => a (i + 38)))))
section XI
variable {l : Launch} {G : cxG} {L : va_W}
theorem x_init9 (o : Nat) : Spec l G mX9_init [.ref o] (L ++ [(o, .inr (9, [.null, .int 0]))]) (fun out => ∃ a : Nat → Nat, out = .inl (none, L ++ bX9 G o a)) := by
  refine spec_of (by decide) (Nat.le_of_ble_eq_true rfl) (fun sz => ?_)
  refine pw_aload_n dX9_init_0 rfl ?_
  refine pw_objInit dX9_init_1 oi_RX9 oi_i oi_c (by decide) (Nat.le_of_ble_eq_true rfl) ?_
  refine pw_aload_n dX9_init_4 rfl ?_
  refine pw_sipush (v := 200) dX9_init_5 rfl ?_
  refine cn_newI 200 dX9_init_8 ak_int (by decide) (by decide) (by decide) (Nat.le_of_ble_eq_true rfl) (Nat.le_of_ble_eq_true rfl) (fun q0 => ([] ++ [(q0, .inl (G.2.1, 200, .inl (fun _ => 0)))])) (fun _ => rfl) 1 200 rfl rfl (fun q0 => ?_)
  refine cn_putF dX9_init_10 fp_RX9_9 rfl fk_RX9_9 rfl (Nat.le_of_ble_eq_true rfl) rfl rfl [.ref q0, .int 0] rfl ?_
  refine pw_aload_n dX9_init_13 rfl ?_
  refine pw_iconst (v := 0) dX9_init_14 rfl ?_
  refine cn_put dX9_init_15 fp_RX9_15 (Nat.le_of_ble_eq_true rfl) rfl rfl [.ref q0, .int 0] rfl ?_
  exact pw_vret rfl dX9_init_18 (Nat.le_of_ble_eq_true rfl) (Nat.le_of_ble_eq_true rfl) ⟨fun i => ([q0] : List Nat).getD i 0, rfl⟩
theorem x_init6 (o : Nat) : Spec l G mX6_init [.ref o] (L ++ [(o, .inr (6, [.int 0, .null, .null, .null, .null, .null, .null]))]) (fun out => ∃ a : Nat → Nat, out = .inl (none, L ++ bX6 G o a)) := by
  refine spec_of (by decide) (Nat.le_of_ble_eq_true rfl) (fun sz => ?_)
  refine pw_aload_n dX6_init_0 rfl ?_
  refine pw_objInit dX6_init_1 oi_RX6 oi_i oi_c (by decide) (Nat.le_of_ble_eq_true rfl) ?_
  refine pw_aload_n dX6_init_4 rfl ?_
  refine pw_iconst (v := 0) dX6_init_5 rfl ?_
  refine cn_put dX6_init_6 fp_RX6_9 (Nat.le_of_ble_eq_true rfl) rfl rfl [.int 0, .null, .null, .null, .null, .null, .null] rfl ?_
  refine pw_aload_n dX6_init_9 rfl ?_
  refine pw_bipush (v := 30) dX6_init_10 rfl ?_
  refine cn_newI 30 dX6_init_12 ak_int (by decide) (by decide) (by decide) (Nat.le_of_ble_eq_true rfl) (Nat.le_of_ble_eq_true rfl) (fun q0 => ([] ++ [(q0, .inl (G.2.1, 30, .inl (fun _ => 0)))])) (fun _ => rfl) 1 30 rfl rfl (fun q0 => ?_)
  refine cn_putF dX6_init_14 fp_RX6_15 rfl fk_RX6_15 rfl (Nat.le_of_ble_eq_true rfl) rfl rfl [.int 0, .ref q0, .null, .null, .null, .null, .null] rfl ?_
  refine pw_aload_n dX6_init_17 rfl ?_
  refine pw_bipush (v := 30) dX6_init_18 rfl ?_
  refine cn_newI 30 dX6_init_20 ak_int (by decide) (by decide) (by decide) (Nat.le_of_ble_eq_true rfl) (Nat.le_of_ble_eq_true rfl) (fun q1 => (([] ++ [(q0, .inl (G.2.1, 30, .inl (fun _ => 0)))]) ++ [(q1, .inl (G.2.1, 30, .inl (fun _ => 0)))])) (fun _ => rfl) 2 60 rfl rfl (fun q1 => ?_)
  refine cn_putF dX6_init_22 fp_RX6_19 rfl fk_RX6_19 rfl (Nat.le_of_ble_eq_true rfl) rfl rfl [.int 0, .ref q0, .ref q1, .null, .null, .null, .null] rfl ?_
  refine pw_aload_n dX6_init_25 rfl ?_
  refine pw_bipush (v := 30) dX6_init_26 rfl ?_
  refine cn_newI 30 dX6_init_28 ak_int (by decide) (by decide) (by decide) (Nat.le_of_ble_eq_true rfl) (Nat.le_of_ble_eq_true rfl) (fun q2 => ((([] ++ [(q0, .inl (G.2.1, 30, .inl (fun _ => 0)))]) ++ [(q1, .inl (G.2.1, 30, .inl (fun _ => 0)))]) ++ [(q2, .inl (G.2.1, 30, .inl (fun _ => 0)))])) (fun _ => rfl) 3 90 rfl rfl (fun q2 => ?_)
  refine cn_putF dX6_init_30 fp_RX6_22 rfl fk_RX6_22 rfl (Nat.le_of_ble_eq_true rfl) rfl rfl [.int 0, .ref q0, .ref q1, .ref q2, .null, .null, .null] rfl ?_
  refine pw_aload_n dX6_init_33 rfl ?_
  refine pw_bipush (v := 30) dX6_init_34 rfl ?_
  refine cn_newI 30 dX6_init_36 ak_int (by decide) (by decide) (by decide) (Nat.le_of_ble_eq_true rfl) (Nat.le_of_ble_eq_true rfl) (fun q3 => (((([] ++ [(q0, .inl (G.2.1, 30, .inl (fun _ => 0)))]) ++ [(q1, .inl (G.2.1, 30, .inl (fun _ => 0)))]) ++ [(q2, .inl (G.2.1, 30, .inl (fun _ => 0)))]) ++ [(q3, .inl (G.2.1, 30, .inl (fun _ => 0)))])) (fun _ => rfl) 4 120 rfl rfl (fun q3 => ?_)
  refine cn_putF dX6_init_38 fp_RX6_25 rfl fk_RX6_25 rfl (Nat.le_of_ble_eq_true rfl) rfl rfl [.int 0, .ref q0, .ref q1, .ref q2, .ref q3, .null, .null] rfl ?_
  refine pw_aload_n dX6_init_41 rfl ?_
  refine pw_bipush (v := 30) dX6_init_42 rfl ?_
  refine cn_newI 30 dX6_init_44 ak_int (by decide) (by decide) (by decide) (Nat.le_of_ble_eq_true rfl) (Nat.le_of_ble_eq_true rfl) (fun q4 => ((((([] ++ [(q0, .inl (G.2.1, 30, .inl (fun _ => 0)))]) ++ [(q1, .inl (G.2.1, 30, .inl (fun _ => 0)))]) ++ [(q2, .inl (G.2.1, 30, .inl (fun _ => 0)))]) ++ [(q3, .inl (G.2.1, 30, .inl (fun _ => 0)))]) ++ [(q4, .inl (G.2.1, 30, .inl (fun _ => 0)))])) (fun _ => rfl) 5 150 rfl rfl (fun q4 => ?_)
  refine cn_putF dX6_init_46 fp_RX6_28 rfl fk_RX6_28 rfl (Nat.le_of_ble_eq_true rfl) rfl rfl [.int 0, .ref q0, .ref q1, .ref q2, .ref q3, .ref q4, .null] rfl ?_
  refine pw_aload_n dX6_init_49 rfl ?_
  refine pw_bipush (v := 30) dX6_init_50 rfl ?_
  refine cn_newI 30 dX6_init_52 ak_int (by decide) (by decide) (by decide) (Nat.le_of_ble_eq_true rfl) (Nat.le_of_ble_eq_true rfl) (fun q5 => (((((([] ++ [(q0, .inl (G.2.1, 30, .inl (fun _ => 0)))]) ++ [(q1, .inl (G.2.1, 30, .inl (fun _ => 0)))]) ++ [(q2, .inl (G.2.1, 30, .inl (fun _ => 0)))]) ++ [(q3, .inl (G.2.1, 30, .inl (fun _ => 0)))]) ++ [(q4, .inl (G.2.1, 30, .inl (fun _ => 0)))]) ++ [(q5, .inl (G.2.1, 30, .inl (fun _ => 0)))])) (fun _ => rfl) 6 180 rfl rfl (fun q5 => ?_)
  refine cn_putF dX6_init_54 fp_RX6_31 rfl fk_RX6_31 rfl (Nat.le_of_ble_eq_true rfl) rfl rfl [.int 0, .ref q0, .ref q1, .ref q2, .ref q3, .ref q4, .ref q5] rfl ?_
  exact pw_vret rfl dX6_init_57 (Nat.le_of_ble_eq_true rfl) (Nat.le_of_ble_eq_true rfl) ⟨fun i => ([q0, q1, q2, q3, q4, q5] : List Nat).getD i 0, rfl⟩
theorem x_init3 (o : Nat) : Spec l G mX3_init [.ref o] (L ++ [(o, .inr (3, [.null, .null, .null]))]) (fun out => ∃ a : Nat → Nat, out = .inl (none, L ++ bX3 G o a)) := by
  refine spec_of (by decide) (Nat.le_of_ble_eq_true rfl) (fun sz => ?_)
  refine pw_aload_n dX3_init_0 rfl ?_
  refine pw_objInit dX3_init_1 oi_RX3 oi_i oi_c (by decide) (Nat.le_of_ble_eq_true rfl) ?_
  refine pw_aload_n dX3_init_4 rfl ?_
  refine pw_bipush (v := 8) dX3_init_5 rfl ?_
  refine cn_newI 8 dX3_init_7 ak_int (by decide) (by decide) (by decide) (Nat.le_of_ble_eq_true rfl) (Nat.le_of_ble_eq_true rfl) (fun q0 => ([] ++ [(q0, .inl (G.2.1, 8, .inl (fun _ => 0)))])) (fun _ => rfl) 1 8 rfl rfl (fun q0 => ?_)
  refine cn_putF dX3_init_9 fp_RX3_9 rfl fk_RX3_9 rfl (Nat.le_of_ble_eq_true rfl) rfl rfl [.ref q0, .null, .null] rfl ?_
  refine pw_aload_n dX3_init_12 rfl ?_
  refine pw_bipush (v := 8) dX3_init_13 rfl ?_
  refine cn_newI 8 dX3_init_15 ak_int (by decide) (by decide) (by decide) (Nat.le_of_ble_eq_true rfl) (Nat.le_of_ble_eq_true rfl) (fun q1 => (([] ++ [(q0, .inl (G.2.1, 8, .inl (fun _ => 0)))]) ++ [(q1, .inl (G.2.1, 8, .inl (fun _ => 0)))])) (fun _ => rfl) 2 16 rfl rfl (fun q1 => ?_)
  refine cn_putF dX3_init_17 fp_RX3_15 rfl fk_RX3_15 rfl (Nat.le_of_ble_eq_true rfl) rfl rfl [.ref q0, .ref q1, .null] rfl ?_
  refine pw_aload_n dX3_init_20 rfl ?_
  refine pw_bipush (v := 8) dX3_init_21 rfl ?_
  refine cn_newI 8 dX3_init_23 ak_int (by decide) (by decide) (by decide) (Nat.le_of_ble_eq_true rfl) (Nat.le_of_ble_eq_true rfl) (fun q2 => ((([] ++ [(q0, .inl (G.2.1, 8, .inl (fun _ => 0)))]) ++ [(q1, .inl (G.2.1, 8, .inl (fun _ => 0)))]) ++ [(q2, .inl (G.2.1, 8, .inl (fun _ => 0)))])) (fun _ => rfl) 3 24 rfl rfl (fun q2 => ?_)
  refine cn_putF dX3_init_25 fp_RX3_18 rfl fk_RX3_18 rfl (Nat.le_of_ble_eq_true rfl) rfl rfl [.ref q0, .ref q1, .ref q2] rfl ?_
  refine pw_iconst (v := 0) dX3_init_28 rfl ?_
  refine pw_istore_n dX3_init_29 (by decide) ?_
  refine pw_lk [(0, .ref o), (1, .int (nI 0))] ⟨rfl, rfl, trivial⟩ ?_
  refine pw_iload_n dX3_init_30 rfl ?_
  refine pw_bipush (v := 8) dX3_init_31 rfl ?_
  refine pw_icmp_ge 50 dX3_init_33 (by decide) (fun c_ => absurd c_ (by decide)) (fun c_ => ?_)
  refine pw_aload_n dX3_init_36 rfl ?_
  refine cn_get dX3_init_37 fp_RX3_15.FL (v := .ref q1) rfl ?_
  refine pw_iload_n dX3_init_40 rfl ?_
  refine pw_bipush (v := 100) dX3_init_41 rfl ?_
  refine cn_iast (p := 1) dX3_init_43 rfl (vp_in_nI (n := 0) (by decide) (by decide)) [(q0, .inl (G.2.1, 8, .inl (fun _ => 0))), (q1, .inl (G.2.1, 8, .inl (upd (fun _ => 0) (nI 0).toNatClampNeg 100))), (q2, .inl (G.2.1, 8, .inl (fun _ => 0)))] rfl ?_
  refine pw_iinc dX3_init_44 rfl (by decide) ?_
  refine pw_lk [(0, .ref o), (1, .int (nI 1))] ⟨rfl, congrArg (fun x => some (Value.int x)) (nI_1 0), trivial⟩ ?_
  refine pw_goto (tgt := 30) dX3_init_47 (by decide) ?_
  refine pw_iload_n dX3_init_30 rfl ?_
  refine pw_bipush (v := 8) dX3_init_31 rfl ?_
  refine pw_icmp_ge 50 dX3_init_33 (by decide) (fun c_ => absurd c_ (by decide)) (fun c_ => ?_)
  refine pw_aload_n dX3_init_36 rfl ?_
  refine cn_get dX3_init_37 fp_RX3_15.FL (v := .ref q1) rfl ?_
  refine pw_iload_n dX3_init_40 rfl ?_
  refine pw_bipush (v := 100) dX3_init_41 rfl ?_
  refine cn_iast (p := 1) dX3_init_43 rfl (vp_in_nI (n := 1) (by decide) (by decide)) [(q0, .inl (G.2.1, 8, .inl (fun _ => 0))), (q1, .inl (G.2.1, 8, .inl (upd (upd (fun _ => 0) (nI 0).toNatClampNeg 100) (nI 1).toNatClampNeg 100))), (q2, .inl (G.2.1, 8, .inl (fun _ => 0)))] rfl ?_
  refine pw_iinc dX3_init_44 rfl (by decide) ?_
  refine pw_lk [(0, .ref o), (1, .int (nI 2))] ⟨rfl, congrArg (fun x => some (Value.int x)) (nI_1 1), trivial⟩ ?_
  refine pw_goto (tgt := 30) dX3_init_47 (by decide) ?_
  refine pw_iload_n dX3_init_30 rfl ?_
  refine pw_bipush (v := 8) dX3_init_31 rfl ?_
  refine pw_icmp_ge 50 dX3_init_33 (by decide) (fun c_ => absurd c_ (by decide)) (fun c_ => ?_)
  refine pw_aload_n dX3_init_36 rfl ?_
  refine cn_get dX3_init_37 fp_RX3_15.FL (v := .ref q1) rfl ?_
  refine pw_iload_n dX3_init_40 rfl ?_
  refine pw_bipush (v := 100) dX3_init_41 rfl ?_
  refine cn_iast (p := 1) dX3_init_43 rfl (vp_in_nI (n := 2) (by decide) (by decide)) [(q0, .inl (G.2.1, 8, .inl (fun _ => 0))), (q1, .inl (G.2.1, 8, .inl (upd (upd (upd (fun _ => 0) (nI 0).toNatClampNeg 100) (nI 1).toNatClampNeg 100) (nI 2).toNatClampNeg 100))), (q2, .inl (G.2.1, 8, .inl (fun _ => 0)))] rfl ?_
  refine pw_iinc dX3_init_44 rfl (by decide) ?_
  refine pw_lk [(0, .ref o), (1, .int (nI 3))] ⟨rfl, congrArg (fun x => some (Value.int x)) (nI_1 2), trivial⟩ ?_
  refine pw_goto (tgt := 30) dX3_init_47 (by decide) ?_
  refine pw_iload_n dX3_init_30 rfl ?_
  refine pw_bipush (v := 8) dX3_init_31 rfl ?_
  refine pw_icmp_ge 50 dX3_init_33 (by decide) (fun c_ => absurd c_ (by decide)) (fun c_ => ?_)
  refine pw_aload_n dX3_init_36 rfl ?_
  refine cn_get dX3_init_37 fp_RX3_15.FL (v := .ref q1) rfl ?_
  refine pw_iload_n dX3_init_40 rfl ?_
  refine pw_bipush (v := 100) dX3_init_41 rfl ?_
  refine cn_iast (p := 1) dX3_init_43 rfl (vp_in_nI (n := 3) (by decide) (by decide)) [(q0, .inl (G.2.1, 8, .inl (fun _ => 0))), (q1, .inl (G.2.1, 8, .inl (upd (upd (upd (upd (fun _ => 0) (nI 0).toNatClampNeg 100) (nI 1).toNatClampNeg 100) (nI 2).toNatClampNeg 100) (nI 3).toNatClampNeg 100))), (q2, .inl (G.2.1, 8, .inl (fun _ => 0)))] rfl ?_
  refine pw_iinc dX3_init_44 rfl (by decide) ?_
  refine pw_lk [(0, .ref o), (1, .int (nI 4))] ⟨rfl, congrArg (fun x => some (Value.int x)) (nI_1 3), trivial⟩ ?_
  refine pw_goto (tgt := 30) dX3_init_47 (by decide) ?_
  refine pw_iload_n dX3_init_30 rfl ?_
  refine pw_bipush (v := 8) dX3_init_31 rfl ?_
  refine pw_icmp_ge 50 dX3_init_33 (by decide) (fun c_ => absurd c_ (by decide)) (fun c_ => ?_)
  refine pw_aload_n dX3_init_36 rfl ?_
  refine cn_get dX3_init_37 fp_RX3_15.FL (v := .ref q1) rfl ?_
  refine pw_iload_n dX3_init_40 rfl ?_
  refine pw_bipush (v := 100) dX3_init_41 rfl ?_
  refine cn_iast (p := 1) dX3_init_43 rfl (vp_in_nI (n := 4) (by decide) (by decide)) [(q0, .inl (G.2.1, 8, .inl (fun _ => 0))), (q1, .inl (G.2.1, 8, .inl (upd (upd (upd (upd (upd (fun _ => 0) (nI 0).toNatClampNeg 100) (nI 1).toNatClampNeg 100) (nI 2).toNatClampNeg 100) (nI 3).toNatClampNeg 100) (nI 4).toNatClampNeg 100))), (q2, .inl (G.2.1, 8, .inl (fun _ => 0)))] rfl ?_
  refine pw_iinc dX3_init_44 rfl (by decide) ?_
  refine pw_lk [(0, .ref o), (1, .int (nI 5))] ⟨rfl, congrArg (fun x => some (Value.int x)) (nI_1 4), trivial⟩ ?_
  refine pw_goto (tgt := 30) dX3_init_47 (by decide) ?_
  refine pw_iload_n dX3_init_30 rfl ?_
  refine pw_bipush (v := 8) dX3_init_31 rfl ?_
  refine pw_icmp_ge 50 dX3_init_33 (by decide) (fun c_ => absurd c_ (by decide)) (fun c_ => ?_)
  refine pw_aload_n dX3_init_36 rfl ?_
  refine cn_get dX3_init_37 fp_RX3_15.FL (v := .ref q1) rfl ?_
  refine pw_iload_n dX3_init_40 rfl ?_
  refine pw_bipush (v := 100) dX3_init_41 rfl ?_
  refine cn_iast (p := 1) dX3_init_43 rfl (vp_in_nI (n := 5) (by decide) (by decide)) [(q0, .inl (G.2.1, 8, .inl (fun _ => 0))), (q1, .inl (G.2.1, 8, .inl (upd (upd (upd (upd (upd (upd (fun _ => 0) (nI 0).toNatClampNeg 100) (nI 1).toNatClampNeg 100) (nI 2).toNatClampNeg 100) (nI 3).toNatClampNeg 100) (nI 4).toNatClampNeg 100) (nI 5).toNatClampNeg 100))), (q2, .inl (G.2.1, 8, .inl (fun _ => 0)))] rfl ?_
  refine pw_iinc dX3_init_44 rfl (by decide) ?_
  refine pw_lk [(0, .ref o), (1, .int (nI 6))] ⟨rfl, congrArg (fun x => some (Value.int x)) (nI_1 5), trivial⟩ ?_
  refine pw_goto (tgt := 30) dX3_init_47 (by decide) ?_
  refine pw_iload_n dX3_init_30 rfl ?_
  refine pw_bipush (v := 8) dX3_init_31 rfl ?_
  refine pw_icmp_ge 50 dX3_init_33 (by decide) (fun c_ => absurd c_ (by decide)) (fun c_ => ?_)
  refine pw_aload_n dX3_init_36 rfl ?_
  refine cn_get dX3_init_37 fp_RX3_15.FL (v := .ref q1) rfl ?_
  refine pw_iload_n dX3_init_40 rfl ?_
  refine pw_bipush (v := 100) dX3_init_41 rfl ?_
  refine cn_iast (p := 1) dX3_init_43 rfl (vp_in_nI (n := 6) (by decide) (by decide)) [(q0, .inl (G.2.1, 8, .inl (fun _ => 0))), (q1, .inl (G.2.1, 8, .inl (upd (upd (upd (upd (upd (upd (upd (fun _ => 0) (nI 0).toNatClampNeg 100) (nI 1).toNatClampNeg 100) (nI 2).toNatClampNeg 100) (nI 3).toNatClampNeg 100) (nI 4).toNatClampNeg 100) (nI 5).toNatClampNeg 100) (nI 6).toNatClampNeg 100))), (q2, .inl (G.2.1, 8, .inl (fun _ => 0)))] rfl ?_
  refine pw_iinc dX3_init_44 rfl (by decide) ?_
  refine pw_lk [(0, .ref o), (1, .int (nI 7))] ⟨rfl, congrArg (fun x => some (Value.int x)) (nI_1 6), trivial⟩ ?_
  refine pw_goto (tgt := 30) dX3_init_47 (by decide) ?_
  refine pw_iload_n dX3_init_30 rfl ?_
  refine pw_bipush (v := 8) dX3_init_31 rfl ?_
  refine pw_icmp_ge 50 dX3_init_33 (by decide) (fun c_ => absurd c_ (by decide)) (fun c_ => ?_)
  refine pw_aload_n dX3_init_36 rfl ?_
  refine cn_get dX3_init_37 fp_RX3_15.FL (v := .ref q1) rfl ?_
  refine pw_iload_n dX3_init_40 rfl ?_
  refine pw_bipush (v := 100) dX3_init_41 rfl ?_
  refine cn_iast (p := 1) dX3_init_43 rfl (vp_in_nI (n := 7) (by decide) (by decide)) [(q0, .inl (G.2.1, 8, .inl (fun _ => 0))), (q1, .inl (G.2.1, 8, .inl (upd (upd (upd (upd (upd (upd (upd (upd (fun _ => 0) (nI 0).toNatClampNeg 100) (nI 1).toNatClampNeg 100) (nI 2).toNatClampNeg 100) (nI 3).toNatClampNeg 100) (nI 4).toNatClampNeg 100) (nI 5).toNatClampNeg 100) (nI 6).toNatClampNeg 100) (nI 7).toNatClampNeg 100))), (q2, .inl (G.2.1, 8, .inl (fun _ => 0)))] rfl ?_
  refine pw_iinc dX3_init_44 rfl (by decide) ?_
  refine pw_lk [(0, .ref o), (1, .int (nI 8))] ⟨rfl, congrArg (fun x => some (Value.int x)) (nI_1 7), trivial⟩ ?_
  refine pw_goto (tgt := 30) dX3_init_47 (by decide) ?_
  refine pw_iload_n dX3_init_30 rfl ?_
  refine pw_bipush (v := 8) dX3_init_31 rfl ?_
  refine pw_icmp_ge 50 dX3_init_33 (by decide) (fun c_ => ?_) (fun c_ => absurd (by decide) c_)
  exact pw_vret rfl dX3_init_50 (Nat.le_of_ble_eq_true rfl) (Nat.le_of_ble_eq_true rfl) ⟨fun i => ([q0, q1, q2] : List Nat).getD i 0, rfl⟩
theorem x_init1 (o : Nat) : Spec l G mX1_init [.ref o] (L ++ [(o, .inr (1, [.int 0, .null]))]) (fun out => ∃ a : Nat → Nat, out = .inl (none, L ++ bX1 G o a)) := by
  refine spec_of (by decide) (Nat.le_of_ble_eq_true rfl) (fun sz => ?_)
  refine pw_aload_n dX1_init_0 rfl ?_
  refine pw_objInit dX1_init_1 oi_RX1 oi_i oi_c (by decide) (Nat.le_of_ble_eq_true rfl) ?_
  refine pw_aload_n dX1_init_4 rfl ?_
  refine pw_iconst (v := 0) dX1_init_5 rfl ?_
  refine cn_put dX1_init_6 fp_RX1_9 (Nat.le_of_ble_eq_true rfl) rfl rfl [.int 0, .null] rfl ?_
  refine pw_aload_n dX1_init_9 rfl ?_
  refine pw_iconst (v := 2) dX1_init_10 rfl ?_
  refine cn_newI 2 dX1_init_11 ak_int (by decide) (by decide) (by decide) (Nat.le_of_ble_eq_true rfl) (Nat.le_of_ble_eq_true rfl) (fun q0 => ([] ++ [(q0, .inl (G.2.1, 2, .inl (fun _ => 0)))])) (fun _ => rfl) 1 2 rfl rfl (fun q0 => ?_)
  refine cn_putF dX1_init_13 fp_RX1_15 rfl fk_RX1_15 rfl (Nat.le_of_ble_eq_true rfl) rfl rfl [.int 0, .ref q0] rfl ?_
  exact pw_vret rfl dX1_init_16 (Nat.le_of_ble_eq_true rfl) (Nat.le_of_ble_eq_true rfl) ⟨fun i => ([q0] : List Nat).getD i 0, rfl⟩
theorem x_init5 (o : Nat) : Spec l G mX5_init [.ref o] (L ++ [(o, .inr (5, [.null, .null, .null]))]) (fun out => ∃ a : Nat → Nat, out = .inl (none, L ++ bX5 G o a)) := by
  refine spec_of (by decide) (Nat.le_of_ble_eq_true rfl) (fun sz => ?_)
  refine pw_aload_n dX5_init_0 rfl ?_
  refine pw_objInit dX5_init_1 oi_RX5 oi_i oi_c (by decide) (Nat.le_of_ble_eq_true rfl) ?_
  refine pw_aload_n dX5_init_4 rfl ?_
  refine pw_bipush (v := 30) dX5_init_5 rfl ?_
  refine cn_newI 30 dX5_init_7 ak_int (by decide) (by decide) (by decide) (Nat.le_of_ble_eq_true rfl) (Nat.le_of_ble_eq_true rfl) (fun q0 => ([] ++ [(q0, .inl (G.2.1, 30, .inl (fun _ => 0)))])) (fun _ => rfl) 1 30 rfl rfl (fun q0 => ?_)
  refine cn_putF dX5_init_9 fp_RX5_9 rfl fk_RX5_9 rfl (Nat.le_of_ble_eq_true rfl) rfl rfl [.ref q0, .null, .null] rfl ?_
  refine pw_aload_n dX5_init_12 rfl ?_
  refine pw_bipush (v := 30) dX5_init_13 rfl ?_
  refine cn_newI 30 dX5_init_15 ak_int (by decide) (by decide) (by decide) (Nat.le_of_ble_eq_true rfl) (Nat.le_of_ble_eq_true rfl) (fun q1 => (([] ++ [(q0, .inl (G.2.1, 30, .inl (fun _ => 0)))]) ++ [(q1, .inl (G.2.1, 30, .inl (fun _ => 0)))])) (fun _ => rfl) 2 60 rfl rfl (fun q1 => ?_)
  refine cn_putF dX5_init_17 fp_RX5_15 rfl fk_RX5_15 rfl (Nat.le_of_ble_eq_true rfl) rfl rfl [.ref q0, .ref q1, .null] rfl ?_
  refine pw_aload_n dX5_init_20 rfl ?_
  refine pw_bipush (v := 30) dX5_init_21 rfl ?_
  refine cn_newZ 30 dX5_init_23 ak_boolean (by decide) (by decide) (by decide) (Nat.le_of_ble_eq_true rfl) (Nat.le_of_ble_eq_true rfl) (fun q2 => ((([] ++ [(q0, .inl (G.2.1, 30, .inl (fun _ => 0)))]) ++ [(q1, .inl (G.2.1, 30, .inl (fun _ => 0)))]) ++ [(q2, .inl (G.2.2.2.1, 30, .inl (fun _ => 0)))])) (fun _ => rfl) 3 90 rfl rfl (fun q2 => ?_)
  refine cn_putF dX5_init_25 fp_RX5_18 rfl fk_RX5_18 rfl (Nat.le_of_ble_eq_true rfl) rfl rfl [.ref q0, .ref q1, .ref q2] rfl ?_
  exact pw_vret rfl dX5_init_28 (Nat.le_of_ble_eq_true rfl) (Nat.le_of_ble_eq_true rfl) ⟨fun i => ([q0, q1, q2] : List Nat).getD i 0, rfl⟩
theorem x_init4 (t p : Nat) (o : Nat) : Spec l G mX4_init [.ref o, .ref t, .ref p] (L ++ [(o, .inr (4, [.null, .null, .int 0, .int 0, .int 0, .null]))]) (fun out => ∃ a : Nat → Nat, out = .inl (none, L ++ bX4 G t p o a)) := by
  refine spec_of (by decide) (Nat.le_of_ble_eq_true rfl) (fun sz => ?_)
  refine pw_aload_n dX4_init_0 rfl ?_
  refine pw_objInit dX4_init_1 oi_RX4 oi_i oi_c (by decide) (Nat.le_of_ble_eq_true rfl) ?_
  refine pw_aload_n dX4_init_4 rfl ?_
  refine pw_iconst (v := 0) dX4_init_5 rfl ?_
  refine cn_put dX4_init_6 fp_RX4_9 (Nat.le_of_ble_eq_true rfl) rfl rfl [.null, .null, .int 0, .int 0, .int 0, .null] rfl ?_
  refine pw_aload_n dX4_init_9 rfl ?_
  refine pw_iconst (v := -1) dX4_init_10 rfl ?_
  refine cn_put dX4_init_11 fp_RX4_15 (Nat.le_of_ble_eq_true rfl) rfl rfl [.null, .null, .int 0, .int (-1), .int 0, .null] rfl ?_
  refine pw_aload_n dX4_init_14 rfl ?_
  refine pw_iconst (v := 0) dX4_init_15 rfl ?_
  refine cn_put dX4_init_16 fp_RX4_18 (Nat.le_of_ble_eq_true rfl) rfl rfl [.null, .null, .int 0, .int (-1), .int 0, .null] rfl ?_
  refine pw_aload_n dX4_init_19 rfl ?_
  refine pw_iconst (v := 2) dX4_init_20 rfl ?_
  refine cn_newI 2 dX4_init_21 ak_int (by decide) (by decide) (by decide) (Nat.le_of_ble_eq_true rfl) (Nat.le_of_ble_eq_true rfl) (fun q0 => ([] ++ [(q0, .inl (G.2.1, 2, .inl (fun _ => 0)))])) (fun _ => rfl) 1 2 rfl rfl (fun q0 => ?_)
  refine cn_putF dX4_init_23 fp_RX4_21 rfl fk_RX4_21 rfl (Nat.le_of_ble_eq_true rfl) rfl rfl [.null, .null, .int 0, .int (-1), .int 0, .ref q0] rfl ?_
  refine pw_aload_n dX4_init_26 rfl ?_
  refine pw_aload_n dX4_init_27 rfl ?_
  refine cn_putF dX4_init_28 fp_RX4_25 rfl fk_RX4_25 rfl (Nat.le_of_ble_eq_true rfl) rfl rfl [.ref t, .null, .int 0, .int (-1), .int 0, .ref q0] rfl ?_
  refine pw_aload_n dX4_init_31 rfl ?_
  refine pw_aload_n dX4_init_32 rfl ?_
  refine cn_putF dX4_init_33 fp_RX4_29 rfl fk_RX4_29 rfl (Nat.le_of_ble_eq_true rfl) rfl rfl [.ref t, .ref p, .int 0, .int (-1), .int 0, .ref q0] rfl ?_
  exact pw_vret rfl dX4_init_36 (Nat.le_of_ble_eq_true rfl) (Nat.le_of_ble_eq_true rfl) ⟨fun i => ([q0] : List Nat).getD i 0, rfl⟩
theorem x_init8 (o : Nat) : Spec l G mX8_init [.ref o] (L ++ [(o, .inr (8, [.null, .null]))]) (fun out => ∃ a : Nat → Nat, out = .inl (none, L ++ bX8 G o a)) := by
  refine spec_of (by decide) (Nat.le_of_ble_eq_true rfl) (fun sz => ?_)
  refine pw_aload_n dX8_init_0 rfl ?_
  refine pw_objInit dX8_init_1 oi_RX8 oi_i oi_c (by decide) (Nat.le_of_ble_eq_true rfl) ?_
  refine pw_aload_n dX8_init_4 rfl ?_
  refine pw_new (ci := 6) (fs := [.int 0, .null, .null, .null, .null, .null, .null]) tyX6 tyX6_ok dX8_init_5 rfl inW6 cl_RX8_7 is_RX6 ini_RX6 (fun j hj => match j, hj with | 0, _ => rfl | 1, _ => rfl | 2, _ => rfl | 3, _ => rfl | 4, _ => rfl | 5, _ => rfl | 6, _ => rfl | j + 7, h => absurd h (by omega)) (Nat.le_of_ble_eq_true rfl) (Nat.le_of_ble_eq_true rfl) (fun q0 => ?_)
  refine pw_kn 1 7 rfl rfl ?_
  refine pw_dup dX8_init_8 rfl ?_
  refine pw_callI (mi' := mX6_init) (As := []) dX8_init_9 lk_RX8_9 mk_X6_init mi_X6_init rfl rfl ⟨by decide, by decide⟩ rfl rfl (Nat.le_of_ble_eq_true rfl) (x_init6  q0) ⟨Nat.le_of_ble_eq_true rfl, Nat.le_of_ble_eq_true rfl⟩ (fun v ws_ h_ => ?_) (fun E ws_ h_ => by obtain ⟨a_, h_⟩ := h_; cases h_)
  obtain ⟨a1, h_⟩ := h_
  cases h_
  refine pw_kn 7 187 rfl rfl ?_
  refine cn_asc (bX6 G q0 a1) ?_
  refine cn_putF dX8_init_12 fp_RX8_10 rfl fk_RX8_10 rfl (Nat.le_of_ble_eq_true rfl) rfl rfl [.ref q0, .null] rfl ?_
  refine pw_aload_n dX8_init_15 rfl ?_
  refine pw_new (ci := 3) (fs := [.null, .null, .null]) tyX3 tyX3_ok dX8_init_16 rfl inW3 cl_RX8_16 is_RX3 ini_RX3 (fun j hj => match j, hj with | 0, _ => rfl | 1, _ => rfl | 2, _ => rfl | j + 3, h => absurd h (by omega)) (Nat.le_of_ble_eq_true rfl) (Nat.le_of_ble_eq_true rfl) (fun q2 => ?_)
  refine pw_kn 8 190 rfl rfl ?_
  refine pw_dup dX8_init_19 rfl ?_
  refine pw_callI (mi' := mX3_init) (As := []) dX8_init_20 lk_RX8_18 mk_X3_init mi_X3_init rfl rfl ⟨by decide, by decide⟩ rfl rfl (Nat.le_of_ble_eq_true rfl) (x_init3  q2) ⟨Nat.le_of_ble_eq_true rfl, Nat.le_of_ble_eq_true rfl⟩ (fun v ws_ h_ => ?_) (fun E ws_ h_ => by obtain ⟨a_, h_⟩ := h_; cases h_)
  obtain ⟨a3, h_⟩ := h_
  cases h_
  refine pw_kn 11 214 rfl rfl ?_
  refine cn_asc (bX3 G q2 a3) ?_
  refine cn_putF dX8_init_23 fp_RX8_19 rfl fk_RX8_19 rfl (Nat.le_of_ble_eq_true rfl) rfl rfl [.ref q0, .ref q2] rfl ?_
  exact pw_vret rfl dX8_init_26 (Nat.le_of_ble_eq_true rfl) (Nat.le_of_ble_eq_true rfl) ⟨fun i => ([q0, a1 0, a1 1, a1 2, a1 3, a1 4, a1 5, q2, a3 0, a3 1, a3 2] : List Nat).getD i 0, rfl⟩
theorem x_init0 (o : Nat) : Spec l G mX0_init [.ref o] (L ++ [(o, .inr (0, [.null, .int 0, .int 0, .null, .null, .int 0, .null, .null, .null, .null, .null, .long 0, .long 0]))]) (fun out => ∃ a : Nat → Nat, out = .inl (none, L ++ bX0 G o a)) := by
  refine spec_of (by decide) (Nat.le_of_ble_eq_true rfl) (fun sz => ?_)
  refine pw_aload_n dX0_init_0 rfl ?_
  refine pw_objInit dX0_init_1 oi_RX0 oi_i oi_c (by decide) (Nat.le_of_ble_eq_true rfl) ?_
  refine pw_aload_n dX0_init_4 rfl ?_
  refine pw_new (ci := 1) (fs := [.int 0, .null]) tyX1 tyX1_ok dX0_init_5 rfl inW1 cl_RX0_9 is_RX1 ini_RX1 (fun j hj => match j, hj with | 0, _ => rfl | 1, _ => rfl | j + 2, h => absurd h (by omega)) (Nat.le_of_ble_eq_true rfl) (Nat.le_of_ble_eq_true rfl) (fun q0 => ?_)
  refine pw_kn 1 2 rfl rfl ?_
  refine pw_dup dX0_init_8 rfl ?_
  refine pw_callI (mi' := mX1_init) (As := []) dX0_init_9 lk_RX0_11 mk_X1_init mi_X1_init rfl rfl ⟨by decide, by decide⟩ rfl rfl (Nat.le_of_ble_eq_true rfl) (x_init1  q0) ⟨Nat.le_of_ble_eq_true rfl, Nat.le_of_ble_eq_true rfl⟩ (fun v ws_ h_ => ?_) (fun E ws_ h_ => by obtain ⟨a_, h_⟩ := h_; cases h_)
  obtain ⟨a1, h_⟩ := h_
  cases h_
  refine pw_kn 2 4 rfl rfl ?_
  refine cn_asc (bX1 G q0 a1) ?_
  refine cn_putF dX0_init_12 fp_RX0_12 rfl fk_RX0_12 rfl (Nat.le_of_ble_eq_true rfl) rfl rfl [.ref q0, .int 0, .int 0, .null, .null, .int 0, .null, .null, .null, .null, .null, .long 0, .long 0] rfl ?_
  refine pw_aload_n dX0_init_15 rfl ?_
  refine pw_iconst (v := 0) dX0_init_16 rfl ?_
  refine cn_put dX0_init_17 fp_RX0_18 (Nat.le_of_ble_eq_true rfl) rfl rfl [.ref q0, .int 0, .int 0, .null, .null, .int 0, .null, .null, .null, .null, .null, .long 0, .long 0] rfl ?_
  refine pw_aload_n dX0_init_20 rfl ?_
  refine pw_iconst (v := 0) dX0_init_21 rfl ?_
  refine cn_put dX0_init_22 fp_RX0_22 (Nat.le_of_ble_eq_true rfl) rfl rfl [.ref q0, .int 0, .int 0, .null, .null, .int 0, .null, .null, .null, .null, .null, .long 0, .long 0] rfl ?_
  refine pw_aload_n dX0_init_25 rfl ?_
  refine pw_bipush (v := 8) dX0_init_26 rfl ?_
  refine cn_newL 8 dX0_init_28 ak_long (by decide) (by decide) (by decide) (Nat.le_of_ble_eq_true rfl) (Nat.le_of_ble_eq_true rfl) (fun q2 => (([] ++ bX1 G q0 a1) ++ [(q2, .inl (G.2.2.1, 8, .inr (.inl (fun _ => 0))))])) (fun _ => rfl) 3 12 rfl rfl (fun q2 => ?_)
  refine cn_putF dX0_init_30 fp_RX0_26 rfl fk_RX0_26 rfl (Nat.le_of_ble_eq_true rfl) rfl rfl [.ref q0, .int 0, .int 0, .ref q2, .null, .int 0, .null, .null, .null, .null, .null, .long 0, .long 0] rfl ?_
  refine pw_aload_n dX0_init_33 rfl ?_
  refine pw_bipush (v := 8) dX0_init_34 rfl ?_
  refine cn_newL 8 dX0_init_36 ak_long (by decide) (by decide) (by decide) (Nat.le_of_ble_eq_true rfl) (Nat.le_of_ble_eq_true rfl) (fun q3 => ((([] ++ bX1 G q0 a1) ++ [(q2, .inl (G.2.2.1, 8, .inr (.inl (fun _ => 0))))]) ++ [(q3, .inl (G.2.2.1, 8, .inr (.inl (fun _ => 0))))])) (fun _ => rfl) 4 20 rfl rfl (fun q3 => ?_)
  refine cn_putF dX0_init_38 fp_RX0_30 rfl fk_RX0_30 rfl (Nat.le_of_ble_eq_true rfl) rfl rfl [.ref q0, .int 0, .int 0, .ref q2, .ref q3, .int 0, .null, .null, .null, .null, .null, .long 0, .long 0] rfl ?_
  refine pw_aload_n dX0_init_41 rfl ?_
  refine pw_iconst (v := 0) dX0_init_42 rfl ?_
  refine cn_put dX0_init_43 fp_RX0_33 (Nat.le_of_ble_eq_true rfl) rfl rfl [.ref q0, .int 0, .int 0, .ref q2, .ref q3, .int 0, .null, .null, .null, .null, .null, .long 0, .long 0] rfl ?_
  refine pw_aload_n dX0_init_46 rfl ?_
  refine pw_bipush (v := 30) dX0_init_47 rfl ?_
  refine cn_newZ 30 dX0_init_49 ak_boolean (by decide) (by decide) (by decide) (Nat.le_of_ble_eq_true rfl) (Nat.le_of_ble_eq_true rfl) (fun q4 => (((([] ++ bX1 G q0 a1) ++ [(q2, .inl (G.2.2.1, 8, .inr (.inl (fun _ => 0))))]) ++ [(q3, .inl (G.2.2.1, 8, .inr (.inl (fun _ => 0))))]) ++ [(q4, .inl (G.2.2.2.1, 30, .inl (fun _ => 0)))])) (fun _ => rfl) 5 50 rfl rfl (fun q4 => ?_)
  refine cn_putF dX0_init_51 fp_RX0_36 rfl fk_RX0_36 rfl (Nat.le_of_ble_eq_true rfl) rfl rfl [.ref q0, .int 0, .int 0, .ref q2, .ref q3, .int 0, .ref q4, .null, .null, .null, .null, .long 0, .long 0] rfl ?_
  refine pw_aload_n dX0_init_54 rfl ?_
  refine pw_bipush (v := 30) dX0_init_55 rfl ?_
  refine cn_newZ 30 dX0_init_57 ak_boolean (by decide) (by decide) (by decide) (Nat.le_of_ble_eq_true rfl) (Nat.le_of_ble_eq_true rfl) (fun q5 => ((((([] ++ bX1 G q0 a1) ++ [(q2, .inl (G.2.2.1, 8, .inr (.inl (fun _ => 0))))]) ++ [(q3, .inl (G.2.2.1, 8, .inr (.inl (fun _ => 0))))]) ++ [(q4, .inl (G.2.2.2.1, 30, .inl (fun _ => 0)))]) ++ [(q5, .inl (G.2.2.2.1, 30, .inl (fun _ => 0)))])) (fun _ => rfl) 6 80 rfl rfl (fun q5 => ?_)
  refine cn_putF dX0_init_59 fp_RX0_40 rfl fk_RX0_40 rfl (Nat.le_of_ble_eq_true rfl) rfl rfl [.ref q0, .int 0, .int 0, .ref q2, .ref q3, .int 0, .ref q4, .ref q5, .null, .null, .null, .long 0, .long 0] rfl ?_
  refine pw_aload_n dX0_init_62 rfl ?_
  refine pw_bipush (v := 30) dX0_init_63 rfl ?_
  refine cn_newL 30 dX0_init_65 ak_long (by decide) (by decide) (by decide) (Nat.le_of_ble_eq_true rfl) (Nat.le_of_ble_eq_true rfl) (fun q6 => (((((([] ++ bX1 G q0 a1) ++ [(q2, .inl (G.2.2.1, 8, .inr (.inl (fun _ => 0))))]) ++ [(q3, .inl (G.2.2.1, 8, .inr (.inl (fun _ => 0))))]) ++ [(q4, .inl (G.2.2.2.1, 30, .inl (fun _ => 0)))]) ++ [(q5, .inl (G.2.2.2.1, 30, .inl (fun _ => 0)))]) ++ [(q6, .inl (G.2.2.1, 30, .inr (.inl (fun _ => 0))))])) (fun _ => rfl) 7 110 rfl rfl (fun q6 => ?_)
  refine cn_putF dX0_init_67 fp_RX0_43 rfl fk_RX0_43 rfl (Nat.le_of_ble_eq_true rfl) rfl rfl [.ref q0, .int 0, .int 0, .ref q2, .ref q3, .int 0, .ref q4, .ref q5, .ref q6, .null, .null, .long 0, .long 0] rfl ?_
  refine pw_aload_n dX0_init_70 rfl ?_
  refine pw_bipush (v := 30) dX0_init_71 rfl ?_
  refine cn_newL 30 dX0_init_73 ak_long (by decide) (by decide) (by decide) (Nat.le_of_ble_eq_true rfl) (Nat.le_of_ble_eq_true rfl) (fun q7 => ((((((([] ++ bX1 G q0 a1) ++ [(q2, .inl (G.2.2.1, 8, .inr (.inl (fun _ => 0))))]) ++ [(q3, .inl (G.2.2.1, 8, .inr (.inl (fun _ => 0))))]) ++ [(q4, .inl (G.2.2.2.1, 30, .inl (fun _ => 0)))]) ++ [(q5, .inl (G.2.2.2.1, 30, .inl (fun _ => 0)))]) ++ [(q6, .inl (G.2.2.1, 30, .inr (.inl (fun _ => 0))))]) ++ [(q7, .inl (G.2.2.1, 30, .inr (.inl (fun _ => 0))))])) (fun _ => rfl) 8 140 rfl rfl (fun q7 => ?_)
  refine cn_putF dX0_init_75 fp_RX0_46 rfl fk_RX0_46 rfl (Nat.le_of_ble_eq_true rfl) rfl rfl [.ref q0, .int 0, .int 0, .ref q2, .ref q3, .int 0, .ref q4, .ref q5, .ref q6, .ref q7, .null, .long 0, .long 0] rfl ?_
  refine pw_aload_n dX0_init_78 rfl ?_
  refine pw_bipush (v := 30) dX0_init_79 rfl ?_
  refine cn_newI 30 dX0_init_81 ak_int (by decide) (by decide) (by decide) (Nat.le_of_ble_eq_true rfl) (Nat.le_of_ble_eq_true rfl) (fun q8 => (((((((([] ++ bX1 G q0 a1) ++ [(q2, .inl (G.2.2.1, 8, .inr (.inl (fun _ => 0))))]) ++ [(q3, .inl (G.2.2.1, 8, .inr (.inl (fun _ => 0))))]) ++ [(q4, .inl (G.2.2.2.1, 30, .inl (fun _ => 0)))]) ++ [(q5, .inl (G.2.2.2.1, 30, .inl (fun _ => 0)))]) ++ [(q6, .inl (G.2.2.1, 30, .inr (.inl (fun _ => 0))))]) ++ [(q7, .inl (G.2.2.1, 30, .inr (.inl (fun _ => 0))))]) ++ [(q8, .inl (G.2.1, 30, .inl (fun _ => 0)))])) (fun _ => rfl) 9 170 rfl rfl (fun q8 => ?_)
  refine cn_putF dX0_init_83 fp_RX0_49 rfl fk_RX0_49 rfl (Nat.le_of_ble_eq_true rfl) rfl rfl [.ref q0, .int 0, .int 0, .ref q2, .ref q3, .int 0, .ref q4, .ref q5, .ref q6, .ref q7, .ref q8, .long 0, .long 0] rfl ?_
  refine pw_aload_n dX0_init_86 rfl ?_
  refine pw_lconst (v := 0) dX0_init_87 rfl ?_
  refine cn_put dX0_init_88 fp_RX0_53 (Nat.le_of_ble_eq_true rfl) rfl rfl [.ref q0, .int 0, .int 0, .ref q2, .ref q3, .int 0, .ref q4, .ref q5, .ref q6, .ref q7, .ref q8, .long 0, .long 0] rfl ?_
  refine pw_aload_n dX0_init_91 rfl ?_
  refine pw_lconst (v := 0) dX0_init_92 rfl ?_
  refine cn_put dX0_init_93 fp_RX0_57 (Nat.le_of_ble_eq_true rfl) rfl rfl [.ref q0, .int 0, .int 0, .ref q2, .ref q3, .int 0, .ref q4, .ref q5, .ref q6, .ref q7, .ref q8, .long 0, .long 0] rfl ?_
  exact pw_vret rfl dX0_init_96 (Nat.le_of_ble_eq_true rfl) (Nat.le_of_ble_eq_true rfl) ⟨fun i => ([q0, a1 0, q2, q3, q4, q5, q6, q7, q8] : List Nat).getD i 0, rfl⟩
theorem x_init7 (o : Nat) : Spec l G mX7_init [.ref o] (L ++ [(o, .inr (7, [.null, .null, .int 0, .int 0, .int 0, .null]))]) (fun out => ∃ a : Nat → Nat, out = .inl (none, L ++ bX7 G o a)) := by
  refine spec_of (by decide) (Nat.le_of_ble_eq_true rfl) (fun sz => ?_)
  refine pw_aload_n dX7_init_0 rfl ?_
  refine pw_objInit dX7_init_1 oi_RX7 oi_i oi_c (by decide) (Nat.le_of_ble_eq_true rfl) ?_
  refine pw_aload_n dX7_init_4 rfl ?_
  refine pw_new (ci := 1) (fs := [.int 0, .null]) tyX1 tyX1_ok dX7_init_5 rfl inW1 cl_RX7_9 is_RX1 ini_RX1 (fun j hj => match j, hj with | 0, _ => rfl | 1, _ => rfl | j + 2, h => absurd h (by omega)) (Nat.le_of_ble_eq_true rfl) (Nat.le_of_ble_eq_true rfl) (fun q0 => ?_)
  refine pw_kn 1 2 rfl rfl ?_
  refine pw_dup dX7_init_8 rfl ?_
  refine pw_callI (mi' := mX1_init) (As := []) dX7_init_9 lk_RX7_11 mk_X1_init mi_X1_init rfl rfl ⟨by decide, by decide⟩ rfl rfl (Nat.le_of_ble_eq_true rfl) (x_init1  q0) ⟨Nat.le_of_ble_eq_true rfl, Nat.le_of_ble_eq_true rfl⟩ (fun v ws_ h_ => ?_) (fun E ws_ h_ => by obtain ⟨a_, h_⟩ := h_; cases h_)
  obtain ⟨a1, h_⟩ := h_
  cases h_
  refine pw_kn 2 4 rfl rfl ?_
  refine cn_asc (bX1 G q0 a1) ?_
  refine cn_putF dX7_init_12 fp_RX7_12 rfl fk_RX7_12 rfl (Nat.le_of_ble_eq_true rfl) rfl rfl [.ref q0, .null, .int 0, .int 0, .int 0, .null] rfl ?_
  refine pw_aload_n dX7_init_15 rfl ?_
  refine pw_bipush (v := 8) dX7_init_16 rfl ?_
  refine cn_newL 8 dX7_init_18 ak_long (by decide) (by decide) (by decide) (Nat.le_of_ble_eq_true rfl) (Nat.le_of_ble_eq_true rfl) (fun q2 => (([] ++ bX1 G q0 a1) ++ [(q2, .inl (G.2.2.1, 8, .inr (.inl (fun _ => 0))))])) (fun _ => rfl) 3 12 rfl rfl (fun q2 => ?_)
  refine cn_putF dX7_init_20 fp_RX7_18 rfl fk_RX7_18 rfl (Nat.le_of_ble_eq_true rfl) rfl rfl [.ref q0, .ref q2, .int 0, .int 0, .int 0, .null] rfl ?_
  refine pw_aload_n dX7_init_23 rfl ?_
  refine pw_iconst (v := -1) dX7_init_24 rfl ?_
  refine cn_put dX7_init_25 fp_RX7_22 (Nat.le_of_ble_eq_true rfl) rfl rfl [.ref q0, .ref q2, .int (-1), .int 0, .int 0, .null] rfl ?_
  refine pw_aload_n dX7_init_28 rfl ?_
  refine pw_iconst (v := 0) dX7_init_29 rfl ?_
  refine cn_put dX7_init_30 fp_RX7_26 (Nat.le_of_ble_eq_true rfl) rfl rfl [.ref q0, .ref q2, .int (-1), .int 0, .int 0, .null] rfl ?_
  refine pw_aload_n dX7_init_33 rfl ?_
  refine pw_iconst (v := 0) dX7_init_34 rfl ?_
  refine cn_put dX7_init_35 fp_RX7_29 (Nat.le_of_ble_eq_true rfl) rfl rfl [.ref q0, .ref q2, .int (-1), .int 0, .int 0, .null] rfl ?_
  refine pw_aload_n dX7_init_38 rfl ?_
  refine pw_bipush (v := 30) dX7_init_39 rfl ?_
  refine cn_newZ 30 dX7_init_41 ak_boolean (by decide) (by decide) (by decide) (Nat.le_of_ble_eq_true rfl) (Nat.le_of_ble_eq_true rfl) (fun q3 => ((([] ++ bX1 G q0 a1) ++ [(q2, .inl (G.2.2.1, 8, .inr (.inl (fun _ => 0))))]) ++ [(q3, .inl (G.2.2.2.1, 30, .inl (fun _ => 0)))])) (fun _ => rfl) 4 42 rfl rfl (fun q3 => ?_)
  refine cn_putF dX7_init_43 fp_RX7_32 rfl fk_RX7_32 rfl (Nat.le_of_ble_eq_true rfl) rfl rfl [.ref q0, .ref q2, .int (-1), .int 0, .int 0, .ref q3] rfl ?_
  exact pw_vret rfl dX7_init_46 (Nat.le_of_ble_eq_true rfl) (Nat.le_of_ble_eq_true rfl) ⟨fun i => ([q0, a1 0, q2, q3] : List Nat).getD i 0, rfl⟩
theorem x_init2 (o : Nat) : Spec l G mX2_init [.ref o] (L ++ [(o, .inr (2, [.int 0, .null]))]) (fun out => ∃ a : Nat → Nat, out = .inl (none, L ++ bX2 G o a)) := by
  refine spec_of (by decide) (Nat.le_of_ble_eq_true rfl) (fun sz => ?_)
  refine pw_aload_n dX2_init_0 rfl ?_
  refine pw_objInit dX2_init_1 oi_RX2 oi_i oi_c (by decide) (Nat.le_of_ble_eq_true rfl) ?_
  refine pw_aload_n dX2_init_4 rfl ?_
  refine pw_iconst (v := 0) dX2_init_5 rfl ?_
  refine cn_put dX2_init_6 fp_RX2_9 (Nat.le_of_ble_eq_true rfl) rfl rfl [.int 0, .null] rfl ?_
  refine pw_aload_n dX2_init_9 rfl ?_
  refine pw_iconst (v := 4) dX2_init_10 rfl ?_
  refine cn_newR 4 dX2_init_11 cl_RX2_15 (by decide) (by decide) (by decide) (Nat.le_of_ble_eq_true rfl) (Nat.le_of_ble_eq_true rfl) (fun q0 => ([] ++ [(q0, .inl (G.2.2.2.2, 4, .inr (.inr (.inr (.inr (fun _ => none))))))])) (fun _ => rfl) 1 4 rfl rfl (fun q0 => ?_)
  refine cn_putF dX2_init_14 fp_RX2_17 rfl fk_RX2_17 rfl (Nat.le_of_ble_eq_true rfl) rfl rfl [.int 0, .ref q0] rfl ?_
  refine pw_iconst (v := 0) dX2_init_17 rfl ?_
  refine pw_istore_n dX2_init_18 (by decide) ?_
  refine pw_lk [(0, .ref o), (1, .int (nI 0))] ⟨rfl, rfl, trivial⟩ ?_
  refine pw_iload_n dX2_init_19 rfl ?_
  refine pw_iconst (v := 4) dX2_init_20 rfl ?_
  refine pw_icmp_ge 43 dX2_init_21 (by decide) (fun c_ => absurd c_ (by decide)) (fun c_ => ?_)
  refine pw_aload_n dX2_init_24 rfl ?_
  refine cn_get dX2_init_25 fp_RX2_17.FL (v := .ref q0) rfl ?_
  refine pw_iload_n dX2_init_28 rfl ?_
  refine pw_new (ci := 8) (fs := [.null, .null]) tyX8 tyX8_ok dX2_init_29 rfl inW8 cl_RX2_15 is_RX8 ini_RX8 (fun j hj => match j, hj with | 0, _ => rfl | 1, _ => rfl | j + 2, h => absurd h (by omega)) (Nat.le_of_ble_eq_true rfl) (Nat.le_of_ble_eq_true rfl) (fun q1 => ?_)
  refine pw_kn 2 6 rfl rfl ?_
  refine pw_dup dX2_init_32 rfl ?_
  refine pw_callI (mi' := mX8_init) (As := []) dX2_init_33 lk_RX2_21 mk_X8_init mi_X8_init rfl rfl ⟨by decide, by decide⟩ rfl rfl (Nat.le_of_ble_eq_true rfl) (x_init8  q1) ⟨Nat.le_of_ble_eq_true rfl, Nat.le_of_ble_eq_true rfl⟩ (fun v ws_ h_ => ?_) (fun E ws_ h_ => by obtain ⟨a_, h_⟩ := h_; cases h_)
  obtain ⟨a2, h_⟩ := h_
  cases h_
  refine pw_kn 13 220 rfl rfl ?_
  refine cn_asc (bX8 G q1 a2) ?_
  refine cn_aast (p := 0) (pk := 1) dX2_init_36 rfl rfl (vp_in_nI (n := 0) (by decide) (by decide)) ([(q0, .inl (G.2.2.2.2, 4, .inr (.inr (.inr (.inr (va_up (fun _ => none) (nI 0).toNatClampNeg (some q1)))))))] ++ bX8 G q1 a2) rfl ?_
  refine pw_iinc dX2_init_37 rfl (by decide) ?_
  refine pw_lk [(0, .ref o), (1, .int (nI 1))] ⟨rfl, congrArg (fun x => some (Value.int x)) (nI_1 0), trivial⟩ ?_
  refine pw_goto (tgt := 19) dX2_init_40 (by decide) ?_
  refine pw_iload_n dX2_init_19 rfl ?_
  refine pw_iconst (v := 4) dX2_init_20 rfl ?_
  refine pw_icmp_ge 43 dX2_init_21 (by decide) (fun c_ => absurd c_ (by decide)) (fun c_ => ?_)
  refine pw_aload_n dX2_init_24 rfl ?_
  refine cn_get dX2_init_25 fp_RX2_17.FL (v := .ref q0) rfl ?_
  refine pw_iload_n dX2_init_28 rfl ?_
  refine pw_new (ci := 8) (fs := [.null, .null]) tyX8 tyX8_ok dX2_init_29 rfl inW8 cl_RX2_15 is_RX8 ini_RX8 (fun j hj => match j, hj with | 0, _ => rfl | 1, _ => rfl | j + 2, h => absurd h (by omega)) (Nat.le_of_ble_eq_true rfl) (Nat.le_of_ble_eq_true rfl) (fun q3 => ?_)
  refine pw_kn 14 222 rfl rfl ?_
  refine pw_dup dX2_init_32 rfl ?_
  refine pw_callI (mi' := mX8_init) (As := []) dX2_init_33 lk_RX2_21 mk_X8_init mi_X8_init rfl rfl ⟨by decide, by decide⟩ rfl rfl (Nat.le_of_ble_eq_true rfl) (x_init8  q3) ⟨Nat.le_of_ble_eq_true rfl, Nat.le_of_ble_eq_true rfl⟩ (fun v ws_ h_ => ?_) (fun E ws_ h_ => by obtain ⟨a_, h_⟩ := h_; cases h_)
  obtain ⟨a4, h_⟩ := h_
  cases h_
  refine pw_kn 25 436 rfl rfl ?_
  refine cn_asc (bX8 G q3 a4) ?_
  refine cn_aast (p := 0) (pk := 13) dX2_init_36 rfl rfl (vp_in_nI (n := 1) (by decide) (by decide)) (([(q0, .inl (G.2.2.2.2, 4, .inr (.inr (.inr (.inr (va_up (va_up (fun _ => none) (nI 0).toNatClampNeg (some q1)) (nI 1).toNatClampNeg (some q3)))))))] ++ bX8 G q1 a2) ++ bX8 G q3 a4) rfl ?_
  refine pw_iinc dX2_init_37 rfl (by decide) ?_
  refine pw_lk [(0, .ref o), (1, .int (nI 2))] ⟨rfl, congrArg (fun x => some (Value.int x)) (nI_1 1), trivial⟩ ?_
  refine pw_goto (tgt := 19) dX2_init_40 (by decide) ?_
  refine pw_iload_n dX2_init_19 rfl ?_
  refine pw_iconst (v := 4) dX2_init_20 rfl ?_
  refine pw_icmp_ge 43 dX2_init_21 (by decide) (fun c_ => absurd c_ (by decide)) (fun c_ => ?_)
  refine pw_aload_n dX2_init_24 rfl ?_
  refine cn_get dX2_init_25 fp_RX2_17.FL (v := .ref q0) rfl ?_
  refine pw_iload_n dX2_init_28 rfl ?_
  refine pw_new (ci := 8) (fs := [.null, .null]) tyX8 tyX8_ok dX2_init_29 rfl inW8 cl_RX2_15 is_RX8 ini_RX8 (fun j hj => match j, hj with | 0, _ => rfl | 1, _ => rfl | j + 2, h => absurd h (by omega)) (Nat.le_of_ble_eq_true rfl) (Nat.le_of_ble_eq_true rfl) (fun q5 => ?_)
  refine pw_kn 26 438 rfl rfl ?_
  refine pw_dup dX2_init_32 rfl ?_
  refine pw_callI (mi' := mX8_init) (As := []) dX2_init_33 lk_RX2_21 mk_X8_init mi_X8_init rfl rfl ⟨by decide, by decide⟩ rfl rfl (Nat.le_of_ble_eq_true rfl) (x_init8  q5) ⟨Nat.le_of_ble_eq_true rfl, Nat.le_of_ble_eq_true rfl⟩ (fun v ws_ h_ => ?_) (fun E ws_ h_ => by obtain ⟨a_, h_⟩ := h_; cases h_)
  obtain ⟨a6, h_⟩ := h_
  cases h_
  refine pw_kn 37 652 rfl rfl ?_
  refine cn_asc (bX8 G q5 a6) ?_
  refine cn_aast (p := 0) (pk := 25) dX2_init_36 rfl rfl (vp_in_nI (n := 2) (by decide) (by decide)) ((([(q0, .inl (G.2.2.2.2, 4, .inr (.inr (.inr (.inr (va_up (va_up (va_up (fun _ => none) (nI 0).toNatClampNeg (some q1)) (nI 1).toNatClampNeg (some q3)) (nI 2).toNatClampNeg (some q5)))))))] ++ bX8 G q1 a2) ++ bX8 G q3 a4) ++ bX8 G q5 a6) rfl ?_
  refine pw_iinc dX2_init_37 rfl (by decide) ?_
  refine pw_lk [(0, .ref o), (1, .int (nI 3))] ⟨rfl, congrArg (fun x => some (Value.int x)) (nI_1 2), trivial⟩ ?_
  refine pw_goto (tgt := 19) dX2_init_40 (by decide) ?_
  refine pw_iload_n dX2_init_19 rfl ?_
  refine pw_iconst (v := 4) dX2_init_20 rfl ?_
  refine pw_icmp_ge 43 dX2_init_21 (by decide) (fun c_ => absurd c_ (by decide)) (fun c_ => ?_)
  refine pw_aload_n dX2_init_24 rfl ?_
  refine cn_get dX2_init_25 fp_RX2_17.FL (v := .ref q0) rfl ?_
  refine pw_iload_n dX2_init_28 rfl ?_
  refine pw_new (ci := 8) (fs := [.null, .null]) tyX8 tyX8_ok dX2_init_29 rfl inW8 cl_RX2_15 is_RX8 ini_RX8 (fun j hj => match j, hj with | 0, _ => rfl | 1, _ => rfl | j + 2, h => absurd h (by omega)) (Nat.le_of_ble_eq_true rfl) (Nat.le_of_ble_eq_true rfl) (fun q7 => ?_)
  refine pw_kn 38 654 rfl rfl ?_
  refine pw_dup dX2_init_32 rfl ?_
  refine pw_callI (mi' := mX8_init) (As := []) dX2_init_33 lk_RX2_21 mk_X8_init mi_X8_init rfl rfl ⟨by decide, by decide⟩ rfl rfl (Nat.le_of_ble_eq_true rfl) (x_init8  q7) ⟨Nat.le_of_ble_eq_true rfl, Nat.le_of_ble_eq_true rfl⟩ (fun v ws_ h_ => ?_) (fun E ws_ h_ => by obtain ⟨a_, h_⟩ := h_; cases h_)
  obtain ⟨a8, h_⟩ := h_
  cases h_
  refine pw_kn 49 868 rfl rfl ?_
  refine cn_asc (bX8 G q7 a8) ?_
  refine cn_aast (p := 0) (pk := 37) dX2_init_36 rfl rfl (vp_in_nI (n := 3) (by decide) (by decide)) (((([(q0, .inl (G.2.2.2.2, 4, .inr (.inr (.inr (.inr (va_up (va_up (va_up (va_up (fun _ => none) (nI 0).toNatClampNeg (some q1)) (nI 1).toNatClampNeg (some q3)) (nI 2).toNatClampNeg (some q5)) (nI 3).toNatClampNeg (some q7)))))))] ++ bX8 G q1 a2) ++ bX8 G q3 a4) ++ bX8 G q5 a6) ++ bX8 G q7 a8) rfl ?_
  refine pw_iinc dX2_init_37 rfl (by decide) ?_
  refine pw_lk [(0, .ref o), (1, .int (nI 4))] ⟨rfl, congrArg (fun x => some (Value.int x)) (nI_1 3), trivial⟩ ?_
  refine pw_goto (tgt := 19) dX2_init_40 (by decide) ?_
  refine pw_iload_n dX2_init_19 rfl ?_
  refine pw_iconst (v := 4) dX2_init_20 rfl ?_
  refine pw_icmp_ge 43 dX2_init_21 (by decide) (fun c_ => ?_) (fun c_ => absurd (by decide) c_)
  refine cn_cg (g := fun j => some (sl4 q1 q3 q5 q7 j)) (fun j hj => by rcases (show j = 0 ∨ j = 1 ∨ j = 2 ∨ j = 3 by omega) with rfl | rfl | rfl | rfl <;> rfl) ?_
  exact pw_vret rfl dX2_init_43 (Nat.le_of_ble_eq_true rfl) (Nat.le_of_ble_eq_true rfl) ⟨fun i => ([q0, q1, a2 0, a2 1, a2 2, a2 3, a2 4, a2 5, a2 6, a2 7, a2 8, a2 9, a2 10, q3, a4 0, a4 1, a4 2, a4 3, a4 4, a4 5, a4 6, a4 7, a4 8, a4 9, a4 10, q5, a6 0, a6 1, a6 2, a6 3, a6 4, a6 5, a6 6, a6 7, a6 8, a6 9, a6 10, q7, a8 0, a8 1, a8 2, a8 3, a8 4, a8 5, a8 6, a8 7, a8 8, a8 9, a8 10] : List Nat).getD i 0, rfl⟩
end XI
