/-! worlds by a layout: the cells by their number; what they hold, a state -/
abbrev LK1 : Type := Nat ⊕ (Nat × Nat)
abbrev Lay : Type := List LK1 × (Nat → List Nat) × (Nat → Nat → Nat)
abbrev St : Type := (Nat → Nat → Int32) × (Nat → Nat → Int64) × (Nat → Nat → Int32) × (Nat → Nat → Int64) × (Nat → Nat → Nat)
def fv1 (adr : Nat → Nat) (Λ : Lay) (σ : St) (id t j : Nat) : Value := match t with
  | 0 => .int (σ.1 id j)
  | 1 => .long (σ.2.1 id j)
  | _ => .ref (adr (Λ.2.2 id j))
def fvL (adr : Nat → Nat) (Λ : Lay) (σ : St) (id : Nat) : List Nat → Nat → List Value
  | [], _ => []
  | t :: ts, j => fv1 adr Λ σ id t j :: fvL adr Λ σ id ts (j + 1)
def cellE (G : cxG) (adr : Nat → Nat) (Λ : Lay) (σ : St) (id : Nat) (x : LK1) : va_E := match x with
  | .inl ci => .inr (ci, fvL adr Λ σ id (Λ.2.1 ci) 0)
  | .inr (0, len) => .inl (G.2.1, len, .inl (σ.2.2.1 id))
  | .inr (1, len) => .inl (G.2.2.1, len, .inr (.inl (σ.2.2.2.1 id)))
  | .inr (2, len) => .inl (G.2.2.2.1, len, .inl (σ.2.2.1 id))
  | .inr (_, len) => .inl (G.2.2.2.2, len, .inr (.inr (.inr (.inr (fun j => some (adr (σ.2.2.2.2 id j)))))))
def cellsE (G : cxG) (adr : Nat → Nat) (Λ : Lay) (σ : St) : List LK1 → Nat → va_W
  | [], _ => []
  | x :: xs, id => (adr id, cellE G adr Λ σ id x) :: cellsE G adr Λ σ xs (id + 1)
def wp (G : cxG) (adr : Nat → Nat) (Λ : Lay) (Lf Rt : va_W) (σ : St) : va_W := Lf ++ (cellsE G adr Λ σ Λ.1 0 ++ Rt)
def sI (σ : St) (id j : Nat) (x : Int32) : St := (fun a b => if a = id ∧ b = j then x else σ.1 a b, σ.2)
def sJ (σ : St) (id j : Nat) (x : Int64) : St := (σ.1, fun a b => if a = id ∧ b = j then x else σ.2.1 a b, σ.2.2)
def sA (σ : St) (id : Nat) (f : Nat → Int32) : St := (σ.1, σ.2.1, fun a => if a = id then f else σ.2.2.1 a, σ.2.2.2)
def sL (σ : St) (id : Nat) (f : Nat → Int64) : St := (σ.1, σ.2.1, σ.2.2.1, fun a => if a = id then f else σ.2.2.2.1 a, σ.2.2.2.2)
def sS (σ : St) (id : Nat) (f : Nat → Nat) : St := (σ.1, σ.2.1, σ.2.2.1, σ.2.2.2.1, fun a => if a = id then f else σ.2.2.2.2 a)
theorem fvL_at {adr : Nat → Nat} {Λ : Lay} {σ : St} {id : Nat} (ts : List Nat) : ∀ (j0 j : Nat), (fvL adr Λ σ id ts j0)[j]? = (ts[j]?).map (fun t => fv1 adr Λ σ id t (j0 + j)) := by
  induction ts with
  | nil => intro j0 j; simp [fvL]
  | cons t ts ih =>
    intro j0 j
    cases j with
    | zero => simp [fvL]
    | succ j => simp only [fvL, List.getElem?_cons_succ]; rw [ih]; congr 2; funext t; congr 1; omega
theorem fvL_len {adr : Nat → Nat} {Λ : Lay} {σ : St} {id : Nat} (ts : List Nat) : ∀ j0 : Nat, (fvL adr Λ σ id ts j0).length = ts.length := by
  induction ts with
  | nil => intro j0; rfl
  | cons t ts ih => intro j0; simp [fvL, ih]
theorem cellsE_at {G : cxG} {adr : Nat → Nat} {Λ : Lay} {σ : St} (xs : List LK1) : ∀ (i0 i : Nat), (cellsE G adr Λ σ xs i0)[i]? = (xs[i]?).map (fun x => (adr (i0 + i), cellE G adr Λ σ (i0 + i) x)) := by
  induction xs with
  | nil => intro i0 i; simp [cellsE]
  | cons x xs ih =>
    intro i0 i
    cases i with
    | zero => simp [cellsE]
    | succ i => simp only [cellsE, List.getElem?_cons_succ]; rw [ih]; congr 2; funext x; rw [show i0 + 1 + i = i0 + (i + 1) by omega]
theorem cellsE_len {G : cxG} {adr : Nat → Nat} {Λ : Lay} {σ : St} (xs : List LK1) : ∀ i0 : Nat, (cellsE G adr Λ σ xs i0).length = xs.length := by
  induction xs with
  | nil => intro i0; rfl
  | cons x xs ih => intro i0; simp [cellsE, ih]
section Lay1
variable {G : cxG} {adr : Nat → Nat} {Λ : Lay} {Lf Rt : va_W} {σ σ' : St}
theorem wp_at {id : Nat} {x : LK1} (h : Λ.1[id]? = some x) : (wp G adr Λ Lf Rt σ)[Lf.length + id]? = some (adr id, cellE G adr Λ σ id x) := by
  unfold wp
  rw [List.getElem?_append_right (by omega), Nat.add_sub_cancel_left, List.getElem?_append_left (by rw [cellsE_len]; exact (List.getElem?_eq_some_iff.mp h).1), cellsE_at, h]
  simp
theorem wp_set {id : Nat} {x : LK1} (h : Λ.1[id]? = some x) (hj : ∀ (j : Nat) (y : LK1), j ≠ id → cellE G adr Λ σ' j y = cellE G adr Λ σ j y) {e : va_E} (he : e = cellE G adr Λ σ' id x) : (wp G adr Λ Lf Rt σ).set (Lf.length + id) (adr id, e) = wp G adr Λ Lf Rt σ' := by
  subst he
  have hl : id < Λ.1.length := (List.getElem?_eq_some_iff.mp h).1
  unfold wp
  rw [List.set_append_right _ _ (by omega), Nat.add_sub_cancel_left, List.set_append_left _ _ (by rw [cellsE_len]; exact hl)]
  congr 2
  apply List.ext_getElem?
  intro i
  rw [List.getElem?_set, cellsE_at, cellsE_at, cellsE_len]
  by_cases hi : id = i
  · subst hi
    rw [if_pos rfl, if_pos hl, h]; simp
  · rw [if_neg hi]
    cases hx : Λ.1[i]? with
    | none => rfl
    | some y => simp only [Option.map_some]; rw [hj (0 + i) y (by omega)]
theorem cellE_I {id j : Nat} {x : Int32} : ∀ (i : Nat) (y : LK1), i ≠ id → cellE G adr Λ (sI σ id j x) i y = cellE G adr Λ σ i y := by
  intro i y hi
  have hf : ∀ (ts : List Nat) (j0 : Nat), fvL adr Λ (sI σ id j x) i ts j0 = fvL adr Λ σ i ts j0 := by
    intro ts
    induction ts with
    | nil => intro j0; rfl
    | cons t ts ih =>
      intro j0
      simp only [fvL, ih]
      congr 1
      unfold fv1 sI
      split <;> simp [hi]
  rcases y with ci | ⟨t, len⟩
  · show Sum.inr _ = Sum.inr _
    rw [hf]
  · rcases t with _ | _ | _ | t <;> rfl
theorem cellE_J {id j : Nat} {x : Int64} : ∀ (i : Nat) (y : LK1), i ≠ id → cellE G adr Λ (sJ σ id j x) i y = cellE G adr Λ σ i y := by
  intro i y hi
  have hf : ∀ (ts : List Nat) (j0 : Nat), fvL adr Λ (sJ σ id j x) i ts j0 = fvL adr Λ σ i ts j0 := by
    intro ts
    induction ts with
    | nil => intro j0; rfl
    | cons t ts ih =>
      intro j0
      simp only [fvL, ih]
      congr 1
      unfold fv1 sJ
      split <;> simp [hi]
  rcases y with ci | ⟨t, len⟩
  · show Sum.inr _ = Sum.inr _
    rw [hf]
  · rcases t with _ | _ | _ | t <;> rfl
theorem cellE_A {id : Nat} {f : Nat → Int32} : ∀ (i : Nat) (y : LK1), i ≠ id → cellE G adr Λ (sA σ id f) i y = cellE G adr Λ σ i y := by
  intro i y hi
  have hf : ∀ (ts : List Nat) (j0 : Nat), fvL adr Λ (sA σ id f) i ts j0 = fvL adr Λ σ i ts j0 := by
    intro ts
    induction ts with
    | nil => intro j0; rfl
    | cons t ts ih => intro j0; simp only [fvL, ih]; congr 1
  rcases y with ci | ⟨t, len⟩
  · show Sum.inr _ = Sum.inr _
    rw [hf]
  · unfold cellE sA
    split <;> simp_all
theorem cellE_L {id : Nat} {f : Nat → Int64} : ∀ (i : Nat) (y : LK1), i ≠ id → cellE G adr Λ (sL σ id f) i y = cellE G adr Λ σ i y := by
  intro i y hi
  have hf : ∀ (ts : List Nat) (j0 : Nat), fvL adr Λ (sL σ id f) i ts j0 = fvL adr Λ σ i ts j0 := by
    intro ts
    induction ts with
    | nil => intro j0; rfl
    | cons t ts ih => intro j0; simp only [fvL, ih]; congr 1
  rcases y with ci | ⟨t, len⟩
  · show Sum.inr _ = Sum.inr _
    rw [hf]
  · unfold cellE sL
    split <;> simp_all
theorem cellE_S {id : Nat} {f : Nat → Nat} : ∀ (i : Nat) (y : LK1), i ≠ id → cellE G adr Λ (sS σ id f) i y = cellE G adr Λ σ i y := by
  intro i y hi
  have hf : ∀ (ts : List Nat) (j0 : Nat), fvL adr Λ (sS σ id f) i ts j0 = fvL adr Λ σ i ts j0 := by
    intro ts
    induction ts with
    | nil => intro j0; rfl
    | cons t ts ih => intro j0; simp only [fvL, ih]; congr 1
  rcases y with ci | ⟨t, len⟩
  · show Sum.inr _ = Sum.inr _
    rw [hf]
  · unfold cellE sS
    split <;> simp_all
theorem fvL_setI {id j : Nat} {x : Int32} (ts : List Nat) : ∀ (j0 q : Nat), j0 + q = j → ts[q]? = some 0 → (fvL adr Λ σ id ts j0).set q (.int x) = fvL adr Λ (sI σ id j x) id ts j0 := by
  induction ts with
  | nil => intro j0 q _ h; simp at h
  | cons t ts ih =>
    intro j0 q hq h
    cases q with
    | zero =>
      simp at h; subst h
      have hj : j0 = j := by omega
      subst hj
      simp only [fvL, List.set_cons_zero]
      have hf : ∀ (ts : List Nat) (j1 : Nat), j0 < j1 → fvL adr Λ σ id ts j1 = fvL adr Λ (sI σ id j0 x) id ts j1 := by
        intro ts
        induction ts with
        | nil => intro j1 _; rfl
        | cons t ts ih2 =>
          intro j1 h1
          simp only [fvL]
          rw [ih2 (j1 + 1) (by omega)]
          congr 1
          unfold fv1 sI
          split <;> simp
          intro h; omega
      rw [hf ts (j0 + 1) (by omega)]
      congr 1
      simp [fv1, sI]
    | succ q =>
      simp only [fvL, List.set_cons_succ]
      rw [ih (j0 + 1) q (by omega) (by simpa using h)]
      congr 1
      unfold fv1 sI
      split <;> simp
      intro h; omega
theorem fvL_setJ {id j : Nat} {x : Int64} (ts : List Nat) : ∀ (j0 q : Nat), j0 + q = j → ts[q]? = some 1 → (fvL adr Λ σ id ts j0).set q (.long x) = fvL adr Λ (sJ σ id j x) id ts j0 := by
  induction ts with
  | nil => intro j0 q _ h; simp at h
  | cons t ts ih =>
    intro j0 q hq h
    cases q with
    | zero =>
      simp at h; subst h
      have hj : j0 = j := by omega
      subst hj
      simp only [fvL, List.set_cons_zero]
      have hf : ∀ (ts : List Nat) (j1 : Nat), j0 < j1 → fvL adr Λ σ id ts j1 = fvL adr Λ (sJ σ id j0 x) id ts j1 := by
        intro ts
        induction ts with
        | nil => intro j1 _; rfl
        | cons t ts ih2 =>
          intro j1 h1
          simp only [fvL]
          rw [ih2 (j1 + 1) (by omega)]
          congr 1
          unfold fv1 sJ
          split <;> simp
          intro h; omega
      rw [hf ts (j0 + 1) (by omega)]
      congr 1
      simp [fv1, sJ]
    | succ q =>
      simp only [fvL, List.set_cons_succ]
      rw [ih (j0 + 1) q (by omega) (by simpa using h)]
      congr 1
      unfold fv1 sJ
      split <;> simp
      intro h; omega
end Lay1
section Lay2
variable {l : Launch} {G : cxG} {mi : MI} {w0 : va_W} {sz : Nat} {fin : OC → Prop} {pc : Nat} {lv : List (Nat × Value)} {st : List Value} {k n : Nat} {adr : Nat → Nat} {Λ : Lay} {Lf Rt : va_W} {σ : St}
theorem lp_geti {id idx ci j : Nat} (hd : decode mi.2.1 pc = .ok (.getfield idx, 3)) (hf : FL mi.1.cls idx ci j) (hk : Λ.1[id]? = some (.inl ci)) (ht : (Λ.2.1 ci)[j]? = some 0) (kk : PW l G mi w0 sz fin (pc + 3) lv (.int (σ.1 id j) :: st) k n (wp G adr Λ Lf Rt σ)) : PW l G mi w0 sz fin pc lv (.ref (adr id) :: st) k n (wp G adr Λ Lf Rt σ) :=
  pw_get hd hf (Lf.length + id) (wp_at hk) (by rw [fvL_at, ht, Nat.zero_add]; rfl) kk
theorem lp_getj {id idx ci j : Nat} (hd : decode mi.2.1 pc = .ok (.getfield idx, 3)) (hf : FL mi.1.cls idx ci j) (hk : Λ.1[id]? = some (.inl ci)) (ht : (Λ.2.1 ci)[j]? = some 1) (kk : PW l G mi w0 sz fin (pc + 3) lv (.long (σ.2.1 id j) :: st) k n (wp G adr Λ Lf Rt σ)) : PW l G mi w0 sz fin pc lv (.ref (adr id) :: st) k n (wp G adr Λ Lf Rt σ) :=
  pw_get hd hf (Lf.length + id) (wp_at hk) (by rw [fvL_at, ht, Nat.zero_add]; rfl) kk
theorem lp_getr {id idx ci j : Nat} (id' : Nat) (hd : decode mi.2.1 pc = .ok (.getfield idx, 3)) (hf : FL mi.1.cls idx ci j) (hk : Λ.1[id]? = some (.inl ci)) (ht : (Λ.2.1 ci)[j]? = some 2) (hr : Λ.2.2 id j = id') (kk : PW l G mi w0 sz fin (pc + 3) lv (.ref (adr id') :: st) k n (wp G adr Λ Lf Rt σ)) : PW l G mi w0 sz fin pc lv (.ref (adr id) :: st) k n (wp G adr Λ Lf Rt σ) :=
  pw_get hd hf (Lf.length + id) (wp_at hk) (by rw [fvL_at, ht, Nat.zero_add, ← hr]; rfl) kk
theorem lp_puti {id idx ci j : Nat} {x : Int32} {ty : FieldType} (hd : decode mi.2.1 pc = .ok (.putfield idx, 3)) (hf : FP mi.1.cls idx ci j false ty) (hk : Λ.1[id]? = some (.inl ci)) (ht : (Λ.2.1 ci)[j]? = some 0) (hn : narrow ty (.int x) = .int x) (hfit : fits ty (.int x) = true) (kk : PW l G mi w0 sz fin (pc + 3) lv st k n (wp G adr Λ Lf Rt (sI σ id j x))) : PW l G mi w0 sz fin pc lv (.int x :: .ref (adr id) :: st) k n (wp G adr Λ Lf Rt σ) := by
  refine pw_put hd hf (Lf.length + id) (wp_at hk) (by rw [fvL_len]; exact (List.getElem?_eq_some_iff.mp ht).1) hn hfit ?_
  rw [fvL_setI (j := j) _ 0 j (by omega) ht, wp_set (σ' := sI σ id j x) (e := .inr (ci, fvL adr Λ (sI σ id j x) id (Λ.2.1 ci) 0)) hk cellE_I rfl]
  exact kk
theorem lp_putj {id idx ci j : Nat} {x : Int64} (hd : decode mi.2.1 pc = .ok (.putfield idx, 3)) (hf : FP mi.1.cls idx ci j false .long) (hk : Λ.1[id]? = some (.inl ci)) (ht : (Λ.2.1 ci)[j]? = some 1) (kk : PW l G mi w0 sz fin (pc + 3) lv st k n (wp G adr Λ Lf Rt (sJ σ id j x))) : PW l G mi w0 sz fin pc lv (.long x :: .ref (adr id) :: st) k n (wp G adr Λ Lf Rt σ) := by
  refine pw_put hd hf (Lf.length + id) (wp_at hk) (by rw [fvL_len]; exact (List.getElem?_eq_some_iff.mp ht).1) rfl rfl ?_
  rw [fvL_setJ (j := j) _ 0 j (by omega) ht, wp_set (σ' := sJ σ id j x) (e := .inr (ci, fvL adr Λ (sJ σ id j x) id (Λ.2.1 ci) 0)) hk cellE_J rfl]
  exact kk
theorem lp_iald {id len : Nat} {i : Int32} (hd : decode mi.2.1 pc = .ok (.iaload, 1)) (hk : Λ.1[id]? = some (.inr (0, len))) (hin : vp_in i len) (kk : PW l G mi w0 sz fin (pc + 1) lv (.int (σ.2.2.1 id i.toNatClampNeg) :: st) k n (wp G adr Λ Lf Rt σ)) : PW l G mi w0 sz fin pc lv (.int i :: .ref (adr id) :: st) k n (wp G adr Λ Lf Rt σ) :=
  pw_iald hd (Lf.length + id) (wp_at hk) hin kk
theorem lp_lald {id len : Nat} {i : Int32} (hd : decode mi.2.1 pc = .ok (.laload, 1)) (hk : Λ.1[id]? = some (.inr (1, len))) (hin : vp_in i len) (kk : PW l G mi w0 sz fin (pc + 1) lv (.long (σ.2.2.2.1 id i.toNatClampNeg) :: st) k n (wp G adr Λ Lf Rt σ)) : PW l G mi w0 sz fin pc lv (.int i :: .ref (adr id) :: st) k n (wp G adr Λ Lf Rt σ) :=
  pw_lald hd (Lf.length + id) (wp_at hk) hin kk
theorem lp_zald {id len : Nat} {i : Int32} (hd : decode mi.2.1 pc = .ok (.baload, 1)) (hk : Λ.1[id]? = some (.inr (2, len))) (hin : vp_in i len) (kk : PW l G mi w0 sz fin (pc + 1) lv (.int (σ.2.2.1 id i.toNatClampNeg) :: st) k n (wp G adr Λ Lf Rt σ)) : PW l G mi w0 sz fin pc lv (.int i :: .ref (adr id) :: st) k n (wp G adr Λ Lf Rt σ) :=
  pw_zald hd (Lf.length + id) (wp_at hk) hin kk
theorem lp_aald {id len : Nat} {i : Int32} (hd : decode mi.2.1 pc = .ok (.aaload, 1)) (hk : Λ.1[id]? = some (.inr (3, len))) (hin : vp_in i len) (kk : PW l G mi w0 sz fin (pc + 1) lv (.ref (adr (σ.2.2.2.2 id i.toNatClampNeg)) :: st) k n (wp G adr Λ Lf Rt σ)) : PW l G mi w0 sz fin pc lv (.int i :: .ref (adr id) :: st) k n (wp G adr Λ Lf Rt σ) :=
  pw_aald hd (Lf.length + id) (wp_at hk) hin kk
theorem lp_iast {id len : Nat} {i x : Int32} (hd : decode mi.2.1 pc = .ok (.iastore, 1)) (hk : Λ.1[id]? = some (.inr (0, len))) (hin : vp_in i len) (kk : PW l G mi w0 sz fin (pc + 1) lv st k n (wp G adr Λ Lf Rt (sA σ id (upd (σ.2.2.1 id) i.toNatClampNeg x)))) : PW l G mi w0 sz fin pc lv (.int x :: .int i :: .ref (adr id) :: st) k n (wp G adr Λ Lf Rt σ) := by
  refine pw_iast hd (Lf.length + id) (wp_at hk) hin ?_
  rw [wp_set (σ' := sA σ id (upd (σ.2.2.1 id) i.toNatClampNeg x)) hk cellE_A (by simp [cellE, sA])]
  exact kk
theorem lp_zast {id len : Nat} {i x : Int32} (hd : decode mi.2.1 pc = .ok (.bastore, 1)) (hk : Λ.1[id]? = some (.inr (2, len))) (hin : vp_in i len) (hb : vp_nar .boolean x = x) (kk : PW l G mi w0 sz fin (pc + 1) lv st k n (wp G adr Λ Lf Rt (sA σ id (upd (σ.2.2.1 id) i.toNatClampNeg x)))) : PW l G mi w0 sz fin pc lv (.int x :: .int i :: .ref (adr id) :: st) k n (wp G adr Λ Lf Rt σ) := by
  refine pw_zast hd (Lf.length + id) (wp_at hk) hin ?_
  rw [hb, wp_set (σ' := sA σ id (upd (σ.2.2.1 id) i.toNatClampNeg x)) hk cellE_A (by simp [cellE, sA])]
  exact kk
theorem lp_last {id len : Nat} {i : Int32} {x : Int64} (hd : decode mi.2.1 pc = .ok (.lastore, 1)) (hk : Λ.1[id]? = some (.inr (1, len))) (hin : vp_in i len) (kk : PW l G mi w0 sz fin (pc + 1) lv st k n (wp G adr Λ Lf Rt (sL σ id (vp_updL (σ.2.2.2.1 id) i.toNatClampNeg x)))) : PW l G mi w0 sz fin pc lv (.long x :: .int i :: .ref (adr id) :: st) k n (wp G adr Λ Lf Rt σ) := by
  refine pw_last hd (Lf.length + id) (wp_at hk) hin ?_
  rw [wp_set (σ' := sL σ id (vp_updL (σ.2.2.2.1 id) i.toNatClampNeg x)) hk cellE_L (by simp [cellE, sL])]
  exact kk
theorem lp_aast {id len v : Nat} {i : Int32} (hd : decode mi.2.1 pc = .ok (.aastore, 1)) (hk : Λ.1[id]? = some (.inr (3, len))) (hv : Λ.1[v]? = some (.inl 8)) (hc : vwCl[8]? = some (RX8, TX8, 2)) (hin : vp_in i len) (kk : PW l G mi w0 sz fin (pc + 1) lv st k n (wp G adr Λ Lf Rt (sS σ id (va_up (σ.2.2.2.2 id) i.toNatClampNeg v)))) : PW l G mi w0 sz fin pc lv (.ref (adr v) :: .int i :: .ref (adr id) :: st) k n (wp G adr Λ Lf Rt σ) := by
  refine pw_aast hd (Lf.length + id) (Lf.length + v) (wp_at hk) (wp_at hv) hc hin ?_
  rw [wp_set (σ' := sS σ id (va_up (σ.2.2.2.2 id) i.toNatClampNeg v)) hk cellE_S (by
    simp only [cellE, sS, if_true]
    congr 7
    funext j
    by_cases hj : j = i.toNatClampNeg
    · simp [va_up, hj]
    · simp [va_up, hj])]
  exact kk
theorem lp_copyi {id0 id1 len0 len1 idx : Nat} {sp dp cn : Int32} (hd : decode mi.2.1 pc = .ok (.invokestatic idx, 3)) (hlk : Cond.methodLink mi.1.cls idx arraycopyName ∈ TW) (hnat : Cond.native arraycopyName ∈ TW) (hstat : Cond.static arraycopyName ∈ TW) (hini : Cond.initialized "java/lang/System" ∈ TW) (hk0 : Λ.1[id0]? = some (.inr (0, len0))) (hk1 : Λ.1[id1]? = some (.inr (0, len1)))
    (h1 : ¬ sp < 0) (h2 : ¬ dp < 0) (h3 : ¬ cn < 0) (h4 : sp.toNatClampNeg + cn.toNatClampNeg ≤ len0) (h5 : dp.toNatClampNeg + cn.toNatClampNeg ≤ len1) (hframes : 1 ≤ mi.2.2.2.2.frames) (hlocals : (st.map fun v => v.category).sum + (nativeFrameWords "java/lang/System" "arraycopy" 5 + 11) ≤ mi.2.2.2.2.locals)
    (kk : PW l G mi w0 sz fin (pc + 3) lv st k n (wp G adr Λ Lf Rt (sA σ id1 (va_cpy (σ.2.2.1 id0) (σ.2.2.1 id1) sp.toNatClampNeg dp.toNatClampNeg cn.toNatClampNeg)))) : PW l G mi w0 sz fin pc lv (.int cn :: .int dp :: .ref (adr id1) :: .int sp :: .ref (adr id0) :: st) k n (wp G adr Λ Lf Rt σ) := by
  refine pw_copyi hd hlk hnat hstat hini (Lf.length + id0) (Lf.length + id1) (wp_at hk0) (wp_at hk1) h1 h2 h3 h4 h5 hframes hlocals ?_
  rw [wp_set (σ' := sA σ id1 (va_cpy (σ.2.2.1 id0) (σ.2.2.1 id1) sp.toNatClampNeg dp.toNatClampNeg cn.toNatClampNeg)) hk1 cellE_A (by simp [cellE, sA])]
  exact kk
/-- a call that returns v -/
def SpecD (l : Launch) (G : cxG) (mi : MI) (As : List Value) (ws : va_W) (r : Option Value) (ws1 : va_W) : Prop := Spec l G mi As ws (fun o => o = .inl (r, ws1))
/-- a call that throws -/
def SpecT (l : Launch) (G : cxG) (mi : MI) (As : List Value) (ws : va_W) (E : String) (ws1 : va_W) : Prop := Spec l G mi As ws (fun o => o = .inr (E, ws1))
def No0 (mi : MI) : Prop := mi.2.2.2.2.cells = 0 ∧ mi.2.2.2.2.slots = 0
theorem lp_cV {mi' : MI} {As : List Value} {ci id idx na : Nat} {q : vw_C} {stk : List Value} {r : Option Value} {ws1 : va_W} (hd : decode mi.2.1 pc = .ok (.invokevirtual idx, 3)) (hlk : LK mi.1.cls idx mi'.1) (hm : MK mi' na) (hi : Cond.instanceMethod mi'.1 ∈ TW) (hse : Cond.selects q.1 mi'.1 mi'.1 ∈ TW) (hr : RMok mi mi') (hn : As.length = na) (hst : stk = As.reverse ++ .ref (adr id) :: st) (hcat : (st.map fun v => v.category).sum ≤ 8) (hk : Λ.1[id]? = some (.inl ci)) (hc : vwCl[ci]? = some q) (h0 : No0 mi') (hroom : k ≤ mi.2.2.2.2.cells ∧ n ≤ mi.2.2.2.2.slots) (hsp : SpecD l G mi' (.ref (adr id) :: As) (wp G adr Λ Lf Rt σ) r ws1)
    (kk : PW l G mi w0 sz fin (pc + 3) lv (r.toList ++ st) k n ws1) : PW l G mi w0 sz fin pc lv stk k n (wp G adr Λ Lf Rt σ) := by
  refine pw_callV hd hlk hm hi hse hr hn hst hcat (Lf.length + id) (wp_at hk) hc hsp (by rw [h0.1, h0.2]; exact hroom) ?_ (fun E ws' h => by cases h)
  intro v ws' h
  cases h
  rw [h0.1, h0.2]
  exact kk
theorem lp_cS {mi' : MI} {As : List Value} {idx na : Nat} {stk : List Value} {r : Option Value} {ws ws1 : va_W} (hd : decode mi.2.1 pc = .ok (.invokestatic idx, 3)) (hlk : LK mi.1.cls idx mi'.1) (hm : MK mi' na) (hi : Cond.static mi'.1 ∈ TW) (hr : RMok mi mi') (hn : As.length = na) (hst : stk = As.reverse ++ st) (hcat : (st.map fun v => v.category).sum ≤ 8) (h0 : No0 mi') (hroom : k ≤ mi.2.2.2.2.cells ∧ n ≤ mi.2.2.2.2.slots) (hsp : SpecD l G mi' As ws r ws1)
    (kk : PW l G mi w0 sz fin (pc + 3) lv (r.toList ++ st) k n ws1) : PW l G mi w0 sz fin pc lv stk k n ws := by
  refine pw_callS hd hlk hm hi hr hn hst hcat hsp (by rw [h0.1, h0.2]; exact hroom) ?_ (fun E ws' h => by cases h)
  intro v ws' h
  cases h
  rw [h0.1, h0.2]
  exact kk
theorem lp_cV1 {mi' : MI} {As : List Value} {ci id idx na : Nat} {q : vw_C} {stk : List Value} {v : Value} {ws1 : va_W} (hd : decode mi.2.1 pc = .ok (.invokevirtual idx, 3)) (hlk : LK mi.1.cls idx mi'.1) (hm : MK mi' na) (hi : Cond.instanceMethod mi'.1 ∈ TW) (hse : Cond.selects q.1 mi'.1 mi'.1 ∈ TW) (hr : RMok mi mi') (hn : As.length = na) (hst : stk = As.reverse ++ .ref (adr id) :: st) (hcat : (st.map fun v => v.category).sum ≤ 8) (hk : Λ.1[id]? = some (.inl ci)) (hc : vwCl[ci]? = some q) (h0 : No0 mi') (hroom : k ≤ mi.2.2.2.2.cells ∧ n ≤ mi.2.2.2.2.slots) (hsp : SpecD l G mi' (.ref (adr id) :: As) (wp G adr Λ Lf Rt σ) (some v) ws1)
    (kk : PW l G mi w0 sz fin (pc + 3) lv (v :: st) k n ws1) : PW l G mi w0 sz fin pc lv stk k n (wp G adr Λ Lf Rt σ) := lp_cV hd hlk hm hi hse hr hn hst hcat hk hc h0 hroom hsp kk
theorem lp_cV0 {mi' : MI} {As : List Value} {ci id idx na : Nat} {q : vw_C} {stk : List Value} {ws1 : va_W} (hd : decode mi.2.1 pc = .ok (.invokevirtual idx, 3)) (hlk : LK mi.1.cls idx mi'.1) (hm : MK mi' na) (hi : Cond.instanceMethod mi'.1 ∈ TW) (hse : Cond.selects q.1 mi'.1 mi'.1 ∈ TW) (hr : RMok mi mi') (hn : As.length = na) (hst : stk = As.reverse ++ .ref (adr id) :: st) (hcat : (st.map fun v => v.category).sum ≤ 8) (hk : Λ.1[id]? = some (.inl ci)) (hc : vwCl[ci]? = some q) (h0 : No0 mi') (hroom : k ≤ mi.2.2.2.2.cells ∧ n ≤ mi.2.2.2.2.slots) (hsp : SpecD l G mi' (.ref (adr id) :: As) (wp G adr Λ Lf Rt σ) none ws1)
    (kk : PW l G mi w0 sz fin (pc + 3) lv st k n ws1) : PW l G mi w0 sz fin pc lv stk k n (wp G adr Λ Lf Rt σ) := lp_cV hd hlk hm hi hse hr hn hst hcat hk hc h0 hroom hsp kk
theorem lp_cS1 {mi' : MI} {As : List Value} {idx na : Nat} {stk : List Value} {v : Value} {ws ws1 : va_W} (hd : decode mi.2.1 pc = .ok (.invokestatic idx, 3)) (hlk : LK mi.1.cls idx mi'.1) (hm : MK mi' na) (hi : Cond.static mi'.1 ∈ TW) (hr : RMok mi mi') (hn : As.length = na) (hst : stk = As.reverse ++ st) (hcat : (st.map fun v => v.category).sum ≤ 8) (h0 : No0 mi') (hroom : k ≤ mi.2.2.2.2.cells ∧ n ≤ mi.2.2.2.2.slots) (hsp : SpecD l G mi' As ws (some v) ws1)
    (kk : PW l G mi w0 sz fin (pc + 3) lv (v :: st) k n ws1) : PW l G mi w0 sz fin pc lv stk k n ws := lp_cS hd hlk hm hi hr hn hst hcat h0 hroom hsp kk
theorem lp_cS0 {mi' : MI} {As : List Value} {idx na : Nat} {stk : List Value} {ws ws1 : va_W} (hd : decode mi.2.1 pc = .ok (.invokestatic idx, 3)) (hlk : LK mi.1.cls idx mi'.1) (hm : MK mi' na) (hi : Cond.static mi'.1 ∈ TW) (hr : RMok mi mi') (hn : As.length = na) (hst : stk = As.reverse ++ st) (hcat : (st.map fun v => v.category).sum ≤ 8) (h0 : No0 mi') (hroom : k ≤ mi.2.2.2.2.cells ∧ n ≤ mi.2.2.2.2.slots) (hsp : SpecD l G mi' As ws none ws1)
    (kk : PW l G mi w0 sz fin (pc + 3) lv st k n ws1) : PW l G mi w0 sz fin pc lv stk k n ws := lp_cS hd hlk hm hi hr hn hst hcat h0 hroom hsp kk
end Lay2
theorem pw_ws {l : Launch} {G : cxG} {mi : MI} {w0 : va_W} {sz : Nat} {fin : OC → Prop} {pc : Nat} {lv : List (Nat × Value)} {st : List Value} {k n : Nat} {ws ws' : va_W} (h : ws = ws') (kk : PW l G mi w0 sz fin pc lv st k n ws') : PW l G mi w0 sz fin pc lv st k n ws := by rw [h]; exact kk
theorem pw_st {l : Launch} {G : cxG} {mi : MI} {w0 : va_W} {sz : Nat} {fin : OC → Prop} {pc : Nat} {lv : List (Nat × Value)} {st : List Value} {k n : Nat} {adr : Nat → Nat} {Λ : Lay} {Lf Rt : va_W} {σ σ' : St} (h : σ = σ') (kk : PW l G mi w0 sz fin pc lv st k n (wp G adr Λ Lf Rt σ')) : PW l G mi w0 sz fin pc lv st k n (wp G adr Λ Lf Rt σ) := by rw [h]; exact kk
theorem pw_top {l : Launch} {G : cxG} {mi : MI} {w0 : va_W} {sz : Nat} {fin : OC → Prop} {pc : Nat} {lv : List (Nat × Value)} {st : List Value} {k n : Nat} {ws : va_W} {x : Int32} (y : Int32) (h : x = y) (kk : PW l G mi w0 sz fin pc lv (.int y :: st) k n ws) : PW l G mi w0 sz fin pc lv (.int x :: st) k n ws := by rw [h]; exact kk
theorem pw_topl {l : Launch} {G : cxG} {mi : MI} {w0 : va_W} {sz : Nat} {fin : OC → Prop} {pc : Nat} {lv : List (Nat × Value)} {st : List Value} {k n : Nat} {ws : va_W} {x : Int64} (y : Int64) (h : x = y) (kk : PW l G mi w0 sz fin pc lv (.long y :: st) k n ws) : PW l G mi w0 sz fin pc lv (.long x :: st) k n ws := by rw [h]; exact kk
def lvOK (lv : List (Nat × Value)) : List (Nat × Value) → Prop
  | [] => True
  | q :: r => lvG lv q.1 = some q.2 ∧ lvOK lv r
theorem lvOK_all {lv : List (Nat × Value)} : ∀ {lv' : List (Nat × Value)}, lvOK lv lv' → ∀ q ∈ lv', lvG lv q.1 = some q.2
  | [], _, q, hq => absurd hq List.not_mem_nil
  | a :: r, h, q, hq => by
    rcases List.mem_cons.mp hq with e | e
    · rw [e]; exact h.1
    · exact lvOK_all h.2 q e
theorem pw_lk {l : Launch} {G : cxG} {mi : MI} {w0 : va_W} {sz : Nat} {fin : OC → Prop} {pc : Nat} {lv : List (Nat × Value)} {st : List Value} {k n : Nat} {ws : va_W} (lv' : List (Nat × Value)) (h : lvOK lv lv') (kk : PW l G mi w0 sz fin pc lv' st k n ws) : PW l G mi w0 sz fin pc lv st k n ws := pw_lv (lvOK_all h) kk
theorem sA_sA (σ : St) (id : Nat) (f g : Nat → Int32) : sA (sA σ id f) id g = sA σ id g := by
  unfold sA; congr 3; funext a; by_cases h : a = id <;> simp [h]
theorem sL_sL (σ : St) (id : Nat) (f g : Nat → Int64) : sL (sL σ id f) id g = sL σ id g := by
  unfold sL; congr 4; funext a; by_cases h : a = id <;> simp [h]
theorem sI_sI (σ : St) (id j : Nat) (x y : Int32) : sI (sI σ id j x) id j y = sI σ id j y := by
  unfold sI; congr 1; funext a b; by_cases h : a = id ∧ b = j <;> simp [h]
theorem sA_self (σ : St) (id : Nat) : sA σ id (σ.2.2.1 id) = σ := by
  unfold sA
  have e : (fun a => if a = id then σ.2.2.1 id else σ.2.2.1 a) = σ.2.2.1 := by funext a; by_cases h : a = id <;> simp [h]
  rw [e]
theorem sL_self (σ : St) (id : Nat) : sL σ id (σ.2.2.2.1 id) = σ := by
  unfold sL
  have e : (fun a => if a = id then σ.2.2.2.1 id else σ.2.2.2.1 a) = σ.2.2.2.1 := by funext a; by_cases h : a = id <;> simp [h]
  rw [e]
theorem sI_self (σ : St) (id j : Nat) : sI σ id j (σ.1 id j) = σ := by
  unfold sI
  have e : (fun a b => if a = id ∧ b = j then σ.1 id j else σ.1 a b) = σ.1 := by funext a b; by_cases h : a = id ∧ b = j <;> simp [h]
  rw [e]
theorem sA_sI (σ : St) (id j i : Nat) (x : Int32) (f : Nat → Int32) : sA (sI σ id j x) i f = sI (sA σ i f) id j x := rfl
/-- a call that returns: what holds of the answer and of the state behind it -/
def SpR0 (l : Launch) (G : cxG) (mi : MI) (As : List Value) (adr : Nat → Nat) (Λ : Lay) (Lf Rt : va_W) (σ : St) (Q : St → Prop) : Prop := Spec l G mi As (wp G adr Λ Lf Rt σ) (fun o => ∃ σ', o = .inl (none, wp G adr Λ Lf Rt σ') ∧ Q σ')
def SpR1 (l : Launch) (G : cxG) (mi : MI) (As : List Value) (adr : Nat → Nat) (Λ : Lay) (Lf Rt : va_W) (σ : St) (Q : Value → St → Prop) : Prop := Spec l G mi As (wp G adr Λ Lf Rt σ) (fun o => ∃ v σ', o = .inl (some v, wp G adr Λ Lf Rt σ') ∧ Q v σ')
section Lay3
variable {l : Launch} {G : cxG} {mi : MI} {w0 : va_W} {sz : Nat} {fin : OC → Prop} {pc : Nat} {lv : List (Nat × Value)} {st : List Value} {k n : Nat} {adr : Nat → Nat} {Λ : Lay} {Lf Rt : va_W} {σ : St}
theorem lp_rV1 {mi' : MI} {As : List Value} {ci id idx na : Nat} {q : vw_C} {stk : List Value} {Q : Value → St → Prop} (hd : decode mi.2.1 pc = .ok (.invokevirtual idx, 3)) (hlk : LK mi.1.cls idx mi'.1) (hm : MK mi' na) (hi : Cond.instanceMethod mi'.1 ∈ TW) (hse : Cond.selects q.1 mi'.1 mi'.1 ∈ TW) (hr : RMok mi mi') (hn : As.length = na) (hst : stk = As.reverse ++ .ref (adr id) :: st) (hcat : (st.map fun v => v.category).sum ≤ 8) (hk : Λ.1[id]? = some (.inl ci)) (hc : vwCl[ci]? = some q) (h0 : No0 mi') (hroom : k ≤ mi.2.2.2.2.cells ∧ n ≤ mi.2.2.2.2.slots) (hsp : SpR1 l G mi' (.ref (adr id) :: As) adr Λ Lf Rt σ Q)
    (kk : ∀ v σ', Q v σ' → PW l G mi w0 sz fin (pc + 3) lv (v :: st) k n (wp G adr Λ Lf Rt σ')) : PW l G mi w0 sz fin pc lv stk k n (wp G adr Λ Lf Rt σ) := by
  refine pw_callV hd hlk hm hi hse hr hn hst hcat (Lf.length + id) (wp_at hk) hc hsp (by rw [h0.1, h0.2]; exact hroom) ?_ (fun E ws' h => by obtain ⟨v, σ', h, -⟩ := h; cases h)
  intro v ws' h
  obtain ⟨v1, σ', h, hQ⟩ := h
  cases h
  rw [h0.1, h0.2]
  exact kk v1 σ' hQ
theorem lp_rV0 {mi' : MI} {As : List Value} {ci id idx na : Nat} {q : vw_C} {stk : List Value} {Q : St → Prop} (hd : decode mi.2.1 pc = .ok (.invokevirtual idx, 3)) (hlk : LK mi.1.cls idx mi'.1) (hm : MK mi' na) (hi : Cond.instanceMethod mi'.1 ∈ TW) (hse : Cond.selects q.1 mi'.1 mi'.1 ∈ TW) (hr : RMok mi mi') (hn : As.length = na) (hst : stk = As.reverse ++ .ref (adr id) :: st) (hcat : (st.map fun v => v.category).sum ≤ 8) (hk : Λ.1[id]? = some (.inl ci)) (hc : vwCl[ci]? = some q) (h0 : No0 mi') (hroom : k ≤ mi.2.2.2.2.cells ∧ n ≤ mi.2.2.2.2.slots) (hsp : SpR0 l G mi' (.ref (adr id) :: As) adr Λ Lf Rt σ Q)
    (kk : ∀ σ', Q σ' → PW l G mi w0 sz fin (pc + 3) lv st k n (wp G adr Λ Lf Rt σ')) : PW l G mi w0 sz fin pc lv stk k n (wp G adr Λ Lf Rt σ) := by
  refine pw_callV hd hlk hm hi hse hr hn hst hcat (Lf.length + id) (wp_at hk) hc hsp (by rw [h0.1, h0.2]; exact hroom) ?_ (fun E ws' h => by obtain ⟨σ', h, -⟩ := h; cases h)
  intro v ws' h
  obtain ⟨σ', h, hQ⟩ := h
  cases h
  rw [h0.1, h0.2]
  exact kk σ' hQ
end Lay3
def bI (b : Bool) : Int32 := bif b then 1 else 0
theorem bI_0 {b : Bool} (h : bI b = 0) : b = false := by cases b <;> first | rfl | (revert h; decide)
theorem bI_n {b : Bool} (h : ¬ bI b = 0) : b = true := by cases b <;> first | rfl | exact absurd rfl h
theorem bI_1 {b : Bool} (h : b = true) : bI b = 1 := by rw [h]; rfl
theorem bI_f {b : Bool} (h : b = false) : bI b = 0 := by rw [h]; rfl
theorem fin_b0 {P : Prop} [Decidable P] {ws : va_W} (h : ¬ P) : (Sum.inl (some (.int 0), ws) : OC) = .inl (some (.int (bI (decide P))), ws) := by rw [decide_eq_false h]; rfl
theorem fin_b1 {P : Prop} [Decidable P] {ws : va_W} (h : P) : (Sum.inl (some (.int 1), ws) : OC) = .inl (some (.int (bI (decide P))), ws) := by rw [decide_eq_true h]; rfl
theorem bI_nar {b : Bool} : narrow .boolean (.int (bI b)) = .int (bI b) := by cases b <;> rfl
