/-! THE LAYER: one judgement PW for a method's frame over a world (a list of cells), all that the machine needs hidden in it -/
abbrev MI : Type := MethodName × ByteArray × Nat × Option FieldType × Room
abbrev cxG : Type := va_G × ClassId × ClassId × ClassId × ClassId
abbrev OC : Type := (Option Value × va_W) ⊕ (String × va_W)
def tysG (G : cxG) : List (ClassId × FieldType) := [(G.2.1, .int), (G.2.2.1, .long), (G.2.2.2.1, .boolean), (G.2.2.2.2, .object RX8)]
def nestW (w : Cond) : Bool := match w with
  | .fieldLinkNest .. => true
  | .methodLinkNest .. => true
  | .castable .. => true
  | .declares .. => true
  | _ => false
def tWord (w : Cond) : Bool := goodWord w || nestW w
def TW : List Cond := lw_tbl.filter tWord
def exL : List String := ["java/lang/IllegalArgumentException", "java/lang/IllegalStateException", "java/lang/IndexOutOfBoundsException"]
/-- the tables' words; the class of rows of situations; none of the three exceptions is another one -/
def TWs (U : State) : Prop := (∀ w ∈ TW, va_Nw w U) ∧ va_AO RX8 U ∧ ∀ C ∈ exL, ∀ T ∈ exL, C ≠ T → va_Nc C T U
theorem tw_in {w : Cond} (i : Nat) (h : lw_tbl[i]? = some w) (hg : tWord w = true) : w ∈ TW := List.mem_filter.mpr ⟨List.mem_of_getElem? h, hg⟩
theorem tw_warm {w : Cond} (h : tWord w = true) {s U : State} {A a' : Array Value} (hW : s.WarmedH U.vm) (hZ : w.before A s = true) : w.before a' U = true := by
  unfold tWord at h
  rw [Bool.or_eq_true] at h
  rcases h with h | h
  · exact word_at hW (good_of_word h) hZ
  · cases w <;> first | (exact va_Nw.use rfl (va_Nw.warmF hW (va_Nw.of rfl hZ))) | (exact va_Nw.use rfl (va_Nw.warmM hW (va_Nw.of rfl hZ))) | (exact va_Nw.use rfl (va_Nw.warmC hW (va_Nw.of rfl hZ))) | (exact va_Nw.use rfl (va_Nw.warmD hW (va_Nw.of rfl hZ))) | (exfalso; revert h; simp [nestW]; done)
theorem TWs.use {U : State} (h : TWs U) {w : Cond} (hw : w ∈ TW) {A : Array Value} : w.before A U = true := tw_warm (List.mem_filter.mp hw).2 (State.WarmedH.refl U) (h.1 w hw)
theorem TWs.warm {s U : State} (h : TWs s) (hW : s.WarmedH U.vm) : TWs U := ⟨fun w hw => tw_warm (List.mem_filter.mp hw).2 hW (h.1 w hw), h.2.1.moved hW.alike, fun C hC T hT hn => (h.2.2 C hC T hT hn).moved hW.alike⟩
def Ev (A : Nat → Prop) (U : State) (H : Heap) : Prop := TWs U ∧ (∀ q ∈ strL, ∃ a, vk_R q.1 q.2.1 q.2.2 a U) ∧ vx_Zq Bundle.tN "UNASSIGNED_STACK" Bundle.steD A U H ∧ vx_Zq Bundle.tN "SUPPRESSED_SENTINEL" Bundle.listD A U H
theorem Ev.go {A B : Nat → Prop} {s U : State} {H : Heap} {locs : List Loc} (h : Ev A s s.heap) (hW : s.WarmedH U.vm) (hS : va_S A s.heap H locs) (hB : ∀ q, B q → A q) : Ev B U H :=
  ⟨h.1.warm hW, fun q hq => (h.2.1 q hq).imp fun a ha => ha.warm hW, ((h.2.2.1.moved hW.alike).kept hS.2.1).narrow hB, ((h.2.2.2.moved hW.alike).kept hS.2.1).narrow hB⟩
def Fx (G : cxG) (mi : MI) (A : Nat → Prop) (p : Program) (s : State) (m : MethodId) (meth : Method) (c : Code) : Prop :=
  p.tables.exec = Jvm.exec ∧ c.code = mi.2.1 ∧ c.maxLocals = mi.2.2.1 ∧ meth.sig.returnType = mi.2.2.2.1 ∧ meth.locks = false ∧ s.vm.findClass mi.1.cls = some m.cls ∧ (∀ x ∈ c.exceptionTable.toList, False) ∧ va_K G.1 vwCl (tysG G) s ∧ Ev A s s.heap ∧ meth.name = mi.1.name
def QcM (G : cxG) (fin : OC → Prop) (A : Nat → Prop) : Array Value → State → Outcome → State → Prop := fun _ st oc t => ∃ (v : Option Value) (ws : va_W), oc = .returned v ∧ fin (.inl (v, ws)) ∧ va_P G.1 vwCl ws t.heap ∧ va_D A ws ∧ va_F A st t
def XcM (G : cxG) (fin : OC → Prop) (A : Nat → Prop) : String → State → State → Prop := fun E st t => ∃ ws : va_W, fin (.inr (E, ws)) ∧ va_P G.1 vwCl ws t.heap ∧ va_D A ws ∧ va_F A st t
/-- the contract of a method: these arguments, this world: this end -/
def Spec (l : Launch) (G : cxG) (mi : MI) (As : List Value) (ws : va_W) (fin : OC → Prop) : Prop :=
  ∀ sz : Nat, vx_Met l mi.1 [Cond.code mi.1 mi.2.1 mi.2.2.1 mi.2.2.2.1] mi.2.2.2.2 (va_Pc As (fun U => U.heap.size = sz ∧ va_P G.1 vwCl ws U.heap ∧ va_K G.1 vwCl (tysG G) U ∧ va_D (fun _ => True) ws ∧ Ev (va_A ws sz) U U.heap)) (QcM G fin (va_A ws sz)) (XcM G fin (va_A ws sz)) mi.2.2.2.2.cells mi.2.2.2.2.slots (va_A ws sz)
def PW (l : Launch) (G : cxG) (mi : MI) (w0 : va_W) (sz : Nat) (fin : OC → Prop) (pc : Nat) (lv : List (Nat × Value)) (st : List Value) (k n : Nat) (ws : va_W) : Prop :=
  ∀ (p : Program) (e : Env) (s : State) (m : MethodId) (args : Array Value) (below : List Frame) (meth : Method) (c : Code) (H : Heap) (locs : List Loc) (ls : Array Slot),
    Fx G mi (va_A w0 sz) p s m meth c → s.heap.size = sz → va_P G.1 vwCl ws H → va_D (va_A w0 sz) ws → va_S (va_A w0 sz) s.heap H locs → lv_has ls mi.2.2.1 lv →
    W p l e mi.2.2.2.2 s m args below meth c H locs k n (vx_MQ below (QcM G fin (va_A w0 sz)) (XcM G fin (va_A w0 sz)) args s mi.2.2.2.2.cells mi.2.2.2.2.slots (va_A w0 sz)) (F0 m pc ls st)
def lvG (lv : List (Nat × Value)) (i : Nat) : Option Value := (lv.find? (fun q => q.1 == i)).map (fun q => q.2)
theorem lvG_at {ls : Array Slot} {nL : Nat} {lv : List (Nat × Value)} (h : lv_has ls nL lv) {i : Nat} {v : Value} (hv : lvG lv i = some v) : ls[i]? = some (.val v) := by
  unfold lvG at hv
  cases hf : lv.find? (fun q => q.1 == i) with
  | none => rw [hf] at hv; cases hv
  | some q =>
    rw [hf] at hv
    have h1 := List.find?_some hf
    have h2 := List.mem_of_find?_eq_some hf
    have h3 : q.1 = i := by simpa using h1
    have h4 : q.2 = v := Option.some.inj hv
    rw [← h3, ← h4]
    exact h.2.2 q h2
theorem lvG_pl {lv : List (Nat × Value)} {i : Nat} {v : Value} (hv : lvG lv i = some v) : ∃ k : Nat, lv[k]? = some (i, v) := by
  unfold lvG at hv
  cases hf : lv.find? (fun q => q.1 == i) with
  | none => rw [hf] at hv; cases hv
  | some q =>
    rw [hf] at hv
    have h1 := List.find?_some hf
    have h2 := List.mem_of_find?_eq_some hf
    have h3 : q.1 = i := by simpa using h1
    have h4 : q.2 = v := Option.some.inj hv
    obtain ⟨k, hk⟩ := List.getElem?_of_mem h2
    exact ⟨k, by rw [hk, ← h3, ← h4]⟩
def lvs (lv : List (Nat × Value)) (i : Nat) (v : Value) : List (Nat × Value) := (i, v) :: lv.filter (fun q => !(q.1 == i) && !(q.1 + 1 == i && q.2.category == 2))
def lvs2 (lv : List (Nat × Value)) (i : Nat) (v : Value) : List (Nat × Value) := (i, v) :: lv.filter (fun q => !(q.1 == i) && (!(q.1 == i + 1) && !(q.1 + 1 == i && q.2.category == 2)))
section PWrows
variable {l : Launch} {G : cxG} {mi : MI} {w0 : va_W} {sz : Nat} {fin : OC → Prop} {pc : Nat} {lv : List (Nat × Value)} {st : List Value} {k n : Nat} {ws : va_W}
theorem spec_of {As : List Value} (hy : plainName mi.1.cls = true) (hlen : (lg_sl As).length ≤ mi.2.2.1) (kk : ∀ sz, PW l G mi ws sz fin 0 (lv_args 0 As) [] 0 0 ws) : Spec l G mi As ws fin := by
  intro sz
  refine vx_ofW (cc := mi.2.1) (maxL := mi.2.2.1) (ret := mi.2.2.2.1) hy rfl ?_
  intro p e s m args below meth c s₁ B hml htab hv
  obtain ⟨rfl, hsz, hP, hK, hD0, hE⟩ := hv
  rw [lg_entry_eq]
  exact kk sz p e s m _ below meth c s.heap [] _ ⟨B.exec, B.bytes, hml, B.returns, B.notSynchronized, findClass_of_methodNamed B.named, htab, hK, hE, (name_of_methodNamed B.named B.method).1⟩ hsz hP hD0.self va_S.rf (lv_entry As hlen)
/-- other locals: each of them is among those that are known -/
theorem pw_lv {lv' : List (Nat × Value)} (h : ∀ q ∈ lv', lvG lv q.1 = some q.2) (kk : PW l G mi w0 sz fin pc lv' st k n ws) : PW l G mi w0 sz fin pc lv st k n ws :=
  fun p e s m args below meth c H locs ls F hz hP hD hS hl => kk p e s m args below meth c H locs ls F hz hP hD hS ⟨hl.1, hl.2.1, fun q hq => lvG_at hl (h q hq)⟩
theorem pw_widen {k' n' : Nat} (h1 : k ≤ k') (h2 : n ≤ n') (kk : PW l G mi w0 sz fin pc lv st k' n' ws) : PW l G mi w0 sz fin pc lv st k n ws :=
  fun p e s m args below meth c H locs ls F hz hP hD hS hl => W.widen h1 h2 (kk p e s m args below meth c H locs ls F hz hP hD hS hl)
theorem pw_iconst {z : Int} {v : Int32} (hd : decode mi.2.1 pc = .ok (.iconst z, 1)) (hv : Int32.ofInt z = v) (kk : PW l G mi w0 sz fin (pc + 1) lv (.int v :: st) k n ws) : PW l G mi w0 sz fin pc lv (st) k n ws :=
  fun p e s m args below meth c H locs ls F hz hP hD hS hl => lv_iconst F.1 F.2.1 hd hv (kk p e s m args below meth c H locs ls F hz hP hD hS hl)
theorem pw_bipush {z : Int} {v : Int32} (hd : decode mi.2.1 pc = .ok (.bipush z, 2)) (hv : (Int8.ofInt z).toInt32 = v) (kk : PW l G mi w0 sz fin (pc + 2) lv (.int v :: st) k n ws) : PW l G mi w0 sz fin pc lv (st) k n ws :=
  fun p e s m args below meth c H locs ls F hz hP hD hS hl => lv_bipush F.1 F.2.1 hd hv (kk p e s m args below meth c H locs ls F hz hP hD hS hl)
theorem pw_sipush {z : Int} {v : Int32} (hd : decode mi.2.1 pc = .ok (.sipush z, 3)) (hv : (Int16.ofInt z).toInt32 = v) (kk : PW l G mi w0 sz fin (pc + 3) lv (.int v :: st) k n ws) : PW l G mi w0 sz fin pc lv (st) k n ws :=
  fun p e s m args below meth c H locs ls F hz hP hD hS hl => lv_sipush F.1 F.2.1 hd hv (kk p e s m args below meth c H locs ls F hz hP hD hS hl)
theorem pw_lconst {z : Fin 2} {v : Int64} (hd : decode mi.2.1 pc = .ok (.lconst z, 1)) (hv : Int64.ofNat (z : Nat) = v) (kk : PW l G mi w0 sz fin (pc + 1) lv (.long v :: st) k n ws) : PW l G mi w0 sz fin pc lv (st) k n ws :=
  fun p e s m args below meth c H locs ls F hz hP hD hS hl => lv_lconst F.1 F.2.1 hd hv (kk p e s m args below meth c H locs ls F hz hP hD hS hl)
theorem pw_iadd {x y : Int32} (hd : decode mi.2.1 pc = .ok (.iadd, 1)) (kk : PW l G mi w0 sz fin (pc + 1) lv (.int (x + y) :: st) k n ws) : PW l G mi w0 sz fin pc lv (.int y :: .int x :: st) k n ws :=
  fun p e s m args below meth c H locs ls F hz hP hD hS hl => lv_iadd F.1 F.2.1 hd (kk p e s m args below meth c H locs ls F hz hP hD hS hl)
theorem pw_isub {x y : Int32} (hd : decode mi.2.1 pc = .ok (.isub, 1)) (kk : PW l G mi w0 sz fin (pc + 1) lv (.int (x - y) :: st) k n ws) : PW l G mi w0 sz fin pc lv (.int y :: .int x :: st) k n ws :=
  fun p e s m args below meth c H locs ls F hz hP hD hS hl => lv_isub F.1 F.2.1 hd (kk p e s m args below meth c H locs ls F hz hP hD hS hl)
theorem pw_imul {x y : Int32} (hd : decode mi.2.1 pc = .ok (.imul, 1)) (kk : PW l G mi w0 sz fin (pc + 1) lv (.int (x * y) :: st) k n ws) : PW l G mi w0 sz fin pc lv (.int y :: .int x :: st) k n ws :=
  fun p e s m args below meth c H locs ls F hz hP hD hS hl => lv_imul F.1 F.2.1 hd (kk p e s m args below meth c H locs ls F hz hP hD hS hl)
theorem pw_iand {x y : Int32} (hd : decode mi.2.1 pc = .ok (.iand, 1)) (kk : PW l G mi w0 sz fin (pc + 1) lv (.int (x &&& y) :: st) k n ws) : PW l G mi w0 sz fin pc lv (.int y :: .int x :: st) k n ws :=
  fun p e s m args below meth c H locs ls F hz hP hD hS hl => lv_iand F.1 F.2.1 hd (kk p e s m args below meth c H locs ls F hz hP hD hS hl)
theorem pw_ior {x y : Int32} (hd : decode mi.2.1 pc = .ok (.ior, 1)) (kk : PW l G mi w0 sz fin (pc + 1) lv (.int (x ||| y) :: st) k n ws) : PW l G mi w0 sz fin pc lv (.int y :: .int x :: st) k n ws :=
  fun p e s m args below meth c H locs ls F hz hP hD hS hl => lv_ior F.1 F.2.1 hd (kk p e s m args below meth c H locs ls F hz hP hD hS hl)
theorem pw_ixor {x y : Int32} (hd : decode mi.2.1 pc = .ok (.ixor, 1)) (kk : PW l G mi w0 sz fin (pc + 1) lv (.int (x ^^^ y) :: st) k n ws) : PW l G mi w0 sz fin pc lv (.int y :: .int x :: st) k n ws :=
  fun p e s m args below meth c H locs ls F hz hP hD hS hl => lv_ixor F.1 F.2.1 hd (kk p e s m args below meth c H locs ls F hz hP hD hS hl)
theorem pw_ishl {x y : Int32} (hd : decode mi.2.1 pc = .ok (.ishl, 1)) (kk : PW l G mi w0 sz fin (pc + 1) lv (.int (x <<< (y &&& 31)) :: st) k n ws) : PW l G mi w0 sz fin pc lv (.int y :: .int x :: st) k n ws :=
  fun p e s m args below meth c H locs ls F hz hP hD hS hl => lv_ishl F.1 F.2.1 hd (kk p e s m args below meth c H locs ls F hz hP hD hS hl)
theorem pw_ishr {x y : Int32} (hd : decode mi.2.1 pc = .ok (.ishr, 1)) (kk : PW l G mi w0 sz fin (pc + 1) lv (.int (x >>> (y &&& 31)) :: st) k n ws) : PW l G mi w0 sz fin pc lv (.int y :: .int x :: st) k n ws :=
  fun p e s m args below meth c H locs ls F hz hP hD hS hl => lv_ishr F.1 F.2.1 hd (kk p e s m args below meth c H locs ls F hz hP hD hS hl)
theorem pw_ladd {x y : Int64} (hd : decode mi.2.1 pc = .ok (.ladd, 1)) (kk : PW l G mi w0 sz fin (pc + 1) lv (.long (x + y) :: st) k n ws) : PW l G mi w0 sz fin pc lv (.long y :: .long x :: st) k n ws :=
  fun p e s m args below meth c H locs ls F hz hP hD hS hl => lv_ladd F.1 F.2.1 hd (kk p e s m args below meth c H locs ls F hz hP hD hS hl)
theorem pw_lsub {x y : Int64} (hd : decode mi.2.1 pc = .ok (.lsub, 1)) (kk : PW l G mi w0 sz fin (pc + 1) lv (.long (x - y) :: st) k n ws) : PW l G mi w0 sz fin pc lv (.long y :: .long x :: st) k n ws :=
  fun p e s m args below meth c H locs ls F hz hP hD hS hl => lv_lsub F.1 F.2.1 hd (kk p e s m args below meth c H locs ls F hz hP hD hS hl)
theorem pw_lmul {x y : Int64} (hd : decode mi.2.1 pc = .ok (.lmul, 1)) (kk : PW l G mi w0 sz fin (pc + 1) lv (.long (x * y) :: st) k n ws) : PW l G mi w0 sz fin pc lv (.long y :: .long x :: st) k n ws :=
  fun p e s m args below meth c H locs ls F hz hP hD hS hl => lv_lmul F.1 F.2.1 hd (kk p e s m args below meth c H locs ls F hz hP hD hS hl)
theorem pw_idiv {x y : Int32} (hd : decode mi.2.1 pc = .ok (.idiv, 1)) (hne : ¬ y = 0) (kk : PW l G mi w0 sz fin (pc + 1) lv (.int (x / y) :: st) k n ws) : PW l G mi w0 sz fin pc lv (.int y :: .int x :: st) k n ws :=
  fun p e s m args below meth c H locs ls F hz hP hD hS hl => lv_idiv F.1 F.2.1 hd hne (kk p e s m args below meth c H locs ls F hz hP hD hS hl)
theorem pw_ineg {x : Int32} (hd : decode mi.2.1 pc = .ok (.ineg, 1)) (kk : PW l G mi w0 sz fin (pc + 1) lv (.int (-x) :: st) k n ws) : PW l G mi w0 sz fin pc lv (.int x :: st) k n ws :=
  fun p e s m args below meth c H locs ls F hz hP hD hS hl => lv_ineg F.1 F.2.1 hd (kk p e s m args below meth c H locs ls F hz hP hD hS hl)
theorem pw_i2l {x : Int32} (hd : decode mi.2.1 pc = .ok (.i2l, 1)) (kk : PW l G mi w0 sz fin (pc + 1) lv (.long x.toInt64 :: st) k n ws) : PW l G mi w0 sz fin pc lv (.int x :: st) k n ws :=
  fun p e s m args below meth c H locs ls F hz hP hD hS hl => lv_i2l F.1 F.2.1 hd rfl (kk p e s m args below meth c H locs ls F hz hP hD hS hl)
theorem pw_l2i {x : Int64} (hd : decode mi.2.1 pc = .ok (.l2i, 1)) (kk : PW l G mi w0 sz fin (pc + 1) lv (.int x.toInt32 :: st) k n ws) : PW l G mi w0 sz fin pc lv (.long x :: st) k n ws :=
  fun p e s m args below meth c H locs ls F hz hP hD hS hl => lv_l2i F.1 F.2.1 hd rfl (kk p e s m args below meth c H locs ls F hz hP hD hS hl)
theorem pw_lcmp {x y : Int64} (hd : decode mi.2.1 pc = .ok (.lcmp, 1)) (kk : PW l G mi w0 sz fin (pc + 1) lv (.int (lg_cmp x y) :: st) k n ws) : PW l G mi w0 sz fin pc lv (.long y :: .long x :: st) k n ws :=
  fun p e s m args below meth c H locs ls F hz hP hD hS hl => W.lcmp F.1 F.2.1 hd (kk p e s m args below meth c H locs ls F hz hP hD hS hl)
theorem pw_dup {va : Value} (hd : decode mi.2.1 pc = .ok (.dup, 1)) (hva : va.category = 1) (kk : PW l G mi w0 sz fin (pc + 1) lv (va :: va :: st) k n ws) : PW l G mi w0 sz fin pc lv (va :: st) k n ws :=
  fun p e s m args below meth c H locs ls F hz hP hD hS hl => lv_dup F.1 F.2.1 hd hva (kk p e s m args below meth c H locs ls F hz hP hD hS hl)
theorem pw_dup2 {va vb : Value} (hd : decode mi.2.1 pc = .ok (.dup2, 1)) (hva : va.category = 1) (hvb : vb.category = 1) (kk : PW l G mi w0 sz fin (pc + 1) lv (va :: vb :: va :: vb :: st) k n ws) : PW l G mi w0 sz fin pc lv (va :: vb :: st) k n ws :=
  fun p e s m args below meth c H locs ls F hz hP hD hS hl => lv_dup2_11 F.1 F.2.1 hd hva hvb (kk p e s m args below meth c H locs ls F hz hP hD hS hl)
theorem pw_iload {i : Nat} {x : Int32} (hd : decode mi.2.1 pc = .ok (.iload i, 2)) (hv : lvG lv i = some (.int x)) (kk : PW l G mi w0 sz fin (pc + 2) lv (.int x :: st) k n ws) : PW l G mi w0 sz fin pc lv (st) k n ws :=
  fun p e s m args below meth c H locs ls F hz hP hD hS hl => lv_iload F.1 F.2.1 hd (lvG_at hl hv) (kk p e s m args below meth c H locs ls F hz hP hD hS hl)
theorem pw_iload_n {i : Fin 4} {x : Int32} (hd : decode mi.2.1 pc = .ok (.iload_n i, 1)) (hv : lvG lv (i : Nat) = some (.int x)) (kk : PW l G mi w0 sz fin (pc + 1) lv (.int x :: st) k n ws) : PW l G mi w0 sz fin pc lv st k n ws :=
  fun p e s m args below meth c H locs ls F hz hP hD hS hl => lv_iload_n F.1 F.2.1 hd rfl (lvG_at hl hv) (kk p e s m args below meth c H locs ls F hz hP hD hS hl)
theorem pw_istore {i : Nat} {x : Int32} (hd : decode mi.2.1 pc = .ok (.istore i, 2)) (hn : i < mi.2.2.1) (kk : PW l G mi w0 sz fin (pc + 2) (lvs lv i (.int x)) st k n ws) : PW l G mi w0 sz fin pc lv (.int x :: st) k n ws :=
  fun p e s m args below meth c H locs ls F hz hP hD hS hl => lv_istore F.1 F.2.1 hd hl hn rfl (fun ls2 hl2 => kk p e s m args below meth c H locs ls2 F hz hP hD hS hl2)
theorem pw_istore_n {i : Fin 4} {x : Int32} (hd : decode mi.2.1 pc = .ok (.istore_n i, 1)) (hn : (i : Nat) < mi.2.2.1) (kk : PW l G mi w0 sz fin (pc + 1) (lvs lv (i : Nat) (.int x)) st k n ws) : PW l G mi w0 sz fin pc lv (.int x :: st) k n ws :=
  fun p e s m args below meth c H locs ls F hz hP hD hS hl => lv_istore_n F.1 F.2.1 hd rfl hl hn rfl (fun ls2 hl2 => kk p e s m args below meth c H locs ls2 F hz hP hD hS hl2)
theorem pw_lload {i : Nat} {x : Int64} (hd : decode mi.2.1 pc = .ok (.lload i, 2)) (hv : lvG lv i = some (.long x)) (kk : PW l G mi w0 sz fin (pc + 2) lv (.long x :: st) k n ws) : PW l G mi w0 sz fin pc lv (st) k n ws :=
  fun p e s m args below meth c H locs ls F hz hP hD hS hl => lv_lload F.1 F.2.1 hd (lvG_at hl hv) (kk p e s m args below meth c H locs ls F hz hP hD hS hl)
theorem pw_lload_n {i : Fin 4} {x : Int64} (hd : decode mi.2.1 pc = .ok (.lload_n i, 1)) (hv : lvG lv (i : Nat) = some (.long x)) (kk : PW l G mi w0 sz fin (pc + 1) lv (.long x :: st) k n ws) : PW l G mi w0 sz fin pc lv st k n ws :=
  fun p e s m args below meth c H locs ls F hz hP hD hS hl => lv_lload_n F.1 F.2.1 hd rfl (lvG_at hl hv) (kk p e s m args below meth c H locs ls F hz hP hD hS hl)
theorem pw_lstore {i : Nat} {x : Int64} (hd : decode mi.2.1 pc = .ok (.lstore i, 2)) (hn : i + 1 < mi.2.2.1) (kk : PW l G mi w0 sz fin (pc + 2) (lvs2 lv i (.long x)) st k n ws) : PW l G mi w0 sz fin pc lv (.long x :: st) k n ws :=
  fun p e s m args below meth c H locs ls F hz hP hD hS hl => lv_lstore F.1 F.2.1 hd hl hn rfl (fun ls2 hl2 => kk p e s m args below meth c H locs ls2 F hz hP hD hS hl2)
theorem pw_lstore_n {i : Fin 4} {x : Int64} (hd : decode mi.2.1 pc = .ok (.lstore_n i, 1)) (hn : (i : Nat) + 1 < mi.2.2.1) (kk : PW l G mi w0 sz fin (pc + 1) (lvs2 lv (i : Nat) (.long x)) st k n ws) : PW l G mi w0 sz fin pc lv (.long x :: st) k n ws :=
  fun p e s m args below meth c H locs ls F hz hP hD hS hl => lv_lstore_n F.1 F.2.1 hd rfl hl hn rfl (fun ls2 hl2 => kk p e s m args below meth c H locs ls2 F hz hP hD hS hl2)
theorem pw_aload {i : Nat} {x : Nat} (hd : decode mi.2.1 pc = .ok (.aload i, 2)) (hv : lvG lv i = some (.ref x)) (kk : PW l G mi w0 sz fin (pc + 2) lv (.ref x :: st) k n ws) : PW l G mi w0 sz fin pc lv (st) k n ws :=
  fun p e s m args below meth c H locs ls F hz hP hD hS hl => lv_aload F.1 F.2.1 hd (lvG_at hl hv) (kk p e s m args below meth c H locs ls F hz hP hD hS hl)
theorem pw_aload_n {i : Fin 4} {x : Nat} (hd : decode mi.2.1 pc = .ok (.aload_n i, 1)) (hv : lvG lv (i : Nat) = some (.ref x)) (kk : PW l G mi w0 sz fin (pc + 1) lv (.ref x :: st) k n ws) : PW l G mi w0 sz fin pc lv st k n ws :=
  fun p e s m args below meth c H locs ls F hz hP hD hS hl => lv_aload_n F.1 F.2.1 hd rfl (lvG_at hl hv) (kk p e s m args below meth c H locs ls F hz hP hD hS hl)
theorem pw_astore {i : Nat} {x : Nat} (hd : decode mi.2.1 pc = .ok (.astore i, 2)) (hn : i < mi.2.2.1) (kk : PW l G mi w0 sz fin (pc + 2) (lvs lv i (.ref x)) st k n ws) : PW l G mi w0 sz fin pc lv (.ref x :: st) k n ws :=
  fun p e s m args below meth c H locs ls F hz hP hD hS hl => lv_astore F.1 F.2.1 hd hl hn rfl (fun ls2 hl2 => kk p e s m args below meth c H locs ls2 F hz hP hD hS hl2)
theorem pw_astore_n {i : Fin 4} {x : Nat} (hd : decode mi.2.1 pc = .ok (.astore_n i, 1)) (hn : (i : Nat) < mi.2.2.1) (kk : PW l G mi w0 sz fin (pc + 1) (lvs lv (i : Nat) (.ref x)) st k n ws) : PW l G mi w0 sz fin pc lv (.ref x :: st) k n ws :=
  fun p e s m args below meth c H locs ls F hz hP hD hS hl => lv_astore_n F.1 F.2.1 hd rfl hl hn rfl (fun ls2 hl2 => kk p e s m args below meth c H locs ls2 F hz hP hD hS hl2)
theorem pw_iinc {i : Nat} {z : Int} {x : Int32} (hd : decode mi.2.1 pc = .ok (.iinc i z, 3)) (hv : lvG lv i = some (.int x)) (hn : i < mi.2.2.1) (kk : PW l G mi w0 sz fin (pc + 3) (lvs lv i (.int (x + Int32.ofInt z))) st k n ws) : PW l G mi w0 sz fin pc lv st k n ws :=
  fun p e s m args below meth c H locs ls F hz hP hD hS hl => (lvG_pl hv).elim fun j hj => lv_iinc F.1 F.2.1 hd hl hj rfl hn rfl (fun ls2 hl2 => kk p e s m args below meth c H locs ls2 F hz hP hD hS hl2)
theorem pw_goto {off : Int} {tgt : Nat} (hd : decode mi.2.1 pc = .ok (.goto off, 3)) (ht : (pc : Int) + off = (tgt : Int)) (kk : PW l G mi w0 sz fin tgt lv st k n ws) : PW l G mi w0 sz fin pc lv st k n ws :=
  fun p e s m args below meth c H locs ls F hz hP hD hS hl => lv_goto F.1 F.2.1 hd ht (kk p e s m args below meth c H locs ls F hz hP hD hS hl)
theorem pw_if_eq {x : Int32} {off : Int} (tgt : Nat) (hd : decode mi.2.1 pc = .ok (.ifCond .eq off, 3)) (ht : (pc : Int) + off = (tgt : Int)) (kt : x = 0 → PW l G mi w0 sz fin tgt lv st k n ws) (kf : ¬ x = 0 → PW l G mi w0 sz fin (pc + 3) lv st k n ws) : PW l G mi w0 sz fin pc lv (.int x :: st) k n ws :=
  fun p e s m args below meth c H locs ls F hz hP hD hS hl => lv_if_eq F.1 F.2.1 hd ht (fun h => kt h p e s m args below meth c H locs ls F hz hP hD hS hl) (fun h => kf h p e s m args below meth c H locs ls F hz hP hD hS hl)
theorem pw_if_ne {x : Int32} {off : Int} (tgt : Nat) (hd : decode mi.2.1 pc = .ok (.ifCond .ne off, 3)) (ht : (pc : Int) + off = (tgt : Int)) (kt : ¬ x = 0 → PW l G mi w0 sz fin tgt lv st k n ws) (kf : x = 0 → PW l G mi w0 sz fin (pc + 3) lv st k n ws) : PW l G mi w0 sz fin pc lv (.int x :: st) k n ws :=
  fun p e s m args below meth c H locs ls F hz hP hD hS hl => lv_if_ne F.1 F.2.1 hd ht (fun h => kt h p e s m args below meth c H locs ls F hz hP hD hS hl) (fun h => kf h p e s m args below meth c H locs ls F hz hP hD hS hl)
theorem pw_if_lt {x : Int32} {off : Int} (tgt : Nat) (hd : decode mi.2.1 pc = .ok (.ifCond .lt off, 3)) (ht : (pc : Int) + off = (tgt : Int)) (kt : x < 0 → PW l G mi w0 sz fin tgt lv st k n ws) (kf : ¬ x < 0 → PW l G mi w0 sz fin (pc + 3) lv st k n ws) : PW l G mi w0 sz fin pc lv (.int x :: st) k n ws :=
  fun p e s m args below meth c H locs ls F hz hP hD hS hl => lv_if_lt F.1 F.2.1 hd ht (fun h => kt h p e s m args below meth c H locs ls F hz hP hD hS hl) (fun h => kf h p e s m args below meth c H locs ls F hz hP hD hS hl)
theorem pw_if_ge {x : Int32} {off : Int} (tgt : Nat) (hd : decode mi.2.1 pc = .ok (.ifCond .ge off, 3)) (ht : (pc : Int) + off = (tgt : Int)) (kt : 0 ≤ x → PW l G mi w0 sz fin tgt lv st k n ws) (kf : ¬ 0 ≤ x → PW l G mi w0 sz fin (pc + 3) lv st k n ws) : PW l G mi w0 sz fin pc lv (.int x :: st) k n ws :=
  fun p e s m args below meth c H locs ls F hz hP hD hS hl => lv_if_ge F.1 F.2.1 hd ht (fun h => kt h p e s m args below meth c H locs ls F hz hP hD hS hl) (fun h => kf h p e s m args below meth c H locs ls F hz hP hD hS hl)
theorem pw_if_gt {x : Int32} {off : Int} (tgt : Nat) (hd : decode mi.2.1 pc = .ok (.ifCond .gt off, 3)) (ht : (pc : Int) + off = (tgt : Int)) (kt : 0 < x → PW l G mi w0 sz fin tgt lv st k n ws) (kf : ¬ 0 < x → PW l G mi w0 sz fin (pc + 3) lv st k n ws) : PW l G mi w0 sz fin pc lv (.int x :: st) k n ws :=
  fun p e s m args below meth c H locs ls F hz hP hD hS hl => lv_if_gt F.1 F.2.1 hd ht (fun h => kt h p e s m args below meth c H locs ls F hz hP hD hS hl) (fun h => kf h p e s m args below meth c H locs ls F hz hP hD hS hl)
theorem pw_if_le {x : Int32} {off : Int} (tgt : Nat) (hd : decode mi.2.1 pc = .ok (.ifCond .le off, 3)) (ht : (pc : Int) + off = (tgt : Int)) (kt : x ≤ 0 → PW l G mi w0 sz fin tgt lv st k n ws) (kf : ¬ x ≤ 0 → PW l G mi w0 sz fin (pc + 3) lv st k n ws) : PW l G mi w0 sz fin pc lv (.int x :: st) k n ws :=
  fun p e s m args below meth c H locs ls F hz hP hD hS hl => lv_if_le F.1 F.2.1 hd ht (fun h => kt h p e s m args below meth c H locs ls F hz hP hD hS hl) (fun h => kf h p e s m args below meth c H locs ls F hz hP hD hS hl)
theorem pw_icmp_eq {x y : Int32} {off : Int} (tgt : Nat) (hd : decode mi.2.1 pc = .ok (.if_icmp .eq off, 3)) (ht : (pc : Int) + off = (tgt : Int)) (kt : x = y → PW l G mi w0 sz fin tgt lv st k n ws) (kf : ¬ x = y → PW l G mi w0 sz fin (pc + 3) lv st k n ws) : PW l G mi w0 sz fin pc lv (.int y :: .int x :: st) k n ws :=
  fun p e s m args below meth c H locs ls F hz hP hD hS hl => lv_icmp_eq F.1 F.2.1 hd ht (fun h => kt h p e s m args below meth c H locs ls F hz hP hD hS hl) (fun h => kf h p e s m args below meth c H locs ls F hz hP hD hS hl)
theorem pw_icmp_ne {x y : Int32} {off : Int} (tgt : Nat) (hd : decode mi.2.1 pc = .ok (.if_icmp .ne off, 3)) (ht : (pc : Int) + off = (tgt : Int)) (kt : ¬ x = y → PW l G mi w0 sz fin tgt lv st k n ws) (kf : x = y → PW l G mi w0 sz fin (pc + 3) lv st k n ws) : PW l G mi w0 sz fin pc lv (.int y :: .int x :: st) k n ws :=
  fun p e s m args below meth c H locs ls F hz hP hD hS hl => lv_icmp_ne F.1 F.2.1 hd ht (fun h => kt h p e s m args below meth c H locs ls F hz hP hD hS hl) (fun h => kf h p e s m args below meth c H locs ls F hz hP hD hS hl)
theorem pw_icmp_lt {x y : Int32} {off : Int} (tgt : Nat) (hd : decode mi.2.1 pc = .ok (.if_icmp .lt off, 3)) (ht : (pc : Int) + off = (tgt : Int)) (kt : x < y → PW l G mi w0 sz fin tgt lv st k n ws) (kf : ¬ x < y → PW l G mi w0 sz fin (pc + 3) lv st k n ws) : PW l G mi w0 sz fin pc lv (.int y :: .int x :: st) k n ws :=
  fun p e s m args below meth c H locs ls F hz hP hD hS hl => lv_icmp_lt F.1 F.2.1 hd ht (fun h => kt h p e s m args below meth c H locs ls F hz hP hD hS hl) (fun h => kf h p e s m args below meth c H locs ls F hz hP hD hS hl)
theorem pw_icmp_ge {x y : Int32} {off : Int} (tgt : Nat) (hd : decode mi.2.1 pc = .ok (.if_icmp .ge off, 3)) (ht : (pc : Int) + off = (tgt : Int)) (kt : y ≤ x → PW l G mi w0 sz fin tgt lv st k n ws) (kf : ¬ y ≤ x → PW l G mi w0 sz fin (pc + 3) lv st k n ws) : PW l G mi w0 sz fin pc lv (.int y :: .int x :: st) k n ws :=
  fun p e s m args below meth c H locs ls F hz hP hD hS hl => lv_icmp_ge F.1 F.2.1 hd ht (fun h => kt h p e s m args below meth c H locs ls F hz hP hD hS hl) (fun h => kf h p e s m args below meth c H locs ls F hz hP hD hS hl)
theorem pw_icmp_gt {x y : Int32} {off : Int} (tgt : Nat) (hd : decode mi.2.1 pc = .ok (.if_icmp .gt off, 3)) (ht : (pc : Int) + off = (tgt : Int)) (kt : y < x → PW l G mi w0 sz fin tgt lv st k n ws) (kf : ¬ y < x → PW l G mi w0 sz fin (pc + 3) lv st k n ws) : PW l G mi w0 sz fin pc lv (.int y :: .int x :: st) k n ws :=
  fun p e s m args below meth c H locs ls F hz hP hD hS hl => lv_icmp_gt F.1 F.2.1 hd ht (fun h => kt h p e s m args below meth c H locs ls F hz hP hD hS hl) (fun h => kf h p e s m args below meth c H locs ls F hz hP hD hS hl)
theorem pw_icmp_le {x y : Int32} {off : Int} (tgt : Nat) (hd : decode mi.2.1 pc = .ok (.if_icmp .le off, 3)) (ht : (pc : Int) + off = (tgt : Int)) (kt : x ≤ y → PW l G mi w0 sz fin tgt lv st k n ws) (kf : ¬ x ≤ y → PW l G mi w0 sz fin (pc + 3) lv st k n ws) : PW l G mi w0 sz fin pc lv (.int y :: .int x :: st) k n ws :=
  fun p e s m args below meth c H locs ls F hz hP hD hS hl => lv_icmp_le F.1 F.2.1 hd ht (fun h => kt h p e s m args below meth c H locs ls F hz hP hD hS hl) (fun h => kf h p e s m args below meth c H locs ls F hz hP hD hS hl)
theorem pw_tableOut {dflt lo hi : Int} {offs : Array Int} {len : Nat} {x : Int32} (tgt : Nat) (hd : decode mi.2.1 pc = .ok (.tableswitch dflt lo hi offs, len)) (h : x.toInt < lo ∨ hi < x.toInt) (ht : (pc : Int) + dflt = (tgt : Int)) (kk : PW l G mi w0 sz fin tgt lv st k n ws) : PW l G mi w0 sz fin pc lv (.int x :: st) k n ws :=
  fun p e s m args below meth c H locs ls F hz hP hD hS hl => lv_tableOut F.1 F.2.1 hd h ht (kk p e s m args below meth c H locs ls F hz hP hD hS hl)
theorem pw_tableIn {dflt lo hi : Int} {offs : Array Int} {len : Nat} {x : Int32} {off : Int} (tgt : Nat) (hd : decode mi.2.1 pc = .ok (.tableswitch dflt lo hi offs, len)) (h1 : ¬ x.toInt < lo) (h2 : ¬ hi < x.toInt) (ho : offs[(x.toInt - lo).toNat]? = some off) (ht : (pc : Int) + off = (tgt : Int)) (kk : PW l G mi w0 sz fin tgt lv st k n ws) : PW l G mi w0 sz fin pc lv (.int x :: st) k n ws :=
  fun p e s m args below meth c H locs ls F hz hP hD hS hl => lv_tableIn F.1 F.2.1 hd h1 h2 ho ht (kk p e s m args below meth c H locs ls F hz hP hD hS hl)
theorem pw_ldc {index : Nat} {v : Int32} (hd : decode mi.2.1 pc = .ok (.ldc index, 2)) (hw : Cond.constant mi.1.cls index v ∈ TW) (kk : PW l G mi w0 sz fin (pc + 2) lv (.int v :: st) k n ws) : PW l G mi w0 sz fin pc lv st k n ws :=
  fun p e s m args below meth c H locs ls F hz hP hD hS hl => lv_ldc F.1 F.2.1 F.2.2.2.2.2.1 (F.2.2.2.2.2.2.2.2.1.1.use hw) hd (kk p e s m args below meth c H locs ls F hz hP hD hS hl)
theorem pw_ldcw {index : Nat} {v : Int32} (hd : decode mi.2.1 pc = .ok (.ldc_w index, 3)) (hw : Cond.constant mi.1.cls index v ∈ TW) (kk : PW l G mi w0 sz fin (pc + 3) lv (.int v :: st) k n ws) : PW l G mi w0 sz fin pc lv st k n ws :=
  fun p e s m args below meth c H locs ls F hz hP hD hS hl => lv_ldcw F.1 F.2.1 F.2.2.2.2.2.1 (F.2.2.2.2.2.2.2.2.1.1.use hw) hd (kk p e s m args below meth c H locs ls F hz hP hD hS hl)
theorem pw_ldc2 {index : Nat} {v : Int64} (hd : decode mi.2.1 pc = .ok (.ldc2_w index, 3)) (hw : Cond.constantLong mi.1.cls index v ∈ TW) (kk : PW l G mi w0 sz fin (pc + 3) lv (.long v :: st) k n ws) : PW l G mi w0 sz fin pc lv st k n ws :=
  fun p e s m args below meth c H locs ls F hz hP hD hS hl => lv_ldc2 F.1 F.2.1 F.2.2.2.2.2.1 (F.2.2.2.2.2.2.2.2.1.1.use hw) hd (kk p e s m args below meth c H locs ls F hz hP hD hS hl)
theorem pw_iret {x : Int32} {ty : FieldType} (hr : mi.2.2.2.1 = some ty) (hn : narrow ty (.int x) = .int x) (hd : decode mi.2.1 pc = .ok (.ireturn, 1)) (hc : k ≤ mi.2.2.2.2.cells) (hs : n ≤ mi.2.2.2.2.slots) (hf : fin (.inl (some (.int x), ws))) : PW l G mi w0 sz fin pc lv ([.int x]) k n ws :=
  fun p e s m args below meth c H locs ls F hz hP hD hS hl => W.widen hc hs (vx_ret (W.zret F.1 F.2.1 (F.2.2.2.1.trans hr) hn (fun t ht hw => ⟨_, ws, rfl, hf, by rw [ht]; exact hP, hD, hS.F ht⟩) hS.2.2 hd F.2.2.2.2.1))
theorem pw_lret {x : Int64} (hr : mi.2.2.2.1 = some .long) (hd : decode mi.2.1 pc = .ok (.lreturn, 1)) (hc : k ≤ mi.2.2.2.2.cells) (hs : n ≤ mi.2.2.2.2.slots) (hf : fin (.inl (some (.long x), ws))) : PW l G mi w0 sz fin pc lv ([.long x]) k n ws :=
  fun p e s m args below meth c H locs ls F hz hP hD hS hl => W.widen hc hs (vx_ret (W.lret F.1 F.2.1 (F.2.2.2.1.trans hr) (fun t ht hw => ⟨_, ws, rfl, hf, by rw [ht]; exact hP, hD, hS.F ht⟩) hS.2.2 hd F.2.2.2.2.1))
theorem pw_vret (hr : mi.2.2.2.1 = none) (hd : decode mi.2.1 pc = .ok (.return_, 1)) (hc : k ≤ mi.2.2.2.2.cells) (hs : n ≤ mi.2.2.2.2.slots) (hf : fin (.inl (none, ws))) : PW l G mi w0 sz fin pc lv ([]) k n ws :=
  fun p e s m args below meth c H locs ls F hz hP hD hS hl => W.widen hc hs (vx_ret (W.vret F.1 F.2.1 (F.2.2.2.1.trans hr) (fun t ht hw => ⟨_, ws, rfl, hf, by rw [ht]; exact hP, hD, hS.F ht⟩) hS.2.2 hd F.2.2.2.2.1))
theorem pw_aret {x : Nat} {C : String} (hr : mi.2.2.2.1 = some (.object C)) (hd : decode mi.2.1 pc = .ok (.areturn, 1)) (hc : k ≤ mi.2.2.2.2.cells) (hs : n ≤ mi.2.2.2.2.slots) (hf : fin (.inl (some (.ref x), ws))) : PW l G mi w0 sz fin pc lv ([.ref x]) k n ws :=
  fun p e s m args below meth c H locs ls F hz hP hD hS hl => W.widen hc hs (vx_ret (W.aret F.1 F.2.1 (F.2.2.2.1.trans hr) (Or.inl ⟨C, rfl⟩) (Or.inr ⟨x, rfl⟩) (fun t ht hw => ⟨_, ws, rfl, hf, by rw [ht]; exact hP, hD, hS.F ht⟩) hS.2.2 hd F.2.2.2.2.1))
end PWrows
