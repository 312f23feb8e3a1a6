/-! methods with handlers, and the law: the same layer with any end Q, and X known of state and code -/
def Fz (G : cxG) (mi : MI) (A : Nat → Prop) (p : Program) (s : State) (m : MethodId) (meth : Method) (c : Code) : Prop :=
  p.tables.exec = Jvm.exec ∧ c.code = mi.2.1 ∧ c.maxLocals = mi.2.2.1 ∧ meth.sig.returnType = mi.2.2.2.1 ∧ meth.locks = false ∧ s.vm.findClass mi.1.cls = some m.cls ∧ True ∧ va_K G.1 vwCl (tysG G) s ∧ Ev A s s.heap
def PZ (X : State → Code → Prop) (Q : List Frame → Array Value → State → State → Prop) (l : Launch) (G : cxG) (mi : MI) (w0 : va_W) (sz : Nat) (pc : Nat) (lv : List (Nat × Value)) (st : List Value) (k n : Nat) (ws : va_W) : Prop :=
  ∀ (p : Program) (e : Env) (s : State) (m : MethodId) (args : Array Value) (below : List Frame) (meth : Method) (c : Code) (H : Heap) (locs : List Loc) (ls : Array Slot),
    Fz G mi (va_A w0 sz) p s m meth c → X s c → s.heap.size = sz → va_P G.1 vwCl ws H → va_D (va_A w0 sz) ws → va_S (va_A w0 sz) s.heap H locs → lv_has ls mi.2.2.1 lv →
    W p l e mi.2.2.2.2 s m args below meth c H locs k n (Q below args s) (F0 m pc ls st)
def PZX (X : State → Code → Prop) (Q : List Frame → Array Value → State → State → Prop) (l : Launch) (G : cxG) (mi : MI) (w0 : va_W) (sz : Nat) (E : String) (pc : Nat) (lv : List (Nat × Value)) (st : List Value) (k n : Nat) (ws : va_W) : Prop :=
  ∀ (p : Program) (e : Env) (s : State) (m : MethodId) (args : Array Value) (below : List Frame) (meth : Method) (c : Code) (H : Heap) (locs : List Loc) (ls : Array Slot) (q : Addr) (ce : Cell),
    Fz G mi (va_A w0 sz) p s m meth c → X s c → s.heap.size = sz → va_P G.1 vwCl ws H → va_D (va_A w0 sz) ws → va_S (va_A w0 sz) s.heap H locs → lv_has ls mi.2.2.1 lv → H[q]? = some ce → ce.vm = .none → s.vm.findClass E = some ce.cls →
    vx_W p l e mi.2.2.2.2 s m args below meth c H locs k n (Q below args s) (F0 m pc ls st) q
section PZrows
variable {X : State → Code → Prop} {Q : List Frame → Array Value → State → State → Prop} {l : Launch} {G : cxG} {mi : MI} {w0 : va_W} {sz : Nat} {pc : Nat} {lv : List (Nat × Value)} {st : List Value} {k n : Nat} {ws : va_W}
theorem Fz.hts {A : Nat → Prop} {p : Program} {s : State} {m : MethodId} {meth : Method} {c : Code} (F : Fz G mi A p s m meth c) {args : Array Value} : ∀ w ∈ TW, w.before args s = true := fun w hw => F.2.2.2.2.2.2.2.2.1.use hw
theorem Fz.own {A : Nat → Prop} {p : Program} {s : State} {m : MethodId} {meth : Method} {c : Code} (F : Fz G mi A p s m meth c) : s.vm.findClass mi.1.cls = some m.cls := F.2.2.2.2.2.1
theorem Fz.K {A : Nat → Prop} {p : Program} {s : State} {m : MethodId} {meth : Method} {c : Code} (F : Fz G mi A p s m meth c) : va_K G.1 vwCl (tysG G) s := F.2.2.2.2.2.2.2.1
theorem Fz.E {A : Nat → Prop} {p : Program} {s : State} {m : MethodId} {meth : Method} {c : Code} (F : Fz G mi A p s m meth c) : Ev A s s.heap := F.2.2.2.2.2.2.2.2
theorem pz_lv {lv' : List (Nat × Value)} (h : ∀ q ∈ lv', lvG lv q.1 = some q.2) (kk : PZ X Q l G mi w0 sz pc lv' st k n ws) : PZ X Q l G mi w0 sz pc lv st k n ws :=
  fun p e s m args below meth c H locs ls F hx hz hP hD hS hl => kk p e s m args below meth c H locs ls F hx hz hP hD hS ⟨hl.1, hl.2.1, fun q hq => lvG_at hl (h q hq)⟩
theorem pz_widen {k' n' : Nat} (h1 : k ≤ k') (h2 : n ≤ n') (kk : PZ X Q l G mi w0 sz pc lv st k' n' ws) : PZ X Q l G mi w0 sz pc lv st k n ws :=
  fun p e s m args below meth c H locs ls F hx hz hP hD hS hl => W.widen h1 h2 (kk p e s m args below meth c H locs ls F hx hz hP hD hS hl)
theorem pz_iconst {z : Int} {v : Int32} (hd : decode mi.2.1 pc = .ok (.iconst z, 1)) (hv : Int32.ofInt z = v) (kk : PZ X Q l G mi w0 sz (pc + 1) lv (.int v :: st) k n ws) : PZ X Q l G mi w0 sz pc lv (st) k n ws :=
  fun p e s m args below meth c H locs ls F hx hz hP hD hS hl => lv_iconst F.1 F.2.1 hd hv (kk p e s m args below meth c H locs ls F hx hz hP hD hS hl)
theorem pz_bipush {z : Int} {v : Int32} (hd : decode mi.2.1 pc = .ok (.bipush z, 2)) (hv : (Int8.ofInt z).toInt32 = v) (kk : PZ X Q l G mi w0 sz (pc + 2) lv (.int v :: st) k n ws) : PZ X Q l G mi w0 sz pc lv (st) k n ws :=
  fun p e s m args below meth c H locs ls F hx hz hP hD hS hl => lv_bipush F.1 F.2.1 hd hv (kk p e s m args below meth c H locs ls F hx hz hP hD hS hl)
theorem pz_sipush {z : Int} {v : Int32} (hd : decode mi.2.1 pc = .ok (.sipush z, 3)) (hv : (Int16.ofInt z).toInt32 = v) (kk : PZ X Q l G mi w0 sz (pc + 3) lv (.int v :: st) k n ws) : PZ X Q l G mi w0 sz pc lv (st) k n ws :=
  fun p e s m args below meth c H locs ls F hx hz hP hD hS hl => lv_sipush F.1 F.2.1 hd hv (kk p e s m args below meth c H locs ls F hx hz hP hD hS hl)
theorem pz_lconst {z : Fin 2} {v : Int64} (hd : decode mi.2.1 pc = .ok (.lconst z, 1)) (hv : Int64.ofNat (z : Nat) = v) (kk : PZ X Q l G mi w0 sz (pc + 1) lv (.long v :: st) k n ws) : PZ X Q l G mi w0 sz pc lv (st) k n ws :=
  fun p e s m args below meth c H locs ls F hx hz hP hD hS hl => lv_lconst F.1 F.2.1 hd hv (kk p e s m args below meth c H locs ls F hx hz hP hD hS hl)
theorem pz_iadd {x y : Int32} (hd : decode mi.2.1 pc = .ok (.iadd, 1)) (kk : PZ X Q l G mi w0 sz (pc + 1) lv (.int (x + y) :: st) k n ws) : PZ X Q l G mi w0 sz pc lv (.int y :: .int x :: st) k n ws :=
  fun p e s m args below meth c H locs ls F hx hz hP hD hS hl => lv_iadd F.1 F.2.1 hd (kk p e s m args below meth c H locs ls F hx hz hP hD hS hl)
theorem pz_isub {x y : Int32} (hd : decode mi.2.1 pc = .ok (.isub, 1)) (kk : PZ X Q l G mi w0 sz (pc + 1) lv (.int (x - y) :: st) k n ws) : PZ X Q l G mi w0 sz pc lv (.int y :: .int x :: st) k n ws :=
  fun p e s m args below meth c H locs ls F hx hz hP hD hS hl => lv_isub F.1 F.2.1 hd (kk p e s m args below meth c H locs ls F hx hz hP hD hS hl)
theorem pz_iand {x y : Int32} (hd : decode mi.2.1 pc = .ok (.iand, 1)) (kk : PZ X Q l G mi w0 sz (pc + 1) lv (.int (x &&& y) :: st) k n ws) : PZ X Q l G mi w0 sz pc lv (.int y :: .int x :: st) k n ws :=
  fun p e s m args below meth c H locs ls F hx hz hP hD hS hl => lv_iand F.1 F.2.1 hd (kk p e s m args below meth c H locs ls F hx hz hP hD hS hl)
theorem pz_i2l {x : Int32} (hd : decode mi.2.1 pc = .ok (.i2l, 1)) (kk : PZ X Q l G mi w0 sz (pc + 1) lv (.long x.toInt64 :: st) k n ws) : PZ X Q l G mi w0 sz pc lv (.int x :: st) k n ws :=
  fun p e s m args below meth c H locs ls F hx hz hP hD hS hl => lv_i2l F.1 F.2.1 hd rfl (kk p e s m args below meth c H locs ls F hx hz hP hD hS hl)
theorem pz_lcmp {x y : Int64} (hd : decode mi.2.1 pc = .ok (.lcmp, 1)) (kk : PZ X Q l G mi w0 sz (pc + 1) lv (.int (lg_cmp x y) :: st) k n ws) : PZ X Q l G mi w0 sz pc lv (.long y :: .long x :: st) k n ws :=
  fun p e s m args below meth c H locs ls F hx hz hP hD hS hl => W.lcmp F.1 F.2.1 hd (kk p e s m args below meth c H locs ls F hx hz hP hD hS hl)
theorem pz_dup {va : Value} (hd : decode mi.2.1 pc = .ok (.dup, 1)) (hva : va.category = 1) (kk : PZ X Q l G mi w0 sz (pc + 1) lv (va :: va :: st) k n ws) : PZ X Q l G mi w0 sz pc lv (va :: st) k n ws :=
  fun p e s m args below meth c H locs ls F hx hz hP hD hS hl => lv_dup F.1 F.2.1 hd hva (kk p e s m args below meth c H locs ls F hx hz hP hD hS hl)
theorem pz_iload {i : Nat} {x : Int32} (hd : decode mi.2.1 pc = .ok (.iload i, 2)) (hv : lvG lv i = some (.int x)) (kk : PZ X Q l G mi w0 sz (pc + 2) lv (.int x :: st) k n ws) : PZ X Q l G mi w0 sz pc lv (st) k n ws :=
  fun p e s m args below meth c H locs ls F hx hz hP hD hS hl => lv_iload F.1 F.2.1 hd (lvG_at hl hv) (kk p e s m args below meth c H locs ls F hx hz hP hD hS hl)
theorem pz_iload_n {i : Fin 4} {x : Int32} (hd : decode mi.2.1 pc = .ok (.iload_n i, 1)) (hv : lvG lv (i : Nat) = some (.int x)) (kk : PZ X Q l G mi w0 sz (pc + 1) lv (.int x :: st) k n ws) : PZ X Q l G mi w0 sz pc lv st k n ws :=
  fun p e s m args below meth c H locs ls F hx hz hP hD hS hl => lv_iload_n F.1 F.2.1 hd rfl (lvG_at hl hv) (kk p e s m args below meth c H locs ls F hx hz hP hD hS hl)
theorem pz_istore {i : Nat} {x : Int32} (hd : decode mi.2.1 pc = .ok (.istore i, 2)) (hn : i < mi.2.2.1) (kk : PZ X Q l G mi w0 sz (pc + 2) (lvs lv i (.int x)) st k n ws) : PZ X Q l G mi w0 sz pc lv (.int x :: st) k n ws :=
  fun p e s m args below meth c H locs ls F hx hz hP hD hS hl => lv_istore F.1 F.2.1 hd hl hn rfl (fun ls2 hl2 => kk p e s m args below meth c H locs ls2 F hx hz hP hD hS hl2)
theorem pz_istore_n {i : Fin 4} {x : Int32} (hd : decode mi.2.1 pc = .ok (.istore_n i, 1)) (hn : (i : Nat) < mi.2.2.1) (kk : PZ X Q l G mi w0 sz (pc + 1) (lvs lv (i : Nat) (.int x)) st k n ws) : PZ X Q l G mi w0 sz pc lv (.int x :: st) k n ws :=
  fun p e s m args below meth c H locs ls F hx hz hP hD hS hl => lv_istore_n F.1 F.2.1 hd rfl hl hn rfl (fun ls2 hl2 => kk p e s m args below meth c H locs ls2 F hx hz hP hD hS hl2)
theorem pz_lload {i : Nat} {x : Int64} (hd : decode mi.2.1 pc = .ok (.lload i, 2)) (hv : lvG lv i = some (.long x)) (kk : PZ X Q l G mi w0 sz (pc + 2) lv (.long x :: st) k n ws) : PZ X Q l G mi w0 sz pc lv (st) k n ws :=
  fun p e s m args below meth c H locs ls F hx hz hP hD hS hl => lv_lload F.1 F.2.1 hd (lvG_at hl hv) (kk p e s m args below meth c H locs ls F hx hz hP hD hS hl)
theorem pz_lload_n {i : Fin 4} {x : Int64} (hd : decode mi.2.1 pc = .ok (.lload_n i, 1)) (hv : lvG lv (i : Nat) = some (.long x)) (kk : PZ X Q l G mi w0 sz (pc + 1) lv (.long x :: st) k n ws) : PZ X Q l G mi w0 sz pc lv st k n ws :=
  fun p e s m args below meth c H locs ls F hx hz hP hD hS hl => lv_lload_n F.1 F.2.1 hd rfl (lvG_at hl hv) (kk p e s m args below meth c H locs ls F hx hz hP hD hS hl)
theorem pz_lstore {i : Nat} {x : Int64} (hd : decode mi.2.1 pc = .ok (.lstore i, 2)) (hn : i + 1 < mi.2.2.1) (kk : PZ X Q l G mi w0 sz (pc + 2) (lvs2 lv i (.long x)) st k n ws) : PZ X Q l G mi w0 sz pc lv (.long x :: st) k n ws :=
  fun p e s m args below meth c H locs ls F hx hz hP hD hS hl => lv_lstore F.1 F.2.1 hd hl hn rfl (fun ls2 hl2 => kk p e s m args below meth c H locs ls2 F hx hz hP hD hS hl2)
theorem pz_lstore_n {i : Fin 4} {x : Int64} (hd : decode mi.2.1 pc = .ok (.lstore_n i, 1)) (hn : (i : Nat) + 1 < mi.2.2.1) (kk : PZ X Q l G mi w0 sz (pc + 1) (lvs2 lv (i : Nat) (.long x)) st k n ws) : PZ X Q l G mi w0 sz pc lv (.long x :: st) k n ws :=
  fun p e s m args below meth c H locs ls F hx hz hP hD hS hl => lv_lstore_n F.1 F.2.1 hd rfl hl hn rfl (fun ls2 hl2 => kk p e s m args below meth c H locs ls2 F hx hz hP hD hS hl2)
theorem pz_aload {i : Nat} {x : Nat} (hd : decode mi.2.1 pc = .ok (.aload i, 2)) (hv : lvG lv i = some (.ref x)) (kk : PZ X Q l G mi w0 sz (pc + 2) lv (.ref x :: st) k n ws) : PZ X Q l G mi w0 sz pc lv (st) k n ws :=
  fun p e s m args below meth c H locs ls F hx hz hP hD hS hl => lv_aload F.1 F.2.1 hd (lvG_at hl hv) (kk p e s m args below meth c H locs ls F hx hz hP hD hS hl)
theorem pz_aload_n {i : Fin 4} {x : Nat} (hd : decode mi.2.1 pc = .ok (.aload_n i, 1)) (hv : lvG lv (i : Nat) = some (.ref x)) (kk : PZ X Q l G mi w0 sz (pc + 1) lv (.ref x :: st) k n ws) : PZ X Q l G mi w0 sz pc lv st k n ws :=
  fun p e s m args below meth c H locs ls F hx hz hP hD hS hl => lv_aload_n F.1 F.2.1 hd rfl (lvG_at hl hv) (kk p e s m args below meth c H locs ls F hx hz hP hD hS hl)
theorem pz_astore {i : Nat} {x : Nat} (hd : decode mi.2.1 pc = .ok (.astore i, 2)) (hn : i < mi.2.2.1) (kk : PZ X Q l G mi w0 sz (pc + 2) (lvs lv i (.ref x)) st k n ws) : PZ X Q l G mi w0 sz pc lv (.ref x :: st) k n ws :=
  fun p e s m args below meth c H locs ls F hx hz hP hD hS hl => lv_astore F.1 F.2.1 hd hl hn rfl (fun ls2 hl2 => kk p e s m args below meth c H locs ls2 F hx hz hP hD hS hl2)
theorem pz_astore_n {i : Fin 4} {x : Nat} (hd : decode mi.2.1 pc = .ok (.astore_n i, 1)) (hn : (i : Nat) < mi.2.2.1) (kk : PZ X Q l G mi w0 sz (pc + 1) (lvs lv (i : Nat) (.ref x)) st k n ws) : PZ X Q l G mi w0 sz pc lv (.ref x :: st) k n ws :=
  fun p e s m args below meth c H locs ls F hx hz hP hD hS hl => lv_astore_n F.1 F.2.1 hd rfl hl hn rfl (fun ls2 hl2 => kk p e s m args below meth c H locs ls2 F hx hz hP hD hS hl2)
theorem pz_iinc {i : Nat} {z : Int} {x : Int32} (hd : decode mi.2.1 pc = .ok (.iinc i z, 3)) (hv : lvG lv i = some (.int x)) (hn : i < mi.2.2.1) (kk : PZ X Q l G mi w0 sz (pc + 3) (lvs lv i (.int (x + Int32.ofInt z))) st k n ws) : PZ X Q l G mi w0 sz pc lv st k n ws :=
  fun p e s m args below meth c H locs ls F hx hz hP hD hS hl => (lvG_pl hv).elim fun j hj => lv_iinc F.1 F.2.1 hd hl hj rfl hn rfl (fun ls2 hl2 => kk p e s m args below meth c H locs ls2 F hx hz hP hD hS hl2)
theorem pz_goto {off : Int} {tgt : Nat} (hd : decode mi.2.1 pc = .ok (.goto off, 3)) (ht : (pc : Int) + off = (tgt : Int)) (kk : PZ X Q l G mi w0 sz tgt lv st k n ws) : PZ X Q l G mi w0 sz pc lv st k n ws :=
  fun p e s m args below meth c H locs ls F hx hz hP hD hS hl => lv_goto F.1 F.2.1 hd ht (kk p e s m args below meth c H locs ls F hx hz hP hD hS hl)
theorem pz_if_eq {x : Int32} {off : Int} (tgt : Nat) (hd : decode mi.2.1 pc = .ok (.ifCond .eq off, 3)) (ht : (pc : Int) + off = (tgt : Int)) (kt : x = 0 → PZ X Q l G mi w0 sz tgt lv st k n ws) (kf : ¬ x = 0 → PZ X Q l G mi w0 sz (pc + 3) lv st k n ws) : PZ X Q l G mi w0 sz pc lv (.int x :: st) k n ws :=
  fun p e s m args below meth c H locs ls F hx hz hP hD hS hl => lv_if_eq F.1 F.2.1 hd ht (fun h => kt h p e s m args below meth c H locs ls F hx hz hP hD hS hl) (fun h => kf h p e s m args below meth c H locs ls F hx hz hP hD hS hl)
theorem pz_if_ne {x : Int32} {off : Int} (tgt : Nat) (hd : decode mi.2.1 pc = .ok (.ifCond .ne off, 3)) (ht : (pc : Int) + off = (tgt : Int)) (kt : ¬ x = 0 → PZ X Q l G mi w0 sz tgt lv st k n ws) (kf : x = 0 → PZ X Q l G mi w0 sz (pc + 3) lv st k n ws) : PZ X Q l G mi w0 sz pc lv (.int x :: st) k n ws :=
  fun p e s m args below meth c H locs ls F hx hz hP hD hS hl => lv_if_ne F.1 F.2.1 hd ht (fun h => kt h p e s m args below meth c H locs ls F hx hz hP hD hS hl) (fun h => kf h p e s m args below meth c H locs ls F hx hz hP hD hS hl)
theorem pz_if_lt {x : Int32} {off : Int} (tgt : Nat) (hd : decode mi.2.1 pc = .ok (.ifCond .lt off, 3)) (ht : (pc : Int) + off = (tgt : Int)) (kt : x < 0 → PZ X Q l G mi w0 sz tgt lv st k n ws) (kf : ¬ x < 0 → PZ X Q l G mi w0 sz (pc + 3) lv st k n ws) : PZ X Q l G mi w0 sz pc lv (.int x :: st) k n ws :=
  fun p e s m args below meth c H locs ls F hx hz hP hD hS hl => lv_if_lt F.1 F.2.1 hd ht (fun h => kt h p e s m args below meth c H locs ls F hx hz hP hD hS hl) (fun h => kf h p e s m args below meth c H locs ls F hx hz hP hD hS hl)
theorem pz_if_ge {x : Int32} {off : Int} (tgt : Nat) (hd : decode mi.2.1 pc = .ok (.ifCond .ge off, 3)) (ht : (pc : Int) + off = (tgt : Int)) (kt : 0 ≤ x → PZ X Q l G mi w0 sz tgt lv st k n ws) (kf : ¬ 0 ≤ x → PZ X Q l G mi w0 sz (pc + 3) lv st k n ws) : PZ X Q l G mi w0 sz pc lv (.int x :: st) k n ws :=
  fun p e s m args below meth c H locs ls F hx hz hP hD hS hl => lv_if_ge F.1 F.2.1 hd ht (fun h => kt h p e s m args below meth c H locs ls F hx hz hP hD hS hl) (fun h => kf h p e s m args below meth c H locs ls F hx hz hP hD hS hl)
theorem pz_if_gt {x : Int32} {off : Int} (tgt : Nat) (hd : decode mi.2.1 pc = .ok (.ifCond .gt off, 3)) (ht : (pc : Int) + off = (tgt : Int)) (kt : 0 < x → PZ X Q l G mi w0 sz tgt lv st k n ws) (kf : ¬ 0 < x → PZ X Q l G mi w0 sz (pc + 3) lv st k n ws) : PZ X Q l G mi w0 sz pc lv (.int x :: st) k n ws :=
  fun p e s m args below meth c H locs ls F hx hz hP hD hS hl => lv_if_gt F.1 F.2.1 hd ht (fun h => kt h p e s m args below meth c H locs ls F hx hz hP hD hS hl) (fun h => kf h p e s m args below meth c H locs ls F hx hz hP hD hS hl)
theorem pz_if_le {x : Int32} {off : Int} (tgt : Nat) (hd : decode mi.2.1 pc = .ok (.ifCond .le off, 3)) (ht : (pc : Int) + off = (tgt : Int)) (kt : x ≤ 0 → PZ X Q l G mi w0 sz tgt lv st k n ws) (kf : ¬ x ≤ 0 → PZ X Q l G mi w0 sz (pc + 3) lv st k n ws) : PZ X Q l G mi w0 sz pc lv (.int x :: st) k n ws :=
  fun p e s m args below meth c H locs ls F hx hz hP hD hS hl => lv_if_le F.1 F.2.1 hd ht (fun h => kt h p e s m args below meth c H locs ls F hx hz hP hD hS hl) (fun h => kf h p e s m args below meth c H locs ls F hx hz hP hD hS hl)
theorem pz_icmp_eq {x y : Int32} {off : Int} (tgt : Nat) (hd : decode mi.2.1 pc = .ok (.if_icmp .eq off, 3)) (ht : (pc : Int) + off = (tgt : Int)) (kt : x = y → PZ X Q l G mi w0 sz tgt lv st k n ws) (kf : ¬ x = y → PZ X Q l G mi w0 sz (pc + 3) lv st k n ws) : PZ X Q l G mi w0 sz pc lv (.int y :: .int x :: st) k n ws :=
  fun p e s m args below meth c H locs ls F hx hz hP hD hS hl => lv_icmp_eq F.1 F.2.1 hd ht (fun h => kt h p e s m args below meth c H locs ls F hx hz hP hD hS hl) (fun h => kf h p e s m args below meth c H locs ls F hx hz hP hD hS hl)
theorem pz_icmp_ne {x y : Int32} {off : Int} (tgt : Nat) (hd : decode mi.2.1 pc = .ok (.if_icmp .ne off, 3)) (ht : (pc : Int) + off = (tgt : Int)) (kt : ¬ x = y → PZ X Q l G mi w0 sz tgt lv st k n ws) (kf : x = y → PZ X Q l G mi w0 sz (pc + 3) lv st k n ws) : PZ X Q l G mi w0 sz pc lv (.int y :: .int x :: st) k n ws :=
  fun p e s m args below meth c H locs ls F hx hz hP hD hS hl => lv_icmp_ne F.1 F.2.1 hd ht (fun h => kt h p e s m args below meth c H locs ls F hx hz hP hD hS hl) (fun h => kf h p e s m args below meth c H locs ls F hx hz hP hD hS hl)
theorem pz_icmp_lt {x y : Int32} {off : Int} (tgt : Nat) (hd : decode mi.2.1 pc = .ok (.if_icmp .lt off, 3)) (ht : (pc : Int) + off = (tgt : Int)) (kt : x < y → PZ X Q l G mi w0 sz tgt lv st k n ws) (kf : ¬ x < y → PZ X Q l G mi w0 sz (pc + 3) lv st k n ws) : PZ X Q l G mi w0 sz pc lv (.int y :: .int x :: st) k n ws :=
  fun p e s m args below meth c H locs ls F hx hz hP hD hS hl => lv_icmp_lt F.1 F.2.1 hd ht (fun h => kt h p e s m args below meth c H locs ls F hx hz hP hD hS hl) (fun h => kf h p e s m args below meth c H locs ls F hx hz hP hD hS hl)
theorem pz_icmp_ge {x y : Int32} {off : Int} (tgt : Nat) (hd : decode mi.2.1 pc = .ok (.if_icmp .ge off, 3)) (ht : (pc : Int) + off = (tgt : Int)) (kt : y ≤ x → PZ X Q l G mi w0 sz tgt lv st k n ws) (kf : ¬ y ≤ x → PZ X Q l G mi w0 sz (pc + 3) lv st k n ws) : PZ X Q l G mi w0 sz pc lv (.int y :: .int x :: st) k n ws :=
  fun p e s m args below meth c H locs ls F hx hz hP hD hS hl => lv_icmp_ge F.1 F.2.1 hd ht (fun h => kt h p e s m args below meth c H locs ls F hx hz hP hD hS hl) (fun h => kf h p e s m args below meth c H locs ls F hx hz hP hD hS hl)
theorem pz_icmp_gt {x y : Int32} {off : Int} (tgt : Nat) (hd : decode mi.2.1 pc = .ok (.if_icmp .gt off, 3)) (ht : (pc : Int) + off = (tgt : Int)) (kt : y < x → PZ X Q l G mi w0 sz tgt lv st k n ws) (kf : ¬ y < x → PZ X Q l G mi w0 sz (pc + 3) lv st k n ws) : PZ X Q l G mi w0 sz pc lv (.int y :: .int x :: st) k n ws :=
  fun p e s m args below meth c H locs ls F hx hz hP hD hS hl => lv_icmp_gt F.1 F.2.1 hd ht (fun h => kt h p e s m args below meth c H locs ls F hx hz hP hD hS hl) (fun h => kf h p e s m args below meth c H locs ls F hx hz hP hD hS hl)
theorem pz_icmp_le {x y : Int32} {off : Int} (tgt : Nat) (hd : decode mi.2.1 pc = .ok (.if_icmp .le off, 3)) (ht : (pc : Int) + off = (tgt : Int)) (kt : x ≤ y → PZ X Q l G mi w0 sz tgt lv st k n ws) (kf : ¬ x ≤ y → PZ X Q l G mi w0 sz (pc + 3) lv st k n ws) : PZ X Q l G mi w0 sz pc lv (.int y :: .int x :: st) k n ws :=
  fun p e s m args below meth c H locs ls F hx hz hP hD hS hl => lv_icmp_le F.1 F.2.1 hd ht (fun h => kt h p e s m args below meth c H locs ls F hx hz hP hD hS hl) (fun h => kf h p e s m args below meth c H locs ls F hx hz hP hD hS hl)
theorem pz_tableOut {dflt lo hi : Int} {offs : Array Int} {len : Nat} {x : Int32} (tgt : Nat) (hd : decode mi.2.1 pc = .ok (.tableswitch dflt lo hi offs, len)) (h : x.toInt < lo ∨ hi < x.toInt) (ht : (pc : Int) + dflt = (tgt : Int)) (kk : PZ X Q l G mi w0 sz tgt lv st k n ws) : PZ X Q l G mi w0 sz pc lv (.int x :: st) k n ws :=
  fun p e s m args below meth c H locs ls F hx hz hP hD hS hl => lv_tableOut F.1 F.2.1 hd h ht (kk p e s m args below meth c H locs ls F hx hz hP hD hS hl)
theorem pz_tableIn {dflt lo hi : Int} {offs : Array Int} {len : Nat} {x : Int32} {off : Int} (tgt : Nat) (hd : decode mi.2.1 pc = .ok (.tableswitch dflt lo hi offs, len)) (h1 : ¬ x.toInt < lo) (h2 : ¬ hi < x.toInt) (ho : offs[(x.toInt - lo).toNat]? = some off) (ht : (pc : Int) + off = (tgt : Int)) (kk : PZ X Q l G mi w0 sz tgt lv st k n ws) : PZ X Q l G mi w0 sz pc lv (.int x :: st) k n ws :=
  fun p e s m args below meth c H locs ls F hx hz hP hD hS hl => lv_tableIn F.1 F.2.1 hd h1 h2 ho ht (kk p e s m args below meth c H locs ls F hx hz hP hD hS hl)
theorem pz_lald {a len : Nat} {f : Nat → Int64} {i : Int32} (hd : decode mi.2.1 pc = .ok (.laload, 1)) (q0 : Nat) (he : ws[q0]? = some (a, .inl (G.2.2.1, len, .inr (.inl f)))) (hin : vp_in i len) (kk : PZ X Q l G mi w0 sz (pc + 1) lv (.long (f i.toNatClampNeg) :: st) k n ws) : PZ X Q l G mi w0 sz pc lv (.int i :: .ref a :: st) k n ws :=
  fun p e s m args below meth c H locs ls F hx hz hP hD hS hl => va_lald F.1 F.2.1 F.K hP q0 1 he rfl hin hd (kk p e s m args below meth c H locs ls F hx hz hP hD hS hl)
theorem pz_last {a len : Nat} {f : Nat → Int64} {i : Int32} {x : Int64} (hd : decode mi.2.1 pc = .ok (.lastore, 1)) (q0 : Nat) (he : ws[q0]? = some (a, .inl (G.2.2.1, len, .inr (.inl f)))) (hin : vp_in i len) (kk : PZ X Q l G mi w0 sz (pc + 1) lv st k n (ws.set q0 (a, .inl (G.2.2.1, len, .inr (.inl (vp_updL f i.toNatClampNeg x)))))) : PZ X Q l G mi w0 sz pc lv (.long x :: .int i :: .ref a :: st) k n ws :=
  fun p e s m args below meth c H locs ls F hx hz hP hD hS hl => va_last F.1 F.2.1 F.K hP hD hS q0 1 he rfl hin hd (fun H1 locs1 hP1 hD1 hS1 => kk p e s m args below meth c H1 locs1 ls F hx hz hP1 hD1 hS1 hl)
theorem pz_new {idx ci : Nat} {C : String} {T : u_T} {N : Nat} {fs : List Value} (ty : Nat → FieldType) (hty : ∀ q, q < N → parseFieldDescriptor (T q).2.2.1 = some (ty q)) (hd : decode mi.2.1 pc = .ok (.new idx, 3)) (hc : vwCl[ci]? = some (C, T, N)) (hin : ∀ w ∈ u_ws C T N, w ∈ TW) (hcl : Cond.classLink mi.1.cls idx C ∈ TW) (hinst : Cond.instantiable C N ∈ TW) (hini : Cond.initialized C ∈ TW) (hfs : ∀ j, j < N → defaultValue (ty j) = vp_V fs j) (h1 : k + 1 ≤ mi.2.2.2.2.cells) (h2 : n + N ≤ mi.2.2.2.2.slots)
    (kk : ∀ q, PZ X Q l G mi w0 sz (pc + 3) lv (.ref q :: st) (k + 1) (n + N) (ws ++ [(q, .inr (ci, fs))])) : PZ X Q l G mi w0 sz pc lv st k n ws :=
  fun p e s m args below meth c H locs ls F hx hz hP hD hS hl => va_new F.1 F.2.1 F.hts hin ty hty F.own (F.hts _ hcl) (F.hts _ hinst) (F.hts _ hini) F.K hP hD hS (pw_A0 hz) hc hfs h1 h2 hd (fun q H1 hP1 hD1 hS1 => kk q p e s m args below meth c H1 locs ls F hx hz hP1 hD1 hS1 hl)
theorem pz_newL {z : Int32} (N' : Nat) (hd : decode mi.2.1 pc = .ok (.newarray .long, 2)) (hac : Cond.arrayClass .long ∈ TW) (hz0 : ¬ z < 0) (hzN : z.toNatClampNeg = N') (hby : N' * componentBytes .long ≤ 536870912) (h1 : k + 1 ≤ mi.2.2.2.2.cells) (h2 : n + N' ≤ mi.2.2.2.2.slots)
    (kk : ∀ q, PZ X Q l G mi w0 sz (pc + 2) lv (.ref q :: st) (k + 1) (n + N') (ws ++ [(q, .inl (G.2.2.1, N', .inr (.inl (fun _ => 0))))])) : PZ X Q l G mi w0 sz pc lv (.int z :: st) k n ws := by
  intro p e s m args below meth c H locs ls F hx hz hP hD hS hl
  refine va_newa (atype := .long) (ty := .long) (a0 := (N', .inr (.inl (fun _ => 0)))) F.1 F.2.1 (F.hts _ hac) rfl F.K hP hD hS (pw_A0 hz) (fun cA => rfl) hz0 hzN hby h1 h2 hd (fun q cA H1 hK1 hP1 hD1 hS1 => ?_)
  have hc : cA = G.2.2.1 := by
    have e1 := (hK1.2 4 (cA, .long) rfl).2
    have e2 := (F.K.2 1 (G.2.2.1, .long) rfl).2
    exact Option.some.inj (Eq.trans (Eq.symm e1) e2)
  subst hc
  exact kk q p e s m args below meth c H1 locs ls F hx hz hP1 hD1 hS1 hl
theorem MKz.B {mi' : MI} {na idx : Nat} {A : Nat → Prop} {p : Program} {s : State} {m : MethodId} {args : Array Value} {meth : Method} {c : Code} (F : Fz G mi A p s m meth c) (hm : MK mi' na) (hr : RMok mi mi') (hl : Cond.methodLink mi.1.cls idx mi'.1 ∈ TW) : CallB mi.2.2.2.2 s args mi.1.cls idx mi'.1 mi'.2.1 mi'.2.2.1 mi'.2.2.2.1 [Cond.code mi'.1 mi'.2.1 mi'.2.2.1 mi'.2.2.2.1] mi'.2.2.2.2 mi'.2.2.2.2.cells mi'.2.2.2.2.slots na := by
  refine ⟨rfl, rfl, hr.1, hr.2, fun w hw a' U hW => ?_, List.mem_cons_self, F.hts _ hm.1, F.hts _ hm.2.1, ⟨hm.2.2.1, hm.2.2.2.1⟩, fun sig h => ?_, F.hts _ hl⟩
  · rw [List.mem_singleton.mp hw]; exact tw_warm (A := args) (List.mem_filter.mp hm.1).2 hW (F.hts _ hm.1)
  · have h2 := hm.2.2.2.2.1
    rw [h] at h2
    exact (Option.some.inj h2).symm
theorem MKz.N {mi' : MI} {na idx : Nat} {host : String} {A : Nat → Prop} {p : Program} {s : State} {m : MethodId} {args : Array Value} {meth : Method} {c : Code} (F : Fz G mi A p s m meth c) (hm : MK mi' na) (hr : RMok mi mi') (hl : Cond.methodLinkNest mi.1.cls idx mi'.1 host ∈ TW) : va_CN mi.2.2.2.2 s args mi.1.cls idx mi'.1 host mi'.2.1 mi'.2.2.1 mi'.2.2.2.1 [Cond.code mi'.1 mi'.2.1 mi'.2.2.1 mi'.2.2.2.1] mi'.2.2.2.2 mi'.2.2.2.2.cells mi'.2.2.2.2.slots na := by
  refine ⟨⟨rfl, rfl, hr.1, hr.2, fun w hw a' U hW => ?_, List.mem_cons_self⟩, F.hts _ hm.1, F.hts _ hm.2.1, ⟨hm.2.2.1, hm.2.2.2.1⟩, fun sig h => ?_, F.hts _ hl⟩
  · rw [List.mem_singleton.mp hw]; exact tw_warm (A := args) (List.mem_filter.mp hm.1).2 hW (F.hts _ hm.1)
  · have h2 := hm.2.2.2.2.1
    rw [h] at h2
    exact (Option.some.inj h2).symm
theorem pz_lk (lv' : List (Nat × Value)) (h : lvOK lv lv') (kk : PZ X Q l G mi w0 sz pc lv' st k n ws) : PZ X Q l G mi w0 sz pc lv st k n ws := pz_lv (lvOK_all h) kk
theorem pz_ws {ws' : va_W} (h : ws = ws') (kk : PZ X Q l G mi w0 sz pc lv st k n ws') : PZ X Q l G mi w0 sz pc lv st k n ws := by rw [h]; exact kk
theorem pz_top {x : Int32} (y : Int32) (h : x = y) (kk : PZ X Q l G mi w0 sz pc lv (.int y :: st) k n ws) : PZ X Q l G mi w0 sz pc lv (.int x :: st) k n ws := by rw [h]; exact kk
theorem pz_topl {x : Int64} (y : Int64) (h : x = y) (kk : PZ X Q l G mi w0 sz pc lv (.long y :: st) k n ws) : PZ X Q l G mi w0 sz pc lv (.long x :: st) k n ws := by rw [h]; exact kk
theorem pz_kn (k' n' : Nat) (hk : k = k') (hn : n = n') (kk : PZ X Q l G mi w0 sz pc lv st k' n' ws) : PZ X Q l G mi w0 sz pc lv st k n ws := by rw [hk, hn]; exact kk
theorem pz_dstore {i : Nat} {x : UInt64} (hd : decode mi.2.1 pc = .ok (.dstore i, 2)) (hn : i + 1 < mi.2.2.1) (kk : PZ X Q l G mi w0 sz (pc + 2) (lvs2 lv i (.double x)) st k n ws) : PZ X Q l G mi w0 sz pc lv (.double x :: st) k n ws :=
  fun p e s m args below meth c H locs ls F hx hz hP hD hS hl => lv_dstore F.1 F.2.1 hd hl hn rfl (fun ls2 hl2 => kk p e s m args below meth c H locs ls2 F hx hz hP hD hS hl2)
theorem pz_dload {i : Nat} {x : UInt64} (hd : decode mi.2.1 pc = .ok (.dload i, 2)) (hv : lvG lv i = some (.double x)) (kk : PZ X Q l G mi w0 sz (pc + 2) lv (.double x :: st) k n ws) : PZ X Q l G mi w0 sz pc lv st k n ws :=
  fun p e s m args below meth c H locs ls F hx hz hP hD hS hl => lv_dload F.1 F.2.1 hd (lvG_at hl hv) (kk p e s m args below meth c H locs ls F hx hz hP hD hS hl)
theorem pz_behind {mi' : MI} {a : Array Value} {st0 rest : List Value} {fin' : OC → Prop} {p : Program} {e : Env} {s : State} {m : MethodId} {args : Array Value} {below : List Frame} {meth : Method} {c : Code} {H : Heap} {locs : List Loc} {ls : Array Slot} (F : Fz G mi (va_A w0 sz) p s m meth c) (hx : X s c) (hz : s.heap.size = sz) (hD : va_D (va_A w0 sz) ws) (hS : va_S (va_A w0 sz) s.heap H locs) (hl : lv_has ls mi.2.2.1 lv)
    (hrun : vx_Run p l e mi.2.2.2.2 s m args below meth c H locs k n mi'.2.2.2.2.cells mi'.2.2.2.2.slots (F0 m pc ls st0) rest (QcM G fin' (va_A ws H.size) a) (XcM G fin' (va_A ws H.size)) (va_A ws H.size))
    (kk : ∀ v ws', fin' (.inl (v, ws')) → PZ X Q l G mi w0 sz (pc + 3) lv (v.toList ++ rest) (k + mi'.2.2.2.2.cells) (n + mi'.2.2.2.2.slots) ws') (kx : ∀ E ws', fin' (.inr (E, ws')) → PZX X Q l G mi w0 sz E pc lv rest (k + mi'.2.2.2.2.cells) (n + mi'.2.2.2.2.slots) ws') :
    W p l e mi.2.2.2.2 s m args below meth c H locs k n (Q below args s) (F0 m pc ls st0) := by
  have hFA := pw_A hz hD hS
  intro T hT Y
  rcases hrun T hT Y with ⟨v, st₀, t, T', L, h0, Y', hL, e1, e2, ⟨v', ws', hv, hfin, hP', hD', hF⟩, hst⟩ | ⟨q, st₀, t, T', L, E, ce, h0, Y', hL, e1, e2, ⟨ws', hfin, hP', hD', hF⟩, hce, hcv, hcl, hst⟩
  · cases hv
    obtain ⟨k1, k2, k3⟩ := vx_keep h0 e1 hS (fun q _ => hFA q) hFA hL hF
    obtain ⟨t2, a1, b1⟩ := kk v ws' hfin p e s m args below meth c T'.heap (locs ++ L) ls F hx hz (by rw [e1]; exact hP') (hD'.weaken (fun _ q _ h => hFA q.1 h)) k3 hl T' rfl Y'
    exact ⟨t2, hst t2 a1, b1⟩
  · obtain ⟨k1, k2, k3⟩ := vx_keep h0 e1 hS (fun q _ => hFA q) hFA hL hF
    obtain ⟨t2, a1, b1⟩ := kx E ws' hfin p e s m args below meth c T'.heap (locs ++ L) ls q ce F hx hz (by rw [e1]; exact hP') (hD'.weaken (fun _ q _ h => hFA q.1 h)) k3 hl (by rw [e1]; exact hce) hcv hcl T' rfl Y'
    exact ⟨t2, hst.trans a1, b1⟩
theorem pz_callV {mi' : MI} {As : List Value} {fin' : OC → Prop} {ci b idx na : Nat} {r : vw_C} {fs : List Value} {stk : List Value} (hd : decode mi.2.1 pc = .ok (.invokevirtual idx, 3)) (hlk : LK mi.1.cls idx mi'.1) (hm : MK mi' na) (hi : Cond.instanceMethod mi'.1 ∈ TW) (hse : Cond.selects r.1 mi'.1 mi'.1 ∈ TW) (hr : RMok mi mi') (hn : As.length = na) (hst : stk = As.reverse ++ .ref b :: st) (hcat : (st.map fun v => v.category).sum ≤ 8) (q0 : Nat) (he : ws[q0]? = some (b, .inr (ci, fs))) (hc : vwCl[ci]? = some r) (hsp : Spec l G mi' (.ref b :: As) ws fin') (hroom : k + mi'.2.2.2.2.cells ≤ mi.2.2.2.2.cells ∧ n + mi'.2.2.2.2.slots ≤ mi.2.2.2.2.slots)
    (kk : ∀ v ws', fin' (.inl (v, ws')) → PZ X Q l G mi w0 sz (pc + 3) lv (v.toList ++ st) (k + mi'.2.2.2.2.cells) (n + mi'.2.2.2.2.slots) ws') (kx : ∀ E ws', fin' (.inr (E, ws')) → PZX X Q l G mi w0 sz E pc lv st (k + mi'.2.2.2.2.cells) (n + mi'.2.2.2.2.slots) ws') : PZ X Q l G mi w0 sz pc lv stk k n ws := by
  intro p e s m args below meth c H locs ls F hx hz hP hD hS hl
  have hFA := pw_A hz hD hS
  refine pz_behind (mi' := mi') (a := ((.ref b :: As) : List Value).toArray) (rest := st) (fin' := fin') F hx hz hD hS hl ?_ kk kx
  rcases hlk with h2 | ⟨host, h2⟩
  · exact vx_runV (Ts := TW) ⟨F.1, F.2.1, F.2.2.1, F.own, F.hts⟩ (hsp H.size) ⟨MKz.B F hm hr h2, F.hts _ hi, F.hts _ hse⟩ ⟨Pc_blind, va_recv F.K hP hc he, fun U hU hW => ⟨rfl, by rw [hU], by rw [hU]; exact hP, va_K.moved hW.alike F.K, hD.weaken (fun _ _ _ _ => trivial), by rw [hU]; exact F.E.go hW hS hFA⟩⟩ rfl hn hl.1 hst (lv_room hcat) hd hroom
  · exact vx_runVN (Ts := TW) ⟨F.1, F.2.1, F.2.2.1, F.own, F.hts⟩ (hsp H.size) ⟨MKz.N F hm hr h2, F.hts _ hi, F.hts _ hse⟩ ⟨Pc_blind, va_recv F.K hP hc he, fun U hU hW => ⟨rfl, by rw [hU], by rw [hU]; exact hP, va_K.moved hW.alike F.K, hD.weaken (fun _ _ _ _ => trivial), by rw [hU]; exact F.E.go hW hS hFA⟩⟩ rfl hn hl.1 hst (lv_room hcat) hd hroom
theorem pz_callS {mi' : MI} {As : List Value} {fin' : OC → Prop} {idx na : Nat} {stk : List Value} (hd : decode mi.2.1 pc = .ok (.invokestatic idx, 3)) (hlk : LK mi.1.cls idx mi'.1) (hm : MK mi' na) (hi : Cond.static mi'.1 ∈ TW) (hr : RMok mi mi') (hn : As.length = na) (hst : stk = As.reverse ++ st) (hcat : (st.map fun v => v.category).sum ≤ 8) (hsp : Spec l G mi' As ws fin') (hroom : k + mi'.2.2.2.2.cells ≤ mi.2.2.2.2.cells ∧ n + mi'.2.2.2.2.slots ≤ mi.2.2.2.2.slots)
    (kk : ∀ v ws', fin' (.inl (v, ws')) → PZ X Q l G mi w0 sz (pc + 3) lv (v.toList ++ st) (k + mi'.2.2.2.2.cells) (n + mi'.2.2.2.2.slots) ws') (kx : ∀ E ws', fin' (.inr (E, ws')) → PZX X Q l G mi w0 sz E pc lv st (k + mi'.2.2.2.2.cells) (n + mi'.2.2.2.2.slots) ws') : PZ X Q l G mi w0 sz pc lv stk k n ws := by
  intro p e s m args below meth c H locs ls F hx hz hP hD hS hl
  have hFA := pw_A hz hD hS
  refine pz_behind (mi' := mi') (a := (As : List Value).toArray) (rest := st) (fin' := fin') F hx hz hD hS hl ?_ kk kx
  rcases hlk with h2 | ⟨host, h2⟩
  · exact vx_runS (Ts := TW) ⟨F.1, F.2.1, F.2.2.1, F.own, F.hts⟩ (hsp H.size) ⟨MKz.B F hm hr h2, F.hts _ hi⟩ ⟨Pc_blind, fun U hU hW => ⟨rfl, by rw [hU], by rw [hU]; exact hP, va_K.moved hW.alike F.K, hD.weaken (fun _ _ _ _ => trivial), by rw [hU]; exact F.E.go hW hS hFA⟩⟩ rfl hn hl.1 hst (lv_room hcat) hd hroom
  · exact vx_runSN (Ts := TW) ⟨F.1, F.2.1, F.2.2.1, F.own, F.hts⟩ (hsp H.size) ⟨MKz.N F hm hr h2, F.hts _ hi, trivial⟩ ⟨Pc_blind, fun U hU hW => ⟨rfl, by rw [hU], by rw [hU]; exact hP, va_K.moved hW.alike F.K, hD.weaken (fun _ _ _ _ => trivial), by rw [hU]; exact F.E.go hW hS hFA⟩⟩ rfl hn hl.1 hst (lv_room hcat) hd hroom
theorem pz_callI {mi' : MI} {As : List Value} {fin' : OC → Prop} {b idx na : Nat} {stk : List Value} (hd : decode mi.2.1 pc = .ok (.invokespecial idx, 3)) (hlk : LK mi.1.cls idx mi'.1) (hm : MK mi' na) (hi : Cond.instanceMethod mi'.1 ∈ TW) (hin : mi'.1.name = "<init>") (hno : mi'.2.2.2.1 = none) (hr : RMok mi mi') (hn : As.length = na) (hst : stk = As.reverse ++ .ref b :: st) (hcat : (st.map fun v => v.category).sum ≤ 8) (hsp : Spec l G mi' (.ref b :: As) ws fin') (hroom : k + mi'.2.2.2.2.cells ≤ mi.2.2.2.2.cells ∧ n + mi'.2.2.2.2.slots ≤ mi.2.2.2.2.slots)
    (kk : ∀ v ws', fin' (.inl (v, ws')) → PZ X Q l G mi w0 sz (pc + 3) lv (v.toList ++ st) (k + mi'.2.2.2.2.cells) (n + mi'.2.2.2.2.slots) ws') (kx : ∀ E ws', fin' (.inr (E, ws')) → PZX X Q l G mi w0 sz E pc lv st (k + mi'.2.2.2.2.cells) (n + mi'.2.2.2.2.slots) ws') : PZ X Q l G mi w0 sz pc lv stk k n ws := by
  intro p e s m args below meth c H locs ls F hx hz hP hD hS hl
  have hFA := pw_A hz hD hS
  refine pz_behind (mi' := mi') (a := ((.ref b :: As) : List Value).toArray) (rest := st) (fin' := fin') F hx hz hD hS hl ?_ kk kx
  rcases hlk with h2 | ⟨host, h2⟩
  · have hB := MKz.B (args := args) F hm hr h2
    rw [hno] at hB
    have hsp1 := hsp H.size
    rw [hno] at hsp1
    exact vx_runI (Ts := TW) ⟨F.1, F.2.1, F.2.2.1, F.own, F.hts⟩ hsp1 ⟨hB, hin, F.hts _ hi⟩ ⟨Pc_blind, fun U hU hW => ⟨rfl, by rw [hU], by rw [hU]; exact hP, va_K.moved hW.alike F.K, hD.weaken (fun _ _ _ _ => trivial), by rw [hU]; exact F.E.go hW hS hFA⟩⟩ rfl hn hl.1 hst (lv_room hcat) hd hroom
  · have hN := MKz.N (args := args) F hm hr h2
    rw [hno] at hN
    have hsp1 := hsp H.size
    rw [hno] at hsp1
    exact vx_runIN (Ts := TW) ⟨F.1, F.2.1, F.2.2.1, F.own, F.hts⟩ hsp1 ⟨hN, hin, F.hts _ hi⟩ ⟨Pc_blind, fun U hU hW => ⟨rfl, by rw [hU], by rw [hU]; exact hP, va_K.moved hW.alike F.K, hD.weaken (fun _ _ _ _ => trivial), by rw [hU]; exact F.E.go hW hS hFA⟩⟩ rfl hn hl.1 hst (lv_room hcat) hd hroom
/-- a static method with handlers that returns -/
def SpecW (l : Launch) (G : cxG) (mi : MI) (hh : List (Nat × Nat × Nat × Nat)) (As : List Value) (ws : va_W) (fin : OC → Prop) : Prop :=
  ∀ sz : Nat, Met l mi.1 [Cond.codeWith mi.1 mi.2.1 mi.2.2.1 mi.2.2.2.1 hh] mi.2.2.2.2 (va_Pc As (fun U => U.heap.size = sz ∧ va_P G.1 vwCl ws U.heap ∧ va_K G.1 vwCl (tysG G) U ∧ va_D (fun _ => True) ws ∧ Ev (va_A ws sz) U U.heap)) (QcM G fin (va_A ws sz)) mi.2.2.2.2.cells mi.2.2.2.2.slots (va_A ws sz)
def tabX (hh : List (Nat × Nat × Nat × Nat)) : State → Code → Prop := fun _ c => c.exceptionTable.toList = tableOf hh
def QWz (G : cxG) (mi : MI) (w0 : va_W) (sz : Nat) (fin : OC → Prop) : List Frame → Array Value → State → State → Prop := fun below args s => MQ below (QcM G fin (va_A w0 sz)) args s mi.2.2.2.2.cells mi.2.2.2.2.slots (va_A w0 sz)
theorem specW_of {hh : List (Nat × Nat × Nat × Nat)} {As : List Value} {fin : OC → Prop} (hy : plainName mi.1.cls = true) (hlen : (lg_sl As).length ≤ mi.2.2.1) (kk : ∀ sz, PZ (tabX hh) (QWz G mi ws sz fin) l G mi ws sz 0 (lv_args 0 As) [] 0 0 ws) : SpecW l G mi hh As ws fin := by
  intro sz
  refine va_MetW (cc := mi.2.1) (maxL := mi.2.2.1) (ret := mi.2.2.2.1) (hh := hh) hy rfl ?_
  intro p e s m args below meth c s₁ B hml hv
  obtain ⟨rfl, hsz, hP, hK, hD0, hE⟩ := hv
  have htab := vx_table (x := mi.1) B (atoms_spec (ws := [Cond.codeWith mi.1 mi.2.1 mi.2.2.1 mi.2.2.2.1 hh]) B.pre _ List.mem_cons_self)
  rw [lg_entry_eq]
  exact kk sz p e s m _ below meth c s.heap [] _ ⟨B.exec, B.bytes, hml, B.returns, B.notSynchronized, findClass_of_methodNamed B.named, trivial, hK, hE⟩ htab hsz hP hD0.self va_S.rf (lv_entry As hlen)
theorem pz_iret {fin : OC → Prop} {x : Int32} {ty : FieldType} (hr : mi.2.2.2.1 = some ty) (hn : narrow ty (.int x) = .int x) (hd : decode mi.2.1 pc = .ok (.ireturn, 1)) (hc : k ≤ mi.2.2.2.2.cells) (hs : n ≤ mi.2.2.2.2.slots) (hf : fin (.inl (some (.int x), ws))) : PZ X (QWz G mi w0 sz fin) l G mi w0 sz pc lv ([.int x]) k n ws :=
  fun p e s m args below meth c H locs ls F hx hz hP hD hS hl => W.widen hc hs (W.zret F.1 F.2.1 (F.2.2.2.1.trans hr) hn (fun t ht hw => ⟨_, ws, rfl, hf, by rw [ht]; exact hP, hD, hS.F ht⟩) hS.2.2 hd F.2.2.2.2.1)
theorem pz_catch {hh : List (Nat × Nat × Nat × Nat)} {E name : String} (pre : List ExceptionTableEntry) (x : ExceptionTableEntry) (suf : List ExceptionTableEntry) (hsplit : tableOf hh = pre ++ x :: suf)
    (hpass : ∀ z ∈ pre, covers z pc = false ∨ (z.catchType ≠ 0 ∧ ∃ nm : String, Cond.classLink mi.1.cls z.catchType nm ∈ TW ∧ E ∈ exL ∧ nm ∈ exL ∧ E ≠ nm)) (hcov : covers x pc = true) (h0 : x.catchType ≠ 0) (hlink : Cond.classLink mi.1.cls x.catchType name ∈ TW) (hcast : Cond.castable E name ∈ TW)
    (kk : ∀ q, PZ (tabX hh) Q l G mi w0 sz x.handlerPc lv [.ref q] k n ws) : PZX (tabX hh) Q l G mi w0 sz E pc lv st k n ws := by
  intro p e s m args below meth c H locs ls q ce F hx hz hP hD hS hl hce hcv hcl
  refine vx_catch F.own pre x suf (hx.trans hsplit) (fun z hz => ?_) hcov h0 (F.hts _ hlink) (F.hts _ hcast) hce hcv hcl (kk q p e s m args below meth c H locs ls F hx hz hP hD hS hl)
  rcases hpass z hz with h | ⟨a, nm, b, c1, c2, c3⟩
  · exact Or.inl h
  · exact Or.inr ⟨a, nm, F.hts _ b, F.E.1.2.2 _ c1 _ c2 c3⟩
def MKW (mi : MI) (hh : List (Nat × Nat × Nat × Nat)) (na : Nat) : Prop := Cond.codeWith mi.1 mi.2.1 mi.2.2.1 mi.2.2.2.1 hh ∈ TW ∧ Cond.initialized mi.1.cls ∈ TW ∧ mi.1.cls ≠ "java/lang/invoke/MethodHandle" ∧ mi.1.cls ≠ "java/lang/invoke/VarHandle" ∧ (parseMethodDescriptor mi.1.desc).map (fun d => d.parameters.length) = some na ∧ Cond.static mi.1 ∈ TW
theorem pz_callW {mi' : MI} {hh : List (Nat × Nat × Nat × Nat)} {As : List Value} {fin' : OC → Prop} {idx na : Nat} {stk : List Value} (hd : decode mi.2.1 pc = .ok (.invokestatic idx, 3)) (hlk : Cond.methodLink mi.1.cls idx mi'.1 ∈ TW) (hm : MKW mi' hh na) (hr : RMok mi mi') (hn : As.length = na) (hst : stk = As.reverse ++ st) (hcat : (st.map fun v => v.category).sum ≤ 8) (hsp : SpecW l G mi' hh As ws fin') (hroom : k + mi'.2.2.2.2.cells ≤ mi.2.2.2.2.cells ∧ n + mi'.2.2.2.2.slots ≤ mi.2.2.2.2.slots)
    (kk : ∀ v ws', fin' (.inl (v, ws')) → PZ X Q l G mi w0 sz (pc + 3) lv (v.toList ++ st) (k + mi'.2.2.2.2.cells) (n + mi'.2.2.2.2.slots) ws') : PZ X Q l G mi w0 sz pc lv stk k n ws := by
  intro p e s m args below meth c H locs ls F hx hz hP hD hS hl
  have hFA := pw_A hz hD hS
  obtain ⟨m1, m2, m3, m4, m5, m6⟩ := hm
  have cw : vx_CSW mi.2.2.2.2 s args mi.1.cls idx mi'.1 mi'.2.1 mi'.2.2.1 mi'.2.2.2.1 hh [Cond.codeWith mi'.1 mi'.2.1 mi'.2.2.1 mi'.2.2.2.1 hh] mi'.2.2.2.2 mi'.2.2.2.2.cells mi'.2.2.2.2.slots na := by
    refine ⟨⟨rfl, rfl, hr.1, hr.2, fun w hw a' U hW => ?_, List.mem_cons_self⟩, F.hts _ m1, F.hts _ m2, ⟨m3, m4⟩, fun sig h => ?_, F.hts _ hlk, F.hts _ m6⟩
    · rw [List.mem_singleton.mp hw]; exact tw_warm (A := args) (List.mem_filter.mp m1).2 hW (F.hts _ m1)
    · rw [h] at m5
      exact (Option.some.inj m5).symm
  have hrun := vx_runSW (Ts := TW) (nL := mi.2.2.1) (g := F0 m pc ls stk) (rest := st) (p := p) (l := l) (e := e) (R := mi.2.2.2.2) (s := s) (m := m) (args := args) (below := below) (meth := meth) (c := c) (H := H) (locs := locs) (cells := k) (slots := n) ⟨F.1, F.2.1, F.2.2.1, F.own, F.hts⟩ (hsp H.size) cw ⟨Pc_blind, fun U hU hW => ⟨rfl, by rw [hU], by rw [hU]; exact hP, va_K.moved hW.alike F.K, hD.weaken (fun _ _ _ _ => trivial), by rw [hU]; exact F.E.go hW hS hFA⟩⟩ rfl hn hl.1 hst (lv_room hcat) hd hroom
  intro T hT Y
  obtain ⟨v, st₀, t, T', L, h0, Y', hL, e1, e2, ⟨v', ws', hv, hfin, hP', hD', hF⟩, hst2⟩ := hrun T hT Y
  cases hv
  obtain ⟨k1, k2, k3⟩ := vx_keep h0 e1 hS (fun q _ => hFA q) hFA hL hF
  obtain ⟨t2, a1, b1⟩ := kk v ws' hfin p e s m args below meth c T'.heap (locs ++ L) ls F hx hz (by rw [e1]; exact hP') (hD'.weaken (fun _ q _ h => hFA q.1 h)) k3 hl T' rfl Y'
  exact ⟨t2, hst2 t2 a1, b1⟩
end PZrows
