/-! fields: what a place of a pool means -/
def FL (own : String) (idx ci j : Nat) : Prop := ∃ (C : String) (T : u_T) (N : Nat), vwCl[ci]? = some (C, T, N) ∧ j < N ∧ (T j).1 = C ∧ (∀ w ∈ u_ws C T N, w ∈ TW) ∧ (Cond.fieldLink own idx C (T j).2.1 (T j).2.2.1 ∈ TW ∨ ∃ host, Cond.fieldLinkNest own idx C (T j).2.1 (T j).2.2.1 host ∈ TW)
def FP (own : String) (idx ci j : Nat) (fi : Bool) (ty : FieldType) : Prop := ∃ (C : String) (T : u_T) (N : Nat) (ty0 : Nat → FieldType), vwCl[ci]? = some (C, T, N) ∧ j < N ∧ (T j).1 = C ∧ (∀ w ∈ u_ws C T N, w ∈ TW) ∧ (Cond.fieldLink own idx C (T j).2.1 (T j).2.2.1 ∈ TW ∨ ∃ host, Cond.fieldLinkNest own idx C (T j).2.1 (T j).2.2.1 host ∈ TW) ∧ (∀ q, q < N → parseFieldDescriptor (T q).2.2.1 = some (ty0 q)) ∧ (∀ a, a < N → ∀ b, b < N → a ≠ b → (T a).2.1 ≠ (T b).2.1) ∧ (T j).2.2.2 = fi ∧ parseFieldDescriptor (T j).2.2.1 = some ty
theorem FP.FL {own : String} {idx ci j : Nat} {fi : Bool} {ty : FieldType} (h : FP own idx ci j fi ty) : FL own idx ci j := by
  obtain ⟨C, T, N, ty0, h1, h2, h3, h4, h5, -⟩ := h
  exact ⟨C, T, N, h1, h2, h3, h4, h5⟩
def MK (mi : MI) (na : Nat) : Prop := Cond.code mi.1 mi.2.1 mi.2.2.1 mi.2.2.2.1 ∈ TW ∧ Cond.initialized mi.1.cls ∈ TW ∧ mi.1.cls ≠ "java/lang/invoke/MethodHandle" ∧ mi.1.cls ≠ "java/lang/invoke/VarHandle" ∧ (parseMethodDescriptor mi.1.desc).map (fun d => d.parameters.length) = some na ∧ goodWord (Cond.code mi.1 mi.2.1 mi.2.2.1 mi.2.2.2.1) = true
def LK (own : String) (idx : Nat) (y : MethodName) : Prop := Cond.methodLink own idx y ∈ TW ∨ ∃ host, Cond.methodLinkNest own idx y host ∈ TW
def RMok (mi mi' : MI) : Prop := (mi'.2.2.2.2.frames + 1 ≤ mi.2.2.2.2.frames ∧ 8 + (mi'.2.2.1 + 11) + mi'.2.2.2.2.locals ≤ mi.2.2.2.2.locals)
section Heap
variable {l : Launch} {G : cxG} {mi : MI} {w0 : va_W} {sz : Nat} {fin : OC → Prop} {pc : Nat} {lv : List (Nat × Value)} {st : List Value} {k n : Nat} {ws : va_W}
theorem Fx.hts {A : Nat → Prop} {p : Program} {s : State} {m : MethodId} {meth : Method} {c : Code} (F : Fx G mi A p s m meth c) {args : Array Value} : ∀ w ∈ TW, w.before args s = true := fun w hw => F.2.2.2.2.2.2.2.2.1.1.use hw
theorem Fx.own {A : Nat → Prop} {p : Program} {s : State} {m : MethodId} {meth : Method} {c : Code} (F : Fx G mi A p s m meth c) : s.vm.findClass mi.1.cls = some m.cls := F.2.2.2.2.2.1
theorem Fx.K {A : Nat → Prop} {p : Program} {s : State} {m : MethodId} {meth : Method} {c : Code} (F : Fx G mi A p s m meth c) : va_K G.1 vwCl (tysG G) s := F.2.2.2.2.2.2.2.1
theorem Fx.E {A : Nat → Prop} {p : Program} {s : State} {m : MethodId} {meth : Method} {c : Code} (F : Fx G mi A p s m meth c) : Ev A s s.heap := F.2.2.2.2.2.2.2.2.1
theorem pw_A {s : State} {H : Heap} {locs : List Loc} (hz : s.heap.size = sz) (hD : va_D (va_A w0 sz) ws) (hS : va_S (va_A w0 sz) s.heap H locs) : ∀ q, va_A ws H.size q → va_A w0 sz q := by
  intro q h
  rcases h with ⟨j, e, h⟩ | h
  · exact hD.2 j (q, e) h
  · exact Or.inr (Nat.le_trans (by rw [← hz]; exact hS.1) h)
theorem pw_A0 {s : State} (hz : s.heap.size = sz) : ∀ q : Nat, s.heap.size ≤ q → va_A w0 sz q := fun q h => Or.inr (by rw [← hz]; exact h)
theorem pw_get {a idx ci j : Nat} {fs : List Value} {v : Value} (hd : decode mi.2.1 pc = .ok (.getfield idx, 3)) (hf : FL mi.1.cls idx ci j) (q0 : Nat) (he : ws[q0]? = some (a, .inr (ci, fs))) (hv : fs[j]? = some v) (kk : PW l G mi w0 sz fin (pc + 3) lv (v :: st) k n ws) : PW l G mi w0 sz fin pc lv (.ref a :: st) k n ws := by
  intro p e s m args below meth c H locs ls F hz hP hD hS hl
  obtain ⟨C, T, N, hc, hk, hT, hin, hl2⟩ := hf
  rcases hl2 with hl2 | ⟨host, hl2⟩
  · exact va_get F.1 F.2.1 F.hts hin F.own F.K hP q0 he hc j hk (F.hts _ hl2) (fun x h => by rw [hT] at h; exact h) hv hd (kk p e s m args below meth c H locs ls F hz hP hD hS hl)
  · exact va_getN F.1 F.2.1 F.hts hin F.own F.K hP q0 he hc j hk (F.hts _ hl2) (fun x h => by rw [hT] at h; exact h) hv hd (kk p e s m args below meth c H locs ls F hz hP hD hS hl)
theorem pw_put {a idx ci j : Nat} {fs : List Value} {v : Value} {ty : FieldType} (hd : decode mi.2.1 pc = .ok (.putfield idx, 3)) (hf : FP mi.1.cls idx ci j false ty) (q0 : Nat) (he : ws[q0]? = some (a, .inr (ci, fs))) (hj : j < fs.length) (hn : narrow ty v = v) (hfit : fits ty v = true) (kk : PW l G mi w0 sz fin (pc + 3) lv st k n (ws.set q0 (a, .inr (ci, fs.set j v)))) : PW l G mi w0 sz fin pc lv (v :: .ref a :: st) k n ws := by
  intro p e s m args below meth c H locs ls F hz hP hD hS hl
  obtain ⟨C, T, N, ty0, hc, hk, hT, hin, hl2, hty, hnm, hfi, hpd⟩ := hf
  rcases hl2 with hl2 | ⟨host, hl2⟩
  · exact va_put F.1 F.2.1 F.hts hin ty0 hty hnm F.own F.K hP hD hS q0 he hc j hk (F.hts _ hl2) (fun x h => by rw [hT] at h; exact h) hfi hpd hn hfit hj hd (fun H1 locs1 hP1 hD1 hS1 => kk p e s m args below meth c H1 locs1 ls F hz hP1 hD1 hS1 hl)
  · exact va_putN F.1 F.2.1 F.hts hin ty0 hty hnm F.own F.K hP hD hS q0 he hc j hk (F.hts _ hl2) (fun x h => by rw [hT] at h; exact h) hfi hpd hn hfit hj hd (fun H1 locs1 hP1 hD1 hS1 => kk p e s m args below meth c H1 locs1 ls F hz hP1 hD1 hS1 hl)
/-- a final field, in its own class's constructor -/
theorem pw_putF {a idx ci j : Nat} {fs : List Value} {v : Value} {ty : FieldType} (hd : decode mi.2.1 pc = .ok (.putfield idx, 3)) (hf : FP mi.1.cls idx ci j true ty) (hown : (vwCl[ci]?).map (fun q => q.1) = some mi.1.cls) (hlk : ∀ C T N, vwCl[ci]? = some (C, T, N) → Cond.fieldLink mi.1.cls idx C (T j).2.1 (T j).2.2.1 ∈ TW) (hi : mi.1.name = "<init>") (q0 : Nat) (he : ws[q0]? = some (a, .inr (ci, fs))) (hj : j < fs.length) (hn : narrow ty v = v) (hfit : fits ty v = true) (kk : PW l G mi w0 sz fin (pc + 3) lv st k n (ws.set q0 (a, .inr (ci, fs.set j v)))) : PW l G mi w0 sz fin pc lv (v :: .ref a :: st) k n ws := by
  intro p e s m args below meth c H locs ls F hz hP hD hS hl
  obtain ⟨C, T, N, ty0, hc, hk, hT, hin, -, hty, hnm, hfi, hpd⟩ := hf
  have hCo : C = mi.1.cls := by rw [hc] at hown; exact Option.some.inj hown
  exact va_putF F.1 F.2.1 F.hts hin ty0 hty hnm F.own F.K hP hD hS q0 he hc j hk (F.hts _ (hlk C T N hc)) (fun x h => by rw [hT] at h; exact h) hfi (F.2.2.2.2.2.2.2.2.2.trans hi) (hT.trans hCo) hpd hn hfit hj hd (fun H1 locs1 hP1 hD1 hS1 => kk p e s m args below meth c H1 locs1 ls F hz hP1 hD1 hS1 hl)
theorem pw_iald {a len : Nat} {f : Nat → Int32} {i : Int32} (hd : decode mi.2.1 pc = .ok (.iaload, 1)) (q0 : Nat) (he : ws[q0]? = some (a, .inl (G.2.1, len, .inl f))) (hin : vp_in i len) (kk : PW l G mi w0 sz fin (pc + 1) lv (.int (f i.toNatClampNeg) :: st) k n ws) : PW l G mi w0 sz fin pc lv (.int i :: .ref a :: st) k n ws :=
  fun p e s m args below meth c H locs ls F hz hP hD hS hl => va_iald F.1 F.2.1 F.K hP q0 0 he rfl hin hd (kk p e s m args below meth c H locs ls F hz hP hD hS hl)
theorem pw_lald {a len : Nat} {f : Nat → Int64} {i : Int32} (hd : decode mi.2.1 pc = .ok (.laload, 1)) (q0 : Nat) (he : ws[q0]? = some (a, .inl (G.2.2.1, len, .inr (.inl f)))) (hin : vp_in i len) (kk : PW l G mi w0 sz fin (pc + 1) lv (.long (f i.toNatClampNeg) :: st) k n ws) : PW l G mi w0 sz fin pc lv (.int i :: .ref a :: st) k n ws :=
  fun p e s m args below meth c H locs ls F hz hP hD hS hl => va_lald F.1 F.2.1 F.K hP q0 1 he rfl hin hd (kk p e s m args below meth c H locs ls F hz hP hD hS hl)
theorem pw_zald {a len : Nat} {f : Nat → Int32} {i : Int32} (hd : decode mi.2.1 pc = .ok (.baload, 1)) (q0 : Nat) (he : ws[q0]? = some (a, .inl (G.2.2.2.1, len, .inl f))) (hin : vp_in i len) (kk : PW l G mi w0 sz fin (pc + 1) lv (.int (f i.toNatClampNeg) :: st) k n ws) : PW l G mi w0 sz fin pc lv (.int i :: .ref a :: st) k n ws :=
  fun p e s m args below meth c H locs ls F hz hP hD hS hl => va_zald F.1 F.2.1 F.K hP q0 2 he rfl hin hd (kk p e s m args below meth c H locs ls F hz hP hD hS hl)
theorem pw_aald {a len : Nat} {f : Nat → Option Nat} {i : Int32} (hd : decode mi.2.1 pc = .ok (.aaload, 1)) (q0 : Nat) (he : ws[q0]? = some (a, .inl (G.2.2.2.2, len, .inr (.inr (.inr (.inr f)))))) (hin : vp_in i len) (kk : PW l G mi w0 sz fin (pc + 1) lv (va_rf (f i.toNatClampNeg) :: st) k n ws) : PW l G mi w0 sz fin pc lv (.int i :: .ref a :: st) k n ws :=
  fun p e s m args below meth c H locs ls F hz hP hD hS hl => va_aldq F.1 F.2.1 F.K hP q0 3 he rfl hin hd (kk p e s m args below meth c H locs ls F hz hP hD hS hl)
theorem pw_iast {a len : Nat} {f : Nat → Int32} {i : Int32} {x : Int32} (hd : decode mi.2.1 pc = .ok (.iastore, 1)) (q0 : Nat) (he : ws[q0]? = some (a, .inl (G.2.1, len, .inl f))) (hin : vp_in i len) (kk : PW l G mi w0 sz fin (pc + 1) lv st k n (ws.set q0 (a, .inl (G.2.1, len, .inl (upd f i.toNatClampNeg x))))) : PW l G mi w0 sz fin pc lv (.int x :: .int i :: .ref a :: st) k n ws :=
  fun p e s m args below meth c H locs ls F hz hP hD hS hl => va_iast F.1 F.2.1 F.K hP hD hS q0 0 he rfl hin hd (fun H1 locs1 hP1 hD1 hS1 => kk p e s m args below meth c H1 locs1 ls F hz hP1 hD1 hS1 hl)
theorem pw_last {a len : Nat} {f : Nat → Int64} {i : Int32} {x : Int64} (hd : decode mi.2.1 pc = .ok (.lastore, 1)) (q0 : Nat) (he : ws[q0]? = some (a, .inl (G.2.2.1, len, .inr (.inl f)))) (hin : vp_in i len) (kk : PW l G mi w0 sz fin (pc + 1) lv st k n (ws.set q0 (a, .inl (G.2.2.1, len, .inr (.inl (vp_updL f i.toNatClampNeg x)))))) : PW l G mi w0 sz fin pc lv (.long x :: .int i :: .ref a :: st) k n ws :=
  fun p e s m args below meth c H locs ls F hz hP hD hS hl => va_last F.1 F.2.1 F.K hP hD hS q0 1 he rfl hin hd (fun H1 locs1 hP1 hD1 hS1 => kk p e s m args below meth c H1 locs1 ls F hz hP1 hD1 hS1 hl)
theorem pw_zast {a len : Nat} {f : Nat → Int32} {i : Int32} {x : Int32} (hd : decode mi.2.1 pc = .ok (.bastore, 1)) (q0 : Nat) (he : ws[q0]? = some (a, .inl (G.2.2.2.1, len, .inl f))) (hin : vp_in i len) (kk : PW l G mi w0 sz fin (pc + 1) lv st k n (ws.set q0 (a, .inl (G.2.2.2.1, len, .inl (upd f i.toNatClampNeg (vp_nar .boolean x)))))) : PW l G mi w0 sz fin pc lv (.int x :: .int i :: .ref a :: st) k n ws :=
  fun p e s m args below meth c H locs ls F hz hP hD hS hl => va_zast F.1 F.2.1 F.K hP hD hS q0 2 he rfl hin hd (fun H1 locs1 hP1 hD1 hS1 => kk p e s m args below meth c H1 locs1 ls F hz hP1 hD1 hS1 hl)
theorem pw_aast {a len v ci : Nat} {f : Nat → Option Nat} {i : Int32} {vs : List Value} (hd : decode mi.2.1 pc = .ok (.aastore, 1)) (q0 qk : Nat) (he : ws[q0]? = some (a, .inl (G.2.2.2.2, len, .inr (.inr (.inr (.inr f)))))) (hv : ws[qk]? = some (v, .inr (ci, vs))) (hc : vwCl[ci]? = some (RX8, TX8, 2)) (hin : vp_in i len) (kk : PW l G mi w0 sz fin (pc + 1) lv st k n (ws.set q0 (a, .inl (G.2.2.2.2, len, .inr (.inr (.inr (.inr (va_up f i.toNatClampNeg (some v))))))))) : PW l G mi w0 sz fin pc lv (.ref v :: .int i :: .ref a :: st) k n ws :=
  fun p e s m args below meth c H locs ls F hz hP hD hS hl => va_astq F.1 F.2.1 F.K hP hD hS q0 3 qk ci (r := (RX8, TX8, 2)) he rfl hv hc hin hd (fun H1 locs1 hP1 hD1 hS1 => kk p e s m args below meth c H1 locs1 ls F hz hP1 hD1 hS1 hl)
theorem pw_copyi {a0 a1 len0 len1 idx : Nat} {f g : Nat → Int32} {sp dp cn : Int32} (hd : decode mi.2.1 pc = .ok (.invokestatic idx, 3)) (hlk : Cond.methodLink mi.1.cls idx arraycopyName ∈ TW) (hnat : Cond.native arraycopyName ∈ TW) (hstat : Cond.static arraycopyName ∈ TW) (hini : Cond.initialized "java/lang/System" ∈ TW) (q0 q1 : Nat) (he0 : ws[q0]? = some (a0, .inl (G.2.1, len0, .inl f))) (he1 : ws[q1]? = some (a1, .inl (G.2.1, len1, .inl g)))
    (h1 : ¬ sp < 0) (h2 : ¬ dp < 0) (h3 : ¬ cn < 0) (h4 : sp.toNatClampNeg + cn.toNatClampNeg ≤ len0) (h5 : dp.toNatClampNeg + cn.toNatClampNeg ≤ len1) (hframes : 1 ≤ mi.2.2.2.2.frames) (hlocals : (st.map fun v => v.category).sum + (nativeFrameWords "java/lang/System" "arraycopy" 5 + 11) ≤ mi.2.2.2.2.locals)
    (kk : PW l G mi w0 sz fin (pc + 3) lv st k n (ws.set q1 (a1, .inl (G.2.1, len1, .inl (va_cpy f g sp.toNatClampNeg dp.toNatClampNeg cn.toNatClampNeg))))) : PW l G mi w0 sz fin pc lv (.int cn :: .int dp :: .ref a1 :: .int sp :: .ref a0 :: st) k n ws :=
  fun p e s m args below meth c H locs ls F hz hP hD hS hl => va_copyi F.1 F.2.1 (F.2.2.1.trans hl.1.symm) F.own (F.hts _ hlk) (F.hts _ hnat) (F.hts _ hstat) (F.hts _ hini) F.K hP hD hS q0 q1 0 0 he0 he1 rfl rfl rfl h1 h2 h3 h4 h5 (fun i hi => rfl) hframes hlocals hd (fun H1 locs1 hP1 hD1 hS1 => kk p e s m args below meth c H1 locs1 ls F hz hP1 hD1 hS1 hl)
theorem pw_lmax {idx : Nat} {x y : Int64} (hd : decode mi.2.1 pc = .ok (.invokestatic idx, 3)) (hlk : Cond.methodLink mi.1.cls idx Lib.MathLoose.max_long.x ∈ TW) (hstat : Cond.static Lib.MathLoose.max_long.x ∈ TW) (hini : Cond.initialized "java/lang/Math" ∈ TW) (hcode : Cond.code Lib.MathLoose.max_long.x Lib.MathLoose.max_long.code 4 (some .long) ∈ TW) (hframes : 1 ≤ mi.2.2.2.2.frames) (hlocals : (st.map fun v => v.category).sum + 15 ≤ mi.2.2.2.2.locals) (hc : k ≤ mi.2.2.2.2.cells) (hs : n ≤ mi.2.2.2.2.slots) (kk : PW l G mi w0 sz fin (pc + 3) lv (.long (if y < x then x else y) :: st) k n ws) : PW l G mi w0 sz fin pc lv (.long y :: .long x :: st) k n ws :=
  fun p e s m args below meth c H locs ls F hz hP hD hS hl => va_mmax_long F.1 F.2.1 (F.2.2.1.trans hl.1.symm) F.own (F.hts _ hlk) (F.hts _ hstat) (F.hts _ hini) (F.hts _ hcode) hframes hlocals hc hs hd (kk p e s m args below meth c H locs ls F hz hP hD hS hl)
theorem pw_lmin {idx : Nat} {x y : Int64} (hd : decode mi.2.1 pc = .ok (.invokestatic idx, 3)) (hlk : Cond.methodLink mi.1.cls idx Lib.MathLoose.min_long.x ∈ TW) (hstat : Cond.static Lib.MathLoose.min_long.x ∈ TW) (hini : Cond.initialized "java/lang/Math" ∈ TW) (hcode : Cond.code Lib.MathLoose.min_long.x Lib.MathLoose.min_long.code 4 (some .long) ∈ TW) (hframes : 1 ≤ mi.2.2.2.2.frames) (hlocals : (st.map fun v => v.category).sum + 15 ≤ mi.2.2.2.2.locals) (hc : k ≤ mi.2.2.2.2.cells) (hs : n ≤ mi.2.2.2.2.slots) (kk : PW l G mi w0 sz fin (pc + 3) lv (.long (if y < x then y else x) :: st) k n ws) : PW l G mi w0 sz fin pc lv (.long y :: .long x :: st) k n ws :=
  fun p e s m args below meth c H locs ls F hz hP hD hS hl => va_mmin_long F.1 F.2.1 (F.2.2.1.trans hl.1.symm) F.own (F.hts _ hlk) (F.hts _ hstat) (F.hts _ hini) (F.hts _ hcode) hframes hlocals hc hs hd (kk p e s m args below meth c H locs ls F hz hP hD hS hl)
theorem Pc_blind {As : List Value} {B : Nat → Prop} : FrameBlind (va_Pc As (fun U => U.heap.size = sz ∧ va_P G.1 vwCl ws U.heap ∧ va_K G.1 vwCl (tysG G) U ∧ va_D (fun _ => True) ws ∧ Ev B U U.heap)) := by
  intro a U g mk q
  obtain ⟨q0, q1, qP, qK, qD, qE⟩ := q
  exact ⟨q0, q1, qP, va_K.moved (u := U) (U := U.calling g mk a) (Vm.Alike.refl U.vm) qK, qD, Ev.go (U := U.calling g mk a) (H := U.heap) (locs := []) qE (State.WarmedH.refl U) va_S.rf (fun _ h => h)⟩
theorem pw_behind {mi' : MI} {a : Array Value} {st0 rest : List Value} {fin' : OC → Prop} {p : Program} {e : Env} {s : State} {m : MethodId} {args : Array Value} {below : List Frame} {meth : Method} {c : Code} {H : Heap} {locs : List Loc} {ls : Array Slot} (F : Fx G mi (va_A w0 sz) p s m meth c) (hz : s.heap.size = sz) (hD : va_D (va_A w0 sz) ws) (hS : va_S (va_A w0 sz) s.heap H locs) (hl : lv_has ls mi.2.2.1 lv)
    (hrun : vx_Run p l e mi.2.2.2.2 s m args below meth c H locs k n mi'.2.2.2.2.cells mi'.2.2.2.2.slots (F0 m pc ls st0) rest (QcM G fin' (va_A ws H.size) a) (XcM G fin' (va_A ws H.size)) (va_A ws H.size))
    (hroom : k + mi'.2.2.2.2.cells ≤ mi.2.2.2.2.cells ∧ n + mi'.2.2.2.2.slots ≤ mi.2.2.2.2.slots)
    (kk : ∀ v ws', fin' (.inl (v, ws')) → PW l G mi w0 sz fin (pc + 3) lv (v.toList ++ rest) (k + mi'.2.2.2.2.cells) (n + mi'.2.2.2.2.slots) ws') (kx : ∀ E ws', fin' (.inr (E, ws')) → fin (.inr (E, ws'))) :
    W p l e mi.2.2.2.2 s m args below meth c H locs k n (vx_MQ below (QcM G fin (va_A w0 sz)) (XcM G fin (va_A w0 sz)) args s mi.2.2.2.2.cells mi.2.2.2.2.slots (va_A w0 sz)) (F0 m pc ls st0) := by
  have hFA := pw_A hz hD hS
  intro T hT X
  rcases hrun T hT X with ⟨v, st₀, t, T', L, h0, X', hL, e1, e2, ⟨v', ws', hv, hfin, hP', hD', hF⟩, hst⟩ | ⟨q, st₀, t, T', L, E, ce, h0, X', hL, e1, e2, ⟨ws', hfin, hP', hD', hF⟩, hce, hcv, hcl, hst⟩
  · cases hv
    obtain ⟨k1, k2, k3⟩ := vx_keep h0 e1 hS (fun q _ => hFA q) hFA hL hF
    obtain ⟨t2, a1, b1⟩ := kk v ws' hfin p e s m args below meth c T'.heap (locs ++ L) ls F hz (by rw [e1]; exact hP') (hD'.weaken (fun _ q _ h => hFA q.1 h)) k3 hl T' rfl X'
    exact ⟨t2, hst t2 a1, b1⟩
  · obtain ⟨k1, k2, k3⟩ := vx_keep h0 e1 hS (fun q _ => hFA q) hFA hL hF
    obtain ⟨t2, a1, b1⟩ := vx_out (pc := pc) (ls := ls) (rest := rest) (l := l) (p := p) (e := e) (R := mi.2.2.2.2) (s := s) (m := m) (args := args) (below := below) (meth := meth) (c := c) (H := T'.heap) (locs := locs ++ L) (Qc := QcM G fin (va_A w0 sz)) (XC := XcM G fin (va_A w0 sz)) (free := va_A w0 sz) (fun x hx => (F.2.2.2.2.2.2.1 x hx).elim) F.2.2.2.2.1 (by rw [e1]; exact hce) hcv hcl
      (fun t3 h3 _ => ⟨ws', kx E ws' hfin, by rw [h3, e1]; exact hP', hD'.weaken (fun _ q _ h => hFA q.1 h), k3.F h3⟩) k3.2.2 hroom.1 hroom.2 T' rfl X'
    exact ⟨t2, hst.trans a1, b1⟩
theorem MK.B {mi' : MI} {na idx : Nat} {A : Nat → Prop} {p : Program} {s : State} {m : MethodId} {args : Array Value} {meth : Method} {c : Code} (F : Fx G mi A p s m meth c) (hm : MK mi' na) (hr : RMok mi mi') (hl : Cond.methodLink mi.1.cls idx mi'.1 ∈ TW) : CallB mi.2.2.2.2 s args mi.1.cls idx mi'.1 mi'.2.1 mi'.2.2.1 mi'.2.2.2.1 [Cond.code mi'.1 mi'.2.1 mi'.2.2.1 mi'.2.2.2.1] mi'.2.2.2.2 mi'.2.2.2.2.cells mi'.2.2.2.2.slots na := by
  refine ⟨rfl, rfl, hr.1, hr.2, fun w hw a' U hW => ?_, List.mem_cons_self, F.hts _ hm.1, F.hts _ hm.2.1, ⟨hm.2.2.1, hm.2.2.2.1⟩, fun sig h => ?_, F.hts _ hl⟩
  · rw [List.mem_singleton.mp hw]; exact tw_warm (A := args) (List.mem_filter.mp hm.1).2 hW (F.hts _ hm.1)
  · have h2 := hm.2.2.2.2.1
    rw [h] at h2
    exact (Option.some.inj h2).symm
theorem MK.N {mi' : MI} {na idx : Nat} {host : String} {A : Nat → Prop} {p : Program} {s : State} {m : MethodId} {args : Array Value} {meth : Method} {c : Code} (F : Fx G mi A p s m meth c) (hm : MK mi' na) (hr : RMok mi mi') (hl : Cond.methodLinkNest mi.1.cls idx mi'.1 host ∈ TW) : va_CN mi.2.2.2.2 s args mi.1.cls idx mi'.1 host mi'.2.1 mi'.2.2.1 mi'.2.2.2.1 [Cond.code mi'.1 mi'.2.1 mi'.2.2.1 mi'.2.2.2.1] mi'.2.2.2.2 mi'.2.2.2.2.cells mi'.2.2.2.2.slots na := by
  refine ⟨⟨rfl, rfl, hr.1, hr.2, fun w hw a' U hW => ?_, List.mem_cons_self⟩, F.hts _ hm.1, F.hts _ hm.2.1, ⟨hm.2.2.1, hm.2.2.2.1⟩, fun sig h => ?_, F.hts _ hl⟩
  · rw [List.mem_singleton.mp hw]; exact tw_warm (A := args) (List.mem_filter.mp hm.1).2 hW (F.hts _ hm.1)
  · have h2 := hm.2.2.2.2.1
    rw [h] at h2
    exact (Option.some.inj h2).symm
theorem pw_callV {mi' : MI} {As : List Value} {fin' : OC → Prop} {ci b idx na : Nat} {r : vw_C} {fs : List Value} {stk : List Value} (hd : decode mi.2.1 pc = .ok (.invokevirtual idx, 3)) (hlk : LK mi.1.cls idx mi'.1) (hm : MK mi' na) (hi : Cond.instanceMethod mi'.1 ∈ TW) (hse : Cond.selects r.1 mi'.1 mi'.1 ∈ TW) (hr : RMok mi mi') (hn : As.length = na) (hst : stk = As.reverse ++ .ref b :: st) (hcat : (st.map fun v => v.category).sum ≤ 8) (q0 : Nat) (he : ws[q0]? = some (b, .inr (ci, fs))) (hc : vwCl[ci]? = some r) (hsp : Spec l G mi' (.ref b :: As) ws fin') (hroom : k + mi'.2.2.2.2.cells ≤ mi.2.2.2.2.cells ∧ n + mi'.2.2.2.2.slots ≤ mi.2.2.2.2.slots)
    (kk : ∀ v ws', fin' (.inl (v, ws')) → PW l G mi w0 sz fin (pc + 3) lv (v.toList ++ st) (k + mi'.2.2.2.2.cells) (n + mi'.2.2.2.2.slots) ws') (kx : ∀ E ws', fin' (.inr (E, ws')) → fin (.inr (E, ws'))) : PW l G mi w0 sz fin pc lv stk k n ws := by
  intro p e s m args below meth c H locs ls F hz hP hD hS hl
  have hFA := pw_A hz hD hS
  refine pw_behind (mi' := mi') (a := ((.ref b :: As) : List Value).toArray) (rest := st) (fin' := fin') F hz hD hS hl ?_ hroom kk kx
  rcases hlk with h2 | ⟨host, h2⟩
  · exact vx_runV (Ts := TW) ⟨F.1, F.2.1, F.2.2.1, F.own, F.hts⟩ (hsp H.size) ⟨hm.B F hr h2, F.hts _ hi, F.hts _ hse⟩ ⟨Pc_blind, va_recv F.K hP hc he, fun U hU hW => ⟨rfl, by rw [hU], by rw [hU]; exact hP, va_K.moved hW.alike F.K, hD.weaken (fun _ _ _ _ => trivial), by rw [hU]; exact F.E.go hW hS hFA⟩⟩ rfl hn hl.1 hst (lv_room hcat) hd hroom
  · exact vx_runVN (Ts := TW) ⟨F.1, F.2.1, F.2.2.1, F.own, F.hts⟩ (hsp H.size) ⟨hm.N F hr h2, F.hts _ hi, F.hts _ hse⟩ ⟨Pc_blind, va_recv F.K hP hc he, fun U hU hW => ⟨rfl, by rw [hU], by rw [hU]; exact hP, va_K.moved hW.alike F.K, hD.weaken (fun _ _ _ _ => trivial), by rw [hU]; exact F.E.go hW hS hFA⟩⟩ rfl hn hl.1 hst (lv_room hcat) hd hroom
theorem pw_callS {mi' : MI} {As : List Value} {fin' : OC → Prop} {idx na : Nat} {stk : List Value} (hd : decode mi.2.1 pc = .ok (.invokestatic idx, 3)) (hlk : LK mi.1.cls idx mi'.1) (hm : MK mi' na) (hi : Cond.static mi'.1 ∈ TW) (hr : RMok mi mi') (hn : As.length = na) (hst : stk = As.reverse ++ st) (hcat : (st.map fun v => v.category).sum ≤ 8) (hsp : Spec l G mi' As ws fin') (hroom : k + mi'.2.2.2.2.cells ≤ mi.2.2.2.2.cells ∧ n + mi'.2.2.2.2.slots ≤ mi.2.2.2.2.slots)
    (kk : ∀ v ws', fin' (.inl (v, ws')) → PW l G mi w0 sz fin (pc + 3) lv (v.toList ++ st) (k + mi'.2.2.2.2.cells) (n + mi'.2.2.2.2.slots) ws') (kx : ∀ E ws', fin' (.inr (E, ws')) → fin (.inr (E, ws'))) : PW l G mi w0 sz fin pc lv stk k n ws := by
  intro p e s m args below meth c H locs ls F hz hP hD hS hl
  have hFA := pw_A hz hD hS
  refine pw_behind (mi' := mi') (a := (As : List Value).toArray) (rest := st) (fin' := fin') F hz hD hS hl ?_ hroom kk kx
  rcases hlk with h2 | ⟨host, h2⟩
  · exact vx_runS (Ts := TW) ⟨F.1, F.2.1, F.2.2.1, F.own, F.hts⟩ (hsp H.size) ⟨hm.B F hr h2, F.hts _ hi⟩ ⟨Pc_blind, fun U hU hW => ⟨rfl, by rw [hU], by rw [hU]; exact hP, va_K.moved hW.alike F.K, hD.weaken (fun _ _ _ _ => trivial), by rw [hU]; exact F.E.go hW hS hFA⟩⟩ rfl hn hl.1 hst (lv_room hcat) hd hroom
  · exact vx_runSN (Ts := TW) ⟨F.1, F.2.1, F.2.2.1, F.own, F.hts⟩ (hsp H.size) ⟨hm.N F hr h2, F.hts _ hi, trivial⟩ ⟨Pc_blind, fun U hU hW => ⟨rfl, by rw [hU], by rw [hU]; exact hP, va_K.moved hW.alike F.K, hD.weaken (fun _ _ _ _ => trivial), by rw [hU]; exact F.E.go hW hS hFA⟩⟩ rfl hn hl.1 hst (lv_room hcat) hd hroom
theorem pw_callI {mi' : MI} {As : List Value} {fin' : OC → Prop} {b idx na : Nat} {stk : List Value} (hd : decode mi.2.1 pc = .ok (.invokespecial idx, 3)) (hlk : LK mi.1.cls idx mi'.1) (hm : MK mi' na) (hi : Cond.instanceMethod mi'.1 ∈ TW) (hin : mi'.1.name = "<init>") (hno : mi'.2.2.2.1 = none) (hr : RMok mi mi') (hn : As.length = na) (hst : stk = As.reverse ++ .ref b :: st) (hcat : (st.map fun v => v.category).sum ≤ 8) (hsp : Spec l G mi' (.ref b :: As) ws fin') (hroom : k + mi'.2.2.2.2.cells ≤ mi.2.2.2.2.cells ∧ n + mi'.2.2.2.2.slots ≤ mi.2.2.2.2.slots)
    (kk : ∀ v ws', fin' (.inl (v, ws')) → PW l G mi w0 sz fin (pc + 3) lv (v.toList ++ st) (k + mi'.2.2.2.2.cells) (n + mi'.2.2.2.2.slots) ws') (kx : ∀ E ws', fin' (.inr (E, ws')) → fin (.inr (E, ws'))) : PW l G mi w0 sz fin pc lv stk k n ws := by
  intro p e s m args below meth c H locs ls F hz hP hD hS hl
  have hFA := pw_A hz hD hS
  refine pw_behind (mi' := mi') (a := ((.ref b :: As) : List Value).toArray) (rest := st) (fin' := fin') F hz hD hS hl ?_ hroom kk kx
  rcases hlk with h2 | ⟨host, h2⟩
  · have hB := hm.B (args := args) F hr h2
    rw [hno] at hB
    have hsp1 := hsp H.size
    rw [hno] at hsp1
    exact vx_runI (Ts := TW) ⟨F.1, F.2.1, F.2.2.1, F.own, F.hts⟩ hsp1 ⟨hB, hin, F.hts _ hi⟩ ⟨Pc_blind, fun U hU hW => ⟨rfl, by rw [hU], by rw [hU]; exact hP, va_K.moved hW.alike F.K, hD.weaken (fun _ _ _ _ => trivial), by rw [hU]; exact F.E.go hW hS hFA⟩⟩ rfl hn hl.1 hst (lv_room hcat) hd hroom
  · have hN := hm.N (args := args) F hr h2
    rw [hno] at hN
    have hsp1 := hsp H.size
    rw [hno] at hsp1
    exact vx_runIN (Ts := TW) ⟨F.1, F.2.1, F.2.2.1, F.own, F.hts⟩ hsp1 ⟨hN, hin, F.hts _ hi⟩ ⟨Pc_blind, fun U hU hW => ⟨rfl, by rw [hU], by rw [hU]; exact hP, va_K.moved hW.alike F.K, hD.weaken (fun _ _ _ _ => trivial), by rw [hU]; exact F.E.go hW hS hFA⟩⟩ rfl hn hl.1 hst (lv_room hcat) hd hroom
theorem pw_new {idx ci : Nat} {C : String} {T : u_T} {N : Nat} {fs : List Value} (ty : Nat → FieldType) (hty : ∀ q, q < N → parseFieldDescriptor (T q).2.2.1 = some (ty q)) (hd : decode mi.2.1 pc = .ok (.new idx, 3)) (hc : vwCl[ci]? = some (C, T, N)) (hin : ∀ w ∈ u_ws C T N, w ∈ TW) (hcl : Cond.classLink mi.1.cls idx C ∈ TW) (hinst : Cond.instantiable C N ∈ TW) (hini : Cond.initialized C ∈ TW) (hfs : ∀ j, j < N → defaultValue (ty j) = vp_V fs j) (h1 : k + 1 ≤ mi.2.2.2.2.cells) (h2 : n + N ≤ mi.2.2.2.2.slots)
    (kk : ∀ q, PW l G mi w0 sz fin (pc + 3) lv (.ref q :: st) (k + 1) (n + N) (ws ++ [(q, .inr (ci, fs))])) : PW l G mi w0 sz fin pc lv st k n ws :=
  fun p e s m args below meth c H locs ls F hz hP hD hS hl => va_new F.1 F.2.1 F.hts hin ty hty F.own (F.hts _ hcl) (F.hts _ hinst) (F.hts _ hini) F.K hP hD hS (pw_A0 hz) hc hfs h1 h2 hd (fun q H1 hP1 hD1 hS1 => kk q p e s m args below meth c H1 locs ls F hz hP1 hD1 hS1 hl)
theorem pw_objInit {idx : Nat} {a : Nat} (hd : decode mi.2.1 pc = .ok (.invokespecial idx, 3)) (hlk : Cond.methodLink mi.1.cls idx Lib.objectInit ∈ TW) (hi : Cond.instanceMethod Lib.objectInit ∈ TW) (hco : Cond.code Lib.objectInit ⟨#[0xb1]⟩ 1 none ∈ TW) (hf : 1 ≤ mi.2.2.2.2.frames) (hlo : (st.map fun v => v.category).sum + 12 ≤ mi.2.2.2.2.locals) (kk : PW l G mi w0 sz fin (pc + 3) lv st k n ws) : PW l G mi w0 sz fin pc lv (.ref a :: st) k n ws :=
  fun p e s m args below meth c H locs ls F hz hP hD hS hl => W.objInit F.1 F.2.1 F.own (F.hts _ hlk) (F.hts _ hi) (F.hts _ hco) rfl (hl.1.trans F.2.2.1.symm) rfl hd hf (by show 2 * 0 + _ + 12 ≤ _; rw [Nat.mul_zero, Nat.zero_add]; exact hlo) (kk p e s m args below meth c H locs ls F hz hP hD hS hl)
theorem pw_newI {z : Int32} (N' : Nat) (hd : decode mi.2.1 pc = .ok (.newarray .int, 2)) (hac : Cond.arrayClass .int ∈ TW) (hz0 : ¬ z < 0) (hzN : z.toNatClampNeg = N') (hby : N' * componentBytes .int ≤ 536870912) (h1 : k + 1 ≤ mi.2.2.2.2.cells) (h2 : n + N' ≤ mi.2.2.2.2.slots)
    (kk : ∀ q, PW l G mi w0 sz fin (pc + 2) lv (.ref q :: st) (k + 1) (n + N') (ws ++ [(q, .inl (G.2.1, N', .inl (fun _ => 0)))])) : PW l G mi w0 sz fin pc lv (.int z :: st) k n ws := by
  intro p e s m args below meth c H locs ls F hz hP hD hS hl
  refine va_newa (atype := .int) (ty := .int) (a0 := (N', .inl (fun _ => 0))) F.1 F.2.1 (F.hts _ hac) rfl F.K hP hD hS (pw_A0 hz) (fun cA => rfl) hz0 hzN hby h1 h2 hd (fun q cA H1 hK1 hP1 hD1 hS1 => ?_)
  have hc : cA = G.2.1 := by
    have e1 := (hK1.2 4 (cA, .int) rfl).2
    have e2 := (F.K.2 0 (G.2.1, .int) rfl).2
    exact Option.some.inj (Eq.trans (Eq.symm e1) e2)
  subst hc
  exact kk q p e s m args below meth c H1 locs ls F hz hP1 hD1 hS1 hl
theorem pw_newL {z : Int32} (N' : Nat) (hd : decode mi.2.1 pc = .ok (.newarray .long, 2)) (hac : Cond.arrayClass .long ∈ TW) (hz0 : ¬ z < 0) (hzN : z.toNatClampNeg = N') (hby : N' * componentBytes .long ≤ 536870912) (h1 : k + 1 ≤ mi.2.2.2.2.cells) (h2 : n + N' ≤ mi.2.2.2.2.slots)
    (kk : ∀ q, PW l G mi w0 sz fin (pc + 2) lv (.ref q :: st) (k + 1) (n + N') (ws ++ [(q, .inl (G.2.2.1, N', .inr (.inl (fun _ => 0))))])) : PW l G mi w0 sz fin pc lv (.int z :: st) k n ws := by
  intro p e s m args below meth c H locs ls F hz hP hD hS hl
  refine va_newa (atype := .long) (ty := .long) (a0 := (N', .inr (.inl (fun _ => 0)))) F.1 F.2.1 (F.hts _ hac) rfl F.K hP hD hS (pw_A0 hz) (fun cA => rfl) hz0 hzN hby h1 h2 hd (fun q cA H1 hK1 hP1 hD1 hS1 => ?_)
  have hc : cA = G.2.2.1 := by
    have e1 := (hK1.2 4 (cA, .long) rfl).2
    have e2 := (F.K.2 1 (G.2.2.1, .long) rfl).2
    exact Option.some.inj (Eq.trans (Eq.symm e1) e2)
  subst hc
  exact kk q p e s m args below meth c H1 locs ls F hz hP1 hD1 hS1 hl
theorem pw_newZ {z : Int32} (N' : Nat) (hd : decode mi.2.1 pc = .ok (.newarray .boolean, 2)) (hac : Cond.arrayClass .boolean ∈ TW) (hz0 : ¬ z < 0) (hzN : z.toNatClampNeg = N') (hby : N' * componentBytes .boolean ≤ 536870912) (h1 : k + 1 ≤ mi.2.2.2.2.cells) (h2 : n + N' ≤ mi.2.2.2.2.slots)
    (kk : ∀ q, PW l G mi w0 sz fin (pc + 2) lv (.ref q :: st) (k + 1) (n + N') (ws ++ [(q, .inl (G.2.2.2.1, N', .inl (fun _ => 0)))])) : PW l G mi w0 sz fin pc lv (.int z :: st) k n ws := by
  intro p e s m args below meth c H locs ls F hz hP hD hS hl
  refine va_newa (atype := .boolean) (ty := .boolean) (a0 := (N', .inl (fun _ => 0))) F.1 F.2.1 (F.hts _ hac) rfl F.K hP hD hS (pw_A0 hz) (fun cA => rfl) hz0 hzN hby h1 h2 hd (fun q cA H1 hK1 hP1 hD1 hS1 => ?_)
  have hc : cA = G.2.2.2.1 := by
    have e1 := (hK1.2 4 (cA, .boolean) rfl).2
    have e2 := (F.K.2 2 (G.2.2.2.1, .boolean) rfl).2
    exact Option.some.inj (Eq.trans (Eq.symm e1) e2)
  subst hc
  exact kk q p e s m args below meth c H1 locs ls F hz hP1 hD1 hS1 hl
end Heap
