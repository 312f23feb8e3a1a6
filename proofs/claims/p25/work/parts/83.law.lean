/-! the law: its cases on any objects that stand for the same -/
def R_law : String := "OverflowGuardsLaw"
def lw_P (b : Addr) (xs : List Int32) (args : Array Value) (s : State) : Prop := args = #[.ref b] ∧ s.IntsAt b xs ∧ xs.length ≤ 2048 ∧ (Jvm.Cond.and given_1 narrow_1).before args s = true
/-- what a walk over the start with the record d0 says of its end, said of the start itself -/
theorem lw_closed {s t : State} {o : Outcome} {d0 : Drawn} {L : List Loc} {k n : Nat} (hd0 : s.drawn.sameBut d0 lw_cs) (hv : ∃ v, o = .returned v) (hW : (s.setDrawn d0).WarmedH t.vm) (hs : (s.setDrawn d0).sameButNew ({ t with vm := s.vm } : State) L k n) : State.butDraws s t lw_cs (fun t1 => Framed s o t1 L k n) := by
  have h2 : t.drawn = d0 := congrArg State.drawn hs.1
  refine ⟨⟨hv, hW, State.sameButNew.setDrawn hs s.drawn⟩, ?_, by decide⟩
  rw [h2]
  exact hd0
def lw_Q (_ : Array Value) (s : State) (o : Outcome) (t : State) : Prop := o = .returned (some (.int 1)) ∧ State.butDraws s t lw_cs (fun t1 => Framed s o t1 [] 601024 7293034)
def lw_Z (below : List Frame) (a : Array Value) (s : State) : State → Prop := fun t => ∃ o, t.status = .running ∧ Ended t below o ∧ lw_Q a s o t
/-- the law's own end, with 1 on the stack, nothing written that was there before, its room as the claim has it; d0: the record of draws at this point (at the entry s.drawn: begin with 'refine W.base ?_' and 'have hd0 := Drawn.sameBut.refl s.drawn lw_cs') -/
theorem lw_ret {p : Program} {l : Launch} {e : Env} {s : State} {m : MethodId} {below : List Frame} {meth : Method} {c : Code} {b : Nat} {d0 : Drawn} (hd0 : s.drawn.sameBut d0 lw_cs) (hx : p.tables.exec = Jvm.exec) (hb : c.code = code) (hr : meth.sig.returnType = ret) (hlocks : meth.locks = false) {pc : Nat} {H : Heap} {ls : Array Slot} (hdg : decode code pc = .ok (.ireturn, 1)) : W p l e room_1 (s.setDrawn d0) m #[Value.ref b] below meth c H [] 601024 7293034 (lw_Z below #[Value.ref b] s) (F0 m pc ls [.int 1]) := by
  intro T hT X
  obtain ⟨fs, hret, hrun, hended, hW, hframe⟩ := X.leave (v := some (.int 1)) (hlocks := hlocks) (fun h => by rw [hr] at h; cases h)
  have hmeth' : T.vm.method? m = some meth := X.method'
  refine ⟨T.setFrames fs, ?_, .returned (some (.int 1)), hrun, hended, rfl, lw_closed hd0 ⟨_, rfl⟩ hW hframe⟩
  jvm_step X.here [X.here.top, hx, hb, hdg, hmeth', hr, ret, narrow_b1]
  (try refine ⟨rfl, ?_⟩); (try refine ⟨rfl, ?_⟩)
  first | (intro acts; rw [hret _ acts rfl rfl rfl]) | rw [hret _ _ rfl rfl rfl]
  exact Steps.refl _
/-- what holds at the law's entry: the machine, the code, the tables' words (any of lw_tbl by 'hts w (by decide +kernel)'), the script of L ints xs at the cell b, what the Statement gives of the start (any of its parts by flat_of_before) -/
def lw_At (p : Program) (s : State) (m : MethodId) (meth : Method) (c : Code) (b L : Nat) (xs : Nat → Int32) : Prop :=
  p.tables.exec = Jvm.exec ∧ c.code = code ∧ meth.sig.returnType = ret ∧ c.maxLocals = 9 ∧ s.vm.findClass R_law = some m.cls ∧ (∀ w ∈ lw_tbl, w.before #[Value.ref b] s = true) ∧ va_X b L xs s s.heap ∧ b < s.heap.size ∧ meth.locks = false ∧ (Jvm.Cond.and given_1 narrow_1).before #[Value.ref b] s = true
abbrev mL_law : MI := (yL_law, cL_law, 9, some .boolean, room_1)
theorem lw_retA {p : Program} {l : Launch} {e : Env} {s : State} {m : MethodId} {below : List Frame} {meth : Method} {c : Code} {args : Array Value} (hx : p.tables.exec = Jvm.exec) (hb : c.code = code) (hr : meth.sig.returnType = ret) (hlocks : meth.locks = false) {pc : Nat} {H : Heap} {ls : Array Slot} (hdg : decode code pc = .ok (.ireturn, 1)) : W p l e room_1 s m args below meth c H [] 601024 7293034 (lw_Z below args s) (F0 m pc ls [.int 1]) := by
  refine W.base ?_
  have hd0 := Drawn.sameBut.refl s.drawn lw_cs
  intro T hT X
  obtain ⟨fs, hret, hrun, hended, hW, hframe⟩ := X.leave (v := some (.int 1)) (hlocks := hlocks) (fun h => by rw [hr] at h; cases h)
  have hmeth' : T.vm.method? m = some meth := X.method'
  refine ⟨T.setFrames fs, ?_, .returned (some (.int 1)), hrun, hended, rfl, lw_closed hd0 ⟨_, rfl⟩ hW hframe⟩
  jvm_step X.here [X.here.top, hx, hb, hdg, hmeth', hr, ret, narrow_b1]
  (try refine ⟨rfl, ?_⟩); (try refine ⟨rfl, ?_⟩)
  first | (intro acts; rw [hret _ acts rfl rfl rfl]) | rw [hret _ _ rfl rfl rfl]
  exact Steps.refl _
def XL (b L : Nat) (xs : Nat → Int32) : State → Code → Prop := fun s _ => va_X b L xs s s.heap ∧ b < s.heap.size
def QL : List Frame → Array Value → State → State → Prop := fun below args s => lw_Z below args s
abbrev outC (G : cxG) (ow : Nat) (f : Nat → Int64) : Nat × va_E := (ow, .inl (G.2.2.1, 1, .inr (.inl f)))
abbrev rtM (G : cxG) (adM : Nat → Nat) (σM : St) (ow : Nat) (f : Nat → Int64) : va_W := cellsE G adM LM σM LM.1 0 ++ [outC G ow f]
theorem rt_at {G : cxG} {adM : Nat → Nat} {σM : St} {ow : Nat} {f : Nat → Int64} : (rtM G adM σM ow f)[22]? = some (outC G ow f) := by
  rw [List.getElem?_append_right (by rw [cellsE_len]; decide), cellsE_len]; rfl
theorem rt_set {G : cxG} {adM : Nat → Nat} {σM : St} {ow : Nat} {f g : Nat → Int64} : (rtM G adM σM ow f).set 22 (outC G ow g) = rtM G adM σM ow g := by
  rw [List.set_append_right _ _ (by rw [cellsE_len]; decide), cellsE_len]; rfl
theorem lg_cmp_self (x : Int64) : lg_cmp x x = 0 := by
  simp [lg_cmp]
section LW
variable {l : Launch} {G : cxG} {mi : MI} {b L sz : Nat} {xs : Nat → Int32} {Q : List Frame → Array Value → State → State → Prop} {X : State → Code → Prop} {w0 : va_W} {pc : Nat} {lv : List (Nat × Value)} {st : List Value} {k n : Nat} {ws : va_W}
theorem nA {s : State} (hz : s.heap.size = sz) (hb : b < s.heap.size) : ¬ va_A [] sz b := by
  rintro (⟨j, e, h⟩ | h)
  · simp at h
  · omega
theorem pz_sld {i : Int32} (hd : decode mi.2.1 pc = .ok (.iaload, 1)) (hin : vp_in i L) (kk : PZ (XL b L xs) Q l G mi [] sz (pc + 1) lv (.int (xs i.toNatClampNeg) :: st) k n ws) : PZ (XL b L xs) Q l G mi [] sz pc lv (.int i :: .ref b :: st) k n ws :=
  fun p e s m args below meth c H locs ls F hx hz hP hD hS hl => va_sld F.1 F.2.1 hx.1 hx.2 (nA hz hx.2) hS hin hd (kk p e s m args below meth c H locs ls F hx hz hP hD hS hl)
theorem pz_slen (hd : decode mi.2.1 pc = .ok (.arraylength, 1)) (kk : PZ (XL b L xs) Q l G mi [] sz (pc + 1) lv (.int (Int32.ofNat L) :: st) k n ws) : PZ (XL b L xs) Q l G mi [] sz pc lv (.ref b :: st) k n ws :=
  fun p e s m args below meth c H locs ls F hx hz hP hD hS hl => va_slen F.1 F.2.1 hx.1 hx.2 (nA hz hx.2) hS hd (kk p e s m args below meth c H locs ls F hx hz hP hD hS hl)
theorem pz_lawret (hd : decode cL_law pc = .ok (.ireturn, 1)) (hc : k ≤ 601024) (hs : n ≤ 7293034) : PZ X QL l G mL_law [] sz pc lv [.int 1] k n ws := by
  intro p e s m args below meth c H locs ls F hx hz hP hD hS hl
  refine W.widen hc hs (va_forget (fun q hq => ?_) (lw_retA F.1 F.2.1 F.2.2.2.1 F.2.2.2.2.1 hd))
  rcases hS.2.2 q hq with ⟨j, e, h⟩ | h
  · simp at h
  · omega
theorem pz_rV1 {mi' : MI} {As : List Value} {ci id idx na : Nat} {q : vw_C} {stk : List Value} {adr : Nat → Nat} {Λ : Lay} {Lf Rt : va_W} {σ : St} {R : Value → St → Prop} (hd : decode mi.2.1 pc = .ok (.invokevirtual idx, 3)) (hlk : LK mi.1.cls idx mi'.1) (hm : MK mi' na) (hi : Cond.instanceMethod mi'.1 ∈ TW) (hse : Cond.selects q.1 mi'.1 mi'.1 ∈ TW) (hr : RMok mi mi') (hn : As.length = na) (hst : stk = As.reverse ++ .ref (adr id) :: st) (hcat : (st.map fun v => v.category).sum ≤ 8) (hk : Λ.1[id]? = some (.inl ci)) (hc : vwCl[ci]? = some q) (hroom : k + mi'.2.2.2.2.cells ≤ mi.2.2.2.2.cells ∧ n + mi'.2.2.2.2.slots ≤ mi.2.2.2.2.slots) (hsp : SpR1 l G mi' (.ref (adr id) :: As) adr Λ Lf Rt σ R)
    (kk : ∀ v σ', R v σ' → PZ X Q l G mi w0 sz (pc + 3) lv (v :: st) (k + mi'.2.2.2.2.cells) (n + mi'.2.2.2.2.slots) (wp G adr Λ Lf Rt σ')) : PZ X Q l G mi w0 sz pc lv stk k n (wp G adr Λ Lf Rt σ) :=
  pz_callV hd hlk hm hi hse hr hn hst hcat (Lf.length + id) (wp_at hk) hc hsp hroom (fun v ws' h => by obtain ⟨v1, σ', h, hR⟩ := h; cases h; exact kk v1 σ' hR) (fun E ws' h => by obtain ⟨v1, σ', h, -⟩ := h; cases h)
theorem pz_dcmp {x y : UInt64} {op : CmpOp} (z : Int32) (hd : decode mi.2.1 pc = .ok (.dcmp op, 1)) (hz : Op.cmpValue (FP.dcmp x y) op = z) (kk : PZ X Q l G mi w0 sz (pc + 1) lv (.int z :: st) k n ws) : PZ X Q l G mi w0 sz pc lv (.double y :: .double x :: st) k n ws := by
  subst hz
  exact fun p e s m args below meth c H locs ls F hx hz hP hD hS hl => lv_dcmp F.1 F.2.1 hd (kk p e s m args below meth c H locs ls F hx hz hP hD hS hl)
theorem pz_pop {v : Value} (hd : decode mi.2.1 pc = .ok (.pop, 1)) (hv : v.category = 1) (kk : PZ X Q l G mi w0 sz (pc + 1) lv st k n ws) : PZ X Q l G mi w0 sz pc lv (v :: st) k n ws :=
  fun p e s m args below meth c H locs ls F hx hz hP hD hS hl => lv_pop F.1 F.2.1 hd hv (kk p e s m args below meth c H locs ls F hx hz hP hD hS hl)
theorem pz_pop2 {v : Value} (hd : decode mi.2.1 pc = .ok (.pop2, 1)) (hv : v.category = 2) (kk : PZ X Q l G mi w0 sz (pc + 1) lv st k n ws) : PZ X Q l G mi w0 sz pc lv (v :: st) k n ws :=
  fun p e s m args below meth c H locs ls F hx hz hP hD hS hl => lv_pop2_2 F.1 F.2.1 hd hv (kk p e s m args below meth c H locs ls F hx hz hP hD hS hl)
end LW
section WX
variable {l : Launch} {G : cxG} {adr : Nat → Nat} {Rt : va_W} {σ : St} {p ow : Nat} {f : Nat → Int64}
theorem wx_append (hout : Rt[p]? = some (ow, .inl (G.2.2.1, 1, .inr (.inl f)))) (p0 : Int32) {VX : Value → Prop} {Qs : St → Prop} (hVX : ∀ v, VX v → ∃ r : Int32, v = .int r) (h : SpR1 l G mX10_append [.ref (adr 0), .int p0] adr LX [] Rt σ (fun v τ => VX v ∧ Qs τ)) : SpecW l G mL_append hhL_append [.ref (adr 0), .int p0, .ref ow] (wp G adr LX [] Rt σ) (fun o => ∃ τ r, VX (.int r) ∧ o = .inl (some (.int 0), wp G adr LX [] (Rt.set p (ow, .inl (G.2.2.1, 1, .inr (.inl (vp_updL f 0 r.toInt64))))) τ) ∧ Qs τ) := by
  refine specW_of (by decide) (Nat.le_of_ble_eq_true rfl) (fun sz => ?_)
  refine pz_aload_n dL_append_0 rfl ?_
  refine pz_iconst (v := 0) dL_append_1 rfl ?_
  refine pz_aload_n dL_append_2 rfl ?_
  refine pz_iload_n dL_append_3 rfl ?_
  refine pz_callV (mi' := mX10_append) (As := [.int p0]) (r := (RX10, TX10, 14)) (st := [.int 0, .ref ow]) dL_append_4 lk_RL_7 mk_X10_append mi_X10_append me_X10_append ⟨by decide, by decide⟩ rfl rfl (Nat.le_of_ble_eq_true rfl) (([] : va_W).length + 0) (wp_at (x := .inl 10) rfl) rfl h ⟨Nat.le_of_ble_eq_true rfl, Nat.le_of_ble_eq_true rfl⟩ (fun v ws1 hv => ?_) (fun E ws1 hv => by obtain ⟨v, τ, hv, -⟩ := hv; cases hv)
  obtain ⟨v1, τ, hv, hV, hQ⟩ := hv
  obtain ⟨r, hr⟩ := hVX v1 hV
  cases hv
  subst hr
  refine pz_i2l dL_append_7 ?_
  refine pz_last dL_append_8 (([] : va_W).length + (LX.1.length + p)) (wp_rt hout) (vp_in_nI (n := 0) (by decide) (by decide)) ?_
  refine pz_ws wp_rs ?_
  refine pz_goto (tgt := 18) dL_append_9 (by decide) ?_
  refine pz_iconst (v := 0) dL_append_18 rfl ?_
  exact pz_iret rfl rfl dL_append_19 (Nat.le_of_ble_eq_true rfl) (Nat.le_of_ble_eq_true rfl) ⟨τ, r, hV, rfl, hQ⟩
theorem wx_setRange (hout : Rt[p]? = some (ow, .inl (G.2.2.1, 1, .inr (.inl f)))) (p0 : Int32) (p1 : Int32) (p2 : Int32) {VX : Value → Prop} {Qs : St → Prop} (hVX : ∀ v, VX v → ∃ r : Int32, v = .int r) (h : SpR1 l G mX10_setRange [.ref (adr 0), .int p0, .int p1, .int p2] adr LX [] Rt σ (fun v τ => VX v ∧ Qs τ)) : SpecW l G mL_setRange hhL_setRange [.ref (adr 0), .int p0, .int p1, .int p2, .ref ow] (wp G adr LX [] Rt σ) (fun o => ∃ τ r, VX (.int r) ∧ o = .inl (some (.int 0), wp G adr LX [] (Rt.set p (ow, .inl (G.2.2.1, 1, .inr (.inl (vp_updL f 0 r.toInt64))))) τ) ∧ Qs τ) := by
  refine specW_of (by decide) (Nat.le_of_ble_eq_true rfl) (fun sz => ?_)
  refine pz_aload dL_setRange_0 rfl ?_
  refine pz_iconst (v := 0) dL_setRange_2 rfl ?_
  refine pz_aload_n dL_setRange_3 rfl ?_
  refine pz_iload_n dL_setRange_4 rfl ?_
  refine pz_iload_n dL_setRange_5 rfl ?_
  refine pz_iload_n dL_setRange_6 rfl ?_
  refine pz_callV (mi' := mX10_setRange) (As := [.int p0, .int p1, .int p2]) (r := (RX10, TX10, 14)) (st := [.int 0, .ref ow]) dL_setRange_7 lk_RL_17 mk_X10_setRange mi_X10_setRange me_X10_setRange ⟨by decide, by decide⟩ rfl rfl (Nat.le_of_ble_eq_true rfl) (([] : va_W).length + 0) (wp_at (x := .inl 10) rfl) rfl h ⟨Nat.le_of_ble_eq_true rfl, Nat.le_of_ble_eq_true rfl⟩ (fun v ws1 hv => ?_) (fun E ws1 hv => by obtain ⟨v, τ, hv, -⟩ := hv; cases hv)
  obtain ⟨v1, τ, hv, hV, hQ⟩ := hv
  obtain ⟨r, hr⟩ := hVX v1 hV
  cases hv
  subst hr
  refine pz_i2l dL_setRange_10 ?_
  refine pz_last dL_setRange_11 (([] : va_W).length + (LX.1.length + p)) (wp_rt hout) (vp_in_nI (n := 0) (by decide) (by decide)) ?_
  refine pz_ws wp_rs ?_
  refine pz_goto (tgt := 23) dL_setRange_12 (by decide) ?_
  refine pz_iconst (v := 0) dL_setRange_23 rfl ?_
  exact pz_iret rfl rfl dL_setRange_24 (Nat.le_of_ble_eq_true rfl) (Nat.le_of_ble_eq_true rfl) ⟨τ, r, hV, rfl, hQ⟩
theorem wx_setInput (hout : Rt[p]? = some (ow, .inl (G.2.2.1, 1, .inr (.inl f)))) (p0 : Int32) (p1 : Int32) {VX : Value → Prop} {Qs : St → Prop} (hVX : ∀ v, VX v → ∃ r : Int32, v = .int r) (h : SpR1 l G mX10_setInput [.ref (adr 0), .int p0, .int p1] adr LX [] Rt σ (fun v τ => VX v ∧ Qs τ)) : SpecW l G mL_setInput hhL_setInput [.ref (adr 0), .int p0, .int p1, .ref ow] (wp G adr LX [] Rt σ) (fun o => ∃ τ r, VX (.int r) ∧ o = .inl (some (.int 0), wp G adr LX [] (Rt.set p (ow, .inl (G.2.2.1, 1, .inr (.inl (vp_updL f 0 r.toInt64))))) τ) ∧ Qs τ) := by
  refine specW_of (by decide) (Nat.le_of_ble_eq_true rfl) (fun sz => ?_)
  refine pz_aload_n dL_setInput_0 rfl ?_
  refine pz_iconst (v := 0) dL_setInput_1 rfl ?_
  refine pz_aload_n dL_setInput_2 rfl ?_
  refine pz_iload_n dL_setInput_3 rfl ?_
  refine pz_iload_n dL_setInput_4 rfl ?_
  refine pz_callV (mi' := mX10_setInput) (As := [.int p0, .int p1]) (r := (RX10, TX10, 14)) (st := [.int 0, .ref ow]) dL_setInput_5 lk_RL_23 mk_X10_setInput mi_X10_setInput me_X10_setInput ⟨by decide, by decide⟩ rfl rfl (Nat.le_of_ble_eq_true rfl) (([] : va_W).length + 0) (wp_at (x := .inl 10) rfl) rfl h ⟨Nat.le_of_ble_eq_true rfl, Nat.le_of_ble_eq_true rfl⟩ (fun v ws1 hv => ?_) (fun E ws1 hv => by obtain ⟨v, τ, hv, -⟩ := hv; cases hv)
  obtain ⟨v1, τ, hv, hV, hQ⟩ := hv
  obtain ⟨r, hr⟩ := hVX v1 hV
  cases hv
  subst hr
  refine pz_i2l dL_setInput_8 ?_
  refine pz_last dL_setInput_9 (([] : va_W).length + (LX.1.length + p)) (wp_rt hout) (vp_in_nI (n := 0) (by decide) (by decide)) ?_
  refine pz_ws wp_rs ?_
  refine pz_goto (tgt := 21) dL_setInput_10 (by decide) ?_
  refine pz_iconst (v := 0) dL_setInput_21 rfl ?_
  exact pz_iret rfl rfl dL_setInput_22 (Nat.le_of_ble_eq_true rfl) (Nat.le_of_ble_eq_true rfl) ⟨τ, r, hV, rfl, hQ⟩
theorem wx_input (hout : Rt[p]? = some (ow, .inl (G.2.2.1, 1, .inr (.inl f)))) (p0 : Int32) (p1 : Int32) {VX : Value → Prop} {Qs : St → Prop} (hVX : ∀ v, VX v → ∃ r : Int32, v = .int r) (h : SpR1 l G mX10_input [.ref (adr 0), .int p0, .int p1] adr LX [] Rt σ (fun v τ => VX v ∧ Qs τ)) : SpecW l G mL_input hhL_input [.ref (adr 0), .int p0, .int p1, .ref ow] (wp G adr LX [] Rt σ) (fun o => ∃ τ r, VX (.int r) ∧ o = .inl (some (.int 0), wp G adr LX [] (Rt.set p (ow, .inl (G.2.2.1, 1, .inr (.inl (vp_updL f 0 r.toInt64))))) τ) ∧ Qs τ) := by
  refine specW_of (by decide) (Nat.le_of_ble_eq_true rfl) (fun sz => ?_)
  refine pz_aload_n dL_input_0 rfl ?_
  refine pz_iconst (v := 0) dL_input_1 rfl ?_
  refine pz_aload_n dL_input_2 rfl ?_
  refine pz_iload_n dL_input_3 rfl ?_
  refine pz_iload_n dL_input_4 rfl ?_
  refine pz_callV (mi' := mX10_input) (As := [.int p0, .int p1]) (r := (RX10, TX10, 14)) (st := [.int 0, .ref ow]) dL_input_5 lk_RL_27 mk_X10_input mi_X10_input me_X10_input ⟨by decide, by decide⟩ rfl rfl (Nat.le_of_ble_eq_true rfl) (([] : va_W).length + 0) (wp_at (x := .inl 10) rfl) rfl h ⟨Nat.le_of_ble_eq_true rfl, Nat.le_of_ble_eq_true rfl⟩ (fun v ws1 hv => ?_) (fun E ws1 hv => by obtain ⟨v, τ, hv, -⟩ := hv; cases hv)
  obtain ⟨v1, τ, hv, hV, hQ⟩ := hv
  obtain ⟨r, hr⟩ := hVX v1 hV
  cases hv
  subst hr
  refine pz_i2l dL_input_8 ?_
  refine pz_last dL_input_9 (([] : va_W).length + (LX.1.length + p)) (wp_rt hout) (vp_in_nI (n := 0) (by decide) (by decide)) ?_
  refine pz_ws wp_rs ?_
  refine pz_goto (tgt := 21) dL_input_10 (by decide) ?_
  refine pz_iconst (v := 0) dL_input_21 rfl ?_
  exact pz_iret rfl rfl dL_input_22 (Nat.le_of_ble_eq_true rfl) (Nat.le_of_ble_eq_true rfl) ⟨τ, r, hV, rfl, hQ⟩
theorem wx_remove (hout : Rt[p]? = some (ow, .inl (G.2.2.1, 1, .inr (.inl f)))) (p0 : Int32) {VX : Value → Prop} {Qs : St → Prop} (hVX : ∀ v, VX v → ∃ r : Int32, v = .int r) (h : SpR1 l G mX10_remove [.ref (adr 0), .int p0] adr LX [] Rt σ (fun v τ => VX v ∧ Qs τ)) : SpecW l G mL_remove hhL_remove [.ref (adr 0), .int p0, .ref ow] (wp G adr LX [] Rt σ) (fun o => ∃ τ r, VX (.int r) ∧ o = .inl (some (.int 0), wp G adr LX [] (Rt.set p (ow, .inl (G.2.2.1, 1, .inr (.inl (vp_updL f 0 r.toInt64))))) τ) ∧ Qs τ) := by
  refine specW_of (by decide) (Nat.le_of_ble_eq_true rfl) (fun sz => ?_)
  refine pz_aload_n dL_remove_0 rfl ?_
  refine pz_iconst (v := 0) dL_remove_1 rfl ?_
  refine pz_aload_n dL_remove_2 rfl ?_
  refine pz_iload_n dL_remove_3 rfl ?_
  refine pz_callV (mi' := mX10_remove) (As := [.int p0]) (r := (RX10, TX10, 14)) (st := [.int 0, .ref ow]) dL_remove_4 lk_RL_30 mk_X10_remove mi_X10_remove me_X10_remove ⟨by decide, by decide⟩ rfl rfl (Nat.le_of_ble_eq_true rfl) (([] : va_W).length + 0) (wp_at (x := .inl 10) rfl) rfl h ⟨Nat.le_of_ble_eq_true rfl, Nat.le_of_ble_eq_true rfl⟩ (fun v ws1 hv => ?_) (fun E ws1 hv => by obtain ⟨v, τ, hv, -⟩ := hv; cases hv)
  obtain ⟨v1, τ, hv, hV, hQ⟩ := hv
  obtain ⟨r, hr⟩ := hVX v1 hV
  cases hv
  subst hr
  refine pz_i2l dL_remove_7 ?_
  refine pz_last dL_remove_8 (([] : va_W).length + (LX.1.length + p)) (wp_rt hout) (vp_in_nI (n := 0) (by decide) (by decide)) ?_
  refine pz_ws wp_rs ?_
  refine pz_goto (tgt := 18) dL_remove_9 (by decide) ?_
  refine pz_iconst (v := 0) dL_remove_18 rfl ?_
  exact pz_iret rfl rfl dL_remove_19 (Nat.le_of_ble_eq_true rfl) (Nat.le_of_ble_eq_true rfl) ⟨τ, r, hV, rfl, hQ⟩
theorem wx_instruction (hout : Rt[p]? = some (ow, .inl (G.2.2.1, 1, .inr (.inl f)))) (p0 : Int32) (p1 : Int32) {VX : Value → Prop} {Qs : St → Prop} (hVX : ∀ v, VX v → ∃ r : Int32, v = .int r) (h : SpR1 l G mX10_instruction [.ref (adr 0), .int p0, .int p1] adr LX [] Rt σ (fun v τ => VX v ∧ Qs τ)) : SpecW l G mL_instruction hhL_instruction [.ref (adr 0), .int p0, .int p1, .ref ow] (wp G adr LX [] Rt σ) (fun o => ∃ τ r, VX (.int r) ∧ o = .inl (some (.int 0), wp G adr LX [] (Rt.set p (ow, .inl (G.2.2.1, 1, .inr (.inl (vp_updL f 0 r.toInt64))))) τ) ∧ Qs τ) := by
  refine specW_of (by decide) (Nat.le_of_ble_eq_true rfl) (fun sz => ?_)
  refine pz_aload_n dL_instruction_0 rfl ?_
  refine pz_iconst (v := 0) dL_instruction_1 rfl ?_
  refine pz_aload_n dL_instruction_2 rfl ?_
  refine pz_iload_n dL_instruction_3 rfl ?_
  refine pz_iload_n dL_instruction_4 rfl ?_
  refine pz_callV (mi' := mX10_instruction) (As := [.int p0, .int p1]) (r := (RX10, TX10, 14)) (st := [.int 0, .ref ow]) dL_instruction_5 lk_RL_33 mk_X10_instruction mi_X10_instruction me_X10_instruction ⟨by decide, by decide⟩ rfl rfl (Nat.le_of_ble_eq_true rfl) (([] : va_W).length + 0) (wp_at (x := .inl 10) rfl) rfl h ⟨Nat.le_of_ble_eq_true rfl, Nat.le_of_ble_eq_true rfl⟩ (fun v ws1 hv => ?_) (fun E ws1 hv => by obtain ⟨v, τ, hv, -⟩ := hv; cases hv)
  obtain ⟨v1, τ, hv, hV, hQ⟩ := hv
  obtain ⟨r, hr⟩ := hVX v1 hV
  cases hv
  subst hr
  refine pz_i2l dL_instruction_8 ?_
  refine pz_last dL_instruction_9 (([] : va_W).length + (LX.1.length + p)) (wp_rt hout) (vp_in_nI (n := 0) (by decide) (by decide)) ?_
  refine pz_ws wp_rs ?_
  refine pz_goto (tgt := 21) dL_instruction_10 (by decide) ?_
  refine pz_iconst (v := 0) dL_instruction_21 rfl ?_
  exact pz_iret rfl rfl dL_instruction_22 (Nat.le_of_ble_eq_true rfl) (Nat.le_of_ble_eq_true rfl) ⟨τ, r, hV, rfl, hQ⟩
theorem wx_operand (hout : Rt[p]? = some (ow, .inl (G.2.2.1, 1, .inr (.inl f)))) (p0 : Int32) (p1 : Int32) {VX : Value → Prop} {Qs : St → Prop} (hVX : ∀ v, VX v → ∃ r : Int32, v = .int r) (h : SpR1 l G mX10_operand [.ref (adr 0), .int p0, .int p1] adr LX [] Rt σ (fun v τ => VX v ∧ Qs τ)) : SpecW l G mL_operand hhL_operand [.ref (adr 0), .int p0, .int p1, .ref ow] (wp G adr LX [] Rt σ) (fun o => ∃ τ r, VX (.int r) ∧ o = .inl (some (.int 0), wp G adr LX [] (Rt.set p (ow, .inl (G.2.2.1, 1, .inr (.inl (vp_updL f 0 r.toInt64))))) τ) ∧ Qs τ) := by
  refine specW_of (by decide) (Nat.le_of_ble_eq_true rfl) (fun sz => ?_)
  refine pz_aload_n dL_operand_0 rfl ?_
  refine pz_iconst (v := 0) dL_operand_1 rfl ?_
  refine pz_aload_n dL_operand_2 rfl ?_
  refine pz_iload_n dL_operand_3 rfl ?_
  refine pz_iload_n dL_operand_4 rfl ?_
  refine pz_callV (mi' := mX10_operand) (As := [.int p0, .int p1]) (r := (RX10, TX10, 14)) (st := [.int 0, .ref ow]) dL_operand_5 lk_RL_36 mk_X10_operand mi_X10_operand me_X10_operand ⟨by decide, by decide⟩ rfl rfl (Nat.le_of_ble_eq_true rfl) (([] : va_W).length + 0) (wp_at (x := .inl 10) rfl) rfl h ⟨Nat.le_of_ble_eq_true rfl, Nat.le_of_ble_eq_true rfl⟩ (fun v ws1 hv => ?_) (fun E ws1 hv => by obtain ⟨v, τ, hv, -⟩ := hv; cases hv)
  obtain ⟨v1, τ, hv, hV, hQ⟩ := hv
  obtain ⟨r, hr⟩ := hVX v1 hV
  cases hv
  subst hr
  refine pz_i2l dL_operand_8 ?_
  refine pz_last dL_operand_9 (([] : va_W).length + (LX.1.length + p)) (wp_rt hout) (vp_in_nI (n := 0) (by decide) (by decide)) ?_
  refine pz_ws wp_rs ?_
  refine pz_goto (tgt := 17) dL_operand_10 (by decide) ?_
  refine pz_iconst (v := 0) dL_operand_17 rfl ?_
  exact pz_iret rfl rfl dL_operand_18 (Nat.le_of_ble_eq_true rfl) (Nat.le_of_ble_eq_true rfl) ⟨τ, r, hV, rfl, hQ⟩
theorem wx_state (hout : Rt[p]? = some (ow, .inl (G.2.2.1, 1, .inr (.inl f)))) (p0 : Int32) {VX : Value → Prop} {Qs : St → Prop} (hVX : ∀ v, VX v → ∃ r : Int32, v = .int r) (h : SpR1 l G mX10_state [.ref (adr 0), .int p0] adr LX [] Rt σ (fun v τ => VX v ∧ Qs τ)) : SpecW l G mL_state hhL_state [.ref (adr 0), .int p0, .ref ow] (wp G adr LX [] Rt σ) (fun o => ∃ τ r, VX (.int r) ∧ o = .inl (some (.int 0), wp G adr LX [] (Rt.set p (ow, .inl (G.2.2.1, 1, .inr (.inl (vp_updL f 0 r.toInt64))))) τ) ∧ Qs τ) := by
  refine specW_of (by decide) (Nat.le_of_ble_eq_true rfl) (fun sz => ?_)
  refine pz_aload_n dL_state_0 rfl ?_
  refine pz_iconst (v := 0) dL_state_1 rfl ?_
  refine pz_aload_n dL_state_2 rfl ?_
  refine pz_iload_n dL_state_3 rfl ?_
  refine pz_callV (mi' := mX10_state) (As := [.int p0]) (r := (RX10, TX10, 14)) (st := [.int 0, .ref ow]) dL_state_4 lk_RL_40 mk_X10_state mi_X10_state me_X10_state ⟨by decide, by decide⟩ rfl rfl (Nat.le_of_ble_eq_true rfl) (([] : va_W).length + 0) (wp_at (x := .inl 10) rfl) rfl h ⟨Nat.le_of_ble_eq_true rfl, Nat.le_of_ble_eq_true rfl⟩ (fun v ws1 hv => ?_) (fun E ws1 hv => by obtain ⟨v, τ, hv, -⟩ := hv; cases hv)
  obtain ⟨v1, τ, hv, hV, hQ⟩ := hv
  obtain ⟨r, hr⟩ := hVX v1 hV
  cases hv
  subst hr
  refine pz_i2l dL_state_7 ?_
  refine pz_last dL_state_8 (([] : va_W).length + (LX.1.length + p)) (wp_rt hout) (vp_in_nI (n := 0) (by decide) (by decide)) ?_
  refine pz_ws wp_rs ?_
  refine pz_goto (tgt := 15) dL_state_9 (by decide) ?_
  refine pz_iconst (v := 0) dL_state_15 rfl ?_
  exact pz_iret rfl rfl dL_state_16 (Nat.le_of_ble_eq_true rfl) (Nat.le_of_ble_eq_true rfl) ⟨τ, r, hV, rfl, hQ⟩
theorem wx_states (hout : Rt[p]? = some (ow, .inl (G.2.2.1, 1, .inr (.inl f)))) (p0 : Int32) {VX : Value → Prop} {Qs : St → Prop} (hVX : ∀ v, VX v → ∃ r : Int32, v = .int r) (h : SpR1 l G mX10_states [.ref (adr 0), .int p0] adr LX [] Rt σ (fun v τ => VX v ∧ Qs τ)) : SpecW l G mL_states hhL_states [.ref (adr 0), .int p0, .ref ow] (wp G adr LX [] Rt σ) (fun o => ∃ τ r, VX (.int r) ∧ o = .inl (some (.int 0), wp G adr LX [] (Rt.set p (ow, .inl (G.2.2.1, 1, .inr (.inl (vp_updL f 0 r.toInt64))))) τ) ∧ Qs τ) := by
  refine specW_of (by decide) (Nat.le_of_ble_eq_true rfl) (fun sz => ?_)
  refine pz_aload_n dL_states_0 rfl ?_
  refine pz_iconst (v := 0) dL_states_1 rfl ?_
  refine pz_aload_n dL_states_2 rfl ?_
  refine pz_iload_n dL_states_3 rfl ?_
  refine pz_callV (mi' := mX10_states) (As := [.int p0]) (r := (RX10, TX10, 14)) (st := [.int 0, .ref ow]) dL_states_4 lk_RL_43 mk_X10_states mi_X10_states me_X10_states ⟨by decide, by decide⟩ rfl rfl (Nat.le_of_ble_eq_true rfl) (([] : va_W).length + 0) (wp_at (x := .inl 10) rfl) rfl h ⟨Nat.le_of_ble_eq_true rfl, Nat.le_of_ble_eq_true rfl⟩ (fun v ws1 hv => ?_) (fun E ws1 hv => by obtain ⟨v, τ, hv, -⟩ := hv; cases hv)
  obtain ⟨v1, τ, hv, hV, hQ⟩ := hv
  obtain ⟨r, hr⟩ := hVX v1 hV
  cases hv
  subst hr
  refine pz_i2l dL_states_7 ?_
  refine pz_last dL_states_8 (([] : va_W).length + (LX.1.length + p)) (wp_rt hout) (vp_in_nI (n := 0) (by decide) (by decide)) ?_
  refine pz_ws wp_rs ?_
  refine pz_goto (tgt := 15) dL_states_9 (by decide) ?_
  refine pz_iconst (v := 0) dL_states_15 rfl ?_
  exact pz_iret rfl rfl dL_states_16 (Nat.le_of_ble_eq_true rfl) (Nat.le_of_ble_eq_true rfl) ⟨τ, r, hV, rfl, hQ⟩
theorem wx_coveredBy (hout : Rt[p]? = some (ow, .inl (G.2.2.1, 1, .inr (.inl f)))) (p0 : Int32) {VX : Value → Prop} {Qs : St → Prop} (hVX : ∀ v, VX v → ∃ r : Int32, v = .int r) (h : SpR1 l G mX10_coveredBy [.ref (adr 0), .int p0] adr LX [] Rt σ (fun v τ => VX v ∧ Qs τ)) : SpecW l G mL_coveredBy hhL_coveredBy [.ref (adr 0), .int p0, .ref ow] (wp G adr LX [] Rt σ) (fun o => ∃ τ r, VX (.int r) ∧ o = .inl (some (.int 0), wp G adr LX [] (Rt.set p (ow, .inl (G.2.2.1, 1, .inr (.inl (vp_updL f 0 r.toInt64))))) τ) ∧ Qs τ) := by
  refine specW_of (by decide) (Nat.le_of_ble_eq_true rfl) (fun sz => ?_)
  refine pz_aload_n dL_coveredBy_0 rfl ?_
  refine pz_iconst (v := 0) dL_coveredBy_1 rfl ?_
  refine pz_aload_n dL_coveredBy_2 rfl ?_
  refine pz_iload_n dL_coveredBy_3 rfl ?_
  refine pz_callV (mi' := mX10_coveredBy) (As := [.int p0]) (r := (RX10, TX10, 14)) (st := [.int 0, .ref ow]) dL_coveredBy_4 lk_RL_46 mk_X10_coveredBy mi_X10_coveredBy me_X10_coveredBy ⟨by decide, by decide⟩ rfl rfl (Nat.le_of_ble_eq_true rfl) (([] : va_W).length + 0) (wp_at (x := .inl 10) rfl) rfl h ⟨Nat.le_of_ble_eq_true rfl, Nat.le_of_ble_eq_true rfl⟩ (fun v ws1 hv => ?_) (fun E ws1 hv => by obtain ⟨v, τ, hv, -⟩ := hv; cases hv)
  obtain ⟨v1, τ, hv, hV, hQ⟩ := hv
  obtain ⟨r, hr⟩ := hVX v1 hV
  cases hv
  subst hr
  refine pz_i2l dL_coveredBy_7 ?_
  refine pz_last dL_coveredBy_8 (([] : va_W).length + (LX.1.length + p)) (wp_rt hout) (vp_in_nI (n := 0) (by decide) (by decide)) ?_
  refine pz_ws wp_rs ?_
  refine pz_goto (tgt := 15) dL_coveredBy_9 (by decide) ?_
  refine pz_iconst (v := 0) dL_coveredBy_15 rfl ?_
  exact pz_iret rfl rfl dL_coveredBy_16 (Nat.le_of_ble_eq_true rfl) (Nat.le_of_ble_eq_true rfl) ⟨τ, r, hV, rfl, hQ⟩
theorem wx_range (hout : Rt[p]? = some (ow, .inl (G.2.2.1, 1, .inr (.inl f)))) (p0 : Int32) (p1 : Int32) {VX : Value → Prop} {Qs : St → Prop} (hVX : ∀ v, VX v → ∃ r : Int64, v = .long r) (h : SpR1 l G mX10_range [.ref (adr 0), .int p0, .int p1] adr LX [] Rt σ (fun v τ => VX v ∧ Qs τ)) : SpecW l G mL_range hhL_range [.ref (adr 0), .int p0, .int p1, .ref ow] (wp G adr LX [] Rt σ) (fun o => ∃ τ r, VX (.long r) ∧ o = .inl (some (.int 0), wp G adr LX [] (Rt.set p (ow, .inl (G.2.2.1, 1, .inr (.inl (vp_updL f 0 r))))) τ) ∧ Qs τ) := by
  refine specW_of (by decide) (Nat.le_of_ble_eq_true rfl) (fun sz => ?_)
  refine pz_aload_n dL_range_0 rfl ?_
  refine pz_iconst (v := 0) dL_range_1 rfl ?_
  refine pz_aload_n dL_range_2 rfl ?_
  refine pz_iload_n dL_range_3 rfl ?_
  refine pz_iload_n dL_range_4 rfl ?_
  refine pz_callV (mi' := mX10_range) (As := [.int p0, .int p1]) (r := (RX10, TX10, 14)) (st := [.int 0, .ref ow]) dL_range_5 lk_RL_49 mk_X10_range mi_X10_range me_X10_range ⟨by decide, by decide⟩ rfl rfl (Nat.le_of_ble_eq_true rfl) (([] : va_W).length + 0) (wp_at (x := .inl 10) rfl) rfl h ⟨Nat.le_of_ble_eq_true rfl, Nat.le_of_ble_eq_true rfl⟩ (fun v ws1 hv => ?_) (fun E ws1 hv => by obtain ⟨v, τ, hv, -⟩ := hv; cases hv)
  obtain ⟨v1, τ, hv, hV, hQ⟩ := hv
  obtain ⟨r, hr⟩ := hVX v1 hV
  cases hv
  subst hr
  refine pz_last dL_range_8 (([] : va_W).length + (LX.1.length + p)) (wp_rt hout) (vp_in_nI (n := 0) (by decide) (by decide)) ?_
  refine pz_ws wp_rs ?_
  refine pz_goto (tgt := 20) dL_range_9 (by decide) ?_
  refine pz_iconst (v := 0) dL_range_20 rfl ?_
  exact pz_iret rfl rfl dL_range_21 (Nat.le_of_ble_eq_true rfl) (Nat.le_of_ble_eq_true rfl) ⟨τ, r, hV, rfl, hQ⟩
theorem wx_finalRange (hout : Rt[p]? = some (ow, .inl (G.2.2.1, 1, .inr (.inl f)))) (p0 : Int32) (p1 : Int32) {VX : Value → Prop} {Qs : St → Prop} (hVX : ∀ v, VX v → ∃ r : Int32, v = .int r) (h : SpR1 l G mX10_finalRange [.ref (adr 0), .int p0, .int p1] adr LX [] Rt σ (fun v τ => VX v ∧ Qs τ)) : SpecW l G mL_finalRange hhL_finalRange [.ref (adr 0), .int p0, .int p1, .ref ow] (wp G adr LX [] Rt σ) (fun o => ∃ τ r, VX (.int r) ∧ o = .inl (some (.int 0), wp G adr LX [] (Rt.set p (ow, .inl (G.2.2.1, 1, .inr (.inl (vp_updL f 0 r.toInt64))))) τ) ∧ Qs τ) := by
  refine specW_of (by decide) (Nat.le_of_ble_eq_true rfl) (fun sz => ?_)
  refine pz_aload_n dL_finalRange_0 rfl ?_
  refine pz_iconst (v := 0) dL_finalRange_1 rfl ?_
  refine pz_aload_n dL_finalRange_2 rfl ?_
  refine pz_iload_n dL_finalRange_3 rfl ?_
  refine pz_iload_n dL_finalRange_4 rfl ?_
  refine pz_callV (mi' := mX10_finalRange) (As := [.int p0, .int p1]) (r := (RX10, TX10, 14)) (st := [.int 0, .ref ow]) dL_finalRange_5 lk_RL_53 mk_X10_finalRange mi_X10_finalRange me_X10_finalRange ⟨by decide, by decide⟩ rfl rfl (Nat.le_of_ble_eq_true rfl) (([] : va_W).length + 0) (wp_at (x := .inl 10) rfl) rfl h ⟨Nat.le_of_ble_eq_true rfl, Nat.le_of_ble_eq_true rfl⟩ (fun v ws1 hv => ?_) (fun E ws1 hv => by obtain ⟨v, τ, hv, -⟩ := hv; cases hv)
  obtain ⟨v1, τ, hv, hV, hQ⟩ := hv
  obtain ⟨r, hr⟩ := hVX v1 hV
  cases hv
  subst hr
  refine pz_i2l dL_finalRange_8 ?_
  refine pz_last dL_finalRange_9 (([] : va_W).length + (LX.1.length + p)) (wp_rt hout) (vp_in_nI (n := 0) (by decide) (by decide)) ?_
  refine pz_ws wp_rs ?_
  refine pz_goto (tgt := 17) dL_finalRange_10 (by decide) ?_
  refine pz_iconst (v := 0) dL_finalRange_17 rfl ?_
  exact pz_iret rfl rfl dL_finalRange_18 (Nat.le_of_ble_eq_true rfl) (Nat.le_of_ble_eq_true rfl) ⟨τ, r, hV, rfl, hQ⟩
theorem wx_result (hout : Rt[p]? = some (ow, .inl (G.2.2.1, 1, .inr (.inl f)))) (p0 : Int32) (p1 : Int32) {VX : Value → Prop} {Qs : St → Prop} (hVX : ∀ v, VX v → ∃ r : Int32, v = .int r) (h : SpR1 l G mX10_result [.ref (adr 0), .int p0, .int p1] adr LX [] Rt σ (fun v τ => VX v ∧ Qs τ)) : SpecW l G mL_result hhL_result [.ref (adr 0), .int p0, .int p1, .ref ow] (wp G adr LX [] Rt σ) (fun o => ∃ τ r, VX (.int r) ∧ o = .inl (some (.int 0), wp G adr LX [] (Rt.set p (ow, .inl (G.2.2.1, 1, .inr (.inl (vp_updL f 0 r.toInt64))))) τ) ∧ Qs τ) := by
  refine specW_of (by decide) (Nat.le_of_ble_eq_true rfl) (fun sz => ?_)
  refine pz_aload_n dL_result_0 rfl ?_
  refine pz_iconst (v := 0) dL_result_1 rfl ?_
  refine pz_aload_n dL_result_2 rfl ?_
  refine pz_iload_n dL_result_3 rfl ?_
  refine pz_iload_n dL_result_4 rfl ?_
  refine pz_callV (mi' := mX10_result) (As := [.int p0, .int p1]) (r := (RX10, TX10, 14)) (st := [.int 0, .ref ow]) dL_result_5 lk_RL_56 mk_X10_result mi_X10_result me_X10_result ⟨by decide, by decide⟩ rfl rfl (Nat.le_of_ble_eq_true rfl) (([] : va_W).length + 0) (wp_at (x := .inl 10) rfl) rfl h ⟨Nat.le_of_ble_eq_true rfl, Nat.le_of_ble_eq_true rfl⟩ (fun v ws1 hv => ?_) (fun E ws1 hv => by obtain ⟨v, τ, hv, -⟩ := hv; cases hv)
  obtain ⟨v1, τ, hv, hV, hQ⟩ := hv
  obtain ⟨r, hr⟩ := hVX v1 hV
  cases hv
  subst hr
  refine pz_i2l dL_result_8 ?_
  refine pz_last dL_result_9 (([] : va_W).length + (LX.1.length + p)) (wp_rt hout) (vp_in_nI (n := 0) (by decide) (by decide)) ?_
  refine pz_ws wp_rs ?_
  refine pz_goto (tgt := 17) dL_result_10 (by decide) ?_
  refine pz_iconst (v := 0) dL_result_17 rfl ?_
  exact pz_iret rfl rfl dL_result_18 (Nat.le_of_ble_eq_true rfl) (Nat.le_of_ble_eq_true rfl) ⟨τ, r, hV, rfl, hQ⟩
theorem wx_openWith (hout : Rt[p]? = some (ow, .inl (G.2.2.1, 1, .inr (.inl f)))) (p0 : Int32) (p1 : Int32) (p2 : Int32) {VX : Value → Prop} {Qs : St → Prop} (hVX : ∀ v, VX v → ∃ r : Int32, v = .int r) (h : SpR1 l G mX10_openWith [.ref (adr 0), .int p0, .int p1, .int p2] adr LX [] Rt σ (fun v τ => VX v ∧ Qs τ)) : SpecW l G mL_openWith hhL_openWith [.ref (adr 0), .int p0, .int p1, .int p2, .ref ow] (wp G adr LX [] Rt σ) (fun o => ∃ τ r, VX (.int r) ∧ o = .inl (some (.int 0), wp G adr LX [] (Rt.set p (ow, .inl (G.2.2.1, 1, .inr (.inl (vp_updL f 0 r.toInt64))))) τ) ∧ Qs τ) := by
  refine specW_of (by decide) (Nat.le_of_ble_eq_true rfl) (fun sz => ?_)
  refine pz_aload dL_openWith_0 rfl ?_
  refine pz_iconst (v := 0) dL_openWith_2 rfl ?_
  refine pz_aload_n dL_openWith_3 rfl ?_
  refine pz_iload_n dL_openWith_4 rfl ?_
  refine pz_iload_n dL_openWith_5 rfl ?_
  refine pz_iload_n dL_openWith_6 rfl ?_
  refine pz_callV (mi' := mX10_openWith) (As := [.int p0, .int p1, .int p2]) (r := (RX10, TX10, 14)) (st := [.int 0, .ref ow]) dL_openWith_7 lk_RL_59 mk_X10_openWith mi_X10_openWith me_X10_openWith ⟨by decide, by decide⟩ rfl rfl (Nat.le_of_ble_eq_true rfl) (([] : va_W).length + 0) (wp_at (x := .inl 10) rfl) rfl h ⟨Nat.le_of_ble_eq_true rfl, Nat.le_of_ble_eq_true rfl⟩ (fun v ws1 hv => ?_) (fun E ws1 hv => by obtain ⟨v, τ, hv, -⟩ := hv; cases hv)
  obtain ⟨v1, τ, hv, hV, hQ⟩ := hv
  obtain ⟨r, hr⟩ := hVX v1 hV
  cases hv
  subst hr
  refine pz_i2l dL_openWith_10 ?_
  refine pz_last dL_openWith_11 (([] : va_W).length + (LX.1.length + p)) (wp_rt hout) (vp_in_nI (n := 0) (by decide) (by decide)) ?_
  refine pz_ws wp_rs ?_
  refine pz_goto (tgt := 23) dL_openWith_12 (by decide) ?_
  refine pz_iconst (v := 0) dL_openWith_23 rfl ?_
  exact pz_iret rfl rfl dL_openWith_24 (Nat.le_of_ble_eq_true rfl) (Nat.le_of_ble_eq_true rfl) ⟨τ, r, hV, rfl, hQ⟩
theorem wx_safePower (hout : Rt[p]? = some (ow, .inl (G.2.2.1, 1, .inr (.inl f)))) (p0 : Int32) {VX : Value → Prop} {Qs : St → Prop} (hVX : ∀ v, VX v → ∃ r : Int32, v = .int r) (h : SpR1 l G mX10_safePower [.ref (adr 0), .int p0] adr LX [] Rt σ (fun v τ => VX v ∧ Qs τ)) : SpecW l G mL_safePower hhL_safePower [.ref (adr 0), .int p0, .ref ow] (wp G adr LX [] Rt σ) (fun o => ∃ τ r, VX (.int r) ∧ o = .inl (some (.int 0), wp G adr LX [] (Rt.set p (ow, .inl (G.2.2.1, 1, .inr (.inl (vp_updL f 0 r.toInt64))))) τ) ∧ Qs τ) := by
  refine specW_of (by decide) (Nat.le_of_ble_eq_true rfl) (fun sz => ?_)
  refine pz_aload_n dL_safePower_0 rfl ?_
  refine pz_iconst (v := 0) dL_safePower_1 rfl ?_
  refine pz_aload_n dL_safePower_2 rfl ?_
  refine pz_iload_n dL_safePower_3 rfl ?_
  refine pz_callV (mi' := mX10_safePower) (As := [.int p0]) (r := (RX10, TX10, 14)) (st := [.int 0, .ref ow]) dL_safePower_4 lk_RL_62 mk_X10_safePower mi_X10_safePower me_X10_safePower ⟨by decide, by decide⟩ rfl rfl (Nat.le_of_ble_eq_true rfl) (([] : va_W).length + 0) (wp_at (x := .inl 10) rfl) rfl h ⟨Nat.le_of_ble_eq_true rfl, Nat.le_of_ble_eq_true rfl⟩ (fun v ws1 hv => ?_) (fun E ws1 hv => by obtain ⟨v, τ, hv, -⟩ := hv; cases hv)
  obtain ⟨v1, τ, hv, hV, hQ⟩ := hv
  obtain ⟨r, hr⟩ := hVX v1 hV
  cases hv
  subst hr
  refine pz_i2l dL_safePower_7 ?_
  refine pz_last dL_safePower_8 (([] : va_W).length + (LX.1.length + p)) (wp_rt hout) (vp_in_nI (n := 0) (by decide) (by decide)) ?_
  refine pz_ws wp_rs ?_
  refine pz_goto (tgt := 15) dL_safePower_9 (by decide) ?_
  refine pz_iconst (v := 0) dL_safePower_15 rfl ?_
  exact pz_iret rfl rfl dL_safePower_16 (Nat.le_of_ble_eq_true rfl) (Nat.le_of_ble_eq_true rfl) ⟨τ, r, hV, rfl, hQ⟩
theorem wx_failingInput (hout : Rt[p]? = some (ow, .inl (G.2.2.1, 1, .inr (.inl f)))) (p0 : Int32) {VX : Value → Prop} {Qs : St → Prop} (hVX : ∀ v, VX v → ∃ r : Int32, v = .int r) (h : SpR1 l G mX10_failingInput [.ref (adr 0), .int p0] adr LX [] Rt σ (fun v τ => VX v ∧ Qs τ)) : SpecW l G mL_failingInput hhL_failingInput [.ref (adr 0), .int p0, .ref ow] (wp G adr LX [] Rt σ) (fun o => ∃ τ r, VX (.int r) ∧ o = .inl (some (.int 0), wp G adr LX [] (Rt.set p (ow, .inl (G.2.2.1, 1, .inr (.inl (vp_updL f 0 r.toInt64))))) τ) ∧ Qs τ) := by
  refine specW_of (by decide) (Nat.le_of_ble_eq_true rfl) (fun sz => ?_)
  refine pz_aload_n dL_failingInput_0 rfl ?_
  refine pz_iconst (v := 0) dL_failingInput_1 rfl ?_
  refine pz_aload_n dL_failingInput_2 rfl ?_
  refine pz_iload_n dL_failingInput_3 rfl ?_
  refine pz_callV (mi' := mX10_failingInput) (As := [.int p0]) (r := (RX10, TX10, 14)) (st := [.int 0, .ref ow]) dL_failingInput_4 lk_RL_65 mk_X10_failingInput mi_X10_failingInput me_X10_failingInput ⟨by decide, by decide⟩ rfl rfl (Nat.le_of_ble_eq_true rfl) (([] : va_W).length + 0) (wp_at (x := .inl 10) rfl) rfl h ⟨Nat.le_of_ble_eq_true rfl, Nat.le_of_ble_eq_true rfl⟩ (fun v ws1 hv => ?_) (fun E ws1 hv => by obtain ⟨v, τ, hv, -⟩ := hv; cases hv)
  obtain ⟨v1, τ, hv, hV, hQ⟩ := hv
  obtain ⟨r, hr⟩ := hVX v1 hV
  cases hv
  subst hr
  refine pz_i2l dL_failingInput_7 ?_
  refine pz_last dL_failingInput_8 (([] : va_W).length + (LX.1.length + p)) (wp_rt hout) (vp_in_nI (n := 0) (by decide) (by decide)) ?_
  refine pz_ws wp_rs ?_
  refine pz_goto (tgt := 15) dL_failingInput_9 (by decide) ?_
  refine pz_iconst (v := 0) dL_failingInput_15 rfl ?_
  exact pz_iret rfl rfl dL_failingInput_16 (Nat.le_of_ble_eq_true rfl) (Nat.le_of_ble_eq_true rfl) ⟨τ, r, hV, rfl, hQ⟩
theorem wx_undo (hout : Rt[p]? = some (ow, .inl (G.2.2.1, 1, .inr (.inl f)))) {VX : Value → Prop} {Qs : St → Prop} (hVX : ∀ v, VX v → ∃ r : Int32, v = .int r) (h : SpR1 l G mX10_undo [.ref (adr 0)] adr LX [] Rt σ (fun v τ => VX v ∧ Qs τ)) : SpecW l G mL_undo hhL_undo [.ref (adr 0), .ref ow] (wp G adr LX [] Rt σ) (fun o => ∃ τ r, VX (.int r) ∧ o = .inl (some (.int 0), wp G adr LX [] (Rt.set p (ow, .inl (G.2.2.1, 1, .inr (.inl (vp_updL f 0 r.toInt64))))) τ) ∧ Qs τ) := by
  refine specW_of (by decide) (Nat.le_of_ble_eq_true rfl) (fun sz => ?_)
  refine pz_aload_n dL_undo_0 rfl ?_
  refine pz_iconst (v := 0) dL_undo_1 rfl ?_
  refine pz_aload_n dL_undo_2 rfl ?_
  refine pz_callV (mi' := mX10_undo) (As := []) (r := (RX10, TX10, 14)) (st := [.int 0, .ref ow]) dL_undo_3 lk_RL_68 mk_X10_undo mi_X10_undo me_X10_undo ⟨by decide, by decide⟩ rfl rfl (Nat.le_of_ble_eq_true rfl) (([] : va_W).length + 0) (wp_at (x := .inl 10) rfl) rfl h ⟨Nat.le_of_ble_eq_true rfl, Nat.le_of_ble_eq_true rfl⟩ (fun v ws1 hv => ?_) (fun E ws1 hv => by obtain ⟨v, τ, hv, -⟩ := hv; cases hv)
  obtain ⟨v1, τ, hv, hV, hQ⟩ := hv
  obtain ⟨r, hr⟩ := hVX v1 hV
  cases hv
  subst hr
  refine pz_i2l dL_undo_6 ?_
  refine pz_last dL_undo_7 (([] : va_W).length + (LX.1.length + p)) (wp_rt hout) (vp_in_nI (n := 0) (by decide) (by decide)) ?_
  refine pz_ws wp_rs ?_
  refine pz_goto (tgt := 14) dL_undo_8 (by decide) ?_
  refine pz_iconst (v := 0) dL_undo_14 rfl ?_
  exact pz_iret rfl rfl dL_undo_15 (Nat.le_of_ble_eq_true rfl) (Nat.le_of_ble_eq_true rfl) ⟨τ, r, hV, rfl, hQ⟩
end WX
theorem ix1 {c d : Nat} (h : 4 * c + d < 4096) : nI (4 * c) + nI d = nI (4 * c + d) := by
  apply Int32.toInt_inj.mp
  rw [Int32.toInt_add, nI_toInt (by omega), nI_toInt (by omega), nI_toInt (by omega)]
  rw [Int.bmod_eq_of_le] <;> omega
section LC
variable {l : Launch} {G : cxG} {b L sz c k n : Nat} {xs : Nat → Int32} {adX adM : Nat → Nat} {ow : Nat} {σX σM : St} {f : Nat → Int64}
/-- how the loop goes on -/
def GoOn (l : Launch) (G : cxG) (b L sz c k n : Nat) (xs : Nat → Int32) (adX adM : Nat → Nat) (ow : Nat) : Prop := ∀ (τ ρ : St) (g : Nat → Int64) (k' n' : Nat), k' ≤ k + 1100 → n' ≤ n + 14000 → LI τ ρ → PZ (XL b L xs) QL l G mL_law [] sz 1019 [(0, .ref b), (1, .ref (adX 0)), (2, .ref (adM 0)), (3, .ref ow), (4, .int (nI (4 * c)))] [] k' n' (wp G adX LX [] (rtM G adM ρ ow g) τ)
theorem lc_append (hl : l.stackTraces = false) (hcL : 4 * c + 4 ≤ L) (hL : L ≤ 2048) (hk : k + 1100 ≤ 601024) (hn : n + 14000 ≤ 7293034) (kk : GoOn l G b L sz c k n xs adX adM ow) (h : LI σX σM) : PZ (XL b L xs) QL l G mL_law [] sz 156 [(0, .ref b), (1, .ref (adX 0)), (2, .ref (adM 0)), (3, .ref ow), (4, .int (nI (4 * c)))] [] k n (wp G adX LX [] (rtM G adM σM ow f) σX) := by
  have hs := sm_append (l := l) (G := G) (adX := adX) (adM := adM) hl h (xs (4 * c + 1))
  rcases hs with hs | hs | hs
  · obtain ⟨r0, KX, KM, hLI, hC, hM⟩ := hs
    have hVX : ∀ v : Value, v = .int r0 → ∃ r : Int32, v = .int r := fun v q => ⟨r0, q⟩
    have hVM := hVX
    have hEq : ∀ r1 r2 : Int32, (.int r1 : Value) = .int r0 → (.int r2 : Value) = .int r0 → r1 = r2 := fun r1 r2 a b => by cases a; cases b; rfl
    refine pz_aload_n dL_law_156 rfl ?_
    refine pz_aload_n dL_law_157 rfl ?_
    refine pz_iload dL_law_158 rfl ?_
    refine pz_iconst (v := 1) dL_law_160 rfl ?_
    refine pz_iadd dL_law_161 ?_
    refine pz_top (nI (4 * c + 1)) (ix1 (c := c) (d := 1) (by omega)) ?_
    refine pz_sld dL_law_162 (vp_in_nI (by omega) (by omega)) ?_
    refine pz_top (xs (4 * c + 1)) (congrArg xs (nI_clamp (by omega))) ?_
    refine pz_aload_n dL_law_163 rfl ?_
    refine pz_callW (mi' := mL_append) (hh := hhL_append) (As := [.ref (adX 0), .int (xs (4 * c + 1)), .ref ow]) dL_law_164 (tw_in 753 (by decide +kernel) (by decide +kernel)) mw_append ⟨by decide, by decide⟩ rfl rfl (Nat.le_of_ble_eq_true rfl) (wx_append (p := 22) rt_at (xs (4 * c + 1)) hVX (hC _)) ⟨show k + 1 ≤ 601024 by omega, show n + 6 ≤ 7293034 by omega⟩ (fun v ws1 hv => ?_)
    obtain ⟨τ, r1, hV1, hv, hKX⟩ := hv
    cases hv
    refine pz_kn (k + 1) (n + 6) rfl rfl ?_
    refine pz_ws (ws' := wp G adM LM (cellsE G adX LX τ LX.1 0) [outC G ow (vp_updL f 0 r1.toInt64)] σM) (by rw [rt_set]; rfl) ?_
    refine pz_istore dL_law_167 (by decide) ?_
    refine pz_aload_n dL_law_169 rfl ?_
    refine pz_aload_n dL_law_170 rfl ?_
    refine pz_iload dL_law_171 rfl ?_
    refine pz_iconst (v := 1) dL_law_173 rfl ?_
    refine pz_iadd dL_law_174 ?_
    refine pz_top (nI (4 * c + 1)) (ix1 (c := c) (d := 1) (by omega)) ?_
    refine pz_sld dL_law_175 (vp_in_nI (by omega) (by omega)) ?_
    refine pz_top (xs (4 * c + 1)) (congrArg xs (nI_clamp (by omega))) ?_
    refine pz_rV1 (mi' := mX11_append) (As := [.int (xs (4 * c + 1))]) (q := (RX11, TX11, 33)) dL_law_176 lk_RL_81 mk_X11_append mi_X11_append me_X11_append ⟨by decide, by decide⟩ rfl rfl (Nat.le_of_ble_eq_true rfl) rfl rfl ⟨show k + 1 + 0 ≤ 601024 by omega, show n + 6 + 0 ≤ 7293034 by omega⟩ (hM _ _) (fun v ρ hq => ?_)
    obtain ⟨hV2, hth, hKM⟩ := hq
    obtain ⟨r2, rfl⟩ := hVM v hV2
    have er : r1 = r2 := hEq r1 r2 hV1 hV2
    subst er
    refine pz_kn (k + 1) (n + 6) rfl rfl ?_
    refine pz_istore dL_law_179 (by decide) ?_
    refine pz_goto (tgt := 1019) dL_law_181 (by decide) ?_
    refine pz_ws (ws' := wp G adX LX [] (rtM G adM ρ ow (vp_updL f 0 r1.toInt64)) τ) rfl ?_
    exact pz_lk [(0, .ref b), (1, .ref (adX 0)), (2, .ref (adM 0)), (3, .ref ow), (4, .int (nI (4 * c)))] ⟨rfl, rfl, rfl, rfl, rfl, trivial⟩ (kk τ ρ (vp_updL f 0 r1.toInt64) (k + 1) (n + 6) (by omega) (by omega) (hLI _ _ hKX hKM))
  · obtain ⟨hC, hM⟩ := hs
    have hVM : ∀ v : Value, (∃ r : Int32, v = .int r) → ∃ r : Int32, v = .int r := fun v q => q
    refine pz_aload_n dL_law_156 rfl ?_
    refine pz_aload_n dL_law_157 rfl ?_
    refine pz_iload dL_law_158 rfl ?_
    refine pz_iconst (v := 1) dL_law_160 rfl ?_
    refine pz_iadd dL_law_161 ?_
    refine pz_top (nI (4 * c + 1)) (ix1 (c := c) (d := 1) (by omega)) ?_
    refine pz_sld dL_law_162 (vp_in_nI (by omega) (by omega)) ?_
    refine pz_top (xs (4 * c + 1)) (congrArg xs (nI_clamp (by omega))) ?_
    refine pz_aload_n dL_law_163 rfl ?_
    refine pz_callW (mi' := mL_append) (hh := hhL_append) (As := [.ref (adX 0), .int (xs (4 * c + 1)), .ref ow]) dL_law_164 (tw_in 753 (by decide +kernel) (by decide +kernel)) mw_append ⟨by decide, by decide⟩ rfl rfl (Nat.le_of_ble_eq_true rfl) (wt1_append (xs (4 * c + 1)) (hC _)) ⟨show k + 1 ≤ 601024 by omega, show n + 6 ≤ 7293034 by omega⟩ (fun v ws1 hv => ?_)
    cases hv
    refine pz_kn (k + 1) (n + 6) rfl rfl ?_
    refine pz_ws (ws' := wp G adM LM (cellsE G adX LX σX LX.1 0) [outC G ow f] σM) rfl ?_
    refine pz_istore dL_law_167 (by decide) ?_
    refine pz_aload_n dL_law_169 rfl ?_
    refine pz_aload_n dL_law_170 rfl ?_
    refine pz_iload dL_law_171 rfl ?_
    refine pz_iconst (v := 1) dL_law_173 rfl ?_
    refine pz_iadd dL_law_174 ?_
    refine pz_top (nI (4 * c + 1)) (ix1 (c := c) (d := 1) (by omega)) ?_
    refine pz_sld dL_law_175 (vp_in_nI (by omega) (by omega)) ?_
    refine pz_top (xs (4 * c + 1)) (congrArg xs (nI_clamp (by omega))) ?_
    refine pz_rV1 (mi' := mX11_append) (As := [.int (xs (4 * c + 1))]) (q := (RX11, TX11, 33)) dL_law_176 lk_RL_81 mk_X11_append mi_X11_append me_X11_append ⟨by decide, by decide⟩ rfl rfl (Nat.le_of_ble_eq_true rfl) rfl rfl ⟨show k + 1 + 0 ≤ 601024 by omega, show n + 6 + 0 ≤ 7293034 by omega⟩ (hM _ _) (fun v ρ hq => ?_)
    obtain ⟨hV2, hth, hKM⟩ := hq
    obtain ⟨r2, rfl⟩ := hVM v hV2
    refine pz_kn (k + 1) (n + 6) rfl rfl ?_
    refine pz_istore dL_law_179 (by decide) ?_
    refine pz_goto (tgt := 1019) dL_law_181 (by decide) ?_
    refine pz_ws (ws' := wp G adX LX [] (rtM G adM ρ ow f) σX) rfl ?_
    exact pz_lk [(0, .ref b), (1, .ref (adX 0)), (2, .ref (adM 0)), (3, .ref ow), (4, .int (nI (4 * c)))] ⟨rfl, rfl, rfl, rfl, rfl, trivial⟩ (kk σX ρ f (k + 1) (n + 6) (by omega) (by omega) hKM)
  · obtain ⟨hC, hM⟩ := hs
    have hVM : ∀ v : Value, (∃ r : Int32, v = .int r) → ∃ r : Int32, v = .int r := fun v q => q
    refine pz_aload_n dL_law_156 rfl ?_
    refine pz_aload_n dL_law_157 rfl ?_
    refine pz_iload dL_law_158 rfl ?_
    refine pz_iconst (v := 1) dL_law_160 rfl ?_
    refine pz_iadd dL_law_161 ?_
    refine pz_top (nI (4 * c + 1)) (ix1 (c := c) (d := 1) (by omega)) ?_
    refine pz_sld dL_law_162 (vp_in_nI (by omega) (by omega)) ?_
    refine pz_top (xs (4 * c + 1)) (congrArg xs (nI_clamp (by omega))) ?_
    refine pz_aload_n dL_law_163 rfl ?_
    refine pz_callW (mi' := mL_append) (hh := hhL_append) (As := [.ref (adX 0), .int (xs (4 * c + 1)), .ref ow]) dL_law_164 (tw_in 753 (by decide +kernel) (by decide +kernel)) mw_append ⟨by decide, by decide⟩ rfl rfl (Nat.le_of_ble_eq_true rfl) (wt2_append (xs (4 * c + 1)) (hC _)) ⟨show k + 1 ≤ 601024 by omega, show n + 6 ≤ 7293034 by omega⟩ (fun v ws1 hv => ?_)
    cases hv
    refine pz_kn (k + 1) (n + 6) rfl rfl ?_
    refine pz_ws (ws' := wp G adM LM (cellsE G adX LX σX LX.1 0) [outC G ow f] σM) rfl ?_
    refine pz_istore dL_law_167 (by decide) ?_
    refine pz_aload_n dL_law_169 rfl ?_
    refine pz_aload_n dL_law_170 rfl ?_
    refine pz_iload dL_law_171 rfl ?_
    refine pz_iconst (v := 1) dL_law_173 rfl ?_
    refine pz_iadd dL_law_174 ?_
    refine pz_top (nI (4 * c + 1)) (ix1 (c := c) (d := 1) (by omega)) ?_
    refine pz_sld dL_law_175 (vp_in_nI (by omega) (by omega)) ?_
    refine pz_top (xs (4 * c + 1)) (congrArg xs (nI_clamp (by omega))) ?_
    refine pz_rV1 (mi' := mX11_append) (As := [.int (xs (4 * c + 1))]) (q := (RX11, TX11, 33)) dL_law_176 lk_RL_81 mk_X11_append mi_X11_append me_X11_append ⟨by decide, by decide⟩ rfl rfl (Nat.le_of_ble_eq_true rfl) rfl rfl ⟨show k + 1 + 0 ≤ 601024 by omega, show n + 6 + 0 ≤ 7293034 by omega⟩ (hM _ _) (fun v ρ hq => ?_)
    obtain ⟨hV2, hth, hKM⟩ := hq
    obtain ⟨r2, rfl⟩ := hVM v hV2
    refine pz_kn (k + 1) (n + 6) rfl rfl ?_
    refine pz_istore dL_law_179 (by decide) ?_
    refine pz_goto (tgt := 1019) dL_law_181 (by decide) ?_
    refine pz_ws (ws' := wp G adX LX [] (rtM G adM ρ ow f) σX) rfl ?_
    exact pz_lk [(0, .ref b), (1, .ref (adX 0)), (2, .ref (adM 0)), (3, .ref ow), (4, .int (nI (4 * c)))] ⟨rfl, rfl, rfl, rfl, rfl, trivial⟩ (kk σX ρ f (k + 1) (n + 6) (by omega) (by omega) hKM)
theorem lc_clearText (hl : l.stackTraces = false) (hcL : 4 * c + 4 ≤ L) (hL : L ≤ 2048) (hk : k + 1100 ≤ 601024) (hn : n + 14000 ≤ 7293034) (kk : GoOn l G b L sz c k n xs adX adM ow) (h : LI σX σM) : PZ (XL b L xs) QL l G mL_law [] sz 184 [(0, .ref b), (1, .ref (adX 0)), (2, .ref (adM 0)), (3, .ref ow), (4, .int (nI (4 * c)))] [] k n (wp G adX LX [] (rtM G adM σM ow f) σX) := by
  have hs := sm_clearText (l := l) (G := G) (adX := adX) (adM := adM) h 
  obtain ⟨r0, KX, KM, hLI, hC, hM⟩ := hs
  have hVX : ∀ v : Value, v = .int r0 → ∃ r : Int32, v = .int r := fun v q => ⟨r0, q⟩
  have hVM := hVX
  have hEq : ∀ r1 r2 : Int32, (.int r1 : Value) = .int r0 → (.int r2 : Value) = .int r0 → r1 = r2 := fun r1 r2 a b => by cases a; cases b; rfl
  refine pz_aload_n dL_law_184 rfl ?_
  refine pz_rV1 (mi' := mX10_clearText) (As := []) (q := (RX10, TX10, 14)) dL_law_185 lk_RL_82 mk_X10_clearText mi_X10_clearText me_X10_clearText ⟨by decide, by decide⟩ rfl rfl (Nat.le_of_ble_eq_true rfl) rfl rfl ⟨show k + 0 ≤ 601024 by omega, show n + 0 ≤ 7293034 by omega⟩ (hC _) (fun v τ hq => ?_)
  obtain ⟨hV1, hKX⟩ := hq
  obtain ⟨r1, rfl⟩ := hVX v hV1
  refine pz_ws (ws' := wp G adM LM (cellsE G adX LX τ LX.1 0) [outC G ow f] σM) rfl ?_
  refine pz_kn (k + 0) (n + 0) rfl rfl ?_
  refine pz_pop dL_law_188 rfl ?_
  refine pz_aload_n dL_law_189 rfl ?_
  refine pz_rV1 (mi' := mX11_clearText) (As := []) (q := (RX11, TX11, 33)) dL_law_190 lk_RL_85 mk_X11_clearText mi_X11_clearText me_X11_clearText ⟨by decide, by decide⟩ rfl rfl (Nat.le_of_ble_eq_true rfl) rfl rfl ⟨show k + 0 ≤ 601024 by omega, show n + 0 ≤ 7293034 by omega⟩ (hM _ _) (fun v ρ hq => ?_)
  obtain ⟨hV2, hth, hKM⟩ := hq
  obtain ⟨r2, rfl⟩ := hVM v hV2
  have er : r1 = r2 := hEq r1 r2 hV1 hV2
  subst er
  refine pz_kn (k + 0) (n + 0) rfl rfl ?_
  refine pz_pop dL_law_193 rfl ?_
  refine pz_goto (tgt := 1019) dL_law_194 (by decide) ?_
  refine pz_ws (ws' := wp G adX LX [] (rtM G adM ρ ow f) τ) rfl ?_
  exact pz_lk [(0, .ref b), (1, .ref (adX 0)), (2, .ref (adM 0)), (3, .ref ow), (4, .int (nI (4 * c)))] ⟨rfl, rfl, rfl, rfl, rfl, trivial⟩ (kk τ ρ f (k + 0) (n + 0) (by omega) (by omega) (hLI _ _ hKX hKM))
theorem lc_parse (hl : l.stackTraces = false) (hcL : 4 * c + 4 ≤ L) (hL : L ≤ 2048) (hk : k + 1100 ≤ 601024) (hn : n + 14000 ≤ 7293034) (kk : GoOn l G b L sz c k n xs adX adM ow) (h : LI σX σM) : PZ (XL b L xs) QL l G mL_law [] sz 197 [(0, .ref b), (1, .ref (adX 0)), (2, .ref (adM 0)), (3, .ref ow), (4, .int (nI (4 * c)))] [] k n (wp G adX LX [] (rtM G adM σM ow f) σX) := by
  have hs := sm_parse (l := l) (G := G) (adX := adX) (adM := adM) h 
  obtain ⟨r0, KX, KM, hLI, hC, hM⟩ := hs
  have hVX : ∀ v : Value, v = .int r0 → ∃ r : Int32, v = .int r := fun v q => ⟨r0, q⟩
  have hVM := hVX
  have hEq : ∀ r1 r2 : Int32, (.int r1 : Value) = .int r0 → (.int r2 : Value) = .int r0 → r1 = r2 := fun r1 r2 a b => by cases a; cases b; rfl
  refine pz_aload_n dL_law_197 rfl ?_
  refine pz_rV1 (mi' := mX10_parse) (As := []) (q := (RX10, TX10, 14)) dL_law_198 lk_RL_86 mk_X10_parse mi_X10_parse me_X10_parse ⟨by decide, by decide⟩ rfl rfl (Nat.le_of_ble_eq_true rfl) rfl rfl ⟨show k + 0 ≤ 601024 by omega, show n + 0 ≤ 7293034 by omega⟩ (hC _) (fun v τ hq => ?_)
  obtain ⟨hV1, hKX⟩ := hq
  obtain ⟨r1, rfl⟩ := hVX v hV1
  refine pz_ws (ws' := wp G adM LM (cellsE G adX LX τ LX.1 0) [outC G ow f] σM) rfl ?_
  refine pz_kn (k + 0) (n + 0) rfl rfl ?_
  refine pz_pop dL_law_201 rfl ?_
  refine pz_aload_n dL_law_202 rfl ?_
  refine pz_rV1 (mi' := mX11_parse) (As := []) (q := (RX11, TX11, 33)) dL_law_203 lk_RL_89 mk_X11_parse mi_X11_parse me_X11_parse ⟨by decide, by decide⟩ rfl rfl (Nat.le_of_ble_eq_true rfl) rfl rfl ⟨show k + 0 ≤ 601024 by omega, show n + 0 ≤ 7293034 by omega⟩ (hM _ _) (fun v ρ hq => ?_)
  obtain ⟨hV2, hth, hKM⟩ := hq
  obtain ⟨r2, rfl⟩ := hVM v hV2
  have er : r1 = r2 := hEq r1 r2 hV1 hV2
  subst er
  refine pz_kn (k + 0) (n + 0) rfl rfl ?_
  refine pz_pop dL_law_206 rfl ?_
  refine pz_goto (tgt := 1019) dL_law_207 (by decide) ?_
  refine pz_ws (ws' := wp G adX LX [] (rtM G adM ρ ow f) τ) rfl ?_
  exact pz_lk [(0, .ref b), (1, .ref (adX 0)), (2, .ref (adM 0)), (3, .ref ow), (4, .int (nI (4 * c)))] ⟨rfl, rfl, rfl, rfl, rfl, trivial⟩ (kk τ ρ f (k + 0) (n + 0) (by omega) (by omega) (hLI _ _ hKX hKM))
theorem lc_setRange (hl : l.stackTraces = false) (hcL : 4 * c + 4 ≤ L) (hL : L ≤ 2048) (hk : k + 1100 ≤ 601024) (hn : n + 14000 ≤ 7293034) (kk : GoOn l G b L sz c k n xs adX adM ow) (h : LI σX σM) : PZ (XL b L xs) QL l G mL_law [] sz 210 [(0, .ref b), (1, .ref (adX 0)), (2, .ref (adM 0)), (3, .ref ow), (4, .int (nI (4 * c)))] [] k n (wp G adX LX [] (rtM G adM σM ow f) σX) := by
  have hs := sm_setRange (l := l) (G := G) (adX := adX) (adM := adM) hl h (xs (4 * c + 1)) (xs (4 * c + 2)) (xs (4 * c + 3))
  rcases hs with hs | hs | hs
  · obtain ⟨r0, KX, KM, hLI, hC, hM⟩ := hs
    have hVX : ∀ v : Value, v = .int r0 → ∃ r : Int32, v = .int r := fun v q => ⟨r0, q⟩
    have hVM := hVX
    have hEq : ∀ r1 r2 : Int32, (.int r1 : Value) = .int r0 → (.int r2 : Value) = .int r0 → r1 = r2 := fun r1 r2 a b => by cases a; cases b; rfl
    refine pz_aload_n dL_law_210 rfl ?_
    refine pz_aload_n dL_law_211 rfl ?_
    refine pz_iload dL_law_212 rfl ?_
    refine pz_iconst (v := 1) dL_law_214 rfl ?_
    refine pz_iadd dL_law_215 ?_
    refine pz_top (nI (4 * c + 1)) (ix1 (c := c) (d := 1) (by omega)) ?_
    refine pz_sld dL_law_216 (vp_in_nI (by omega) (by omega)) ?_
    refine pz_top (xs (4 * c + 1)) (congrArg xs (nI_clamp (by omega))) ?_
    refine pz_aload_n dL_law_217 rfl ?_
    refine pz_iload dL_law_218 rfl ?_
    refine pz_iconst (v := 2) dL_law_220 rfl ?_
    refine pz_iadd dL_law_221 ?_
    refine pz_top (nI (4 * c + 2)) (ix1 (c := c) (d := 2) (by omega)) ?_
    refine pz_sld dL_law_222 (vp_in_nI (by omega) (by omega)) ?_
    refine pz_top (xs (4 * c + 2)) (congrArg xs (nI_clamp (by omega))) ?_
    refine pz_aload_n dL_law_223 rfl ?_
    refine pz_iload dL_law_224 rfl ?_
    refine pz_iconst (v := 3) dL_law_226 rfl ?_
    refine pz_iadd dL_law_227 ?_
    refine pz_top (nI (4 * c + 3)) (ix1 (c := c) (d := 3) (by omega)) ?_
    refine pz_sld dL_law_228 (vp_in_nI (by omega) (by omega)) ?_
    refine pz_top (xs (4 * c + 3)) (congrArg xs (nI_clamp (by omega))) ?_
    refine pz_aload_n dL_law_229 rfl ?_
    refine pz_callW (mi' := mL_setRange) (hh := hhL_setRange) (As := [.ref (adX 0), .int (xs (4 * c + 1)), .int (xs (4 * c + 2)), .int (xs (4 * c + 3)), .ref ow]) dL_law_230 (tw_in 850 (by decide +kernel) (by decide +kernel)) mw_setRange ⟨by decide, by decide⟩ rfl rfl (Nat.le_of_ble_eq_true rfl) (wx_setRange (p := 22) rt_at (xs (4 * c + 1)) (xs (4 * c + 2)) (xs (4 * c + 3)) hVX (hC _)) ⟨show k + 2 ≤ 601024 by omega, show n + 12 ≤ 7293034 by omega⟩ (fun v ws1 hv => ?_)
    obtain ⟨τ, r1, hV1, hv, hKX⟩ := hv
    cases hv
    refine pz_kn (k + 2) (n + 12) rfl rfl ?_
    refine pz_ws (ws' := wp G adM LM (cellsE G adX LX τ LX.1 0) [outC G ow (vp_updL f 0 r1.toInt64)] σM) (by rw [rt_set]; rfl) ?_
    refine pz_istore dL_law_233 (by decide) ?_
    refine pz_aload_n dL_law_235 rfl ?_
    refine pz_aload_n dL_law_236 rfl ?_
    refine pz_iload dL_law_237 rfl ?_
    refine pz_iconst (v := 1) dL_law_239 rfl ?_
    refine pz_iadd dL_law_240 ?_
    refine pz_top (nI (4 * c + 1)) (ix1 (c := c) (d := 1) (by omega)) ?_
    refine pz_sld dL_law_241 (vp_in_nI (by omega) (by omega)) ?_
    refine pz_top (xs (4 * c + 1)) (congrArg xs (nI_clamp (by omega))) ?_
    refine pz_aload_n dL_law_242 rfl ?_
    refine pz_iload dL_law_243 rfl ?_
    refine pz_iconst (v := 2) dL_law_245 rfl ?_
    refine pz_iadd dL_law_246 ?_
    refine pz_top (nI (4 * c + 2)) (ix1 (c := c) (d := 2) (by omega)) ?_
    refine pz_sld dL_law_247 (vp_in_nI (by omega) (by omega)) ?_
    refine pz_top (xs (4 * c + 2)) (congrArg xs (nI_clamp (by omega))) ?_
    refine pz_aload_n dL_law_248 rfl ?_
    refine pz_iload dL_law_249 rfl ?_
    refine pz_iconst (v := 3) dL_law_251 rfl ?_
    refine pz_iadd dL_law_252 ?_
    refine pz_top (nI (4 * c + 3)) (ix1 (c := c) (d := 3) (by omega)) ?_
    refine pz_sld dL_law_253 (vp_in_nI (by omega) (by omega)) ?_
    refine pz_top (xs (4 * c + 3)) (congrArg xs (nI_clamp (by omega))) ?_
    refine pz_rV1 (mi' := mX11_setRange) (As := [.int (xs (4 * c + 1)), .int (xs (4 * c + 2)), .int (xs (4 * c + 3))]) (q := (RX11, TX11, 33)) dL_law_254 lk_RL_93 mk_X11_setRange mi_X11_setRange me_X11_setRange ⟨by decide, by decide⟩ rfl rfl (Nat.le_of_ble_eq_true rfl) rfl rfl ⟨show k + 2 + 0 ≤ 601024 by omega, show n + 12 + 0 ≤ 7293034 by omega⟩ (hM _ _) (fun v ρ hq => ?_)
    obtain ⟨hV2, hth, hKM⟩ := hq
    obtain ⟨r2, rfl⟩ := hVM v hV2
    have er : r1 = r2 := hEq r1 r2 hV1 hV2
    subst er
    refine pz_kn (k + 2) (n + 12) rfl rfl ?_
    refine pz_istore dL_law_257 (by decide) ?_
    refine pz_goto (tgt := 1019) dL_law_259 (by decide) ?_
    refine pz_ws (ws' := wp G adX LX [] (rtM G adM ρ ow (vp_updL f 0 r1.toInt64)) τ) rfl ?_
    exact pz_lk [(0, .ref b), (1, .ref (adX 0)), (2, .ref (adM 0)), (3, .ref ow), (4, .int (nI (4 * c)))] ⟨rfl, rfl, rfl, rfl, rfl, trivial⟩ (kk τ ρ (vp_updL f 0 r1.toInt64) (k + 2) (n + 12) (by omega) (by omega) (hLI _ _ hKX hKM))
  · obtain ⟨hC, hM⟩ := hs
    have hVM : ∀ v : Value, (∃ r : Int32, v = .int r) → ∃ r : Int32, v = .int r := fun v q => q
    refine pz_aload_n dL_law_210 rfl ?_
    refine pz_aload_n dL_law_211 rfl ?_
    refine pz_iload dL_law_212 rfl ?_
    refine pz_iconst (v := 1) dL_law_214 rfl ?_
    refine pz_iadd dL_law_215 ?_
    refine pz_top (nI (4 * c + 1)) (ix1 (c := c) (d := 1) (by omega)) ?_
    refine pz_sld dL_law_216 (vp_in_nI (by omega) (by omega)) ?_
    refine pz_top (xs (4 * c + 1)) (congrArg xs (nI_clamp (by omega))) ?_
    refine pz_aload_n dL_law_217 rfl ?_
    refine pz_iload dL_law_218 rfl ?_
    refine pz_iconst (v := 2) dL_law_220 rfl ?_
    refine pz_iadd dL_law_221 ?_
    refine pz_top (nI (4 * c + 2)) (ix1 (c := c) (d := 2) (by omega)) ?_
    refine pz_sld dL_law_222 (vp_in_nI (by omega) (by omega)) ?_
    refine pz_top (xs (4 * c + 2)) (congrArg xs (nI_clamp (by omega))) ?_
    refine pz_aload_n dL_law_223 rfl ?_
    refine pz_iload dL_law_224 rfl ?_
    refine pz_iconst (v := 3) dL_law_226 rfl ?_
    refine pz_iadd dL_law_227 ?_
    refine pz_top (nI (4 * c + 3)) (ix1 (c := c) (d := 3) (by omega)) ?_
    refine pz_sld dL_law_228 (vp_in_nI (by omega) (by omega)) ?_
    refine pz_top (xs (4 * c + 3)) (congrArg xs (nI_clamp (by omega))) ?_
    refine pz_aload_n dL_law_229 rfl ?_
    refine pz_callW (mi' := mL_setRange) (hh := hhL_setRange) (As := [.ref (adX 0), .int (xs (4 * c + 1)), .int (xs (4 * c + 2)), .int (xs (4 * c + 3)), .ref ow]) dL_law_230 (tw_in 850 (by decide +kernel) (by decide +kernel)) mw_setRange ⟨by decide, by decide⟩ rfl rfl (Nat.le_of_ble_eq_true rfl) (wt1_setRange (xs (4 * c + 1)) (xs (4 * c + 2)) (xs (4 * c + 3)) (hC _)) ⟨show k + 2 ≤ 601024 by omega, show n + 12 ≤ 7293034 by omega⟩ (fun v ws1 hv => ?_)
    cases hv
    refine pz_kn (k + 2) (n + 12) rfl rfl ?_
    refine pz_ws (ws' := wp G adM LM (cellsE G adX LX σX LX.1 0) [outC G ow f] σM) rfl ?_
    refine pz_istore dL_law_233 (by decide) ?_
    refine pz_aload_n dL_law_235 rfl ?_
    refine pz_aload_n dL_law_236 rfl ?_
    refine pz_iload dL_law_237 rfl ?_
    refine pz_iconst (v := 1) dL_law_239 rfl ?_
    refine pz_iadd dL_law_240 ?_
    refine pz_top (nI (4 * c + 1)) (ix1 (c := c) (d := 1) (by omega)) ?_
    refine pz_sld dL_law_241 (vp_in_nI (by omega) (by omega)) ?_
    refine pz_top (xs (4 * c + 1)) (congrArg xs (nI_clamp (by omega))) ?_
    refine pz_aload_n dL_law_242 rfl ?_
    refine pz_iload dL_law_243 rfl ?_
    refine pz_iconst (v := 2) dL_law_245 rfl ?_
    refine pz_iadd dL_law_246 ?_
    refine pz_top (nI (4 * c + 2)) (ix1 (c := c) (d := 2) (by omega)) ?_
    refine pz_sld dL_law_247 (vp_in_nI (by omega) (by omega)) ?_
    refine pz_top (xs (4 * c + 2)) (congrArg xs (nI_clamp (by omega))) ?_
    refine pz_aload_n dL_law_248 rfl ?_
    refine pz_iload dL_law_249 rfl ?_
    refine pz_iconst (v := 3) dL_law_251 rfl ?_
    refine pz_iadd dL_law_252 ?_
    refine pz_top (nI (4 * c + 3)) (ix1 (c := c) (d := 3) (by omega)) ?_
    refine pz_sld dL_law_253 (vp_in_nI (by omega) (by omega)) ?_
    refine pz_top (xs (4 * c + 3)) (congrArg xs (nI_clamp (by omega))) ?_
    refine pz_rV1 (mi' := mX11_setRange) (As := [.int (xs (4 * c + 1)), .int (xs (4 * c + 2)), .int (xs (4 * c + 3))]) (q := (RX11, TX11, 33)) dL_law_254 lk_RL_93 mk_X11_setRange mi_X11_setRange me_X11_setRange ⟨by decide, by decide⟩ rfl rfl (Nat.le_of_ble_eq_true rfl) rfl rfl ⟨show k + 2 + 0 ≤ 601024 by omega, show n + 12 + 0 ≤ 7293034 by omega⟩ (hM _ _) (fun v ρ hq => ?_)
    obtain ⟨hV2, hth, hKM⟩ := hq
    obtain ⟨r2, rfl⟩ := hVM v hV2
    refine pz_kn (k + 2) (n + 12) rfl rfl ?_
    refine pz_istore dL_law_257 (by decide) ?_
    refine pz_goto (tgt := 1019) dL_law_259 (by decide) ?_
    refine pz_ws (ws' := wp G adX LX [] (rtM G adM ρ ow f) σX) rfl ?_
    exact pz_lk [(0, .ref b), (1, .ref (adX 0)), (2, .ref (adM 0)), (3, .ref ow), (4, .int (nI (4 * c)))] ⟨rfl, rfl, rfl, rfl, rfl, trivial⟩ (kk σX ρ f (k + 2) (n + 12) (by omega) (by omega) hKM)
  · obtain ⟨hC, hM⟩ := hs
    have hVM : ∀ v : Value, (∃ r : Int32, v = .int r) → ∃ r : Int32, v = .int r := fun v q => q
    refine pz_aload_n dL_law_210 rfl ?_
    refine pz_aload_n dL_law_211 rfl ?_
    refine pz_iload dL_law_212 rfl ?_
    refine pz_iconst (v := 1) dL_law_214 rfl ?_
    refine pz_iadd dL_law_215 ?_
    refine pz_top (nI (4 * c + 1)) (ix1 (c := c) (d := 1) (by omega)) ?_
    refine pz_sld dL_law_216 (vp_in_nI (by omega) (by omega)) ?_
    refine pz_top (xs (4 * c + 1)) (congrArg xs (nI_clamp (by omega))) ?_
    refine pz_aload_n dL_law_217 rfl ?_
    refine pz_iload dL_law_218 rfl ?_
    refine pz_iconst (v := 2) dL_law_220 rfl ?_
    refine pz_iadd dL_law_221 ?_
    refine pz_top (nI (4 * c + 2)) (ix1 (c := c) (d := 2) (by omega)) ?_
    refine pz_sld dL_law_222 (vp_in_nI (by omega) (by omega)) ?_
    refine pz_top (xs (4 * c + 2)) (congrArg xs (nI_clamp (by omega))) ?_
    refine pz_aload_n dL_law_223 rfl ?_
    refine pz_iload dL_law_224 rfl ?_
    refine pz_iconst (v := 3) dL_law_226 rfl ?_
    refine pz_iadd dL_law_227 ?_
    refine pz_top (nI (4 * c + 3)) (ix1 (c := c) (d := 3) (by omega)) ?_
    refine pz_sld dL_law_228 (vp_in_nI (by omega) (by omega)) ?_
    refine pz_top (xs (4 * c + 3)) (congrArg xs (nI_clamp (by omega))) ?_
    refine pz_aload_n dL_law_229 rfl ?_
    refine pz_callW (mi' := mL_setRange) (hh := hhL_setRange) (As := [.ref (adX 0), .int (xs (4 * c + 1)), .int (xs (4 * c + 2)), .int (xs (4 * c + 3)), .ref ow]) dL_law_230 (tw_in 850 (by decide +kernel) (by decide +kernel)) mw_setRange ⟨by decide, by decide⟩ rfl rfl (Nat.le_of_ble_eq_true rfl) (wt2_setRange (xs (4 * c + 1)) (xs (4 * c + 2)) (xs (4 * c + 3)) (hC _)) ⟨show k + 2 ≤ 601024 by omega, show n + 12 ≤ 7293034 by omega⟩ (fun v ws1 hv => ?_)
    cases hv
    refine pz_kn (k + 2) (n + 12) rfl rfl ?_
    refine pz_ws (ws' := wp G adM LM (cellsE G adX LX σX LX.1 0) [outC G ow f] σM) rfl ?_
    refine pz_istore dL_law_233 (by decide) ?_
    refine pz_aload_n dL_law_235 rfl ?_
    refine pz_aload_n dL_law_236 rfl ?_
    refine pz_iload dL_law_237 rfl ?_
    refine pz_iconst (v := 1) dL_law_239 rfl ?_
    refine pz_iadd dL_law_240 ?_
    refine pz_top (nI (4 * c + 1)) (ix1 (c := c) (d := 1) (by omega)) ?_
    refine pz_sld dL_law_241 (vp_in_nI (by omega) (by omega)) ?_
    refine pz_top (xs (4 * c + 1)) (congrArg xs (nI_clamp (by omega))) ?_
    refine pz_aload_n dL_law_242 rfl ?_
    refine pz_iload dL_law_243 rfl ?_
    refine pz_iconst (v := 2) dL_law_245 rfl ?_
    refine pz_iadd dL_law_246 ?_
    refine pz_top (nI (4 * c + 2)) (ix1 (c := c) (d := 2) (by omega)) ?_
    refine pz_sld dL_law_247 (vp_in_nI (by omega) (by omega)) ?_
    refine pz_top (xs (4 * c + 2)) (congrArg xs (nI_clamp (by omega))) ?_
    refine pz_aload_n dL_law_248 rfl ?_
    refine pz_iload dL_law_249 rfl ?_
    refine pz_iconst (v := 3) dL_law_251 rfl ?_
    refine pz_iadd dL_law_252 ?_
    refine pz_top (nI (4 * c + 3)) (ix1 (c := c) (d := 3) (by omega)) ?_
    refine pz_sld dL_law_253 (vp_in_nI (by omega) (by omega)) ?_
    refine pz_top (xs (4 * c + 3)) (congrArg xs (nI_clamp (by omega))) ?_
    refine pz_rV1 (mi' := mX11_setRange) (As := [.int (xs (4 * c + 1)), .int (xs (4 * c + 2)), .int (xs (4 * c + 3))]) (q := (RX11, TX11, 33)) dL_law_254 lk_RL_93 mk_X11_setRange mi_X11_setRange me_X11_setRange ⟨by decide, by decide⟩ rfl rfl (Nat.le_of_ble_eq_true rfl) rfl rfl ⟨show k + 2 + 0 ≤ 601024 by omega, show n + 12 + 0 ≤ 7293034 by omega⟩ (hM _ _) (fun v ρ hq => ?_)
    obtain ⟨hV2, hth, hKM⟩ := hq
    obtain ⟨r2, rfl⟩ := hVM v hV2
    refine pz_kn (k + 2) (n + 12) rfl rfl ?_
    refine pz_istore dL_law_257 (by decide) ?_
    refine pz_goto (tgt := 1019) dL_law_259 (by decide) ?_
    refine pz_ws (ws' := wp G adX LX [] (rtM G adM ρ ow f) σX) rfl ?_
    exact pz_lk [(0, .ref b), (1, .ref (adX 0)), (2, .ref (adM 0)), (3, .ref ow), (4, .int (nI (4 * c)))] ⟨rfl, rfl, rfl, rfl, rfl, trivial⟩ (kk σX ρ f (k + 2) (n + 12) (by omega) (by omega) hKM)
theorem lc_setInput (hl : l.stackTraces = false) (hcL : 4 * c + 4 ≤ L) (hL : L ≤ 2048) (hk : k + 1100 ≤ 601024) (hn : n + 14000 ≤ 7293034) (kk : GoOn l G b L sz c k n xs adX adM ow) (h : LI σX σM) : PZ (XL b L xs) QL l G mL_law [] sz 262 [(0, .ref b), (1, .ref (adX 0)), (2, .ref (adM 0)), (3, .ref ow), (4, .int (nI (4 * c)))] [] k n (wp G adX LX [] (rtM G adM σM ow f) σX) := by
  have hs := sm_setInput (l := l) (G := G) (adX := adX) (adM := adM) hl h (xs (4 * c + 1)) (xs (4 * c + 2))
  rcases hs with hs | hs | hs
  · obtain ⟨r0, KX, KM, hLI, hC, hM⟩ := hs
    have hVX : ∀ v : Value, v = .int r0 → ∃ r : Int32, v = .int r := fun v q => ⟨r0, q⟩
    have hVM := hVX
    have hEq : ∀ r1 r2 : Int32, (.int r1 : Value) = .int r0 → (.int r2 : Value) = .int r0 → r1 = r2 := fun r1 r2 a b => by cases a; cases b; rfl
    refine pz_aload_n dL_law_262 rfl ?_
    refine pz_aload_n dL_law_263 rfl ?_
    refine pz_iload dL_law_264 rfl ?_
    refine pz_iconst (v := 1) dL_law_266 rfl ?_
    refine pz_iadd dL_law_267 ?_
    refine pz_top (nI (4 * c + 1)) (ix1 (c := c) (d := 1) (by omega)) ?_
    refine pz_sld dL_law_268 (vp_in_nI (by omega) (by omega)) ?_
    refine pz_top (xs (4 * c + 1)) (congrArg xs (nI_clamp (by omega))) ?_
    refine pz_aload_n dL_law_269 rfl ?_
    refine pz_iload dL_law_270 rfl ?_
    refine pz_iconst (v := 2) dL_law_272 rfl ?_
    refine pz_iadd dL_law_273 ?_
    refine pz_top (nI (4 * c + 2)) (ix1 (c := c) (d := 2) (by omega)) ?_
    refine pz_sld dL_law_274 (vp_in_nI (by omega) (by omega)) ?_
    refine pz_top (xs (4 * c + 2)) (congrArg xs (nI_clamp (by omega))) ?_
    refine pz_aload_n dL_law_275 rfl ?_
    refine pz_callW (mi' := mL_setInput) (hh := hhL_setInput) (As := [.ref (adX 0), .int (xs (4 * c + 1)), .int (xs (4 * c + 2)), .ref ow]) dL_law_276 (tw_in 885 (by decide +kernel) (by decide +kernel)) mw_setInput ⟨by decide, by decide⟩ rfl rfl (Nat.le_of_ble_eq_true rfl) (wx_setInput (p := 22) rt_at (xs (4 * c + 1)) (xs (4 * c + 2)) hVX (hC _)) ⟨show k + 1 ≤ 601024 by omega, show n + 6 ≤ 7293034 by omega⟩ (fun v ws1 hv => ?_)
    obtain ⟨τ, r1, hV1, hv, hKX⟩ := hv
    cases hv
    refine pz_kn (k + 1) (n + 6) rfl rfl ?_
    refine pz_ws (ws' := wp G adM LM (cellsE G adX LX τ LX.1 0) [outC G ow (vp_updL f 0 r1.toInt64)] σM) (by rw [rt_set]; rfl) ?_
    refine pz_istore dL_law_279 (by decide) ?_
    refine pz_aload_n dL_law_281 rfl ?_
    refine pz_aload_n dL_law_282 rfl ?_
    refine pz_iload dL_law_283 rfl ?_
    refine pz_iconst (v := 1) dL_law_285 rfl ?_
    refine pz_iadd dL_law_286 ?_
    refine pz_top (nI (4 * c + 1)) (ix1 (c := c) (d := 1) (by omega)) ?_
    refine pz_sld dL_law_287 (vp_in_nI (by omega) (by omega)) ?_
    refine pz_top (xs (4 * c + 1)) (congrArg xs (nI_clamp (by omega))) ?_
    refine pz_aload_n dL_law_288 rfl ?_
    refine pz_iload dL_law_289 rfl ?_
    refine pz_iconst (v := 2) dL_law_291 rfl ?_
    refine pz_iadd dL_law_292 ?_
    refine pz_top (nI (4 * c + 2)) (ix1 (c := c) (d := 2) (by omega)) ?_
    refine pz_sld dL_law_293 (vp_in_nI (by omega) (by omega)) ?_
    refine pz_top (xs (4 * c + 2)) (congrArg xs (nI_clamp (by omega))) ?_
    refine pz_rV1 (mi' := mX11_setInput) (As := [.int (xs (4 * c + 1)), .int (xs (4 * c + 2))]) (q := (RX11, TX11, 33)) dL_law_294 lk_RL_97 mk_X11_setInput mi_X11_setInput me_X11_setInput ⟨by decide, by decide⟩ rfl rfl (Nat.le_of_ble_eq_true rfl) rfl rfl ⟨show k + 1 + 0 ≤ 601024 by omega, show n + 6 + 0 ≤ 7293034 by omega⟩ (hM _ _) (fun v ρ hq => ?_)
    obtain ⟨hV2, hth, hKM⟩ := hq
    obtain ⟨r2, rfl⟩ := hVM v hV2
    have er : r1 = r2 := hEq r1 r2 hV1 hV2
    subst er
    refine pz_kn (k + 1) (n + 6) rfl rfl ?_
    refine pz_istore dL_law_297 (by decide) ?_
    refine pz_goto (tgt := 1019) dL_law_299 (by decide) ?_
    refine pz_ws (ws' := wp G adX LX [] (rtM G adM ρ ow (vp_updL f 0 r1.toInt64)) τ) rfl ?_
    exact pz_lk [(0, .ref b), (1, .ref (adX 0)), (2, .ref (adM 0)), (3, .ref ow), (4, .int (nI (4 * c)))] ⟨rfl, rfl, rfl, rfl, rfl, trivial⟩ (kk τ ρ (vp_updL f 0 r1.toInt64) (k + 1) (n + 6) (by omega) (by omega) (hLI _ _ hKX hKM))
  · obtain ⟨hC, hM⟩ := hs
    have hVM : ∀ v : Value, (∃ r : Int32, v = .int r) → ∃ r : Int32, v = .int r := fun v q => q
    refine pz_aload_n dL_law_262 rfl ?_
    refine pz_aload_n dL_law_263 rfl ?_
    refine pz_iload dL_law_264 rfl ?_
    refine pz_iconst (v := 1) dL_law_266 rfl ?_
    refine pz_iadd dL_law_267 ?_
    refine pz_top (nI (4 * c + 1)) (ix1 (c := c) (d := 1) (by omega)) ?_
    refine pz_sld dL_law_268 (vp_in_nI (by omega) (by omega)) ?_
    refine pz_top (xs (4 * c + 1)) (congrArg xs (nI_clamp (by omega))) ?_
    refine pz_aload_n dL_law_269 rfl ?_
    refine pz_iload dL_law_270 rfl ?_
    refine pz_iconst (v := 2) dL_law_272 rfl ?_
    refine pz_iadd dL_law_273 ?_
    refine pz_top (nI (4 * c + 2)) (ix1 (c := c) (d := 2) (by omega)) ?_
    refine pz_sld dL_law_274 (vp_in_nI (by omega) (by omega)) ?_
    refine pz_top (xs (4 * c + 2)) (congrArg xs (nI_clamp (by omega))) ?_
    refine pz_aload_n dL_law_275 rfl ?_
    refine pz_callW (mi' := mL_setInput) (hh := hhL_setInput) (As := [.ref (adX 0), .int (xs (4 * c + 1)), .int (xs (4 * c + 2)), .ref ow]) dL_law_276 (tw_in 885 (by decide +kernel) (by decide +kernel)) mw_setInput ⟨by decide, by decide⟩ rfl rfl (Nat.le_of_ble_eq_true rfl) (wt1_setInput (xs (4 * c + 1)) (xs (4 * c + 2)) (hC _)) ⟨show k + 1 ≤ 601024 by omega, show n + 6 ≤ 7293034 by omega⟩ (fun v ws1 hv => ?_)
    cases hv
    refine pz_kn (k + 1) (n + 6) rfl rfl ?_
    refine pz_ws (ws' := wp G adM LM (cellsE G adX LX σX LX.1 0) [outC G ow f] σM) rfl ?_
    refine pz_istore dL_law_279 (by decide) ?_
    refine pz_aload_n dL_law_281 rfl ?_
    refine pz_aload_n dL_law_282 rfl ?_
    refine pz_iload dL_law_283 rfl ?_
    refine pz_iconst (v := 1) dL_law_285 rfl ?_
    refine pz_iadd dL_law_286 ?_
    refine pz_top (nI (4 * c + 1)) (ix1 (c := c) (d := 1) (by omega)) ?_
    refine pz_sld dL_law_287 (vp_in_nI (by omega) (by omega)) ?_
    refine pz_top (xs (4 * c + 1)) (congrArg xs (nI_clamp (by omega))) ?_
    refine pz_aload_n dL_law_288 rfl ?_
    refine pz_iload dL_law_289 rfl ?_
    refine pz_iconst (v := 2) dL_law_291 rfl ?_
    refine pz_iadd dL_law_292 ?_
    refine pz_top (nI (4 * c + 2)) (ix1 (c := c) (d := 2) (by omega)) ?_
    refine pz_sld dL_law_293 (vp_in_nI (by omega) (by omega)) ?_
    refine pz_top (xs (4 * c + 2)) (congrArg xs (nI_clamp (by omega))) ?_
    refine pz_rV1 (mi' := mX11_setInput) (As := [.int (xs (4 * c + 1)), .int (xs (4 * c + 2))]) (q := (RX11, TX11, 33)) dL_law_294 lk_RL_97 mk_X11_setInput mi_X11_setInput me_X11_setInput ⟨by decide, by decide⟩ rfl rfl (Nat.le_of_ble_eq_true rfl) rfl rfl ⟨show k + 1 + 0 ≤ 601024 by omega, show n + 6 + 0 ≤ 7293034 by omega⟩ (hM _ _) (fun v ρ hq => ?_)
    obtain ⟨hV2, hth, hKM⟩ := hq
    obtain ⟨r2, rfl⟩ := hVM v hV2
    refine pz_kn (k + 1) (n + 6) rfl rfl ?_
    refine pz_istore dL_law_297 (by decide) ?_
    refine pz_goto (tgt := 1019) dL_law_299 (by decide) ?_
    refine pz_ws (ws' := wp G adX LX [] (rtM G adM ρ ow f) σX) rfl ?_
    exact pz_lk [(0, .ref b), (1, .ref (adX 0)), (2, .ref (adM 0)), (3, .ref ow), (4, .int (nI (4 * c)))] ⟨rfl, rfl, rfl, rfl, rfl, trivial⟩ (kk σX ρ f (k + 1) (n + 6) (by omega) (by omega) hKM)
  · obtain ⟨hC, hM⟩ := hs
    have hVM : ∀ v : Value, (∃ r : Int32, v = .int r) → ∃ r : Int32, v = .int r := fun v q => q
    refine pz_aload_n dL_law_262 rfl ?_
    refine pz_aload_n dL_law_263 rfl ?_
    refine pz_iload dL_law_264 rfl ?_
    refine pz_iconst (v := 1) dL_law_266 rfl ?_
    refine pz_iadd dL_law_267 ?_
    refine pz_top (nI (4 * c + 1)) (ix1 (c := c) (d := 1) (by omega)) ?_
    refine pz_sld dL_law_268 (vp_in_nI (by omega) (by omega)) ?_
    refine pz_top (xs (4 * c + 1)) (congrArg xs (nI_clamp (by omega))) ?_
    refine pz_aload_n dL_law_269 rfl ?_
    refine pz_iload dL_law_270 rfl ?_
    refine pz_iconst (v := 2) dL_law_272 rfl ?_
    refine pz_iadd dL_law_273 ?_
    refine pz_top (nI (4 * c + 2)) (ix1 (c := c) (d := 2) (by omega)) ?_
    refine pz_sld dL_law_274 (vp_in_nI (by omega) (by omega)) ?_
    refine pz_top (xs (4 * c + 2)) (congrArg xs (nI_clamp (by omega))) ?_
    refine pz_aload_n dL_law_275 rfl ?_
    refine pz_callW (mi' := mL_setInput) (hh := hhL_setInput) (As := [.ref (adX 0), .int (xs (4 * c + 1)), .int (xs (4 * c + 2)), .ref ow]) dL_law_276 (tw_in 885 (by decide +kernel) (by decide +kernel)) mw_setInput ⟨by decide, by decide⟩ rfl rfl (Nat.le_of_ble_eq_true rfl) (wt2_setInput (xs (4 * c + 1)) (xs (4 * c + 2)) (hC _)) ⟨show k + 1 ≤ 601024 by omega, show n + 6 ≤ 7293034 by omega⟩ (fun v ws1 hv => ?_)
    cases hv
    refine pz_kn (k + 1) (n + 6) rfl rfl ?_
    refine pz_ws (ws' := wp G adM LM (cellsE G adX LX σX LX.1 0) [outC G ow f] σM) rfl ?_
    refine pz_istore dL_law_279 (by decide) ?_
    refine pz_aload_n dL_law_281 rfl ?_
    refine pz_aload_n dL_law_282 rfl ?_
    refine pz_iload dL_law_283 rfl ?_
    refine pz_iconst (v := 1) dL_law_285 rfl ?_
    refine pz_iadd dL_law_286 ?_
    refine pz_top (nI (4 * c + 1)) (ix1 (c := c) (d := 1) (by omega)) ?_
    refine pz_sld dL_law_287 (vp_in_nI (by omega) (by omega)) ?_
    refine pz_top (xs (4 * c + 1)) (congrArg xs (nI_clamp (by omega))) ?_
    refine pz_aload_n dL_law_288 rfl ?_
    refine pz_iload dL_law_289 rfl ?_
    refine pz_iconst (v := 2) dL_law_291 rfl ?_
    refine pz_iadd dL_law_292 ?_
    refine pz_top (nI (4 * c + 2)) (ix1 (c := c) (d := 2) (by omega)) ?_
    refine pz_sld dL_law_293 (vp_in_nI (by omega) (by omega)) ?_
    refine pz_top (xs (4 * c + 2)) (congrArg xs (nI_clamp (by omega))) ?_
    refine pz_rV1 (mi' := mX11_setInput) (As := [.int (xs (4 * c + 1)), .int (xs (4 * c + 2))]) (q := (RX11, TX11, 33)) dL_law_294 lk_RL_97 mk_X11_setInput mi_X11_setInput me_X11_setInput ⟨by decide, by decide⟩ rfl rfl (Nat.le_of_ble_eq_true rfl) rfl rfl ⟨show k + 1 + 0 ≤ 601024 by omega, show n + 6 + 0 ≤ 7293034 by omega⟩ (hM _ _) (fun v ρ hq => ?_)
    obtain ⟨hV2, hth, hKM⟩ := hq
    obtain ⟨r2, rfl⟩ := hVM v hV2
    refine pz_kn (k + 1) (n + 6) rfl rfl ?_
    refine pz_istore dL_law_297 (by decide) ?_
    refine pz_goto (tgt := 1019) dL_law_299 (by decide) ?_
    refine pz_ws (ws' := wp G adX LX [] (rtM G adM ρ ow f) σX) rfl ?_
    exact pz_lk [(0, .ref b), (1, .ref (adX 0)), (2, .ref (adM 0)), (3, .ref ow), (4, .int (nI (4 * c)))] ⟨rfl, rfl, rfl, rfl, rfl, trivial⟩ (kk σX ρ f (k + 1) (n + 6) (by omega) (by omega) hKM)
theorem lc_input (hl : l.stackTraces = false) (hcL : 4 * c + 4 ≤ L) (hL : L ≤ 2048) (hk : k + 1100 ≤ 601024) (hn : n + 14000 ≤ 7293034) (kk : GoOn l G b L sz c k n xs adX adM ow) (h : LI σX σM) : PZ (XL b L xs) QL l G mL_law [] sz 302 [(0, .ref b), (1, .ref (adX 0)), (2, .ref (adM 0)), (3, .ref ow), (4, .int (nI (4 * c)))] [] k n (wp G adX LX [] (rtM G adM σM ow f) σX) := by
  have hs := sm_input (l := l) (G := G) (adX := adX) (adM := adM) hl h (xs (4 * c + 1)) (xs (4 * c + 2))
  rcases hs with hs | hs | hs
  · obtain ⟨r0, KX, KM, hLI, hC, hM⟩ := hs
    have hVX : ∀ v : Value, v = .int r0 → ∃ r : Int32, v = .int r := fun v q => ⟨r0, q⟩
    have hVM := hVX
    have hEq : ∀ r1 r2 : Int32, (.int r1 : Value) = .int r0 → (.int r2 : Value) = .int r0 → r1 = r2 := fun r1 r2 a b => by cases a; cases b; rfl
    refine pz_aload_n dL_law_302 rfl ?_
    refine pz_aload_n dL_law_303 rfl ?_
    refine pz_iload dL_law_304 rfl ?_
    refine pz_iconst (v := 1) dL_law_306 rfl ?_
    refine pz_iadd dL_law_307 ?_
    refine pz_top (nI (4 * c + 1)) (ix1 (c := c) (d := 1) (by omega)) ?_
    refine pz_sld dL_law_308 (vp_in_nI (by omega) (by omega)) ?_
    refine pz_top (xs (4 * c + 1)) (congrArg xs (nI_clamp (by omega))) ?_
    refine pz_aload_n dL_law_309 rfl ?_
    refine pz_iload dL_law_310 rfl ?_
    refine pz_iconst (v := 2) dL_law_312 rfl ?_
    refine pz_iadd dL_law_313 ?_
    refine pz_top (nI (4 * c + 2)) (ix1 (c := c) (d := 2) (by omega)) ?_
    refine pz_sld dL_law_314 (vp_in_nI (by omega) (by omega)) ?_
    refine pz_top (xs (4 * c + 2)) (congrArg xs (nI_clamp (by omega))) ?_
    refine pz_aload_n dL_law_315 rfl ?_
    refine pz_callW (mi' := mL_input) (hh := hhL_input) (As := [.ref (adX 0), .int (xs (4 * c + 1)), .int (xs (4 * c + 2)), .ref ow]) dL_law_316 (tw_in 893 (by decide +kernel) (by decide +kernel)) mw_input ⟨by decide, by decide⟩ rfl rfl (Nat.le_of_ble_eq_true rfl) (wx_input (p := 22) rt_at (xs (4 * c + 1)) (xs (4 * c + 2)) hVX (hC _)) ⟨show k + 1 ≤ 601024 by omega, show n + 6 ≤ 7293034 by omega⟩ (fun v ws1 hv => ?_)
    obtain ⟨τ, r1, hV1, hv, hKX⟩ := hv
    cases hv
    refine pz_kn (k + 1) (n + 6) rfl rfl ?_
    refine pz_ws (ws' := wp G adM LM (cellsE G adX LX τ LX.1 0) [outC G ow (vp_updL f 0 r1.toInt64)] σM) (by rw [rt_set]; rfl) ?_
    refine pz_istore dL_law_319 (by decide) ?_
    refine pz_aload_n dL_law_321 rfl ?_
    refine pz_aload_n dL_law_322 rfl ?_
    refine pz_iload dL_law_323 rfl ?_
    refine pz_iconst (v := 1) dL_law_325 rfl ?_
    refine pz_iadd dL_law_326 ?_
    refine pz_top (nI (4 * c + 1)) (ix1 (c := c) (d := 1) (by omega)) ?_
    refine pz_sld dL_law_327 (vp_in_nI (by omega) (by omega)) ?_
    refine pz_top (xs (4 * c + 1)) (congrArg xs (nI_clamp (by omega))) ?_
    refine pz_aload_n dL_law_328 rfl ?_
    refine pz_iload dL_law_329 rfl ?_
    refine pz_iconst (v := 2) dL_law_331 rfl ?_
    refine pz_iadd dL_law_332 ?_
    refine pz_top (nI (4 * c + 2)) (ix1 (c := c) (d := 2) (by omega)) ?_
    refine pz_sld dL_law_333 (vp_in_nI (by omega) (by omega)) ?_
    refine pz_top (xs (4 * c + 2)) (congrArg xs (nI_clamp (by omega))) ?_
    refine pz_rV1 (mi' := mX11_input) (As := [.int (xs (4 * c + 1)), .int (xs (4 * c + 2))]) (q := (RX11, TX11, 33)) dL_law_334 lk_RL_100 mk_X11_input mi_X11_input me_X11_input ⟨by decide, by decide⟩ rfl rfl (Nat.le_of_ble_eq_true rfl) rfl rfl ⟨show k + 1 + 0 ≤ 601024 by omega, show n + 6 + 0 ≤ 7293034 by omega⟩ (hM _ _) (fun v ρ hq => ?_)
    obtain ⟨hV2, hth, hKM⟩ := hq
    obtain ⟨r2, rfl⟩ := hVM v hV2
    have er : r1 = r2 := hEq r1 r2 hV1 hV2
    subst er
    refine pz_kn (k + 1) (n + 6) rfl rfl ?_
    refine pz_istore dL_law_337 (by decide) ?_
    refine pz_goto (tgt := 1019) dL_law_339 (by decide) ?_
    refine pz_ws (ws' := wp G adX LX [] (rtM G adM ρ ow (vp_updL f 0 r1.toInt64)) τ) rfl ?_
    exact pz_lk [(0, .ref b), (1, .ref (adX 0)), (2, .ref (adM 0)), (3, .ref ow), (4, .int (nI (4 * c)))] ⟨rfl, rfl, rfl, rfl, rfl, trivial⟩ (kk τ ρ (vp_updL f 0 r1.toInt64) (k + 1) (n + 6) (by omega) (by omega) (hLI _ _ hKX hKM))
  · obtain ⟨hC, hM⟩ := hs
    have hVM : ∀ v : Value, (∃ r : Int32, v = .int r) → ∃ r : Int32, v = .int r := fun v q => q
    refine pz_aload_n dL_law_302 rfl ?_
    refine pz_aload_n dL_law_303 rfl ?_
    refine pz_iload dL_law_304 rfl ?_
    refine pz_iconst (v := 1) dL_law_306 rfl ?_
    refine pz_iadd dL_law_307 ?_
    refine pz_top (nI (4 * c + 1)) (ix1 (c := c) (d := 1) (by omega)) ?_
    refine pz_sld dL_law_308 (vp_in_nI (by omega) (by omega)) ?_
    refine pz_top (xs (4 * c + 1)) (congrArg xs (nI_clamp (by omega))) ?_
    refine pz_aload_n dL_law_309 rfl ?_
    refine pz_iload dL_law_310 rfl ?_
    refine pz_iconst (v := 2) dL_law_312 rfl ?_
    refine pz_iadd dL_law_313 ?_
    refine pz_top (nI (4 * c + 2)) (ix1 (c := c) (d := 2) (by omega)) ?_
    refine pz_sld dL_law_314 (vp_in_nI (by omega) (by omega)) ?_
    refine pz_top (xs (4 * c + 2)) (congrArg xs (nI_clamp (by omega))) ?_
    refine pz_aload_n dL_law_315 rfl ?_
    refine pz_callW (mi' := mL_input) (hh := hhL_input) (As := [.ref (adX 0), .int (xs (4 * c + 1)), .int (xs (4 * c + 2)), .ref ow]) dL_law_316 (tw_in 893 (by decide +kernel) (by decide +kernel)) mw_input ⟨by decide, by decide⟩ rfl rfl (Nat.le_of_ble_eq_true rfl) (wt1_input (xs (4 * c + 1)) (xs (4 * c + 2)) (hC _)) ⟨show k + 1 ≤ 601024 by omega, show n + 6 ≤ 7293034 by omega⟩ (fun v ws1 hv => ?_)
    cases hv
    refine pz_kn (k + 1) (n + 6) rfl rfl ?_
    refine pz_ws (ws' := wp G adM LM (cellsE G adX LX σX LX.1 0) [outC G ow f] σM) rfl ?_
    refine pz_istore dL_law_319 (by decide) ?_
    refine pz_aload_n dL_law_321 rfl ?_
    refine pz_aload_n dL_law_322 rfl ?_
    refine pz_iload dL_law_323 rfl ?_
    refine pz_iconst (v := 1) dL_law_325 rfl ?_
    refine pz_iadd dL_law_326 ?_
    refine pz_top (nI (4 * c + 1)) (ix1 (c := c) (d := 1) (by omega)) ?_
    refine pz_sld dL_law_327 (vp_in_nI (by omega) (by omega)) ?_
    refine pz_top (xs (4 * c + 1)) (congrArg xs (nI_clamp (by omega))) ?_
    refine pz_aload_n dL_law_328 rfl ?_
    refine pz_iload dL_law_329 rfl ?_
    refine pz_iconst (v := 2) dL_law_331 rfl ?_
    refine pz_iadd dL_law_332 ?_
    refine pz_top (nI (4 * c + 2)) (ix1 (c := c) (d := 2) (by omega)) ?_
    refine pz_sld dL_law_333 (vp_in_nI (by omega) (by omega)) ?_
    refine pz_top (xs (4 * c + 2)) (congrArg xs (nI_clamp (by omega))) ?_
    refine pz_rV1 (mi' := mX11_input) (As := [.int (xs (4 * c + 1)), .int (xs (4 * c + 2))]) (q := (RX11, TX11, 33)) dL_law_334 lk_RL_100 mk_X11_input mi_X11_input me_X11_input ⟨by decide, by decide⟩ rfl rfl (Nat.le_of_ble_eq_true rfl) rfl rfl ⟨show k + 1 + 0 ≤ 601024 by omega, show n + 6 + 0 ≤ 7293034 by omega⟩ (hM _ _) (fun v ρ hq => ?_)
    obtain ⟨hV2, hth, hKM⟩ := hq
    obtain ⟨r2, rfl⟩ := hVM v hV2
    refine pz_kn (k + 1) (n + 6) rfl rfl ?_
    refine pz_istore dL_law_337 (by decide) ?_
    refine pz_goto (tgt := 1019) dL_law_339 (by decide) ?_
    refine pz_ws (ws' := wp G adX LX [] (rtM G adM ρ ow f) σX) rfl ?_
    exact pz_lk [(0, .ref b), (1, .ref (adX 0)), (2, .ref (adM 0)), (3, .ref ow), (4, .int (nI (4 * c)))] ⟨rfl, rfl, rfl, rfl, rfl, trivial⟩ (kk σX ρ f (k + 1) (n + 6) (by omega) (by omega) hKM)
  · obtain ⟨hC, hM⟩ := hs
    have hVM : ∀ v : Value, (∃ r : Int32, v = .int r) → ∃ r : Int32, v = .int r := fun v q => q
    refine pz_aload_n dL_law_302 rfl ?_
    refine pz_aload_n dL_law_303 rfl ?_
    refine pz_iload dL_law_304 rfl ?_
    refine pz_iconst (v := 1) dL_law_306 rfl ?_
    refine pz_iadd dL_law_307 ?_
    refine pz_top (nI (4 * c + 1)) (ix1 (c := c) (d := 1) (by omega)) ?_
    refine pz_sld dL_law_308 (vp_in_nI (by omega) (by omega)) ?_
    refine pz_top (xs (4 * c + 1)) (congrArg xs (nI_clamp (by omega))) ?_
    refine pz_aload_n dL_law_309 rfl ?_
    refine pz_iload dL_law_310 rfl ?_
    refine pz_iconst (v := 2) dL_law_312 rfl ?_
    refine pz_iadd dL_law_313 ?_
    refine pz_top (nI (4 * c + 2)) (ix1 (c := c) (d := 2) (by omega)) ?_
    refine pz_sld dL_law_314 (vp_in_nI (by omega) (by omega)) ?_
    refine pz_top (xs (4 * c + 2)) (congrArg xs (nI_clamp (by omega))) ?_
    refine pz_aload_n dL_law_315 rfl ?_
    refine pz_callW (mi' := mL_input) (hh := hhL_input) (As := [.ref (adX 0), .int (xs (4 * c + 1)), .int (xs (4 * c + 2)), .ref ow]) dL_law_316 (tw_in 893 (by decide +kernel) (by decide +kernel)) mw_input ⟨by decide, by decide⟩ rfl rfl (Nat.le_of_ble_eq_true rfl) (wt2_input (xs (4 * c + 1)) (xs (4 * c + 2)) (hC _)) ⟨show k + 1 ≤ 601024 by omega, show n + 6 ≤ 7293034 by omega⟩ (fun v ws1 hv => ?_)
    cases hv
    refine pz_kn (k + 1) (n + 6) rfl rfl ?_
    refine pz_ws (ws' := wp G adM LM (cellsE G adX LX σX LX.1 0) [outC G ow f] σM) rfl ?_
    refine pz_istore dL_law_319 (by decide) ?_
    refine pz_aload_n dL_law_321 rfl ?_
    refine pz_aload_n dL_law_322 rfl ?_
    refine pz_iload dL_law_323 rfl ?_
    refine pz_iconst (v := 1) dL_law_325 rfl ?_
    refine pz_iadd dL_law_326 ?_
    refine pz_top (nI (4 * c + 1)) (ix1 (c := c) (d := 1) (by omega)) ?_
    refine pz_sld dL_law_327 (vp_in_nI (by omega) (by omega)) ?_
    refine pz_top (xs (4 * c + 1)) (congrArg xs (nI_clamp (by omega))) ?_
    refine pz_aload_n dL_law_328 rfl ?_
    refine pz_iload dL_law_329 rfl ?_
    refine pz_iconst (v := 2) dL_law_331 rfl ?_
    refine pz_iadd dL_law_332 ?_
    refine pz_top (nI (4 * c + 2)) (ix1 (c := c) (d := 2) (by omega)) ?_
    refine pz_sld dL_law_333 (vp_in_nI (by omega) (by omega)) ?_
    refine pz_top (xs (4 * c + 2)) (congrArg xs (nI_clamp (by omega))) ?_
    refine pz_rV1 (mi' := mX11_input) (As := [.int (xs (4 * c + 1)), .int (xs (4 * c + 2))]) (q := (RX11, TX11, 33)) dL_law_334 lk_RL_100 mk_X11_input mi_X11_input me_X11_input ⟨by decide, by decide⟩ rfl rfl (Nat.le_of_ble_eq_true rfl) rfl rfl ⟨show k + 1 + 0 ≤ 601024 by omega, show n + 6 + 0 ≤ 7293034 by omega⟩ (hM _ _) (fun v ρ hq => ?_)
    obtain ⟨hV2, hth, hKM⟩ := hq
    obtain ⟨r2, rfl⟩ := hVM v hV2
    refine pz_kn (k + 1) (n + 6) rfl rfl ?_
    refine pz_istore dL_law_337 (by decide) ?_
    refine pz_goto (tgt := 1019) dL_law_339 (by decide) ?_
    refine pz_ws (ws' := wp G adX LX [] (rtM G adM ρ ow f) σX) rfl ?_
    exact pz_lk [(0, .ref b), (1, .ref (adX 0)), (2, .ref (adM 0)), (3, .ref ow), (4, .int (nI (4 * c)))] ⟨rfl, rfl, rfl, rfl, rfl, trivial⟩ (kk σX ρ f (k + 1) (n + 6) (by omega) (by omega) hKM)
theorem lc_remove (hl : l.stackTraces = false) (hcL : 4 * c + 4 ≤ L) (hL : L ≤ 2048) (hk : k + 1100 ≤ 601024) (hn : n + 14000 ≤ 7293034) (kk : GoOn l G b L sz c k n xs adX adM ow) (h : LI σX σM) : PZ (XL b L xs) QL l G mL_law [] sz 342 [(0, .ref b), (1, .ref (adX 0)), (2, .ref (adM 0)), (3, .ref ow), (4, .int (nI (4 * c)))] [] k n (wp G adX LX [] (rtM G adM σM ow f) σX) := by
  have hs := sm_remove (l := l) (G := G) (adX := adX) (adM := adM) hl h (xs (4 * c + 1))
  rcases hs with hs | hs | hs
  · obtain ⟨r0, KX, KM, hLI, hC, hM⟩ := hs
    have hVX : ∀ v : Value, v = .int r0 → ∃ r : Int32, v = .int r := fun v q => ⟨r0, q⟩
    have hVM := hVX
    have hEq : ∀ r1 r2 : Int32, (.int r1 : Value) = .int r0 → (.int r2 : Value) = .int r0 → r1 = r2 := fun r1 r2 a b => by cases a; cases b; rfl
    refine pz_aload_n dL_law_342 rfl ?_
    refine pz_aload_n dL_law_343 rfl ?_
    refine pz_iload dL_law_344 rfl ?_
    refine pz_iconst (v := 1) dL_law_346 rfl ?_
    refine pz_iadd dL_law_347 ?_
    refine pz_top (nI (4 * c + 1)) (ix1 (c := c) (d := 1) (by omega)) ?_
    refine pz_sld dL_law_348 (vp_in_nI (by omega) (by omega)) ?_
    refine pz_top (xs (4 * c + 1)) (congrArg xs (nI_clamp (by omega))) ?_
    refine pz_aload_n dL_law_349 rfl ?_
    refine pz_callW (mi' := mL_remove) (hh := hhL_remove) (As := [.ref (adX 0), .int (xs (4 * c + 1)), .ref ow]) dL_law_350 (tw_in 901 (by decide +kernel) (by decide +kernel)) mw_remove ⟨by decide, by decide⟩ rfl rfl (Nat.le_of_ble_eq_true rfl) (wx_remove (p := 22) rt_at (xs (4 * c + 1)) hVX (hC _)) ⟨show k + 2 ≤ 601024 by omega, show n + 12 ≤ 7293034 by omega⟩ (fun v ws1 hv => ?_)
    obtain ⟨τ, r1, hV1, hv, hKX⟩ := hv
    cases hv
    refine pz_kn (k + 2) (n + 12) rfl rfl ?_
    refine pz_ws (ws' := wp G adM LM (cellsE G adX LX τ LX.1 0) [outC G ow (vp_updL f 0 r1.toInt64)] σM) (by rw [rt_set]; rfl) ?_
    refine pz_istore dL_law_353 (by decide) ?_
    refine pz_aload_n dL_law_355 rfl ?_
    refine pz_aload_n dL_law_356 rfl ?_
    refine pz_iload dL_law_357 rfl ?_
    refine pz_iconst (v := 1) dL_law_359 rfl ?_
    refine pz_iadd dL_law_360 ?_
    refine pz_top (nI (4 * c + 1)) (ix1 (c := c) (d := 1) (by omega)) ?_
    refine pz_sld dL_law_361 (vp_in_nI (by omega) (by omega)) ?_
    refine pz_top (xs (4 * c + 1)) (congrArg xs (nI_clamp (by omega))) ?_
    refine pz_rV1 (mi' := mX11_remove) (As := [.int (xs (4 * c + 1))]) (q := (RX11, TX11, 33)) dL_law_362 lk_RL_103 mk_X11_remove mi_X11_remove me_X11_remove ⟨by decide, by decide⟩ rfl rfl (Nat.le_of_ble_eq_true rfl) rfl rfl ⟨show k + 2 + 0 ≤ 601024 by omega, show n + 12 + 0 ≤ 7293034 by omega⟩ (hM _ _) (fun v ρ hq => ?_)
    obtain ⟨hV2, hth, hKM⟩ := hq
    obtain ⟨r2, rfl⟩ := hVM v hV2
    have er : r1 = r2 := hEq r1 r2 hV1 hV2
    subst er
    refine pz_kn (k + 2) (n + 12) rfl rfl ?_
    refine pz_istore dL_law_365 (by decide) ?_
    refine pz_goto (tgt := 1019) dL_law_367 (by decide) ?_
    refine pz_ws (ws' := wp G adX LX [] (rtM G adM ρ ow (vp_updL f 0 r1.toInt64)) τ) rfl ?_
    exact pz_lk [(0, .ref b), (1, .ref (adX 0)), (2, .ref (adM 0)), (3, .ref ow), (4, .int (nI (4 * c)))] ⟨rfl, rfl, rfl, rfl, rfl, trivial⟩ (kk τ ρ (vp_updL f 0 r1.toInt64) (k + 2) (n + 12) (by omega) (by omega) (hLI _ _ hKX hKM))
  · obtain ⟨hC, hM⟩ := hs
    have hVM : ∀ v : Value, (∃ r : Int32, v = .int r) → ∃ r : Int32, v = .int r := fun v q => q
    refine pz_aload_n dL_law_342 rfl ?_
    refine pz_aload_n dL_law_343 rfl ?_
    refine pz_iload dL_law_344 rfl ?_
    refine pz_iconst (v := 1) dL_law_346 rfl ?_
    refine pz_iadd dL_law_347 ?_
    refine pz_top (nI (4 * c + 1)) (ix1 (c := c) (d := 1) (by omega)) ?_
    refine pz_sld dL_law_348 (vp_in_nI (by omega) (by omega)) ?_
    refine pz_top (xs (4 * c + 1)) (congrArg xs (nI_clamp (by omega))) ?_
    refine pz_aload_n dL_law_349 rfl ?_
    refine pz_callW (mi' := mL_remove) (hh := hhL_remove) (As := [.ref (adX 0), .int (xs (4 * c + 1)), .ref ow]) dL_law_350 (tw_in 901 (by decide +kernel) (by decide +kernel)) mw_remove ⟨by decide, by decide⟩ rfl rfl (Nat.le_of_ble_eq_true rfl) (wt1_remove (xs (4 * c + 1)) (hC _)) ⟨show k + 2 ≤ 601024 by omega, show n + 12 ≤ 7293034 by omega⟩ (fun v ws1 hv => ?_)
    cases hv
    refine pz_kn (k + 2) (n + 12) rfl rfl ?_
    refine pz_ws (ws' := wp G adM LM (cellsE G adX LX σX LX.1 0) [outC G ow f] σM) rfl ?_
    refine pz_istore dL_law_353 (by decide) ?_
    refine pz_aload_n dL_law_355 rfl ?_
    refine pz_aload_n dL_law_356 rfl ?_
    refine pz_iload dL_law_357 rfl ?_
    refine pz_iconst (v := 1) dL_law_359 rfl ?_
    refine pz_iadd dL_law_360 ?_
    refine pz_top (nI (4 * c + 1)) (ix1 (c := c) (d := 1) (by omega)) ?_
    refine pz_sld dL_law_361 (vp_in_nI (by omega) (by omega)) ?_
    refine pz_top (xs (4 * c + 1)) (congrArg xs (nI_clamp (by omega))) ?_
    refine pz_rV1 (mi' := mX11_remove) (As := [.int (xs (4 * c + 1))]) (q := (RX11, TX11, 33)) dL_law_362 lk_RL_103 mk_X11_remove mi_X11_remove me_X11_remove ⟨by decide, by decide⟩ rfl rfl (Nat.le_of_ble_eq_true rfl) rfl rfl ⟨show k + 2 + 0 ≤ 601024 by omega, show n + 12 + 0 ≤ 7293034 by omega⟩ (hM _ _) (fun v ρ hq => ?_)
    obtain ⟨hV2, hth, hKM⟩ := hq
    obtain ⟨r2, rfl⟩ := hVM v hV2
    refine pz_kn (k + 2) (n + 12) rfl rfl ?_
    refine pz_istore dL_law_365 (by decide) ?_
    refine pz_goto (tgt := 1019) dL_law_367 (by decide) ?_
    refine pz_ws (ws' := wp G adX LX [] (rtM G adM ρ ow f) σX) rfl ?_
    exact pz_lk [(0, .ref b), (1, .ref (adX 0)), (2, .ref (adM 0)), (3, .ref ow), (4, .int (nI (4 * c)))] ⟨rfl, rfl, rfl, rfl, rfl, trivial⟩ (kk σX ρ f (k + 2) (n + 12) (by omega) (by omega) hKM)
  · obtain ⟨hC, hM⟩ := hs
    have hVM : ∀ v : Value, (∃ r : Int32, v = .int r) → ∃ r : Int32, v = .int r := fun v q => q
    refine pz_aload_n dL_law_342 rfl ?_
    refine pz_aload_n dL_law_343 rfl ?_
    refine pz_iload dL_law_344 rfl ?_
    refine pz_iconst (v := 1) dL_law_346 rfl ?_
    refine pz_iadd dL_law_347 ?_
    refine pz_top (nI (4 * c + 1)) (ix1 (c := c) (d := 1) (by omega)) ?_
    refine pz_sld dL_law_348 (vp_in_nI (by omega) (by omega)) ?_
    refine pz_top (xs (4 * c + 1)) (congrArg xs (nI_clamp (by omega))) ?_
    refine pz_aload_n dL_law_349 rfl ?_
    refine pz_callW (mi' := mL_remove) (hh := hhL_remove) (As := [.ref (adX 0), .int (xs (4 * c + 1)), .ref ow]) dL_law_350 (tw_in 901 (by decide +kernel) (by decide +kernel)) mw_remove ⟨by decide, by decide⟩ rfl rfl (Nat.le_of_ble_eq_true rfl) (wt2_remove (xs (4 * c + 1)) (hC _)) ⟨show k + 2 ≤ 601024 by omega, show n + 12 ≤ 7293034 by omega⟩ (fun v ws1 hv => ?_)
    cases hv
    refine pz_kn (k + 2) (n + 12) rfl rfl ?_
    refine pz_ws (ws' := wp G adM LM (cellsE G adX LX σX LX.1 0) [outC G ow f] σM) rfl ?_
    refine pz_istore dL_law_353 (by decide) ?_
    refine pz_aload_n dL_law_355 rfl ?_
    refine pz_aload_n dL_law_356 rfl ?_
    refine pz_iload dL_law_357 rfl ?_
    refine pz_iconst (v := 1) dL_law_359 rfl ?_
    refine pz_iadd dL_law_360 ?_
    refine pz_top (nI (4 * c + 1)) (ix1 (c := c) (d := 1) (by omega)) ?_
    refine pz_sld dL_law_361 (vp_in_nI (by omega) (by omega)) ?_
    refine pz_top (xs (4 * c + 1)) (congrArg xs (nI_clamp (by omega))) ?_
    refine pz_rV1 (mi' := mX11_remove) (As := [.int (xs (4 * c + 1))]) (q := (RX11, TX11, 33)) dL_law_362 lk_RL_103 mk_X11_remove mi_X11_remove me_X11_remove ⟨by decide, by decide⟩ rfl rfl (Nat.le_of_ble_eq_true rfl) rfl rfl ⟨show k + 2 + 0 ≤ 601024 by omega, show n + 12 + 0 ≤ 7293034 by omega⟩ (hM _ _) (fun v ρ hq => ?_)
    obtain ⟨hV2, hth, hKM⟩ := hq
    obtain ⟨r2, rfl⟩ := hVM v hV2
    refine pz_kn (k + 2) (n + 12) rfl rfl ?_
    refine pz_istore dL_law_365 (by decide) ?_
    refine pz_goto (tgt := 1019) dL_law_367 (by decide) ?_
    refine pz_ws (ws' := wp G adX LX [] (rtM G adM ρ ow f) σX) rfl ?_
    exact pz_lk [(0, .ref b), (1, .ref (adX 0)), (2, .ref (adM 0)), (3, .ref ow), (4, .int (nI (4 * c)))] ⟨rfl, rfl, rfl, rfl, rfl, trivial⟩ (kk σX ρ f (k + 2) (n + 12) (by omega) (by omega) hKM)
theorem lc_instructions (hl : l.stackTraces = false) (hcL : 4 * c + 4 ≤ L) (hL : L ≤ 2048) (hk : k + 1100 ≤ 601024) (hn : n + 14000 ≤ 7293034) (kk : GoOn l G b L sz c k n xs adX adM ow) (h : LI σX σM) : PZ (XL b L xs) QL l G mL_law [] sz 370 [(0, .ref b), (1, .ref (adX 0)), (2, .ref (adM 0)), (3, .ref ow), (4, .int (nI (4 * c)))] [] k n (wp G adX LX [] (rtM G adM σM ow f) σX) := by
  have hs := sm_instructions (l := l) (G := G) (adX := adX) (adM := adM) h 
  obtain ⟨r0, KX, KM, hLI, hC, hM⟩ := hs
  have hVX : ∀ v : Value, v = .int r0 → ∃ r : Int32, v = .int r := fun v q => ⟨r0, q⟩
  have hVM := hVX
  have hEq : ∀ r1 r2 : Int32, (.int r1 : Value) = .int r0 → (.int r2 : Value) = .int r0 → r1 = r2 := fun r1 r2 a b => by cases a; cases b; rfl
  refine pz_aload_n dL_law_370 rfl ?_
  refine pz_rV1 (mi' := mX10_instructions) (As := []) (q := (RX10, TX10, 14)) dL_law_371 lk_RL_104 mk_X10_instructions mi_X10_instructions me_X10_instructions ⟨by decide, by decide⟩ rfl rfl (Nat.le_of_ble_eq_true rfl) rfl rfl ⟨show k + 0 ≤ 601024 by omega, show n + 0 ≤ 7293034 by omega⟩ (hC _) (fun v τ hq => ?_)
  obtain ⟨hV1, hKX⟩ := hq
  obtain ⟨r1, rfl⟩ := hVX v hV1
  refine pz_ws (ws' := wp G adM LM (cellsE G adX LX τ LX.1 0) [outC G ow f] σM) rfl ?_
  refine pz_kn (k + 0) (n + 0) rfl rfl ?_
  refine pz_pop dL_law_374 rfl ?_
  refine pz_aload_n dL_law_375 rfl ?_
  refine pz_rV1 (mi' := mX11_instructions) (As := []) (q := (RX11, TX11, 33)) dL_law_376 lk_RL_107 mk_X11_instructions mi_X11_instructions me_X11_instructions ⟨by decide, by decide⟩ rfl rfl (Nat.le_of_ble_eq_true rfl) rfl rfl ⟨show k + 0 ≤ 601024 by omega, show n + 0 ≤ 7293034 by omega⟩ (hM _ _) (fun v ρ hq => ?_)
  obtain ⟨hV2, hth, hKM⟩ := hq
  obtain ⟨r2, rfl⟩ := hVM v hV2
  have er : r1 = r2 := hEq r1 r2 hV1 hV2
  subst er
  refine pz_kn (k + 0) (n + 0) rfl rfl ?_
  refine pz_pop dL_law_379 rfl ?_
  refine pz_goto (tgt := 1019) dL_law_380 (by decide) ?_
  refine pz_ws (ws' := wp G adX LX [] (rtM G adM ρ ow f) τ) rfl ?_
  exact pz_lk [(0, .ref b), (1, .ref (adX 0)), (2, .ref (adM 0)), (3, .ref ow), (4, .int (nI (4 * c)))] ⟨rfl, rfl, rfl, rfl, rfl, trivial⟩ (kk τ ρ f (k + 0) (n + 0) (by omega) (by omega) (hLI _ _ hKX hKM))
theorem lc_instruction (hl : l.stackTraces = false) (hcL : 4 * c + 4 ≤ L) (hL : L ≤ 2048) (hk : k + 1100 ≤ 601024) (hn : n + 14000 ≤ 7293034) (kk : GoOn l G b L sz c k n xs adX adM ow) (h : LI σX σM) : PZ (XL b L xs) QL l G mL_law [] sz 383 [(0, .ref b), (1, .ref (adX 0)), (2, .ref (adM 0)), (3, .ref ow), (4, .int (nI (4 * c)))] [] k n (wp G adX LX [] (rtM G adM σM ow f) σX) := by
  have hs := sm_instruction (l := l) (G := G) (adX := adX) (adM := adM) hl h (xs (4 * c + 1)) (xs (4 * c + 2))
  rcases hs with hs | hs | hs
  · obtain ⟨r0, KX, KM, hLI, hC, hM⟩ := hs
    have hVX : ∀ v : Value, v = .int r0 → ∃ r : Int32, v = .int r := fun v q => ⟨r0, q⟩
    have hVM := hVX
    have hEq : ∀ r1 r2 : Int32, (.int r1 : Value) = .int r0 → (.int r2 : Value) = .int r0 → r1 = r2 := fun r1 r2 a b => by cases a; cases b; rfl
    refine pz_aload_n dL_law_383 rfl ?_
    refine pz_aload_n dL_law_384 rfl ?_
    refine pz_iload dL_law_385 rfl ?_
    refine pz_iconst (v := 1) dL_law_387 rfl ?_
    refine pz_iadd dL_law_388 ?_
    refine pz_top (nI (4 * c + 1)) (ix1 (c := c) (d := 1) (by omega)) ?_
    refine pz_sld dL_law_389 (vp_in_nI (by omega) (by omega)) ?_
    refine pz_top (xs (4 * c + 1)) (congrArg xs (nI_clamp (by omega))) ?_
    refine pz_aload_n dL_law_390 rfl ?_
    refine pz_iload dL_law_391 rfl ?_
    refine pz_iconst (v := 2) dL_law_393 rfl ?_
    refine pz_iadd dL_law_394 ?_
    refine pz_top (nI (4 * c + 2)) (ix1 (c := c) (d := 2) (by omega)) ?_
    refine pz_sld dL_law_395 (vp_in_nI (by omega) (by omega)) ?_
    refine pz_top (xs (4 * c + 2)) (congrArg xs (nI_clamp (by omega))) ?_
    refine pz_aload_n dL_law_396 rfl ?_
    refine pz_callW (mi' := mL_instruction) (hh := hhL_instruction) (As := [.ref (adX 0), .int (xs (4 * c + 1)), .int (xs (4 * c + 2)), .ref ow]) dL_law_397 (tw_in 923 (by decide +kernel) (by decide +kernel)) mw_instruction ⟨by decide, by decide⟩ rfl rfl (Nat.le_of_ble_eq_true rfl) (wx_instruction (p := 22) rt_at (xs (4 * c + 1)) (xs (4 * c + 2)) hVX (hC _)) ⟨show k + 1 ≤ 601024 by omega, show n + 6 ≤ 7293034 by omega⟩ (fun v ws1 hv => ?_)
    obtain ⟨τ, r1, hV1, hv, hKX⟩ := hv
    cases hv
    refine pz_kn (k + 1) (n + 6) rfl rfl ?_
    refine pz_ws (ws' := wp G adM LM (cellsE G adX LX τ LX.1 0) [outC G ow (vp_updL f 0 r1.toInt64)] σM) (by rw [rt_set]; rfl) ?_
    refine pz_istore dL_law_400 (by decide) ?_
    refine pz_aload_n dL_law_402 rfl ?_
    refine pz_aload_n dL_law_403 rfl ?_
    refine pz_iload dL_law_404 rfl ?_
    refine pz_iconst (v := 1) dL_law_406 rfl ?_
    refine pz_iadd dL_law_407 ?_
    refine pz_top (nI (4 * c + 1)) (ix1 (c := c) (d := 1) (by omega)) ?_
    refine pz_sld dL_law_408 (vp_in_nI (by omega) (by omega)) ?_
    refine pz_top (xs (4 * c + 1)) (congrArg xs (nI_clamp (by omega))) ?_
    refine pz_aload_n dL_law_409 rfl ?_
    refine pz_iload dL_law_410 rfl ?_
    refine pz_iconst (v := 2) dL_law_412 rfl ?_
    refine pz_iadd dL_law_413 ?_
    refine pz_top (nI (4 * c + 2)) (ix1 (c := c) (d := 2) (by omega)) ?_
    refine pz_sld dL_law_414 (vp_in_nI (by omega) (by omega)) ?_
    refine pz_top (xs (4 * c + 2)) (congrArg xs (nI_clamp (by omega))) ?_
    refine pz_rV1 (mi' := mX11_instruction) (As := [.int (xs (4 * c + 1)), .int (xs (4 * c + 2))]) (q := (RX11, TX11, 33)) dL_law_415 lk_RL_110 mk_X11_instruction mi_X11_instruction me_X11_instruction ⟨by decide, by decide⟩ rfl rfl (Nat.le_of_ble_eq_true rfl) rfl rfl ⟨show k + 1 + 0 ≤ 601024 by omega, show n + 6 + 0 ≤ 7293034 by omega⟩ (hM _ _) (fun v ρ hq => ?_)
    obtain ⟨hV2, hth, hKM⟩ := hq
    obtain ⟨r2, rfl⟩ := hVM v hV2
    have er : r1 = r2 := hEq r1 r2 hV1 hV2
    subst er
    refine pz_kn (k + 1) (n + 6) rfl rfl ?_
    refine pz_istore dL_law_418 (by decide) ?_
    refine pz_goto (tgt := 1019) dL_law_420 (by decide) ?_
    refine pz_ws (ws' := wp G adX LX [] (rtM G adM ρ ow (vp_updL f 0 r1.toInt64)) τ) rfl ?_
    exact pz_lk [(0, .ref b), (1, .ref (adX 0)), (2, .ref (adM 0)), (3, .ref ow), (4, .int (nI (4 * c)))] ⟨rfl, rfl, rfl, rfl, rfl, trivial⟩ (kk τ ρ (vp_updL f 0 r1.toInt64) (k + 1) (n + 6) (by omega) (by omega) (hLI _ _ hKX hKM))
  · obtain ⟨hC, hM⟩ := hs
    have hVM : ∀ v : Value, (∃ r : Int32, v = .int r) → ∃ r : Int32, v = .int r := fun v q => q
    refine pz_aload_n dL_law_383 rfl ?_
    refine pz_aload_n dL_law_384 rfl ?_
    refine pz_iload dL_law_385 rfl ?_
    refine pz_iconst (v := 1) dL_law_387 rfl ?_
    refine pz_iadd dL_law_388 ?_
    refine pz_top (nI (4 * c + 1)) (ix1 (c := c) (d := 1) (by omega)) ?_
    refine pz_sld dL_law_389 (vp_in_nI (by omega) (by omega)) ?_
    refine pz_top (xs (4 * c + 1)) (congrArg xs (nI_clamp (by omega))) ?_
    refine pz_aload_n dL_law_390 rfl ?_
    refine pz_iload dL_law_391 rfl ?_
    refine pz_iconst (v := 2) dL_law_393 rfl ?_
    refine pz_iadd dL_law_394 ?_
    refine pz_top (nI (4 * c + 2)) (ix1 (c := c) (d := 2) (by omega)) ?_
    refine pz_sld dL_law_395 (vp_in_nI (by omega) (by omega)) ?_
    refine pz_top (xs (4 * c + 2)) (congrArg xs (nI_clamp (by omega))) ?_
    refine pz_aload_n dL_law_396 rfl ?_
    refine pz_callW (mi' := mL_instruction) (hh := hhL_instruction) (As := [.ref (adX 0), .int (xs (4 * c + 1)), .int (xs (4 * c + 2)), .ref ow]) dL_law_397 (tw_in 923 (by decide +kernel) (by decide +kernel)) mw_instruction ⟨by decide, by decide⟩ rfl rfl (Nat.le_of_ble_eq_true rfl) (wt1_instruction (xs (4 * c + 1)) (xs (4 * c + 2)) (hC _)) ⟨show k + 1 ≤ 601024 by omega, show n + 6 ≤ 7293034 by omega⟩ (fun v ws1 hv => ?_)
    cases hv
    refine pz_kn (k + 1) (n + 6) rfl rfl ?_
    refine pz_ws (ws' := wp G adM LM (cellsE G adX LX σX LX.1 0) [outC G ow f] σM) rfl ?_
    refine pz_istore dL_law_400 (by decide) ?_
    refine pz_aload_n dL_law_402 rfl ?_
    refine pz_aload_n dL_law_403 rfl ?_
    refine pz_iload dL_law_404 rfl ?_
    refine pz_iconst (v := 1) dL_law_406 rfl ?_
    refine pz_iadd dL_law_407 ?_
    refine pz_top (nI (4 * c + 1)) (ix1 (c := c) (d := 1) (by omega)) ?_
    refine pz_sld dL_law_408 (vp_in_nI (by omega) (by omega)) ?_
    refine pz_top (xs (4 * c + 1)) (congrArg xs (nI_clamp (by omega))) ?_
    refine pz_aload_n dL_law_409 rfl ?_
    refine pz_iload dL_law_410 rfl ?_
    refine pz_iconst (v := 2) dL_law_412 rfl ?_
    refine pz_iadd dL_law_413 ?_
    refine pz_top (nI (4 * c + 2)) (ix1 (c := c) (d := 2) (by omega)) ?_
    refine pz_sld dL_law_414 (vp_in_nI (by omega) (by omega)) ?_
    refine pz_top (xs (4 * c + 2)) (congrArg xs (nI_clamp (by omega))) ?_
    refine pz_rV1 (mi' := mX11_instruction) (As := [.int (xs (4 * c + 1)), .int (xs (4 * c + 2))]) (q := (RX11, TX11, 33)) dL_law_415 lk_RL_110 mk_X11_instruction mi_X11_instruction me_X11_instruction ⟨by decide, by decide⟩ rfl rfl (Nat.le_of_ble_eq_true rfl) rfl rfl ⟨show k + 1 + 0 ≤ 601024 by omega, show n + 6 + 0 ≤ 7293034 by omega⟩ (hM _ _) (fun v ρ hq => ?_)
    obtain ⟨hV2, hth, hKM⟩ := hq
    obtain ⟨r2, rfl⟩ := hVM v hV2
    refine pz_kn (k + 1) (n + 6) rfl rfl ?_
    refine pz_istore dL_law_418 (by decide) ?_
    refine pz_goto (tgt := 1019) dL_law_420 (by decide) ?_
    refine pz_ws (ws' := wp G adX LX [] (rtM G adM ρ ow f) σX) rfl ?_
    exact pz_lk [(0, .ref b), (1, .ref (adX 0)), (2, .ref (adM 0)), (3, .ref ow), (4, .int (nI (4 * c)))] ⟨rfl, rfl, rfl, rfl, rfl, trivial⟩ (kk σX ρ f (k + 1) (n + 6) (by omega) (by omega) hKM)
  · obtain ⟨hC, hM⟩ := hs
    have hVM : ∀ v : Value, (∃ r : Int32, v = .int r) → ∃ r : Int32, v = .int r := fun v q => q
    refine pz_aload_n dL_law_383 rfl ?_
    refine pz_aload_n dL_law_384 rfl ?_
    refine pz_iload dL_law_385 rfl ?_
    refine pz_iconst (v := 1) dL_law_387 rfl ?_
    refine pz_iadd dL_law_388 ?_
    refine pz_top (nI (4 * c + 1)) (ix1 (c := c) (d := 1) (by omega)) ?_
    refine pz_sld dL_law_389 (vp_in_nI (by omega) (by omega)) ?_
    refine pz_top (xs (4 * c + 1)) (congrArg xs (nI_clamp (by omega))) ?_
    refine pz_aload_n dL_law_390 rfl ?_
    refine pz_iload dL_law_391 rfl ?_
    refine pz_iconst (v := 2) dL_law_393 rfl ?_
    refine pz_iadd dL_law_394 ?_
    refine pz_top (nI (4 * c + 2)) (ix1 (c := c) (d := 2) (by omega)) ?_
    refine pz_sld dL_law_395 (vp_in_nI (by omega) (by omega)) ?_
    refine pz_top (xs (4 * c + 2)) (congrArg xs (nI_clamp (by omega))) ?_
    refine pz_aload_n dL_law_396 rfl ?_
    refine pz_callW (mi' := mL_instruction) (hh := hhL_instruction) (As := [.ref (adX 0), .int (xs (4 * c + 1)), .int (xs (4 * c + 2)), .ref ow]) dL_law_397 (tw_in 923 (by decide +kernel) (by decide +kernel)) mw_instruction ⟨by decide, by decide⟩ rfl rfl (Nat.le_of_ble_eq_true rfl) (wt2_instruction (xs (4 * c + 1)) (xs (4 * c + 2)) (hC _)) ⟨show k + 1 ≤ 601024 by omega, show n + 6 ≤ 7293034 by omega⟩ (fun v ws1 hv => ?_)
    cases hv
    refine pz_kn (k + 1) (n + 6) rfl rfl ?_
    refine pz_ws (ws' := wp G adM LM (cellsE G adX LX σX LX.1 0) [outC G ow f] σM) rfl ?_
    refine pz_istore dL_law_400 (by decide) ?_
    refine pz_aload_n dL_law_402 rfl ?_
    refine pz_aload_n dL_law_403 rfl ?_
    refine pz_iload dL_law_404 rfl ?_
    refine pz_iconst (v := 1) dL_law_406 rfl ?_
    refine pz_iadd dL_law_407 ?_
    refine pz_top (nI (4 * c + 1)) (ix1 (c := c) (d := 1) (by omega)) ?_
    refine pz_sld dL_law_408 (vp_in_nI (by omega) (by omega)) ?_
    refine pz_top (xs (4 * c + 1)) (congrArg xs (nI_clamp (by omega))) ?_
    refine pz_aload_n dL_law_409 rfl ?_
    refine pz_iload dL_law_410 rfl ?_
    refine pz_iconst (v := 2) dL_law_412 rfl ?_
    refine pz_iadd dL_law_413 ?_
    refine pz_top (nI (4 * c + 2)) (ix1 (c := c) (d := 2) (by omega)) ?_
    refine pz_sld dL_law_414 (vp_in_nI (by omega) (by omega)) ?_
    refine pz_top (xs (4 * c + 2)) (congrArg xs (nI_clamp (by omega))) ?_
    refine pz_rV1 (mi' := mX11_instruction) (As := [.int (xs (4 * c + 1)), .int (xs (4 * c + 2))]) (q := (RX11, TX11, 33)) dL_law_415 lk_RL_110 mk_X11_instruction mi_X11_instruction me_X11_instruction ⟨by decide, by decide⟩ rfl rfl (Nat.le_of_ble_eq_true rfl) rfl rfl ⟨show k + 1 + 0 ≤ 601024 by omega, show n + 6 + 0 ≤ 7293034 by omega⟩ (hM _ _) (fun v ρ hq => ?_)
    obtain ⟨hV2, hth, hKM⟩ := hq
    obtain ⟨r2, rfl⟩ := hVM v hV2
    refine pz_kn (k + 1) (n + 6) rfl rfl ?_
    refine pz_istore dL_law_418 (by decide) ?_
    refine pz_goto (tgt := 1019) dL_law_420 (by decide) ?_
    refine pz_ws (ws' := wp G adX LX [] (rtM G adM ρ ow f) σX) rfl ?_
    exact pz_lk [(0, .ref b), (1, .ref (adX 0)), (2, .ref (adM 0)), (3, .ref ow), (4, .int (nI (4 * c)))] ⟨rfl, rfl, rfl, rfl, rfl, trivial⟩ (kk σX ρ f (k + 1) (n + 6) (by omega) (by omega) hKM)
theorem lc_operand (hl : l.stackTraces = false) (hcL : 4 * c + 4 ≤ L) (hL : L ≤ 2048) (hk : k + 1100 ≤ 601024) (hn : n + 14000 ≤ 7293034) (kk : GoOn l G b L sz c k n xs adX adM ow) (h : LI σX σM) : PZ (XL b L xs) QL l G mL_law [] sz 423 [(0, .ref b), (1, .ref (adX 0)), (2, .ref (adM 0)), (3, .ref ow), (4, .int (nI (4 * c)))] [] k n (wp G adX LX [] (rtM G adM σM ow f) σX) := by
  by_cases hz : xs (4 * c + 2) = 0
  · have hs := sm_operand (l := l) (G := G) (adX := adX) (adM := adM) hl h (xs (4 * c + 1)) false
    rcases hs with hs | hs
    · obtain ⟨r0, KX, KM, hLI, hC, hM⟩ := hs
      have hVX : ∀ v : Value, v = .int r0 → ∃ r : Int32, v = .int r := fun v q => ⟨r0, q⟩
      have hVM := hVX
      have hEq : ∀ r1 r2 : Int32, (.int r1 : Value) = .int r0 → (.int r2 : Value) = .int r0 → r1 = r2 := fun r1 r2 a b => by cases a; cases b; rfl
      refine pz_aload_n dL_law_423 rfl ?_
      refine pz_aload_n dL_law_424 rfl ?_
      refine pz_iload dL_law_425 rfl ?_
      refine pz_iconst (v := 1) dL_law_427 rfl ?_
      refine pz_iadd dL_law_428 ?_
      refine pz_top (nI (4 * c + 1)) (ix1 (c := c) (d := 1) (by omega)) ?_
      refine pz_sld dL_law_429 (vp_in_nI (by omega) (by omega)) ?_
      refine pz_top (xs (4 * c + 1)) (congrArg xs (nI_clamp (by omega))) ?_
      refine pz_aload_n dL_law_430 rfl ?_
      refine pz_iload dL_law_431 rfl ?_
      refine pz_iconst (v := 2) dL_law_433 rfl ?_
      refine pz_iadd dL_law_434 ?_
      refine pz_top (nI (4 * c + 2)) (ix1 (c := c) (d := 2) (by omega)) ?_
      refine pz_sld dL_law_435 (vp_in_nI (by omega) (by omega)) ?_
      refine pz_top (xs (4 * c + 2)) (congrArg xs (nI_clamp (by omega))) ?_
      refine pz_if_eq 443 dL_law_436 (by decide) (fun c_ => ?_) (fun c_ => absurd hz c_)
      refine pz_iconst (v := 0) dL_law_443 rfl ?_
      refine pz_aload_n dL_law_444 rfl ?_
      refine pz_callW (mi' := mL_operand) (hh := hhL_operand) (As := [.ref (adX 0), .int (xs (4 * c + 1)), .int (0), .ref ow]) dL_law_445 (tw_in 931 (by decide +kernel) (by decide +kernel)) mw_operand ⟨by decide, by decide⟩ rfl rfl (Nat.le_of_ble_eq_true rfl) (wx_operand (p := 22) rt_at (xs (4 * c + 1)) (0) hVX (hC _)) ⟨show k + 1 ≤ 601024 by omega, show n + 6 ≤ 7293034 by omega⟩ (fun v ws1 hv => ?_)
      obtain ⟨τ, r1, hV1, hv, hKX⟩ := hv
      cases hv
      refine pz_kn (k + 1) (n + 6) rfl rfl ?_
      refine pz_ws (ws' := wp G adM LM (cellsE G adX LX τ LX.1 0) [outC G ow (vp_updL f 0 r1.toInt64)] σM) (by rw [rt_set]; rfl) ?_
      refine pz_istore dL_law_448 (by decide) ?_
      refine pz_aload_n dL_law_450 rfl ?_
      refine pz_aload_n dL_law_451 rfl ?_
      refine pz_iload dL_law_452 rfl ?_
      refine pz_iconst (v := 1) dL_law_454 rfl ?_
      refine pz_iadd dL_law_455 ?_
      refine pz_top (nI (4 * c + 1)) (ix1 (c := c) (d := 1) (by omega)) ?_
      refine pz_sld dL_law_456 (vp_in_nI (by omega) (by omega)) ?_
      refine pz_top (xs (4 * c + 1)) (congrArg xs (nI_clamp (by omega))) ?_
      refine pz_aload_n dL_law_457 rfl ?_
      refine pz_iload dL_law_458 rfl ?_
      refine pz_iconst (v := 2) dL_law_460 rfl ?_
      refine pz_iadd dL_law_461 ?_
      refine pz_top (nI (4 * c + 2)) (ix1 (c := c) (d := 2) (by omega)) ?_
      refine pz_sld dL_law_462 (vp_in_nI (by omega) (by omega)) ?_
      refine pz_top (xs (4 * c + 2)) (congrArg xs (nI_clamp (by omega))) ?_
      refine pz_if_eq 470 dL_law_463 (by decide) (fun c_ => ?_) (fun c_ => absurd hz c_)
      refine pz_iconst (v := 0) dL_law_470 rfl ?_
      refine pz_rV1 (mi' := mX11_operand) (As := [.int (xs (4 * c + 1)), .int (0)]) (q := (RX11, TX11, 33)) dL_law_471 lk_RL_114 mk_X11_operand mi_X11_operand me_X11_operand ⟨by decide, by decide⟩ rfl rfl (Nat.le_of_ble_eq_true rfl) rfl rfl ⟨show k + 1 + 0 ≤ 601024 by omega, show n + 6 + 0 ≤ 7293034 by omega⟩ (hM _ _) (fun v ρ hq => ?_)
      obtain ⟨hV2, hth, hKM⟩ := hq
      obtain ⟨r2, rfl⟩ := hVM v hV2
      have er : r1 = r2 := hEq r1 r2 hV1 hV2
      subst er
      refine pz_kn (k + 1) (n + 6) rfl rfl ?_
      refine pz_istore dL_law_474 (by decide) ?_
      refine pz_goto (tgt := 1019) dL_law_476 (by decide) ?_
      refine pz_ws (ws' := wp G adX LX [] (rtM G adM ρ ow (vp_updL f 0 r1.toInt64)) τ) rfl ?_
      exact pz_lk [(0, .ref b), (1, .ref (adX 0)), (2, .ref (adM 0)), (3, .ref ow), (4, .int (nI (4 * c)))] ⟨rfl, rfl, rfl, rfl, rfl, trivial⟩ (kk τ ρ (vp_updL f 0 r1.toInt64) (k + 1) (n + 6) (by omega) (by omega) (hLI _ _ hKX hKM))
    · obtain ⟨hC, hM⟩ := hs
      have hVM : ∀ v : Value, (∃ r : Int32, v = .int r) → ∃ r : Int32, v = .int r := fun v q => q
      refine pz_aload_n dL_law_423 rfl ?_
      refine pz_aload_n dL_law_424 rfl ?_
      refine pz_iload dL_law_425 rfl ?_
      refine pz_iconst (v := 1) dL_law_427 rfl ?_
      refine pz_iadd dL_law_428 ?_
      refine pz_top (nI (4 * c + 1)) (ix1 (c := c) (d := 1) (by omega)) ?_
      refine pz_sld dL_law_429 (vp_in_nI (by omega) (by omega)) ?_
      refine pz_top (xs (4 * c + 1)) (congrArg xs (nI_clamp (by omega))) ?_
      refine pz_aload_n dL_law_430 rfl ?_
      refine pz_iload dL_law_431 rfl ?_
      refine pz_iconst (v := 2) dL_law_433 rfl ?_
      refine pz_iadd dL_law_434 ?_
      refine pz_top (nI (4 * c + 2)) (ix1 (c := c) (d := 2) (by omega)) ?_
      refine pz_sld dL_law_435 (vp_in_nI (by omega) (by omega)) ?_
      refine pz_top (xs (4 * c + 2)) (congrArg xs (nI_clamp (by omega))) ?_
      refine pz_if_eq 443 dL_law_436 (by decide) (fun c_ => ?_) (fun c_ => absurd hz c_)
      refine pz_iconst (v := 0) dL_law_443 rfl ?_
      refine pz_aload_n dL_law_444 rfl ?_
      refine pz_callW (mi' := mL_operand) (hh := hhL_operand) (As := [.ref (adX 0), .int (xs (4 * c + 1)), .int (0), .ref ow]) dL_law_445 (tw_in 931 (by decide +kernel) (by decide +kernel)) mw_operand ⟨by decide, by decide⟩ rfl rfl (Nat.le_of_ble_eq_true rfl) (wt1_operand (xs (4 * c + 1)) (0) (hC _)) ⟨show k + 1 ≤ 601024 by omega, show n + 6 ≤ 7293034 by omega⟩ (fun v ws1 hv => ?_)
      cases hv
      refine pz_kn (k + 1) (n + 6) rfl rfl ?_
      refine pz_ws (ws' := wp G adM LM (cellsE G adX LX σX LX.1 0) [outC G ow f] σM) rfl ?_
      refine pz_istore dL_law_448 (by decide) ?_
      refine pz_aload_n dL_law_450 rfl ?_
      refine pz_aload_n dL_law_451 rfl ?_
      refine pz_iload dL_law_452 rfl ?_
      refine pz_iconst (v := 1) dL_law_454 rfl ?_
      refine pz_iadd dL_law_455 ?_
      refine pz_top (nI (4 * c + 1)) (ix1 (c := c) (d := 1) (by omega)) ?_
      refine pz_sld dL_law_456 (vp_in_nI (by omega) (by omega)) ?_
      refine pz_top (xs (4 * c + 1)) (congrArg xs (nI_clamp (by omega))) ?_
      refine pz_aload_n dL_law_457 rfl ?_
      refine pz_iload dL_law_458 rfl ?_
      refine pz_iconst (v := 2) dL_law_460 rfl ?_
      refine pz_iadd dL_law_461 ?_
      refine pz_top (nI (4 * c + 2)) (ix1 (c := c) (d := 2) (by omega)) ?_
      refine pz_sld dL_law_462 (vp_in_nI (by omega) (by omega)) ?_
      refine pz_top (xs (4 * c + 2)) (congrArg xs (nI_clamp (by omega))) ?_
      refine pz_if_eq 470 dL_law_463 (by decide) (fun c_ => ?_) (fun c_ => absurd hz c_)
      refine pz_iconst (v := 0) dL_law_470 rfl ?_
      refine pz_rV1 (mi' := mX11_operand) (As := [.int (xs (4 * c + 1)), .int (0)]) (q := (RX11, TX11, 33)) dL_law_471 lk_RL_114 mk_X11_operand mi_X11_operand me_X11_operand ⟨by decide, by decide⟩ rfl rfl (Nat.le_of_ble_eq_true rfl) rfl rfl ⟨show k + 1 + 0 ≤ 601024 by omega, show n + 6 + 0 ≤ 7293034 by omega⟩ (hM _ _) (fun v ρ hq => ?_)
      obtain ⟨hV2, hth, hKM⟩ := hq
      obtain ⟨r2, rfl⟩ := hVM v hV2
      refine pz_kn (k + 1) (n + 6) rfl rfl ?_
      refine pz_istore dL_law_474 (by decide) ?_
      refine pz_goto (tgt := 1019) dL_law_476 (by decide) ?_
      refine pz_ws (ws' := wp G adX LX [] (rtM G adM ρ ow f) σX) rfl ?_
      exact pz_lk [(0, .ref b), (1, .ref (adX 0)), (2, .ref (adM 0)), (3, .ref ow), (4, .int (nI (4 * c)))] ⟨rfl, rfl, rfl, rfl, rfl, trivial⟩ (kk σX ρ f (k + 1) (n + 6) (by omega) (by omega) hKM)
  · have hs := sm_operand (l := l) (G := G) (adX := adX) (adM := adM) hl h (xs (4 * c + 1)) true
    rcases hs with hs | hs
    · obtain ⟨r0, KX, KM, hLI, hC, hM⟩ := hs
      have hVX : ∀ v : Value, v = .int r0 → ∃ r : Int32, v = .int r := fun v q => ⟨r0, q⟩
      have hVM := hVX
      have hEq : ∀ r1 r2 : Int32, (.int r1 : Value) = .int r0 → (.int r2 : Value) = .int r0 → r1 = r2 := fun r1 r2 a b => by cases a; cases b; rfl
      refine pz_aload_n dL_law_423 rfl ?_
      refine pz_aload_n dL_law_424 rfl ?_
      refine pz_iload dL_law_425 rfl ?_
      refine pz_iconst (v := 1) dL_law_427 rfl ?_
      refine pz_iadd dL_law_428 ?_
      refine pz_top (nI (4 * c + 1)) (ix1 (c := c) (d := 1) (by omega)) ?_
      refine pz_sld dL_law_429 (vp_in_nI (by omega) (by omega)) ?_
      refine pz_top (xs (4 * c + 1)) (congrArg xs (nI_clamp (by omega))) ?_
      refine pz_aload_n dL_law_430 rfl ?_
      refine pz_iload dL_law_431 rfl ?_
      refine pz_iconst (v := 2) dL_law_433 rfl ?_
      refine pz_iadd dL_law_434 ?_
      refine pz_top (nI (4 * c + 2)) (ix1 (c := c) (d := 2) (by omega)) ?_
      refine pz_sld dL_law_435 (vp_in_nI (by omega) (by omega)) ?_
      refine pz_top (xs (4 * c + 2)) (congrArg xs (nI_clamp (by omega))) ?_
      refine pz_if_eq 443 dL_law_436 (by decide) (fun c_ => absurd c_ hz) (fun c_ => ?_)
      refine pz_iconst (v := 1) dL_law_439 rfl ?_
      refine pz_goto (tgt := 444) dL_law_440 (by decide) ?_
      refine pz_aload_n dL_law_444 rfl ?_
      refine pz_callW (mi' := mL_operand) (hh := hhL_operand) (As := [.ref (adX 0), .int (xs (4 * c + 1)), .int (1), .ref ow]) dL_law_445 (tw_in 931 (by decide +kernel) (by decide +kernel)) mw_operand ⟨by decide, by decide⟩ rfl rfl (Nat.le_of_ble_eq_true rfl) (wx_operand (p := 22) rt_at (xs (4 * c + 1)) (1) hVX (hC _)) ⟨show k + 1 ≤ 601024 by omega, show n + 6 ≤ 7293034 by omega⟩ (fun v ws1 hv => ?_)
      obtain ⟨τ, r1, hV1, hv, hKX⟩ := hv
      cases hv
      refine pz_kn (k + 1) (n + 6) rfl rfl ?_
      refine pz_ws (ws' := wp G adM LM (cellsE G adX LX τ LX.1 0) [outC G ow (vp_updL f 0 r1.toInt64)] σM) (by rw [rt_set]; rfl) ?_
      refine pz_istore dL_law_448 (by decide) ?_
      refine pz_aload_n dL_law_450 rfl ?_
      refine pz_aload_n dL_law_451 rfl ?_
      refine pz_iload dL_law_452 rfl ?_
      refine pz_iconst (v := 1) dL_law_454 rfl ?_
      refine pz_iadd dL_law_455 ?_
      refine pz_top (nI (4 * c + 1)) (ix1 (c := c) (d := 1) (by omega)) ?_
      refine pz_sld dL_law_456 (vp_in_nI (by omega) (by omega)) ?_
      refine pz_top (xs (4 * c + 1)) (congrArg xs (nI_clamp (by omega))) ?_
      refine pz_aload_n dL_law_457 rfl ?_
      refine pz_iload dL_law_458 rfl ?_
      refine pz_iconst (v := 2) dL_law_460 rfl ?_
      refine pz_iadd dL_law_461 ?_
      refine pz_top (nI (4 * c + 2)) (ix1 (c := c) (d := 2) (by omega)) ?_
      refine pz_sld dL_law_462 (vp_in_nI (by omega) (by omega)) ?_
      refine pz_top (xs (4 * c + 2)) (congrArg xs (nI_clamp (by omega))) ?_
      refine pz_if_eq 470 dL_law_463 (by decide) (fun c_ => absurd c_ hz) (fun c_ => ?_)
      refine pz_iconst (v := 1) dL_law_466 rfl ?_
      refine pz_goto (tgt := 471) dL_law_467 (by decide) ?_
      refine pz_rV1 (mi' := mX11_operand) (As := [.int (xs (4 * c + 1)), .int (1)]) (q := (RX11, TX11, 33)) dL_law_471 lk_RL_114 mk_X11_operand mi_X11_operand me_X11_operand ⟨by decide, by decide⟩ rfl rfl (Nat.le_of_ble_eq_true rfl) rfl rfl ⟨show k + 1 + 0 ≤ 601024 by omega, show n + 6 + 0 ≤ 7293034 by omega⟩ (hM _ _) (fun v ρ hq => ?_)
      obtain ⟨hV2, hth, hKM⟩ := hq
      obtain ⟨r2, rfl⟩ := hVM v hV2
      have er : r1 = r2 := hEq r1 r2 hV1 hV2
      subst er
      refine pz_kn (k + 1) (n + 6) rfl rfl ?_
      refine pz_istore dL_law_474 (by decide) ?_
      refine pz_goto (tgt := 1019) dL_law_476 (by decide) ?_
      refine pz_ws (ws' := wp G adX LX [] (rtM G adM ρ ow (vp_updL f 0 r1.toInt64)) τ) rfl ?_
      exact pz_lk [(0, .ref b), (1, .ref (adX 0)), (2, .ref (adM 0)), (3, .ref ow), (4, .int (nI (4 * c)))] ⟨rfl, rfl, rfl, rfl, rfl, trivial⟩ (kk τ ρ (vp_updL f 0 r1.toInt64) (k + 1) (n + 6) (by omega) (by omega) (hLI _ _ hKX hKM))
    · obtain ⟨hC, hM⟩ := hs
      have hVM : ∀ v : Value, (∃ r : Int32, v = .int r) → ∃ r : Int32, v = .int r := fun v q => q
      refine pz_aload_n dL_law_423 rfl ?_
      refine pz_aload_n dL_law_424 rfl ?_
      refine pz_iload dL_law_425 rfl ?_
      refine pz_iconst (v := 1) dL_law_427 rfl ?_
      refine pz_iadd dL_law_428 ?_
      refine pz_top (nI (4 * c + 1)) (ix1 (c := c) (d := 1) (by omega)) ?_
      refine pz_sld dL_law_429 (vp_in_nI (by omega) (by omega)) ?_
      refine pz_top (xs (4 * c + 1)) (congrArg xs (nI_clamp (by omega))) ?_
      refine pz_aload_n dL_law_430 rfl ?_
      refine pz_iload dL_law_431 rfl ?_
      refine pz_iconst (v := 2) dL_law_433 rfl ?_
      refine pz_iadd dL_law_434 ?_
      refine pz_top (nI (4 * c + 2)) (ix1 (c := c) (d := 2) (by omega)) ?_
      refine pz_sld dL_law_435 (vp_in_nI (by omega) (by omega)) ?_
      refine pz_top (xs (4 * c + 2)) (congrArg xs (nI_clamp (by omega))) ?_
      refine pz_if_eq 443 dL_law_436 (by decide) (fun c_ => absurd c_ hz) (fun c_ => ?_)
      refine pz_iconst (v := 1) dL_law_439 rfl ?_
      refine pz_goto (tgt := 444) dL_law_440 (by decide) ?_
      refine pz_aload_n dL_law_444 rfl ?_
      refine pz_callW (mi' := mL_operand) (hh := hhL_operand) (As := [.ref (adX 0), .int (xs (4 * c + 1)), .int (1), .ref ow]) dL_law_445 (tw_in 931 (by decide +kernel) (by decide +kernel)) mw_operand ⟨by decide, by decide⟩ rfl rfl (Nat.le_of_ble_eq_true rfl) (wt1_operand (xs (4 * c + 1)) (1) (hC _)) ⟨show k + 1 ≤ 601024 by omega, show n + 6 ≤ 7293034 by omega⟩ (fun v ws1 hv => ?_)
      cases hv
      refine pz_kn (k + 1) (n + 6) rfl rfl ?_
      refine pz_ws (ws' := wp G adM LM (cellsE G adX LX σX LX.1 0) [outC G ow f] σM) rfl ?_
      refine pz_istore dL_law_448 (by decide) ?_
      refine pz_aload_n dL_law_450 rfl ?_
      refine pz_aload_n dL_law_451 rfl ?_
      refine pz_iload dL_law_452 rfl ?_
      refine pz_iconst (v := 1) dL_law_454 rfl ?_
      refine pz_iadd dL_law_455 ?_
      refine pz_top (nI (4 * c + 1)) (ix1 (c := c) (d := 1) (by omega)) ?_
      refine pz_sld dL_law_456 (vp_in_nI (by omega) (by omega)) ?_
      refine pz_top (xs (4 * c + 1)) (congrArg xs (nI_clamp (by omega))) ?_
      refine pz_aload_n dL_law_457 rfl ?_
      refine pz_iload dL_law_458 rfl ?_
      refine pz_iconst (v := 2) dL_law_460 rfl ?_
      refine pz_iadd dL_law_461 ?_
      refine pz_top (nI (4 * c + 2)) (ix1 (c := c) (d := 2) (by omega)) ?_
      refine pz_sld dL_law_462 (vp_in_nI (by omega) (by omega)) ?_
      refine pz_top (xs (4 * c + 2)) (congrArg xs (nI_clamp (by omega))) ?_
      refine pz_if_eq 470 dL_law_463 (by decide) (fun c_ => absurd c_ hz) (fun c_ => ?_)
      refine pz_iconst (v := 1) dL_law_466 rfl ?_
      refine pz_goto (tgt := 471) dL_law_467 (by decide) ?_
      refine pz_rV1 (mi' := mX11_operand) (As := [.int (xs (4 * c + 1)), .int (1)]) (q := (RX11, TX11, 33)) dL_law_471 lk_RL_114 mk_X11_operand mi_X11_operand me_X11_operand ⟨by decide, by decide⟩ rfl rfl (Nat.le_of_ble_eq_true rfl) rfl rfl ⟨show k + 1 + 0 ≤ 601024 by omega, show n + 6 + 0 ≤ 7293034 by omega⟩ (hM _ _) (fun v ρ hq => ?_)
      obtain ⟨hV2, hth, hKM⟩ := hq
      obtain ⟨r2, rfl⟩ := hVM v hV2
      refine pz_kn (k + 1) (n + 6) rfl rfl ?_
      refine pz_istore dL_law_474 (by decide) ?_
      refine pz_goto (tgt := 1019) dL_law_476 (by decide) ?_
      refine pz_ws (ws' := wp G adX LX [] (rtM G adM ρ ow f) σX) rfl ?_
      exact pz_lk [(0, .ref b), (1, .ref (adX 0)), (2, .ref (adM 0)), (3, .ref ow), (4, .int (nI (4 * c)))] ⟨rfl, rfl, rfl, rfl, rfl, trivial⟩ (kk σX ρ f (k + 1) (n + 6) (by omega) (by omega) hKM)
theorem lc_state (hl : l.stackTraces = false) (hcL : 4 * c + 4 ≤ L) (hL : L ≤ 2048) (hk : k + 1100 ≤ 601024) (hn : n + 14000 ≤ 7293034) (kk : GoOn l G b L sz c k n xs adX adM ow) (h : LI σX σM) : PZ (XL b L xs) QL l G mL_law [] sz 479 [(0, .ref b), (1, .ref (adX 0)), (2, .ref (adM 0)), (3, .ref ow), (4, .int (nI (4 * c)))] [] k n (wp G adX LX [] (rtM G adM σM ow f) σX) := by
  have hs := sm_state (l := l) (G := G) (adX := adX) (adM := adM) hl h (xs (4 * c + 1))
  rcases hs with hs | hs
  · obtain ⟨KX, KM, hLI, hC, hM⟩ := hs
    have hVX : ∀ v : Value, (∃ r : Int32, v = .int r) → ∃ r : Int32, v = .int r := fun v q => q
    have hVM := hVX
    refine pz_aload_n dL_law_479 rfl ?_
    refine pz_aload_n dL_law_480 rfl ?_
    refine pz_iload dL_law_481 rfl ?_
    refine pz_iconst (v := 1) dL_law_483 rfl ?_
    refine pz_iadd dL_law_484 ?_
    refine pz_top (nI (4 * c + 1)) (ix1 (c := c) (d := 1) (by omega)) ?_
    refine pz_sld dL_law_485 (vp_in_nI (by omega) (by omega)) ?_
    refine pz_top (xs (4 * c + 1)) (congrArg xs (nI_clamp (by omega))) ?_
    refine pz_aload_n dL_law_486 rfl ?_
    refine pz_callW (mi' := mL_state) (hh := hhL_state) (As := [.ref (adX 0), .int (xs (4 * c + 1)), .ref ow]) dL_law_487 (tw_in 938 (by decide +kernel) (by decide +kernel)) mw_state ⟨by decide, by decide⟩ rfl rfl (Nat.le_of_ble_eq_true rfl) (wx_state (p := 22) rt_at (xs (4 * c + 1)) hVX (hC _)) ⟨show k + 1 ≤ 601024 by omega, show n + 6 ≤ 7293034 by omega⟩ (fun v ws1 hv => ?_)
    obtain ⟨τ, r1, hV1, hv, hKX⟩ := hv
    cases hv
    refine pz_kn (k + 1) (n + 6) rfl rfl ?_
    refine pz_ws (ws' := wp G adM LM (cellsE G adX LX τ LX.1 0) [outC G ow (vp_updL f 0 r1.toInt64)] σM) (by rw [rt_set]; rfl) ?_
    refine pz_istore dL_law_490 (by decide) ?_
    refine pz_aload_n dL_law_492 rfl ?_
    refine pz_aload_n dL_law_493 rfl ?_
    refine pz_iload dL_law_494 rfl ?_
    refine pz_iconst (v := 1) dL_law_496 rfl ?_
    refine pz_iadd dL_law_497 ?_
    refine pz_top (nI (4 * c + 1)) (ix1 (c := c) (d := 1) (by omega)) ?_
    refine pz_sld dL_law_498 (vp_in_nI (by omega) (by omega)) ?_
    refine pz_top (xs (4 * c + 1)) (congrArg xs (nI_clamp (by omega))) ?_
    refine pz_rV1 (mi' := mX11_state) (As := [.int (xs (4 * c + 1))]) (q := (RX11, TX11, 33)) dL_law_499 lk_RL_117 mk_X11_state mi_X11_state me_X11_state ⟨by decide, by decide⟩ rfl rfl (Nat.le_of_ble_eq_true rfl) rfl rfl ⟨show k + 1 + 0 ≤ 601024 by omega, show n + 6 + 0 ≤ 7293034 by omega⟩ (hM _ _) (fun v ρ hq => ?_)
    obtain ⟨hV2, hth, hKM⟩ := hq
    obtain ⟨r2, rfl⟩ := hVM v hV2
    refine pz_kn (k + 1) (n + 6) rfl rfl ?_
    refine pz_istore dL_law_502 (by decide) ?_
    refine pz_goto (tgt := 1019) dL_law_504 (by decide) ?_
    refine pz_ws (ws' := wp G adX LX [] (rtM G adM ρ ow (vp_updL f 0 r1.toInt64)) τ) rfl ?_
    exact pz_lk [(0, .ref b), (1, .ref (adX 0)), (2, .ref (adM 0)), (3, .ref ow), (4, .int (nI (4 * c)))] ⟨rfl, rfl, rfl, rfl, rfl, trivial⟩ (kk τ ρ (vp_updL f 0 r1.toInt64) (k + 1) (n + 6) (by omega) (by omega) (hLI _ _ hKX hKM))
  · obtain ⟨hC, hM⟩ := hs
    have hVM : ∀ v : Value, (∃ r : Int32, v = .int r) → ∃ r : Int32, v = .int r := fun v q => q
    refine pz_aload_n dL_law_479 rfl ?_
    refine pz_aload_n dL_law_480 rfl ?_
    refine pz_iload dL_law_481 rfl ?_
    refine pz_iconst (v := 1) dL_law_483 rfl ?_
    refine pz_iadd dL_law_484 ?_
    refine pz_top (nI (4 * c + 1)) (ix1 (c := c) (d := 1) (by omega)) ?_
    refine pz_sld dL_law_485 (vp_in_nI (by omega) (by omega)) ?_
    refine pz_top (xs (4 * c + 1)) (congrArg xs (nI_clamp (by omega))) ?_
    refine pz_aload_n dL_law_486 rfl ?_
    refine pz_callW (mi' := mL_state) (hh := hhL_state) (As := [.ref (adX 0), .int (xs (4 * c + 1)), .ref ow]) dL_law_487 (tw_in 938 (by decide +kernel) (by decide +kernel)) mw_state ⟨by decide, by decide⟩ rfl rfl (Nat.le_of_ble_eq_true rfl) (wt1_state (xs (4 * c + 1)) (hC _)) ⟨show k + 1 ≤ 601024 by omega, show n + 6 ≤ 7293034 by omega⟩ (fun v ws1 hv => ?_)
    cases hv
    refine pz_kn (k + 1) (n + 6) rfl rfl ?_
    refine pz_ws (ws' := wp G adM LM (cellsE G adX LX σX LX.1 0) [outC G ow f] σM) rfl ?_
    refine pz_istore dL_law_490 (by decide) ?_
    refine pz_aload_n dL_law_492 rfl ?_
    refine pz_aload_n dL_law_493 rfl ?_
    refine pz_iload dL_law_494 rfl ?_
    refine pz_iconst (v := 1) dL_law_496 rfl ?_
    refine pz_iadd dL_law_497 ?_
    refine pz_top (nI (4 * c + 1)) (ix1 (c := c) (d := 1) (by omega)) ?_
    refine pz_sld dL_law_498 (vp_in_nI (by omega) (by omega)) ?_
    refine pz_top (xs (4 * c + 1)) (congrArg xs (nI_clamp (by omega))) ?_
    refine pz_rV1 (mi' := mX11_state) (As := [.int (xs (4 * c + 1))]) (q := (RX11, TX11, 33)) dL_law_499 lk_RL_117 mk_X11_state mi_X11_state me_X11_state ⟨by decide, by decide⟩ rfl rfl (Nat.le_of_ble_eq_true rfl) rfl rfl ⟨show k + 1 + 0 ≤ 601024 by omega, show n + 6 + 0 ≤ 7293034 by omega⟩ (hM _ _) (fun v ρ hq => ?_)
    obtain ⟨hV2, hth, hKM⟩ := hq
    obtain ⟨r2, rfl⟩ := hVM v hV2
    refine pz_kn (k + 1) (n + 6) rfl rfl ?_
    refine pz_istore dL_law_502 (by decide) ?_
    refine pz_goto (tgt := 1019) dL_law_504 (by decide) ?_
    refine pz_ws (ws' := wp G adX LX [] (rtM G adM ρ ow f) σX) rfl ?_
    exact pz_lk [(0, .ref b), (1, .ref (adX 0)), (2, .ref (adM 0)), (3, .ref ow), (4, .int (nI (4 * c)))] ⟨rfl, rfl, rfl, rfl, rfl, trivial⟩ (kk σX ρ f (k + 1) (n + 6) (by omega) (by omega) hKM)
theorem lc_states (hl : l.stackTraces = false) (hcL : 4 * c + 4 ≤ L) (hL : L ≤ 2048) (hk : k + 1100 ≤ 601024) (hn : n + 14000 ≤ 7293034) (kk : GoOn l G b L sz c k n xs adX adM ow) (h : LI σX σM) : PZ (XL b L xs) QL l G mL_law [] sz 507 [(0, .ref b), (1, .ref (adX 0)), (2, .ref (adM 0)), (3, .ref ow), (4, .int (nI (4 * c)))] [] k n (wp G adX LX [] (rtM G adM σM ow f) σX) := by
  have hs := sm_states (l := l) (G := G) (adX := adX) (adM := adM) hl h (xs (4 * c + 1))
  rcases hs with hs | hs
  · obtain ⟨KX, KM, hLI, hC, hM⟩ := hs
    have hVX : ∀ v : Value, (∃ r : Int32, v = .int r) → ∃ r : Int32, v = .int r := fun v q => q
    have hVM := hVX
    refine pz_aload_n dL_law_507 rfl ?_
    refine pz_aload_n dL_law_508 rfl ?_
    refine pz_iload dL_law_509 rfl ?_
    refine pz_iconst (v := 1) dL_law_511 rfl ?_
    refine pz_iadd dL_law_512 ?_
    refine pz_top (nI (4 * c + 1)) (ix1 (c := c) (d := 1) (by omega)) ?_
    refine pz_sld dL_law_513 (vp_in_nI (by omega) (by omega)) ?_
    refine pz_top (xs (4 * c + 1)) (congrArg xs (nI_clamp (by omega))) ?_
    refine pz_aload_n dL_law_514 rfl ?_
    refine pz_callW (mi' := mL_states) (hh := hhL_states) (As := [.ref (adX 0), .int (xs (4 * c + 1)), .ref ow]) dL_law_515 (tw_in 945 (by decide +kernel) (by decide +kernel)) mw_states ⟨by decide, by decide⟩ rfl rfl (Nat.le_of_ble_eq_true rfl) (wx_states (p := 22) rt_at (xs (4 * c + 1)) hVX (hC _)) ⟨show k + 1 ≤ 601024 by omega, show n + 6 ≤ 7293034 by omega⟩ (fun v ws1 hv => ?_)
    obtain ⟨τ, r1, hV1, hv, hKX⟩ := hv
    cases hv
    refine pz_kn (k + 1) (n + 6) rfl rfl ?_
    refine pz_ws (ws' := wp G adM LM (cellsE G adX LX τ LX.1 0) [outC G ow (vp_updL f 0 r1.toInt64)] σM) (by rw [rt_set]; rfl) ?_
    refine pz_istore dL_law_518 (by decide) ?_
    refine pz_aload_n dL_law_520 rfl ?_
    refine pz_aload_n dL_law_521 rfl ?_
    refine pz_iload dL_law_522 rfl ?_
    refine pz_iconst (v := 1) dL_law_524 rfl ?_
    refine pz_iadd dL_law_525 ?_
    refine pz_top (nI (4 * c + 1)) (ix1 (c := c) (d := 1) (by omega)) ?_
    refine pz_sld dL_law_526 (vp_in_nI (by omega) (by omega)) ?_
    refine pz_top (xs (4 * c + 1)) (congrArg xs (nI_clamp (by omega))) ?_
    refine pz_rV1 (mi' := mX11_states) (As := [.int (xs (4 * c + 1))]) (q := (RX11, TX11, 33)) dL_law_527 lk_RL_120 mk_X11_states mi_X11_states me_X11_states ⟨by decide, by decide⟩ rfl rfl (Nat.le_of_ble_eq_true rfl) rfl rfl ⟨show k + 1 + 0 ≤ 601024 by omega, show n + 6 + 0 ≤ 7293034 by omega⟩ (hM _ _) (fun v ρ hq => ?_)
    obtain ⟨hV2, hth, hKM⟩ := hq
    obtain ⟨r2, rfl⟩ := hVM v hV2
    refine pz_kn (k + 1) (n + 6) rfl rfl ?_
    refine pz_istore dL_law_530 (by decide) ?_
    refine pz_goto (tgt := 1019) dL_law_532 (by decide) ?_
    refine pz_ws (ws' := wp G adX LX [] (rtM G adM ρ ow (vp_updL f 0 r1.toInt64)) τ) rfl ?_
    exact pz_lk [(0, .ref b), (1, .ref (adX 0)), (2, .ref (adM 0)), (3, .ref ow), (4, .int (nI (4 * c)))] ⟨rfl, rfl, rfl, rfl, rfl, trivial⟩ (kk τ ρ (vp_updL f 0 r1.toInt64) (k + 1) (n + 6) (by omega) (by omega) (hLI _ _ hKX hKM))
  · obtain ⟨hC, hM⟩ := hs
    have hVM : ∀ v : Value, (∃ r : Int32, v = .int r) → ∃ r : Int32, v = .int r := fun v q => q
    refine pz_aload_n dL_law_507 rfl ?_
    refine pz_aload_n dL_law_508 rfl ?_
    refine pz_iload dL_law_509 rfl ?_
    refine pz_iconst (v := 1) dL_law_511 rfl ?_
    refine pz_iadd dL_law_512 ?_
    refine pz_top (nI (4 * c + 1)) (ix1 (c := c) (d := 1) (by omega)) ?_
    refine pz_sld dL_law_513 (vp_in_nI (by omega) (by omega)) ?_
    refine pz_top (xs (4 * c + 1)) (congrArg xs (nI_clamp (by omega))) ?_
    refine pz_aload_n dL_law_514 rfl ?_
    refine pz_callW (mi' := mL_states) (hh := hhL_states) (As := [.ref (adX 0), .int (xs (4 * c + 1)), .ref ow]) dL_law_515 (tw_in 945 (by decide +kernel) (by decide +kernel)) mw_states ⟨by decide, by decide⟩ rfl rfl (Nat.le_of_ble_eq_true rfl) (wt1_states (xs (4 * c + 1)) (hC _)) ⟨show k + 1 ≤ 601024 by omega, show n + 6 ≤ 7293034 by omega⟩ (fun v ws1 hv => ?_)
    cases hv
    refine pz_kn (k + 1) (n + 6) rfl rfl ?_
    refine pz_ws (ws' := wp G adM LM (cellsE G adX LX σX LX.1 0) [outC G ow f] σM) rfl ?_
    refine pz_istore dL_law_518 (by decide) ?_
    refine pz_aload_n dL_law_520 rfl ?_
    refine pz_aload_n dL_law_521 rfl ?_
    refine pz_iload dL_law_522 rfl ?_
    refine pz_iconst (v := 1) dL_law_524 rfl ?_
    refine pz_iadd dL_law_525 ?_
    refine pz_top (nI (4 * c + 1)) (ix1 (c := c) (d := 1) (by omega)) ?_
    refine pz_sld dL_law_526 (vp_in_nI (by omega) (by omega)) ?_
    refine pz_top (xs (4 * c + 1)) (congrArg xs (nI_clamp (by omega))) ?_
    refine pz_rV1 (mi' := mX11_states) (As := [.int (xs (4 * c + 1))]) (q := (RX11, TX11, 33)) dL_law_527 lk_RL_120 mk_X11_states mi_X11_states me_X11_states ⟨by decide, by decide⟩ rfl rfl (Nat.le_of_ble_eq_true rfl) rfl rfl ⟨show k + 1 + 0 ≤ 601024 by omega, show n + 6 + 0 ≤ 7293034 by omega⟩ (hM _ _) (fun v ρ hq => ?_)
    obtain ⟨hV2, hth, hKM⟩ := hq
    obtain ⟨r2, rfl⟩ := hVM v hV2
    refine pz_kn (k + 1) (n + 6) rfl rfl ?_
    refine pz_istore dL_law_530 (by decide) ?_
    refine pz_goto (tgt := 1019) dL_law_532 (by decide) ?_
    refine pz_ws (ws' := wp G adX LX [] (rtM G adM ρ ow f) σX) rfl ?_
    exact pz_lk [(0, .ref b), (1, .ref (adX 0)), (2, .ref (adM 0)), (3, .ref ow), (4, .int (nI (4 * c)))] ⟨rfl, rfl, rfl, rfl, rfl, trivial⟩ (kk σX ρ f (k + 1) (n + 6) (by omega) (by omega) hKM)
theorem lc_coveredBy (hl : l.stackTraces = false) (hcL : 4 * c + 4 ≤ L) (hL : L ≤ 2048) (hk : k + 1100 ≤ 601024) (hn : n + 14000 ≤ 7293034) (kk : GoOn l G b L sz c k n xs adX adM ow) (h : LI σX σM) : PZ (XL b L xs) QL l G mL_law [] sz 535 [(0, .ref b), (1, .ref (adX 0)), (2, .ref (adM 0)), (3, .ref ow), (4, .int (nI (4 * c)))] [] k n (wp G adX LX [] (rtM G adM σM ow f) σX) := by
  have hs := sm_coveredBy (l := l) (G := G) (adX := adX) (adM := adM) hl h (xs (4 * c + 1))
  rcases hs with hs | hs
  · obtain ⟨KX, KM, hLI, hC, hM⟩ := hs
    have hVX : ∀ v : Value, (∃ r : Int32, v = .int r) → ∃ r : Int32, v = .int r := fun v q => q
    have hVM := hVX
    refine pz_aload_n dL_law_535 rfl ?_
    refine pz_aload_n dL_law_536 rfl ?_
    refine pz_iload dL_law_537 rfl ?_
    refine pz_iconst (v := 1) dL_law_539 rfl ?_
    refine pz_iadd dL_law_540 ?_
    refine pz_top (nI (4 * c + 1)) (ix1 (c := c) (d := 1) (by omega)) ?_
    refine pz_sld dL_law_541 (vp_in_nI (by omega) (by omega)) ?_
    refine pz_top (xs (4 * c + 1)) (congrArg xs (nI_clamp (by omega))) ?_
    refine pz_aload_n dL_law_542 rfl ?_
    refine pz_callW (mi' := mL_coveredBy) (hh := hhL_coveredBy) (As := [.ref (adX 0), .int (xs (4 * c + 1)), .ref ow]) dL_law_543 (tw_in 953 (by decide +kernel) (by decide +kernel)) mw_coveredBy ⟨by decide, by decide⟩ rfl rfl (Nat.le_of_ble_eq_true rfl) (wx_coveredBy (p := 22) rt_at (xs (4 * c + 1)) hVX (hC _)) ⟨show k + 1 ≤ 601024 by omega, show n + 6 ≤ 7293034 by omega⟩ (fun v ws1 hv => ?_)
    obtain ⟨τ, r1, hV1, hv, hKX⟩ := hv
    cases hv
    refine pz_kn (k + 1) (n + 6) rfl rfl ?_
    refine pz_ws (ws' := wp G adM LM (cellsE G adX LX τ LX.1 0) [outC G ow (vp_updL f 0 r1.toInt64)] σM) (by rw [rt_set]; rfl) ?_
    refine pz_istore dL_law_546 (by decide) ?_
    refine pz_aload_n dL_law_548 rfl ?_
    refine pz_aload_n dL_law_549 rfl ?_
    refine pz_iload dL_law_550 rfl ?_
    refine pz_iconst (v := 1) dL_law_552 rfl ?_
    refine pz_iadd dL_law_553 ?_
    refine pz_top (nI (4 * c + 1)) (ix1 (c := c) (d := 1) (by omega)) ?_
    refine pz_sld dL_law_554 (vp_in_nI (by omega) (by omega)) ?_
    refine pz_top (xs (4 * c + 1)) (congrArg xs (nI_clamp (by omega))) ?_
    refine pz_rV1 (mi' := mX11_coveredBy) (As := [.int (xs (4 * c + 1))]) (q := (RX11, TX11, 33)) dL_law_555 lk_RL_123 mk_X11_coveredBy mi_X11_coveredBy me_X11_coveredBy ⟨by decide, by decide⟩ rfl rfl (Nat.le_of_ble_eq_true rfl) rfl rfl ⟨show k + 1 + 0 ≤ 601024 by omega, show n + 6 + 0 ≤ 7293034 by omega⟩ (hM _ _) (fun v ρ hq => ?_)
    obtain ⟨hV2, hth, hKM⟩ := hq
    obtain ⟨r2, rfl⟩ := hVM v hV2
    refine pz_kn (k + 1) (n + 6) rfl rfl ?_
    refine pz_istore dL_law_558 (by decide) ?_
    refine pz_goto (tgt := 1019) dL_law_560 (by decide) ?_
    refine pz_ws (ws' := wp G adX LX [] (rtM G adM ρ ow (vp_updL f 0 r1.toInt64)) τ) rfl ?_
    exact pz_lk [(0, .ref b), (1, .ref (adX 0)), (2, .ref (adM 0)), (3, .ref ow), (4, .int (nI (4 * c)))] ⟨rfl, rfl, rfl, rfl, rfl, trivial⟩ (kk τ ρ (vp_updL f 0 r1.toInt64) (k + 1) (n + 6) (by omega) (by omega) (hLI _ _ hKX hKM))
  · obtain ⟨hC, hM⟩ := hs
    have hVM : ∀ v : Value, (∃ r : Int32, v = .int r) → ∃ r : Int32, v = .int r := fun v q => q
    refine pz_aload_n dL_law_535 rfl ?_
    refine pz_aload_n dL_law_536 rfl ?_
    refine pz_iload dL_law_537 rfl ?_
    refine pz_iconst (v := 1) dL_law_539 rfl ?_
    refine pz_iadd dL_law_540 ?_
    refine pz_top (nI (4 * c + 1)) (ix1 (c := c) (d := 1) (by omega)) ?_
    refine pz_sld dL_law_541 (vp_in_nI (by omega) (by omega)) ?_
    refine pz_top (xs (4 * c + 1)) (congrArg xs (nI_clamp (by omega))) ?_
    refine pz_aload_n dL_law_542 rfl ?_
    refine pz_callW (mi' := mL_coveredBy) (hh := hhL_coveredBy) (As := [.ref (adX 0), .int (xs (4 * c + 1)), .ref ow]) dL_law_543 (tw_in 953 (by decide +kernel) (by decide +kernel)) mw_coveredBy ⟨by decide, by decide⟩ rfl rfl (Nat.le_of_ble_eq_true rfl) (wt1_coveredBy (xs (4 * c + 1)) (hC _)) ⟨show k + 1 ≤ 601024 by omega, show n + 6 ≤ 7293034 by omega⟩ (fun v ws1 hv => ?_)
    cases hv
    refine pz_kn (k + 1) (n + 6) rfl rfl ?_
    refine pz_ws (ws' := wp G adM LM (cellsE G adX LX σX LX.1 0) [outC G ow f] σM) rfl ?_
    refine pz_istore dL_law_546 (by decide) ?_
    refine pz_aload_n dL_law_548 rfl ?_
    refine pz_aload_n dL_law_549 rfl ?_
    refine pz_iload dL_law_550 rfl ?_
    refine pz_iconst (v := 1) dL_law_552 rfl ?_
    refine pz_iadd dL_law_553 ?_
    refine pz_top (nI (4 * c + 1)) (ix1 (c := c) (d := 1) (by omega)) ?_
    refine pz_sld dL_law_554 (vp_in_nI (by omega) (by omega)) ?_
    refine pz_top (xs (4 * c + 1)) (congrArg xs (nI_clamp (by omega))) ?_
    refine pz_rV1 (mi' := mX11_coveredBy) (As := [.int (xs (4 * c + 1))]) (q := (RX11, TX11, 33)) dL_law_555 lk_RL_123 mk_X11_coveredBy mi_X11_coveredBy me_X11_coveredBy ⟨by decide, by decide⟩ rfl rfl (Nat.le_of_ble_eq_true rfl) rfl rfl ⟨show k + 1 + 0 ≤ 601024 by omega, show n + 6 + 0 ≤ 7293034 by omega⟩ (hM _ _) (fun v ρ hq => ?_)
    obtain ⟨hV2, hth, hKM⟩ := hq
    obtain ⟨r2, rfl⟩ := hVM v hV2
    refine pz_kn (k + 1) (n + 6) rfl rfl ?_
    refine pz_istore dL_law_558 (by decide) ?_
    refine pz_goto (tgt := 1019) dL_law_560 (by decide) ?_
    refine pz_ws (ws' := wp G adX LX [] (rtM G adM ρ ow f) σX) rfl ?_
    exact pz_lk [(0, .ref b), (1, .ref (adX 0)), (2, .ref (adM 0)), (3, .ref ow), (4, .int (nI (4 * c)))] ⟨rfl, rfl, rfl, rfl, rfl, trivial⟩ (kk σX ρ f (k + 1) (n + 6) (by omega) (by omega) hKM)
theorem lc_range (hl : l.stackTraces = false) (hcL : 4 * c + 4 ≤ L) (hL : L ≤ 2048) (hk : k + 1100 ≤ 601024) (hn : n + 14000 ≤ 7293034) (kk : GoOn l G b L sz c k n xs adX adM ow) (h : LI σX σM) : PZ (XL b L xs) QL l G mL_law [] sz 563 [(0, .ref b), (1, .ref (adX 0)), (2, .ref (adM 0)), (3, .ref ow), (4, .int (nI (4 * c)))] [] k n (wp G adX LX [] (rtM G adM σM ow f) σX) := by
  by_cases hz : xs (4 * c + 2) = 0
  · have hs := sm_range (l := l) (G := G) (adX := adX) (adM := adM) hl h (xs (4 * c + 1)) false
    rcases hs with hs | hs | hs
    · obtain ⟨r0, KX, KM, hLI, hC, hM⟩ := hs
      have hVX : ∀ v : Value, v = .long r0 → ∃ r : Int64, v = .long r := fun v q => ⟨r0, q⟩
      have hVM := hVX
      have hEq : ∀ r1 r2 : Int64, (.long r1 : Value) = .long r0 → (.long r2 : Value) = .long r0 → r1 = r2 := fun r1 r2 a b => by cases a; cases b; rfl
      refine pz_aload_n dL_law_563 rfl ?_
      refine pz_aload_n dL_law_564 rfl ?_
      refine pz_iload dL_law_565 rfl ?_
      refine pz_iconst (v := 1) dL_law_567 rfl ?_
      refine pz_iadd dL_law_568 ?_
      refine pz_top (nI (4 * c + 1)) (ix1 (c := c) (d := 1) (by omega)) ?_
      refine pz_sld dL_law_569 (vp_in_nI (by omega) (by omega)) ?_
      refine pz_top (xs (4 * c + 1)) (congrArg xs (nI_clamp (by omega))) ?_
      refine pz_aload_n dL_law_570 rfl ?_
      refine pz_iload dL_law_571 rfl ?_
      refine pz_iconst (v := 2) dL_law_573 rfl ?_
      refine pz_iadd dL_law_574 ?_
      refine pz_top (nI (4 * c + 2)) (ix1 (c := c) (d := 2) (by omega)) ?_
      refine pz_sld dL_law_575 (vp_in_nI (by omega) (by omega)) ?_
      refine pz_top (xs (4 * c + 2)) (congrArg xs (nI_clamp (by omega))) ?_
      refine pz_if_eq 583 dL_law_576 (by decide) (fun c_ => ?_) (fun c_ => absurd hz c_)
      refine pz_iconst (v := 0) dL_law_583 rfl ?_
      refine pz_aload_n dL_law_584 rfl ?_
      refine pz_callW (mi' := mL_range) (hh := hhL_range) (As := [.ref (adX 0), .int (xs (4 * c + 1)), .int (0), .ref ow]) dL_law_585 (tw_in 960 (by decide +kernel) (by decide +kernel)) mw_range ⟨by decide, by decide⟩ rfl rfl (Nat.le_of_ble_eq_true rfl) (wx_range (p := 22) rt_at (xs (4 * c + 1)) (0) hVX (hC _)) ⟨show k + 2 ≤ 601024 by omega, show n + 12 ≤ 7293034 by omega⟩ (fun v ws1 hv => ?_)
      obtain ⟨τ, r1, hV1, hv, hKX⟩ := hv
      cases hv
      refine pz_kn (k + 2) (n + 12) rfl rfl ?_
      refine pz_ws (ws' := wp G adM LM (cellsE G adX LX τ LX.1 0) [outC G ow (vp_updL f 0 r1)] σM) (by rw [rt_set]; rfl) ?_
      refine pz_istore dL_law_588 (by decide) ?_
      refine pz_aload_n dL_law_590 rfl ?_
      refine pz_aload_n dL_law_591 rfl ?_
      refine pz_iload dL_law_592 rfl ?_
      refine pz_iconst (v := 1) dL_law_594 rfl ?_
      refine pz_iadd dL_law_595 ?_
      refine pz_top (nI (4 * c + 1)) (ix1 (c := c) (d := 1) (by omega)) ?_
      refine pz_sld dL_law_596 (vp_in_nI (by omega) (by omega)) ?_
      refine pz_top (xs (4 * c + 1)) (congrArg xs (nI_clamp (by omega))) ?_
      refine pz_aload_n dL_law_597 rfl ?_
      refine pz_iload dL_law_598 rfl ?_
      refine pz_iconst (v := 2) dL_law_600 rfl ?_
      refine pz_iadd dL_law_601 ?_
      refine pz_top (nI (4 * c + 2)) (ix1 (c := c) (d := 2) (by omega)) ?_
      refine pz_sld dL_law_602 (vp_in_nI (by omega) (by omega)) ?_
      refine pz_top (xs (4 * c + 2)) (congrArg xs (nI_clamp (by omega))) ?_
      refine pz_if_eq 610 dL_law_603 (by decide) (fun c_ => ?_) (fun c_ => absurd hz c_)
      refine pz_iconst (v := 0) dL_law_610 rfl ?_
      refine pz_rV1 (mi' := mX11_range) (As := [.int (xs (4 * c + 1)), .int (0)]) (q := (RX11, TX11, 33)) dL_law_611 lk_RL_126 mk_X11_range mi_X11_range me_X11_range ⟨by decide, by decide⟩ rfl rfl (Nat.le_of_ble_eq_true rfl) rfl rfl ⟨show k + 2 + 0 ≤ 601024 by omega, show n + 12 + 0 ≤ 7293034 by omega⟩ (hM _ _) (fun v ρ hq => ?_)
      obtain ⟨hV2, hth, hKM⟩ := hq
      obtain ⟨r2, rfl⟩ := hVM v hV2
      have er : r1 = r2 := hEq r1 r2 hV1 hV2
      subst er
      refine pz_kn (k + 2) (n + 12) rfl rfl ?_
      refine pz_lstore dL_law_614 (by decide) ?_
      refine pz_goto (tgt := 1019) dL_law_616 (by decide) ?_
      refine pz_ws (ws' := wp G adX LX [] (rtM G adM ρ ow (vp_updL f 0 r1)) τ) rfl ?_
      exact pz_lk [(0, .ref b), (1, .ref (adX 0)), (2, .ref (adM 0)), (3, .ref ow), (4, .int (nI (4 * c)))] ⟨rfl, rfl, rfl, rfl, rfl, trivial⟩ (kk τ ρ (vp_updL f 0 r1) (k + 2) (n + 12) (by omega) (by omega) (hLI _ _ hKX hKM))
    · obtain ⟨hC, hM⟩ := hs
      have hVM : ∀ v : Value, (∃ r : Int64, v = .long r) → ∃ r : Int64, v = .long r := fun v q => q
      refine pz_aload_n dL_law_563 rfl ?_
      refine pz_aload_n dL_law_564 rfl ?_
      refine pz_iload dL_law_565 rfl ?_
      refine pz_iconst (v := 1) dL_law_567 rfl ?_
      refine pz_iadd dL_law_568 ?_
      refine pz_top (nI (4 * c + 1)) (ix1 (c := c) (d := 1) (by omega)) ?_
      refine pz_sld dL_law_569 (vp_in_nI (by omega) (by omega)) ?_
      refine pz_top (xs (4 * c + 1)) (congrArg xs (nI_clamp (by omega))) ?_
      refine pz_aload_n dL_law_570 rfl ?_
      refine pz_iload dL_law_571 rfl ?_
      refine pz_iconst (v := 2) dL_law_573 rfl ?_
      refine pz_iadd dL_law_574 ?_
      refine pz_top (nI (4 * c + 2)) (ix1 (c := c) (d := 2) (by omega)) ?_
      refine pz_sld dL_law_575 (vp_in_nI (by omega) (by omega)) ?_
      refine pz_top (xs (4 * c + 2)) (congrArg xs (nI_clamp (by omega))) ?_
      refine pz_if_eq 583 dL_law_576 (by decide) (fun c_ => ?_) (fun c_ => absurd hz c_)
      refine pz_iconst (v := 0) dL_law_583 rfl ?_
      refine pz_aload_n dL_law_584 rfl ?_
      refine pz_callW (mi' := mL_range) (hh := hhL_range) (As := [.ref (adX 0), .int (xs (4 * c + 1)), .int (0), .ref ow]) dL_law_585 (tw_in 960 (by decide +kernel) (by decide +kernel)) mw_range ⟨by decide, by decide⟩ rfl rfl (Nat.le_of_ble_eq_true rfl) (wt1_range (xs (4 * c + 1)) (0) (hC _)) ⟨show k + 2 ≤ 601024 by omega, show n + 12 ≤ 7293034 by omega⟩ (fun v ws1 hv => ?_)
      cases hv
      refine pz_kn (k + 2) (n + 12) rfl rfl ?_
      refine pz_ws (ws' := wp G adM LM (cellsE G adX LX σX LX.1 0) [outC G ow f] σM) rfl ?_
      refine pz_istore dL_law_588 (by decide) ?_
      refine pz_aload_n dL_law_590 rfl ?_
      refine pz_aload_n dL_law_591 rfl ?_
      refine pz_iload dL_law_592 rfl ?_
      refine pz_iconst (v := 1) dL_law_594 rfl ?_
      refine pz_iadd dL_law_595 ?_
      refine pz_top (nI (4 * c + 1)) (ix1 (c := c) (d := 1) (by omega)) ?_
      refine pz_sld dL_law_596 (vp_in_nI (by omega) (by omega)) ?_
      refine pz_top (xs (4 * c + 1)) (congrArg xs (nI_clamp (by omega))) ?_
      refine pz_aload_n dL_law_597 rfl ?_
      refine pz_iload dL_law_598 rfl ?_
      refine pz_iconst (v := 2) dL_law_600 rfl ?_
      refine pz_iadd dL_law_601 ?_
      refine pz_top (nI (4 * c + 2)) (ix1 (c := c) (d := 2) (by omega)) ?_
      refine pz_sld dL_law_602 (vp_in_nI (by omega) (by omega)) ?_
      refine pz_top (xs (4 * c + 2)) (congrArg xs (nI_clamp (by omega))) ?_
      refine pz_if_eq 610 dL_law_603 (by decide) (fun c_ => ?_) (fun c_ => absurd hz c_)
      refine pz_iconst (v := 0) dL_law_610 rfl ?_
      refine pz_rV1 (mi' := mX11_range) (As := [.int (xs (4 * c + 1)), .int (0)]) (q := (RX11, TX11, 33)) dL_law_611 lk_RL_126 mk_X11_range mi_X11_range me_X11_range ⟨by decide, by decide⟩ rfl rfl (Nat.le_of_ble_eq_true rfl) rfl rfl ⟨show k + 2 + 0 ≤ 601024 by omega, show n + 12 + 0 ≤ 7293034 by omega⟩ (hM _ _) (fun v ρ hq => ?_)
      obtain ⟨hV2, hth, hKM⟩ := hq
      obtain ⟨r2, rfl⟩ := hVM v hV2
      refine pz_kn (k + 2) (n + 12) rfl rfl ?_
      refine pz_lstore dL_law_614 (by decide) ?_
      refine pz_goto (tgt := 1019) dL_law_616 (by decide) ?_
      refine pz_ws (ws' := wp G adX LX [] (rtM G adM ρ ow f) σX) rfl ?_
      exact pz_lk [(0, .ref b), (1, .ref (adX 0)), (2, .ref (adM 0)), (3, .ref ow), (4, .int (nI (4 * c)))] ⟨rfl, rfl, rfl, rfl, rfl, trivial⟩ (kk σX ρ f (k + 2) (n + 12) (by omega) (by omega) hKM)
    · obtain ⟨hC, hM⟩ := hs
      have hVM : ∀ v : Value, (∃ r : Int64, v = .long r) → ∃ r : Int64, v = .long r := fun v q => q
      refine pz_aload_n dL_law_563 rfl ?_
      refine pz_aload_n dL_law_564 rfl ?_
      refine pz_iload dL_law_565 rfl ?_
      refine pz_iconst (v := 1) dL_law_567 rfl ?_
      refine pz_iadd dL_law_568 ?_
      refine pz_top (nI (4 * c + 1)) (ix1 (c := c) (d := 1) (by omega)) ?_
      refine pz_sld dL_law_569 (vp_in_nI (by omega) (by omega)) ?_
      refine pz_top (xs (4 * c + 1)) (congrArg xs (nI_clamp (by omega))) ?_
      refine pz_aload_n dL_law_570 rfl ?_
      refine pz_iload dL_law_571 rfl ?_
      refine pz_iconst (v := 2) dL_law_573 rfl ?_
      refine pz_iadd dL_law_574 ?_
      refine pz_top (nI (4 * c + 2)) (ix1 (c := c) (d := 2) (by omega)) ?_
      refine pz_sld dL_law_575 (vp_in_nI (by omega) (by omega)) ?_
      refine pz_top (xs (4 * c + 2)) (congrArg xs (nI_clamp (by omega))) ?_
      refine pz_if_eq 583 dL_law_576 (by decide) (fun c_ => ?_) (fun c_ => absurd hz c_)
      refine pz_iconst (v := 0) dL_law_583 rfl ?_
      refine pz_aload_n dL_law_584 rfl ?_
      refine pz_callW (mi' := mL_range) (hh := hhL_range) (As := [.ref (adX 0), .int (xs (4 * c + 1)), .int (0), .ref ow]) dL_law_585 (tw_in 960 (by decide +kernel) (by decide +kernel)) mw_range ⟨by decide, by decide⟩ rfl rfl (Nat.le_of_ble_eq_true rfl) (wt2_range (xs (4 * c + 1)) (0) (hC _)) ⟨show k + 2 ≤ 601024 by omega, show n + 12 ≤ 7293034 by omega⟩ (fun v ws1 hv => ?_)
      cases hv
      refine pz_kn (k + 2) (n + 12) rfl rfl ?_
      refine pz_ws (ws' := wp G adM LM (cellsE G adX LX σX LX.1 0) [outC G ow f] σM) rfl ?_
      refine pz_istore dL_law_588 (by decide) ?_
      refine pz_aload_n dL_law_590 rfl ?_
      refine pz_aload_n dL_law_591 rfl ?_
      refine pz_iload dL_law_592 rfl ?_
      refine pz_iconst (v := 1) dL_law_594 rfl ?_
      refine pz_iadd dL_law_595 ?_
      refine pz_top (nI (4 * c + 1)) (ix1 (c := c) (d := 1) (by omega)) ?_
      refine pz_sld dL_law_596 (vp_in_nI (by omega) (by omega)) ?_
      refine pz_top (xs (4 * c + 1)) (congrArg xs (nI_clamp (by omega))) ?_
      refine pz_aload_n dL_law_597 rfl ?_
      refine pz_iload dL_law_598 rfl ?_
      refine pz_iconst (v := 2) dL_law_600 rfl ?_
      refine pz_iadd dL_law_601 ?_
      refine pz_top (nI (4 * c + 2)) (ix1 (c := c) (d := 2) (by omega)) ?_
      refine pz_sld dL_law_602 (vp_in_nI (by omega) (by omega)) ?_
      refine pz_top (xs (4 * c + 2)) (congrArg xs (nI_clamp (by omega))) ?_
      refine pz_if_eq 610 dL_law_603 (by decide) (fun c_ => ?_) (fun c_ => absurd hz c_)
      refine pz_iconst (v := 0) dL_law_610 rfl ?_
      refine pz_rV1 (mi' := mX11_range) (As := [.int (xs (4 * c + 1)), .int (0)]) (q := (RX11, TX11, 33)) dL_law_611 lk_RL_126 mk_X11_range mi_X11_range me_X11_range ⟨by decide, by decide⟩ rfl rfl (Nat.le_of_ble_eq_true rfl) rfl rfl ⟨show k + 2 + 0 ≤ 601024 by omega, show n + 12 + 0 ≤ 7293034 by omega⟩ (hM _ _) (fun v ρ hq => ?_)
      obtain ⟨hV2, hth, hKM⟩ := hq
      obtain ⟨r2, rfl⟩ := hVM v hV2
      refine pz_kn (k + 2) (n + 12) rfl rfl ?_
      refine pz_lstore dL_law_614 (by decide) ?_
      refine pz_goto (tgt := 1019) dL_law_616 (by decide) ?_
      refine pz_ws (ws' := wp G adX LX [] (rtM G adM ρ ow f) σX) rfl ?_
      exact pz_lk [(0, .ref b), (1, .ref (adX 0)), (2, .ref (adM 0)), (3, .ref ow), (4, .int (nI (4 * c)))] ⟨rfl, rfl, rfl, rfl, rfl, trivial⟩ (kk σX ρ f (k + 2) (n + 12) (by omega) (by omega) hKM)
  · have hs := sm_range (l := l) (G := G) (adX := adX) (adM := adM) hl h (xs (4 * c + 1)) true
    rcases hs with hs | hs | hs
    · obtain ⟨r0, KX, KM, hLI, hC, hM⟩ := hs
      have hVX : ∀ v : Value, v = .long r0 → ∃ r : Int64, v = .long r := fun v q => ⟨r0, q⟩
      have hVM := hVX
      have hEq : ∀ r1 r2 : Int64, (.long r1 : Value) = .long r0 → (.long r2 : Value) = .long r0 → r1 = r2 := fun r1 r2 a b => by cases a; cases b; rfl
      refine pz_aload_n dL_law_563 rfl ?_
      refine pz_aload_n dL_law_564 rfl ?_
      refine pz_iload dL_law_565 rfl ?_
      refine pz_iconst (v := 1) dL_law_567 rfl ?_
      refine pz_iadd dL_law_568 ?_
      refine pz_top (nI (4 * c + 1)) (ix1 (c := c) (d := 1) (by omega)) ?_
      refine pz_sld dL_law_569 (vp_in_nI (by omega) (by omega)) ?_
      refine pz_top (xs (4 * c + 1)) (congrArg xs (nI_clamp (by omega))) ?_
      refine pz_aload_n dL_law_570 rfl ?_
      refine pz_iload dL_law_571 rfl ?_
      refine pz_iconst (v := 2) dL_law_573 rfl ?_
      refine pz_iadd dL_law_574 ?_
      refine pz_top (nI (4 * c + 2)) (ix1 (c := c) (d := 2) (by omega)) ?_
      refine pz_sld dL_law_575 (vp_in_nI (by omega) (by omega)) ?_
      refine pz_top (xs (4 * c + 2)) (congrArg xs (nI_clamp (by omega))) ?_
      refine pz_if_eq 583 dL_law_576 (by decide) (fun c_ => absurd c_ hz) (fun c_ => ?_)
      refine pz_iconst (v := 1) dL_law_579 rfl ?_
      refine pz_goto (tgt := 584) dL_law_580 (by decide) ?_
      refine pz_aload_n dL_law_584 rfl ?_
      refine pz_callW (mi' := mL_range) (hh := hhL_range) (As := [.ref (adX 0), .int (xs (4 * c + 1)), .int (1), .ref ow]) dL_law_585 (tw_in 960 (by decide +kernel) (by decide +kernel)) mw_range ⟨by decide, by decide⟩ rfl rfl (Nat.le_of_ble_eq_true rfl) (wx_range (p := 22) rt_at (xs (4 * c + 1)) (1) hVX (hC _)) ⟨show k + 2 ≤ 601024 by omega, show n + 12 ≤ 7293034 by omega⟩ (fun v ws1 hv => ?_)
      obtain ⟨τ, r1, hV1, hv, hKX⟩ := hv
      cases hv
      refine pz_kn (k + 2) (n + 12) rfl rfl ?_
      refine pz_ws (ws' := wp G adM LM (cellsE G adX LX τ LX.1 0) [outC G ow (vp_updL f 0 r1)] σM) (by rw [rt_set]; rfl) ?_
      refine pz_istore dL_law_588 (by decide) ?_
      refine pz_aload_n dL_law_590 rfl ?_
      refine pz_aload_n dL_law_591 rfl ?_
      refine pz_iload dL_law_592 rfl ?_
      refine pz_iconst (v := 1) dL_law_594 rfl ?_
      refine pz_iadd dL_law_595 ?_
      refine pz_top (nI (4 * c + 1)) (ix1 (c := c) (d := 1) (by omega)) ?_
      refine pz_sld dL_law_596 (vp_in_nI (by omega) (by omega)) ?_
      refine pz_top (xs (4 * c + 1)) (congrArg xs (nI_clamp (by omega))) ?_
      refine pz_aload_n dL_law_597 rfl ?_
      refine pz_iload dL_law_598 rfl ?_
      refine pz_iconst (v := 2) dL_law_600 rfl ?_
      refine pz_iadd dL_law_601 ?_
      refine pz_top (nI (4 * c + 2)) (ix1 (c := c) (d := 2) (by omega)) ?_
      refine pz_sld dL_law_602 (vp_in_nI (by omega) (by omega)) ?_
      refine pz_top (xs (4 * c + 2)) (congrArg xs (nI_clamp (by omega))) ?_
      refine pz_if_eq 610 dL_law_603 (by decide) (fun c_ => absurd c_ hz) (fun c_ => ?_)
      refine pz_iconst (v := 1) dL_law_606 rfl ?_
      refine pz_goto (tgt := 611) dL_law_607 (by decide) ?_
      refine pz_rV1 (mi' := mX11_range) (As := [.int (xs (4 * c + 1)), .int (1)]) (q := (RX11, TX11, 33)) dL_law_611 lk_RL_126 mk_X11_range mi_X11_range me_X11_range ⟨by decide, by decide⟩ rfl rfl (Nat.le_of_ble_eq_true rfl) rfl rfl ⟨show k + 2 + 0 ≤ 601024 by omega, show n + 12 + 0 ≤ 7293034 by omega⟩ (hM _ _) (fun v ρ hq => ?_)
      obtain ⟨hV2, hth, hKM⟩ := hq
      obtain ⟨r2, rfl⟩ := hVM v hV2
      have er : r1 = r2 := hEq r1 r2 hV1 hV2
      subst er
      refine pz_kn (k + 2) (n + 12) rfl rfl ?_
      refine pz_lstore dL_law_614 (by decide) ?_
      refine pz_goto (tgt := 1019) dL_law_616 (by decide) ?_
      refine pz_ws (ws' := wp G adX LX [] (rtM G adM ρ ow (vp_updL f 0 r1)) τ) rfl ?_
      exact pz_lk [(0, .ref b), (1, .ref (adX 0)), (2, .ref (adM 0)), (3, .ref ow), (4, .int (nI (4 * c)))] ⟨rfl, rfl, rfl, rfl, rfl, trivial⟩ (kk τ ρ (vp_updL f 0 r1) (k + 2) (n + 12) (by omega) (by omega) (hLI _ _ hKX hKM))
    · obtain ⟨hC, hM⟩ := hs
      have hVM : ∀ v : Value, (∃ r : Int64, v = .long r) → ∃ r : Int64, v = .long r := fun v q => q
      refine pz_aload_n dL_law_563 rfl ?_
      refine pz_aload_n dL_law_564 rfl ?_
      refine pz_iload dL_law_565 rfl ?_
      refine pz_iconst (v := 1) dL_law_567 rfl ?_
      refine pz_iadd dL_law_568 ?_
      refine pz_top (nI (4 * c + 1)) (ix1 (c := c) (d := 1) (by omega)) ?_
      refine pz_sld dL_law_569 (vp_in_nI (by omega) (by omega)) ?_
      refine pz_top (xs (4 * c + 1)) (congrArg xs (nI_clamp (by omega))) ?_
      refine pz_aload_n dL_law_570 rfl ?_
      refine pz_iload dL_law_571 rfl ?_
      refine pz_iconst (v := 2) dL_law_573 rfl ?_
      refine pz_iadd dL_law_574 ?_
      refine pz_top (nI (4 * c + 2)) (ix1 (c := c) (d := 2) (by omega)) ?_
      refine pz_sld dL_law_575 (vp_in_nI (by omega) (by omega)) ?_
      refine pz_top (xs (4 * c + 2)) (congrArg xs (nI_clamp (by omega))) ?_
      refine pz_if_eq 583 dL_law_576 (by decide) (fun c_ => absurd c_ hz) (fun c_ => ?_)
      refine pz_iconst (v := 1) dL_law_579 rfl ?_
      refine pz_goto (tgt := 584) dL_law_580 (by decide) ?_
      refine pz_aload_n dL_law_584 rfl ?_
      refine pz_callW (mi' := mL_range) (hh := hhL_range) (As := [.ref (adX 0), .int (xs (4 * c + 1)), .int (1), .ref ow]) dL_law_585 (tw_in 960 (by decide +kernel) (by decide +kernel)) mw_range ⟨by decide, by decide⟩ rfl rfl (Nat.le_of_ble_eq_true rfl) (wt1_range (xs (4 * c + 1)) (1) (hC _)) ⟨show k + 2 ≤ 601024 by omega, show n + 12 ≤ 7293034 by omega⟩ (fun v ws1 hv => ?_)
      cases hv
      refine pz_kn (k + 2) (n + 12) rfl rfl ?_
      refine pz_ws (ws' := wp G adM LM (cellsE G adX LX σX LX.1 0) [outC G ow f] σM) rfl ?_
      refine pz_istore dL_law_588 (by decide) ?_
      refine pz_aload_n dL_law_590 rfl ?_
      refine pz_aload_n dL_law_591 rfl ?_
      refine pz_iload dL_law_592 rfl ?_
      refine pz_iconst (v := 1) dL_law_594 rfl ?_
      refine pz_iadd dL_law_595 ?_
      refine pz_top (nI (4 * c + 1)) (ix1 (c := c) (d := 1) (by omega)) ?_
      refine pz_sld dL_law_596 (vp_in_nI (by omega) (by omega)) ?_
      refine pz_top (xs (4 * c + 1)) (congrArg xs (nI_clamp (by omega))) ?_
      refine pz_aload_n dL_law_597 rfl ?_
      refine pz_iload dL_law_598 rfl ?_
      refine pz_iconst (v := 2) dL_law_600 rfl ?_
      refine pz_iadd dL_law_601 ?_
      refine pz_top (nI (4 * c + 2)) (ix1 (c := c) (d := 2) (by omega)) ?_
      refine pz_sld dL_law_602 (vp_in_nI (by omega) (by omega)) ?_
      refine pz_top (xs (4 * c + 2)) (congrArg xs (nI_clamp (by omega))) ?_
      refine pz_if_eq 610 dL_law_603 (by decide) (fun c_ => absurd c_ hz) (fun c_ => ?_)
      refine pz_iconst (v := 1) dL_law_606 rfl ?_
      refine pz_goto (tgt := 611) dL_law_607 (by decide) ?_
      refine pz_rV1 (mi' := mX11_range) (As := [.int (xs (4 * c + 1)), .int (1)]) (q := (RX11, TX11, 33)) dL_law_611 lk_RL_126 mk_X11_range mi_X11_range me_X11_range ⟨by decide, by decide⟩ rfl rfl (Nat.le_of_ble_eq_true rfl) rfl rfl ⟨show k + 2 + 0 ≤ 601024 by omega, show n + 12 + 0 ≤ 7293034 by omega⟩ (hM _ _) (fun v ρ hq => ?_)
      obtain ⟨hV2, hth, hKM⟩ := hq
      obtain ⟨r2, rfl⟩ := hVM v hV2
      refine pz_kn (k + 2) (n + 12) rfl rfl ?_
      refine pz_lstore dL_law_614 (by decide) ?_
      refine pz_goto (tgt := 1019) dL_law_616 (by decide) ?_
      refine pz_ws (ws' := wp G adX LX [] (rtM G adM ρ ow f) σX) rfl ?_
      exact pz_lk [(0, .ref b), (1, .ref (adX 0)), (2, .ref (adM 0)), (3, .ref ow), (4, .int (nI (4 * c)))] ⟨rfl, rfl, rfl, rfl, rfl, trivial⟩ (kk σX ρ f (k + 2) (n + 12) (by omega) (by omega) hKM)
    · obtain ⟨hC, hM⟩ := hs
      have hVM : ∀ v : Value, (∃ r : Int64, v = .long r) → ∃ r : Int64, v = .long r := fun v q => q
      refine pz_aload_n dL_law_563 rfl ?_
      refine pz_aload_n dL_law_564 rfl ?_
      refine pz_iload dL_law_565 rfl ?_
      refine pz_iconst (v := 1) dL_law_567 rfl ?_
      refine pz_iadd dL_law_568 ?_
      refine pz_top (nI (4 * c + 1)) (ix1 (c := c) (d := 1) (by omega)) ?_
      refine pz_sld dL_law_569 (vp_in_nI (by omega) (by omega)) ?_
      refine pz_top (xs (4 * c + 1)) (congrArg xs (nI_clamp (by omega))) ?_
      refine pz_aload_n dL_law_570 rfl ?_
      refine pz_iload dL_law_571 rfl ?_
      refine pz_iconst (v := 2) dL_law_573 rfl ?_
      refine pz_iadd dL_law_574 ?_
      refine pz_top (nI (4 * c + 2)) (ix1 (c := c) (d := 2) (by omega)) ?_
      refine pz_sld dL_law_575 (vp_in_nI (by omega) (by omega)) ?_
      refine pz_top (xs (4 * c + 2)) (congrArg xs (nI_clamp (by omega))) ?_
      refine pz_if_eq 583 dL_law_576 (by decide) (fun c_ => absurd c_ hz) (fun c_ => ?_)
      refine pz_iconst (v := 1) dL_law_579 rfl ?_
      refine pz_goto (tgt := 584) dL_law_580 (by decide) ?_
      refine pz_aload_n dL_law_584 rfl ?_
      refine pz_callW (mi' := mL_range) (hh := hhL_range) (As := [.ref (adX 0), .int (xs (4 * c + 1)), .int (1), .ref ow]) dL_law_585 (tw_in 960 (by decide +kernel) (by decide +kernel)) mw_range ⟨by decide, by decide⟩ rfl rfl (Nat.le_of_ble_eq_true rfl) (wt2_range (xs (4 * c + 1)) (1) (hC _)) ⟨show k + 2 ≤ 601024 by omega, show n + 12 ≤ 7293034 by omega⟩ (fun v ws1 hv => ?_)
      cases hv
      refine pz_kn (k + 2) (n + 12) rfl rfl ?_
      refine pz_ws (ws' := wp G adM LM (cellsE G adX LX σX LX.1 0) [outC G ow f] σM) rfl ?_
      refine pz_istore dL_law_588 (by decide) ?_
      refine pz_aload_n dL_law_590 rfl ?_
      refine pz_aload_n dL_law_591 rfl ?_
      refine pz_iload dL_law_592 rfl ?_
      refine pz_iconst (v := 1) dL_law_594 rfl ?_
      refine pz_iadd dL_law_595 ?_
      refine pz_top (nI (4 * c + 1)) (ix1 (c := c) (d := 1) (by omega)) ?_
      refine pz_sld dL_law_596 (vp_in_nI (by omega) (by omega)) ?_
      refine pz_top (xs (4 * c + 1)) (congrArg xs (nI_clamp (by omega))) ?_
      refine pz_aload_n dL_law_597 rfl ?_
      refine pz_iload dL_law_598 rfl ?_
      refine pz_iconst (v := 2) dL_law_600 rfl ?_
      refine pz_iadd dL_law_601 ?_
      refine pz_top (nI (4 * c + 2)) (ix1 (c := c) (d := 2) (by omega)) ?_
      refine pz_sld dL_law_602 (vp_in_nI (by omega) (by omega)) ?_
      refine pz_top (xs (4 * c + 2)) (congrArg xs (nI_clamp (by omega))) ?_
      refine pz_if_eq 610 dL_law_603 (by decide) (fun c_ => absurd c_ hz) (fun c_ => ?_)
      refine pz_iconst (v := 1) dL_law_606 rfl ?_
      refine pz_goto (tgt := 611) dL_law_607 (by decide) ?_
      refine pz_rV1 (mi' := mX11_range) (As := [.int (xs (4 * c + 1)), .int (1)]) (q := (RX11, TX11, 33)) dL_law_611 lk_RL_126 mk_X11_range mi_X11_range me_X11_range ⟨by decide, by decide⟩ rfl rfl (Nat.le_of_ble_eq_true rfl) rfl rfl ⟨show k + 2 + 0 ≤ 601024 by omega, show n + 12 + 0 ≤ 7293034 by omega⟩ (hM _ _) (fun v ρ hq => ?_)
      obtain ⟨hV2, hth, hKM⟩ := hq
      obtain ⟨r2, rfl⟩ := hVM v hV2
      refine pz_kn (k + 2) (n + 12) rfl rfl ?_
      refine pz_lstore dL_law_614 (by decide) ?_
      refine pz_goto (tgt := 1019) dL_law_616 (by decide) ?_
      refine pz_ws (ws' := wp G adX LX [] (rtM G adM ρ ow f) σX) rfl ?_
      exact pz_lk [(0, .ref b), (1, .ref (adX 0)), (2, .ref (adM 0)), (3, .ref ow), (4, .int (nI (4 * c)))] ⟨rfl, rfl, rfl, rfl, rfl, trivial⟩ (kk σX ρ f (k + 2) (n + 12) (by omega) (by omega) hKM)
theorem lc_finalRange (hl : l.stackTraces = false) (hcL : 4 * c + 4 ≤ L) (hL : L ≤ 2048) (hk : k + 1100 ≤ 601024) (hn : n + 14000 ≤ 7293034) (kk : GoOn l G b L sz c k n xs adX adM ow) (h : LI σX σM) : PZ (XL b L xs) QL l G mL_law [] sz 619 [(0, .ref b), (1, .ref (adX 0)), (2, .ref (adM 0)), (3, .ref ow), (4, .int (nI (4 * c)))] [] k n (wp G adX LX [] (rtM G adM σM ow f) σX) := by
  by_cases hz : xs (4 * c + 2) = 0
  · have hs := sm_finalRange (l := l) (G := G) (adX := adX) (adM := adM) hl h (xs (4 * c + 1)) false
    rcases hs with hs | hs
    · obtain ⟨r0, KX, KM, hLI, hC, hM⟩ := hs
      have hVX : ∀ v : Value, v = .int r0 → ∃ r : Int32, v = .int r := fun v q => ⟨r0, q⟩
      have hVM := hVX
      have hEq : ∀ r1 r2 : Int32, (.int r1 : Value) = .int r0 → (.int r2 : Value) = .int r0 → r1 = r2 := fun r1 r2 a b => by cases a; cases b; rfl
      refine pz_aload_n dL_law_619 rfl ?_
      refine pz_aload_n dL_law_620 rfl ?_
      refine pz_iload dL_law_621 rfl ?_
      refine pz_iconst (v := 1) dL_law_623 rfl ?_
      refine pz_iadd dL_law_624 ?_
      refine pz_top (nI (4 * c + 1)) (ix1 (c := c) (d := 1) (by omega)) ?_
      refine pz_sld dL_law_625 (vp_in_nI (by omega) (by omega)) ?_
      refine pz_top (xs (4 * c + 1)) (congrArg xs (nI_clamp (by omega))) ?_
      refine pz_aload_n dL_law_626 rfl ?_
      refine pz_iload dL_law_627 rfl ?_
      refine pz_iconst (v := 2) dL_law_629 rfl ?_
      refine pz_iadd dL_law_630 ?_
      refine pz_top (nI (4 * c + 2)) (ix1 (c := c) (d := 2) (by omega)) ?_
      refine pz_sld dL_law_631 (vp_in_nI (by omega) (by omega)) ?_
      refine pz_top (xs (4 * c + 2)) (congrArg xs (nI_clamp (by omega))) ?_
      refine pz_if_eq 639 dL_law_632 (by decide) (fun c_ => ?_) (fun c_ => absurd hz c_)
      refine pz_iconst (v := 0) dL_law_639 rfl ?_
      refine pz_aload_n dL_law_640 rfl ?_
      refine pz_callW (mi' := mL_finalRange) (hh := hhL_finalRange) (As := [.ref (adX 0), .int (xs (4 * c + 1)), .int (0), .ref ow]) dL_law_641 (tw_in 967 (by decide +kernel) (by decide +kernel)) mw_finalRange ⟨by decide, by decide⟩ rfl rfl (Nat.le_of_ble_eq_true rfl) (wx_finalRange (p := 22) rt_at (xs (4 * c + 1)) (0) hVX (hC _)) ⟨show k + 1 ≤ 601024 by omega, show n + 6 ≤ 7293034 by omega⟩ (fun v ws1 hv => ?_)
      obtain ⟨τ, r1, hV1, hv, hKX⟩ := hv
      cases hv
      refine pz_kn (k + 1) (n + 6) rfl rfl ?_
      refine pz_ws (ws' := wp G adM LM (cellsE G adX LX τ LX.1 0) [outC G ow (vp_updL f 0 r1.toInt64)] σM) (by rw [rt_set]; rfl) ?_
      refine pz_istore dL_law_644 (by decide) ?_
      refine pz_aload_n dL_law_646 rfl ?_
      refine pz_aload_n dL_law_647 rfl ?_
      refine pz_iload dL_law_648 rfl ?_
      refine pz_iconst (v := 1) dL_law_650 rfl ?_
      refine pz_iadd dL_law_651 ?_
      refine pz_top (nI (4 * c + 1)) (ix1 (c := c) (d := 1) (by omega)) ?_
      refine pz_sld dL_law_652 (vp_in_nI (by omega) (by omega)) ?_
      refine pz_top (xs (4 * c + 1)) (congrArg xs (nI_clamp (by omega))) ?_
      refine pz_aload_n dL_law_653 rfl ?_
      refine pz_iload dL_law_654 rfl ?_
      refine pz_iconst (v := 2) dL_law_656 rfl ?_
      refine pz_iadd dL_law_657 ?_
      refine pz_top (nI (4 * c + 2)) (ix1 (c := c) (d := 2) (by omega)) ?_
      refine pz_sld dL_law_658 (vp_in_nI (by omega) (by omega)) ?_
      refine pz_top (xs (4 * c + 2)) (congrArg xs (nI_clamp (by omega))) ?_
      refine pz_if_eq 666 dL_law_659 (by decide) (fun c_ => ?_) (fun c_ => absurd hz c_)
      refine pz_iconst (v := 0) dL_law_666 rfl ?_
      refine pz_rV1 (mi' := mX11_finalRange) (As := [.int (xs (4 * c + 1)), .int (0)]) (q := (RX11, TX11, 33)) dL_law_667 lk_RL_129 mk_X11_finalRange mi_X11_finalRange me_X11_finalRange ⟨by decide, by decide⟩ rfl rfl (Nat.le_of_ble_eq_true rfl) rfl rfl ⟨show k + 1 + 0 ≤ 601024 by omega, show n + 6 + 0 ≤ 7293034 by omega⟩ (hM _ _) (fun v ρ hq => ?_)
      obtain ⟨hV2, hth, hKM⟩ := hq
      obtain ⟨r2, rfl⟩ := hVM v hV2
      have er : r1 = r2 := hEq r1 r2 hV1 hV2
      subst er
      refine pz_kn (k + 1) (n + 6) rfl rfl ?_
      refine pz_istore dL_law_670 (by decide) ?_
      refine pz_goto (tgt := 1019) dL_law_672 (by decide) ?_
      refine pz_ws (ws' := wp G adX LX [] (rtM G adM ρ ow (vp_updL f 0 r1.toInt64)) τ) rfl ?_
      exact pz_lk [(0, .ref b), (1, .ref (adX 0)), (2, .ref (adM 0)), (3, .ref ow), (4, .int (nI (4 * c)))] ⟨rfl, rfl, rfl, rfl, rfl, trivial⟩ (kk τ ρ (vp_updL f 0 r1.toInt64) (k + 1) (n + 6) (by omega) (by omega) (hLI _ _ hKX hKM))
    · obtain ⟨hC, hM⟩ := hs
      have hVM : ∀ v : Value, (∃ r : Int32, v = .int r) → ∃ r : Int32, v = .int r := fun v q => q
      refine pz_aload_n dL_law_619 rfl ?_
      refine pz_aload_n dL_law_620 rfl ?_
      refine pz_iload dL_law_621 rfl ?_
      refine pz_iconst (v := 1) dL_law_623 rfl ?_
      refine pz_iadd dL_law_624 ?_
      refine pz_top (nI (4 * c + 1)) (ix1 (c := c) (d := 1) (by omega)) ?_
      refine pz_sld dL_law_625 (vp_in_nI (by omega) (by omega)) ?_
      refine pz_top (xs (4 * c + 1)) (congrArg xs (nI_clamp (by omega))) ?_
      refine pz_aload_n dL_law_626 rfl ?_
      refine pz_iload dL_law_627 rfl ?_
      refine pz_iconst (v := 2) dL_law_629 rfl ?_
      refine pz_iadd dL_law_630 ?_
      refine pz_top (nI (4 * c + 2)) (ix1 (c := c) (d := 2) (by omega)) ?_
      refine pz_sld dL_law_631 (vp_in_nI (by omega) (by omega)) ?_
      refine pz_top (xs (4 * c + 2)) (congrArg xs (nI_clamp (by omega))) ?_
      refine pz_if_eq 639 dL_law_632 (by decide) (fun c_ => ?_) (fun c_ => absurd hz c_)
      refine pz_iconst (v := 0) dL_law_639 rfl ?_
      refine pz_aload_n dL_law_640 rfl ?_
      refine pz_callW (mi' := mL_finalRange) (hh := hhL_finalRange) (As := [.ref (adX 0), .int (xs (4 * c + 1)), .int (0), .ref ow]) dL_law_641 (tw_in 967 (by decide +kernel) (by decide +kernel)) mw_finalRange ⟨by decide, by decide⟩ rfl rfl (Nat.le_of_ble_eq_true rfl) (wt1_finalRange (xs (4 * c + 1)) (0) (hC _)) ⟨show k + 1 ≤ 601024 by omega, show n + 6 ≤ 7293034 by omega⟩ (fun v ws1 hv => ?_)
      cases hv
      refine pz_kn (k + 1) (n + 6) rfl rfl ?_
      refine pz_ws (ws' := wp G adM LM (cellsE G adX LX σX LX.1 0) [outC G ow f] σM) rfl ?_
      refine pz_istore dL_law_644 (by decide) ?_
      refine pz_aload_n dL_law_646 rfl ?_
      refine pz_aload_n dL_law_647 rfl ?_
      refine pz_iload dL_law_648 rfl ?_
      refine pz_iconst (v := 1) dL_law_650 rfl ?_
      refine pz_iadd dL_law_651 ?_
      refine pz_top (nI (4 * c + 1)) (ix1 (c := c) (d := 1) (by omega)) ?_
      refine pz_sld dL_law_652 (vp_in_nI (by omega) (by omega)) ?_
      refine pz_top (xs (4 * c + 1)) (congrArg xs (nI_clamp (by omega))) ?_
      refine pz_aload_n dL_law_653 rfl ?_
      refine pz_iload dL_law_654 rfl ?_
      refine pz_iconst (v := 2) dL_law_656 rfl ?_
      refine pz_iadd dL_law_657 ?_
      refine pz_top (nI (4 * c + 2)) (ix1 (c := c) (d := 2) (by omega)) ?_
      refine pz_sld dL_law_658 (vp_in_nI (by omega) (by omega)) ?_
      refine pz_top (xs (4 * c + 2)) (congrArg xs (nI_clamp (by omega))) ?_
      refine pz_if_eq 666 dL_law_659 (by decide) (fun c_ => ?_) (fun c_ => absurd hz c_)
      refine pz_iconst (v := 0) dL_law_666 rfl ?_
      refine pz_rV1 (mi' := mX11_finalRange) (As := [.int (xs (4 * c + 1)), .int (0)]) (q := (RX11, TX11, 33)) dL_law_667 lk_RL_129 mk_X11_finalRange mi_X11_finalRange me_X11_finalRange ⟨by decide, by decide⟩ rfl rfl (Nat.le_of_ble_eq_true rfl) rfl rfl ⟨show k + 1 + 0 ≤ 601024 by omega, show n + 6 + 0 ≤ 7293034 by omega⟩ (hM _ _) (fun v ρ hq => ?_)
      obtain ⟨hV2, hth, hKM⟩ := hq
      obtain ⟨r2, rfl⟩ := hVM v hV2
      refine pz_kn (k + 1) (n + 6) rfl rfl ?_
      refine pz_istore dL_law_670 (by decide) ?_
      refine pz_goto (tgt := 1019) dL_law_672 (by decide) ?_
      refine pz_ws (ws' := wp G adX LX [] (rtM G adM ρ ow f) σX) rfl ?_
      exact pz_lk [(0, .ref b), (1, .ref (adX 0)), (2, .ref (adM 0)), (3, .ref ow), (4, .int (nI (4 * c)))] ⟨rfl, rfl, rfl, rfl, rfl, trivial⟩ (kk σX ρ f (k + 1) (n + 6) (by omega) (by omega) hKM)
  · have hs := sm_finalRange (l := l) (G := G) (adX := adX) (adM := adM) hl h (xs (4 * c + 1)) true
    rcases hs with hs | hs
    · obtain ⟨r0, KX, KM, hLI, hC, hM⟩ := hs
      have hVX : ∀ v : Value, v = .int r0 → ∃ r : Int32, v = .int r := fun v q => ⟨r0, q⟩
      have hVM := hVX
      have hEq : ∀ r1 r2 : Int32, (.int r1 : Value) = .int r0 → (.int r2 : Value) = .int r0 → r1 = r2 := fun r1 r2 a b => by cases a; cases b; rfl
      refine pz_aload_n dL_law_619 rfl ?_
      refine pz_aload_n dL_law_620 rfl ?_
      refine pz_iload dL_law_621 rfl ?_
      refine pz_iconst (v := 1) dL_law_623 rfl ?_
      refine pz_iadd dL_law_624 ?_
      refine pz_top (nI (4 * c + 1)) (ix1 (c := c) (d := 1) (by omega)) ?_
      refine pz_sld dL_law_625 (vp_in_nI (by omega) (by omega)) ?_
      refine pz_top (xs (4 * c + 1)) (congrArg xs (nI_clamp (by omega))) ?_
      refine pz_aload_n dL_law_626 rfl ?_
      refine pz_iload dL_law_627 rfl ?_
      refine pz_iconst (v := 2) dL_law_629 rfl ?_
      refine pz_iadd dL_law_630 ?_
      refine pz_top (nI (4 * c + 2)) (ix1 (c := c) (d := 2) (by omega)) ?_
      refine pz_sld dL_law_631 (vp_in_nI (by omega) (by omega)) ?_
      refine pz_top (xs (4 * c + 2)) (congrArg xs (nI_clamp (by omega))) ?_
      refine pz_if_eq 639 dL_law_632 (by decide) (fun c_ => absurd c_ hz) (fun c_ => ?_)
      refine pz_iconst (v := 1) dL_law_635 rfl ?_
      refine pz_goto (tgt := 640) dL_law_636 (by decide) ?_
      refine pz_aload_n dL_law_640 rfl ?_
      refine pz_callW (mi' := mL_finalRange) (hh := hhL_finalRange) (As := [.ref (adX 0), .int (xs (4 * c + 1)), .int (1), .ref ow]) dL_law_641 (tw_in 967 (by decide +kernel) (by decide +kernel)) mw_finalRange ⟨by decide, by decide⟩ rfl rfl (Nat.le_of_ble_eq_true rfl) (wx_finalRange (p := 22) rt_at (xs (4 * c + 1)) (1) hVX (hC _)) ⟨show k + 1 ≤ 601024 by omega, show n + 6 ≤ 7293034 by omega⟩ (fun v ws1 hv => ?_)
      obtain ⟨τ, r1, hV1, hv, hKX⟩ := hv
      cases hv
      refine pz_kn (k + 1) (n + 6) rfl rfl ?_
      refine pz_ws (ws' := wp G adM LM (cellsE G adX LX τ LX.1 0) [outC G ow (vp_updL f 0 r1.toInt64)] σM) (by rw [rt_set]; rfl) ?_
      refine pz_istore dL_law_644 (by decide) ?_
      refine pz_aload_n dL_law_646 rfl ?_
      refine pz_aload_n dL_law_647 rfl ?_
      refine pz_iload dL_law_648 rfl ?_
      refine pz_iconst (v := 1) dL_law_650 rfl ?_
      refine pz_iadd dL_law_651 ?_
      refine pz_top (nI (4 * c + 1)) (ix1 (c := c) (d := 1) (by omega)) ?_
      refine pz_sld dL_law_652 (vp_in_nI (by omega) (by omega)) ?_
      refine pz_top (xs (4 * c + 1)) (congrArg xs (nI_clamp (by omega))) ?_
      refine pz_aload_n dL_law_653 rfl ?_
      refine pz_iload dL_law_654 rfl ?_
      refine pz_iconst (v := 2) dL_law_656 rfl ?_
      refine pz_iadd dL_law_657 ?_
      refine pz_top (nI (4 * c + 2)) (ix1 (c := c) (d := 2) (by omega)) ?_
      refine pz_sld dL_law_658 (vp_in_nI (by omega) (by omega)) ?_
      refine pz_top (xs (4 * c + 2)) (congrArg xs (nI_clamp (by omega))) ?_
      refine pz_if_eq 666 dL_law_659 (by decide) (fun c_ => absurd c_ hz) (fun c_ => ?_)
      refine pz_iconst (v := 1) dL_law_662 rfl ?_
      refine pz_goto (tgt := 667) dL_law_663 (by decide) ?_
      refine pz_rV1 (mi' := mX11_finalRange) (As := [.int (xs (4 * c + 1)), .int (1)]) (q := (RX11, TX11, 33)) dL_law_667 lk_RL_129 mk_X11_finalRange mi_X11_finalRange me_X11_finalRange ⟨by decide, by decide⟩ rfl rfl (Nat.le_of_ble_eq_true rfl) rfl rfl ⟨show k + 1 + 0 ≤ 601024 by omega, show n + 6 + 0 ≤ 7293034 by omega⟩ (hM _ _) (fun v ρ hq => ?_)
      obtain ⟨hV2, hth, hKM⟩ := hq
      obtain ⟨r2, rfl⟩ := hVM v hV2
      have er : r1 = r2 := hEq r1 r2 hV1 hV2
      subst er
      refine pz_kn (k + 1) (n + 6) rfl rfl ?_
      refine pz_istore dL_law_670 (by decide) ?_
      refine pz_goto (tgt := 1019) dL_law_672 (by decide) ?_
      refine pz_ws (ws' := wp G adX LX [] (rtM G adM ρ ow (vp_updL f 0 r1.toInt64)) τ) rfl ?_
      exact pz_lk [(0, .ref b), (1, .ref (adX 0)), (2, .ref (adM 0)), (3, .ref ow), (4, .int (nI (4 * c)))] ⟨rfl, rfl, rfl, rfl, rfl, trivial⟩ (kk τ ρ (vp_updL f 0 r1.toInt64) (k + 1) (n + 6) (by omega) (by omega) (hLI _ _ hKX hKM))
    · obtain ⟨hC, hM⟩ := hs
      have hVM : ∀ v : Value, (∃ r : Int32, v = .int r) → ∃ r : Int32, v = .int r := fun v q => q
      refine pz_aload_n dL_law_619 rfl ?_
      refine pz_aload_n dL_law_620 rfl ?_
      refine pz_iload dL_law_621 rfl ?_
      refine pz_iconst (v := 1) dL_law_623 rfl ?_
      refine pz_iadd dL_law_624 ?_
      refine pz_top (nI (4 * c + 1)) (ix1 (c := c) (d := 1) (by omega)) ?_
      refine pz_sld dL_law_625 (vp_in_nI (by omega) (by omega)) ?_
      refine pz_top (xs (4 * c + 1)) (congrArg xs (nI_clamp (by omega))) ?_
      refine pz_aload_n dL_law_626 rfl ?_
      refine pz_iload dL_law_627 rfl ?_
      refine pz_iconst (v := 2) dL_law_629 rfl ?_
      refine pz_iadd dL_law_630 ?_
      refine pz_top (nI (4 * c + 2)) (ix1 (c := c) (d := 2) (by omega)) ?_
      refine pz_sld dL_law_631 (vp_in_nI (by omega) (by omega)) ?_
      refine pz_top (xs (4 * c + 2)) (congrArg xs (nI_clamp (by omega))) ?_
      refine pz_if_eq 639 dL_law_632 (by decide) (fun c_ => absurd c_ hz) (fun c_ => ?_)
      refine pz_iconst (v := 1) dL_law_635 rfl ?_
      refine pz_goto (tgt := 640) dL_law_636 (by decide) ?_
      refine pz_aload_n dL_law_640 rfl ?_
      refine pz_callW (mi' := mL_finalRange) (hh := hhL_finalRange) (As := [.ref (adX 0), .int (xs (4 * c + 1)), .int (1), .ref ow]) dL_law_641 (tw_in 967 (by decide +kernel) (by decide +kernel)) mw_finalRange ⟨by decide, by decide⟩ rfl rfl (Nat.le_of_ble_eq_true rfl) (wt1_finalRange (xs (4 * c + 1)) (1) (hC _)) ⟨show k + 1 ≤ 601024 by omega, show n + 6 ≤ 7293034 by omega⟩ (fun v ws1 hv => ?_)
      cases hv
      refine pz_kn (k + 1) (n + 6) rfl rfl ?_
      refine pz_ws (ws' := wp G adM LM (cellsE G adX LX σX LX.1 0) [outC G ow f] σM) rfl ?_
      refine pz_istore dL_law_644 (by decide) ?_
      refine pz_aload_n dL_law_646 rfl ?_
      refine pz_aload_n dL_law_647 rfl ?_
      refine pz_iload dL_law_648 rfl ?_
      refine pz_iconst (v := 1) dL_law_650 rfl ?_
      refine pz_iadd dL_law_651 ?_
      refine pz_top (nI (4 * c + 1)) (ix1 (c := c) (d := 1) (by omega)) ?_
      refine pz_sld dL_law_652 (vp_in_nI (by omega) (by omega)) ?_
      refine pz_top (xs (4 * c + 1)) (congrArg xs (nI_clamp (by omega))) ?_
      refine pz_aload_n dL_law_653 rfl ?_
      refine pz_iload dL_law_654 rfl ?_
      refine pz_iconst (v := 2) dL_law_656 rfl ?_
      refine pz_iadd dL_law_657 ?_
      refine pz_top (nI (4 * c + 2)) (ix1 (c := c) (d := 2) (by omega)) ?_
      refine pz_sld dL_law_658 (vp_in_nI (by omega) (by omega)) ?_
      refine pz_top (xs (4 * c + 2)) (congrArg xs (nI_clamp (by omega))) ?_
      refine pz_if_eq 666 dL_law_659 (by decide) (fun c_ => absurd c_ hz) (fun c_ => ?_)
      refine pz_iconst (v := 1) dL_law_662 rfl ?_
      refine pz_goto (tgt := 667) dL_law_663 (by decide) ?_
      refine pz_rV1 (mi' := mX11_finalRange) (As := [.int (xs (4 * c + 1)), .int (1)]) (q := (RX11, TX11, 33)) dL_law_667 lk_RL_129 mk_X11_finalRange mi_X11_finalRange me_X11_finalRange ⟨by decide, by decide⟩ rfl rfl (Nat.le_of_ble_eq_true rfl) rfl rfl ⟨show k + 1 + 0 ≤ 601024 by omega, show n + 6 + 0 ≤ 7293034 by omega⟩ (hM _ _) (fun v ρ hq => ?_)
      obtain ⟨hV2, hth, hKM⟩ := hq
      obtain ⟨r2, rfl⟩ := hVM v hV2
      refine pz_kn (k + 1) (n + 6) rfl rfl ?_
      refine pz_istore dL_law_670 (by decide) ?_
      refine pz_goto (tgt := 1019) dL_law_672 (by decide) ?_
      refine pz_ws (ws' := wp G adX LX [] (rtM G adM ρ ow f) σX) rfl ?_
      exact pz_lk [(0, .ref b), (1, .ref (adX 0)), (2, .ref (adM 0)), (3, .ref ow), (4, .int (nI (4 * c)))] ⟨rfl, rfl, rfl, rfl, rfl, trivial⟩ (kk σX ρ f (k + 1) (n + 6) (by omega) (by omega) hKM)
theorem lc_completes (hl : l.stackTraces = false) (hcL : 4 * c + 4 ≤ L) (hL : L ≤ 2048) (hk : k + 1100 ≤ 601024) (hn : n + 14000 ≤ 7293034) (kk : GoOn l G b L sz c k n xs adX adM ow) (h : LI σX σM) : PZ (XL b L xs) QL l G mL_law [] sz 675 [(0, .ref b), (1, .ref (adX 0)), (2, .ref (adM 0)), (3, .ref ow), (4, .int (nI (4 * c)))] [] k n (wp G adX LX [] (rtM G adM σM ow f) σX) := by
  have hs := sm_completes (l := l) (G := G) (adX := adX) (adM := adM) h 
  obtain ⟨r0, KX, KM, hLI, hC, hM⟩ := hs
  have hVX : ∀ v : Value, v = .int r0 → ∃ r : Int32, v = .int r := fun v q => ⟨r0, q⟩
  have hVM := hVX
  have hEq : ∀ r1 r2 : Int32, (.int r1 : Value) = .int r0 → (.int r2 : Value) = .int r0 → r1 = r2 := fun r1 r2 a b => by cases a; cases b; rfl
  refine pz_aload_n dL_law_675 rfl ?_
  refine pz_rV1 (mi' := mX10_completes) (As := []) (q := (RX10, TX10, 14)) dL_law_676 lk_RL_130 mk_X10_completes mi_X10_completes me_X10_completes ⟨by decide, by decide⟩ rfl rfl (Nat.le_of_ble_eq_true rfl) rfl rfl ⟨show k + 0 ≤ 601024 by omega, show n + 0 ≤ 7293034 by omega⟩ (hC _) (fun v τ hq => ?_)
  obtain ⟨hV1, hKX⟩ := hq
  obtain ⟨r1, rfl⟩ := hVX v hV1
  refine pz_ws (ws' := wp G adM LM (cellsE G adX LX τ LX.1 0) [outC G ow f] σM) rfl ?_
  refine pz_kn (k + 0) (n + 0) rfl rfl ?_
  refine pz_pop dL_law_679 rfl ?_
  refine pz_aload_n dL_law_680 rfl ?_
  refine pz_rV1 (mi' := mX11_completes) (As := []) (q := (RX11, TX11, 33)) dL_law_681 lk_RL_134 mk_X11_completes mi_X11_completes me_X11_completes ⟨by decide, by decide⟩ rfl rfl (Nat.le_of_ble_eq_true rfl) rfl rfl ⟨show k + 0 ≤ 601024 by omega, show n + 0 ≤ 7293034 by omega⟩ (hM _ _) (fun v ρ hq => ?_)
  obtain ⟨hV2, hth, hKM⟩ := hq
  obtain ⟨r2, rfl⟩ := hVM v hV2
  have er : r1 = r2 := hEq r1 r2 hV1 hV2
  subst er
  refine pz_kn (k + 0) (n + 0) rfl rfl ?_
  refine pz_pop dL_law_684 rfl ?_
  refine pz_goto (tgt := 1019) dL_law_685 (by decide) ?_
  refine pz_ws (ws' := wp G adX LX [] (rtM G adM ρ ow f) τ) rfl ?_
  exact pz_lk [(0, .ref b), (1, .ref (adX 0)), (2, .ref (adM 0)), (3, .ref ow), (4, .int (nI (4 * c)))] ⟨rfl, rfl, rfl, rfl, rfl, trivial⟩ (kk τ ρ f (k + 0) (n + 0) (by omega) (by omega) (hLI _ _ hKX hKM))
theorem lc_failure (hl : l.stackTraces = false) (hcL : 4 * c + 4 ≤ L) (hL : L ≤ 2048) (hk : k + 1100 ≤ 601024) (hn : n + 14000 ≤ 7293034) (kk : GoOn l G b L sz c k n xs adX adM ow) (h : LI σX σM) : PZ (XL b L xs) QL l G mL_law [] sz 688 [(0, .ref b), (1, .ref (adX 0)), (2, .ref (adM 0)), (3, .ref ow), (4, .int (nI (4 * c)))] [] k n (wp G adX LX [] (rtM G adM σM ow f) σX) := by
  by_cases hz : xs (4 * c + 1) = 0
  · have hs := sm_failure (l := l) (G := G) (adX := adX) (adM := adM) h  false
    obtain ⟨KX, KM, hLI, hC, hM⟩ := hs
    have hVX : ∀ v : Value, (∃ r : Int32, v = .int r) → ∃ r : Int32, v = .int r := fun v q => q
    have hVM := hVX
    refine pz_aload_n dL_law_688 rfl ?_
    refine pz_aload_n dL_law_689 rfl ?_
    refine pz_iload dL_law_690 rfl ?_
    refine pz_iconst (v := 1) dL_law_692 rfl ?_
    refine pz_iadd dL_law_693 ?_
    refine pz_top (nI (4 * c + 1)) (ix1 (c := c) (d := 1) (by omega)) ?_
    refine pz_sld dL_law_694 (vp_in_nI (by omega) (by omega)) ?_
    refine pz_top (xs (4 * c + 1)) (congrArg xs (nI_clamp (by omega))) ?_
    refine pz_if_eq 702 dL_law_695 (by decide) (fun c_ => ?_) (fun c_ => absurd hz c_)
    refine pz_iconst (v := 0) dL_law_702 rfl ?_
    refine pz_rV1 (mi' := mX10_failure) (As := [.int (0)]) (q := (RX10, TX10, 14)) dL_law_703 lk_RL_135 mk_X10_failure mi_X10_failure me_X10_failure ⟨by decide, by decide⟩ rfl rfl (Nat.le_of_ble_eq_true rfl) rfl rfl ⟨show k + 0 ≤ 601024 by omega, show n + 0 ≤ 7293034 by omega⟩ (hC _) (fun v τ hq => ?_)
    obtain ⟨hV1, hKX⟩ := hq
    obtain ⟨r1, rfl⟩ := hVX v hV1
    refine pz_ws (ws' := wp G adM LM (cellsE G adX LX τ LX.1 0) [outC G ow f] σM) rfl ?_
    refine pz_kn (k + 0) (n + 0) rfl rfl ?_
    refine pz_pop dL_law_706 rfl ?_
    refine pz_aload_n dL_law_707 rfl ?_
    refine pz_aload_n dL_law_708 rfl ?_
    refine pz_iload dL_law_709 rfl ?_
    refine pz_iconst (v := 1) dL_law_711 rfl ?_
    refine pz_iadd dL_law_712 ?_
    refine pz_top (nI (4 * c + 1)) (ix1 (c := c) (d := 1) (by omega)) ?_
    refine pz_sld dL_law_713 (vp_in_nI (by omega) (by omega)) ?_
    refine pz_top (xs (4 * c + 1)) (congrArg xs (nI_clamp (by omega))) ?_
    refine pz_if_eq 721 dL_law_714 (by decide) (fun c_ => ?_) (fun c_ => absurd hz c_)
    refine pz_iconst (v := 0) dL_law_721 rfl ?_
    refine pz_rV1 (mi' := mX11_failure) (As := [.int (0)]) (q := (RX11, TX11, 33)) dL_law_722 lk_RL_139 mk_X11_failure mi_X11_failure me_X11_failure ⟨by decide, by decide⟩ rfl rfl (Nat.le_of_ble_eq_true rfl) rfl rfl ⟨show k + 0 ≤ 601024 by omega, show n + 0 ≤ 7293034 by omega⟩ (hM _ _) (fun v ρ hq => ?_)
    obtain ⟨hV2, hth, hKM⟩ := hq
    obtain ⟨r2, rfl⟩ := hVM v hV2
    refine pz_kn (k + 0) (n + 0) rfl rfl ?_
    refine pz_pop dL_law_725 rfl ?_
    refine pz_goto (tgt := 1019) dL_law_726 (by decide) ?_
    refine pz_ws (ws' := wp G adX LX [] (rtM G adM ρ ow f) τ) rfl ?_
    exact pz_lk [(0, .ref b), (1, .ref (adX 0)), (2, .ref (adM 0)), (3, .ref ow), (4, .int (nI (4 * c)))] ⟨rfl, rfl, rfl, rfl, rfl, trivial⟩ (kk τ ρ f (k + 0) (n + 0) (by omega) (by omega) (hLI _ _ hKX hKM))
  · have hs := sm_failure (l := l) (G := G) (adX := adX) (adM := adM) h  true
    obtain ⟨KX, KM, hLI, hC, hM⟩ := hs
    have hVX : ∀ v : Value, (∃ r : Int32, v = .int r) → ∃ r : Int32, v = .int r := fun v q => q
    have hVM := hVX
    refine pz_aload_n dL_law_688 rfl ?_
    refine pz_aload_n dL_law_689 rfl ?_
    refine pz_iload dL_law_690 rfl ?_
    refine pz_iconst (v := 1) dL_law_692 rfl ?_
    refine pz_iadd dL_law_693 ?_
    refine pz_top (nI (4 * c + 1)) (ix1 (c := c) (d := 1) (by omega)) ?_
    refine pz_sld dL_law_694 (vp_in_nI (by omega) (by omega)) ?_
    refine pz_top (xs (4 * c + 1)) (congrArg xs (nI_clamp (by omega))) ?_
    refine pz_if_eq 702 dL_law_695 (by decide) (fun c_ => absurd c_ hz) (fun c_ => ?_)
    refine pz_iconst (v := 1) dL_law_698 rfl ?_
    refine pz_goto (tgt := 703) dL_law_699 (by decide) ?_
    refine pz_rV1 (mi' := mX10_failure) (As := [.int (1)]) (q := (RX10, TX10, 14)) dL_law_703 lk_RL_135 mk_X10_failure mi_X10_failure me_X10_failure ⟨by decide, by decide⟩ rfl rfl (Nat.le_of_ble_eq_true rfl) rfl rfl ⟨show k + 0 ≤ 601024 by omega, show n + 0 ≤ 7293034 by omega⟩ (hC _) (fun v τ hq => ?_)
    obtain ⟨hV1, hKX⟩ := hq
    obtain ⟨r1, rfl⟩ := hVX v hV1
    refine pz_ws (ws' := wp G adM LM (cellsE G adX LX τ LX.1 0) [outC G ow f] σM) rfl ?_
    refine pz_kn (k + 0) (n + 0) rfl rfl ?_
    refine pz_pop dL_law_706 rfl ?_
    refine pz_aload_n dL_law_707 rfl ?_
    refine pz_aload_n dL_law_708 rfl ?_
    refine pz_iload dL_law_709 rfl ?_
    refine pz_iconst (v := 1) dL_law_711 rfl ?_
    refine pz_iadd dL_law_712 ?_
    refine pz_top (nI (4 * c + 1)) (ix1 (c := c) (d := 1) (by omega)) ?_
    refine pz_sld dL_law_713 (vp_in_nI (by omega) (by omega)) ?_
    refine pz_top (xs (4 * c + 1)) (congrArg xs (nI_clamp (by omega))) ?_
    refine pz_if_eq 721 dL_law_714 (by decide) (fun c_ => absurd c_ hz) (fun c_ => ?_)
    refine pz_iconst (v := 1) dL_law_717 rfl ?_
    refine pz_goto (tgt := 722) dL_law_718 (by decide) ?_
    refine pz_rV1 (mi' := mX11_failure) (As := [.int (1)]) (q := (RX11, TX11, 33)) dL_law_722 lk_RL_139 mk_X11_failure mi_X11_failure me_X11_failure ⟨by decide, by decide⟩ rfl rfl (Nat.le_of_ble_eq_true rfl) rfl rfl ⟨show k + 0 ≤ 601024 by omega, show n + 0 ≤ 7293034 by omega⟩ (hM _ _) (fun v ρ hq => ?_)
    obtain ⟨hV2, hth, hKM⟩ := hq
    obtain ⟨r2, rfl⟩ := hVM v hV2
    refine pz_kn (k + 0) (n + 0) rfl rfl ?_
    refine pz_pop dL_law_725 rfl ?_
    refine pz_goto (tgt := 1019) dL_law_726 (by decide) ?_
    refine pz_ws (ws' := wp G adX LX [] (rtM G adM ρ ow f) τ) rfl ?_
    exact pz_lk [(0, .ref b), (1, .ref (adX 0)), (2, .ref (adM 0)), (3, .ref ow), (4, .int (nI (4 * c)))] ⟨rfl, rfl, rfl, rfl, rfl, trivial⟩ (kk τ ρ f (k + 0) (n + 0) (by omega) (by omega) (hLI _ _ hKX hKM))
theorem lc_result (hl : l.stackTraces = false) (hcL : 4 * c + 4 ≤ L) (hL : L ≤ 2048) (hk : k + 1100 ≤ 601024) (hn : n + 14000 ≤ 7293034) (kk : GoOn l G b L sz c k n xs adX adM ow) (h : LI σX σM) : PZ (XL b L xs) QL l G mL_law [] sz 729 [(0, .ref b), (1, .ref (adX 0)), (2, .ref (adM 0)), (3, .ref ow), (4, .int (nI (4 * c)))] [] k n (wp G adX LX [] (rtM G adM σM ow f) σX) := by
  by_cases hz : xs (4 * c + 2) = 0
  · have hs := sm_result (l := l) (G := G) (adX := adX) (adM := adM) hl h (xs (4 * c + 1)) false
    rcases hs with hs | hs
    · obtain ⟨KX, KM, hLI, hC, hM⟩ := hs
      have hVX : ∀ v : Value, (∃ r : Int32, v = .int r) → ∃ r : Int32, v = .int r := fun v q => q
      have hVM := hVX
      refine pz_aload_n dL_law_729 rfl ?_
      refine pz_aload_n dL_law_730 rfl ?_
      refine pz_iload dL_law_731 rfl ?_
      refine pz_iconst (v := 1) dL_law_733 rfl ?_
      refine pz_iadd dL_law_734 ?_
      refine pz_top (nI (4 * c + 1)) (ix1 (c := c) (d := 1) (by omega)) ?_
      refine pz_sld dL_law_735 (vp_in_nI (by omega) (by omega)) ?_
      refine pz_top (xs (4 * c + 1)) (congrArg xs (nI_clamp (by omega))) ?_
      refine pz_aload_n dL_law_736 rfl ?_
      refine pz_iload dL_law_737 rfl ?_
      refine pz_iconst (v := 2) dL_law_739 rfl ?_
      refine pz_iadd dL_law_740 ?_
      refine pz_top (nI (4 * c + 2)) (ix1 (c := c) (d := 2) (by omega)) ?_
      refine pz_sld dL_law_741 (vp_in_nI (by omega) (by omega)) ?_
      refine pz_top (xs (4 * c + 2)) (congrArg xs (nI_clamp (by omega))) ?_
      refine pz_if_eq 749 dL_law_742 (by decide) (fun c_ => ?_) (fun c_ => absurd hz c_)
      refine pz_iconst (v := 0) dL_law_749 rfl ?_
      refine pz_aload_n dL_law_750 rfl ?_
      refine pz_callW (mi' := mL_result) (hh := hhL_result) (As := [.ref (adX 0), .int (xs (4 * c + 1)), .int (0), .ref ow]) dL_law_751 (tw_in 974 (by decide +kernel) (by decide +kernel)) mw_result ⟨by decide, by decide⟩ rfl rfl (Nat.le_of_ble_eq_true rfl) (wx_result (p := 22) rt_at (xs (4 * c + 1)) (0) hVX (hC _)) ⟨show k + 1 ≤ 601024 by omega, show n + 6 ≤ 7293034 by omega⟩ (fun v ws1 hv => ?_)
      obtain ⟨τ, r1, hV1, hv, hKX⟩ := hv
      cases hv
      refine pz_kn (k + 1) (n + 6) rfl rfl ?_
      refine pz_ws (ws' := wp G adM LM (cellsE G adX LX τ LX.1 0) [outC G ow (vp_updL f 0 r1.toInt64)] σM) (by rw [rt_set]; rfl) ?_
      refine pz_istore dL_law_754 (by decide) ?_
      refine pz_aload_n dL_law_756 rfl ?_
      refine pz_aload_n dL_law_757 rfl ?_
      refine pz_iload dL_law_758 rfl ?_
      refine pz_iconst (v := 1) dL_law_760 rfl ?_
      refine pz_iadd dL_law_761 ?_
      refine pz_top (nI (4 * c + 1)) (ix1 (c := c) (d := 1) (by omega)) ?_
      refine pz_sld dL_law_762 (vp_in_nI (by omega) (by omega)) ?_
      refine pz_top (xs (4 * c + 1)) (congrArg xs (nI_clamp (by omega))) ?_
      refine pz_aload_n dL_law_763 rfl ?_
      refine pz_iload dL_law_764 rfl ?_
      refine pz_iconst (v := 2) dL_law_766 rfl ?_
      refine pz_iadd dL_law_767 ?_
      refine pz_top (nI (4 * c + 2)) (ix1 (c := c) (d := 2) (by omega)) ?_
      refine pz_sld dL_law_768 (vp_in_nI (by omega) (by omega)) ?_
      refine pz_top (xs (4 * c + 2)) (congrArg xs (nI_clamp (by omega))) ?_
      refine pz_if_eq 776 dL_law_769 (by decide) (fun c_ => ?_) (fun c_ => absurd hz c_)
      refine pz_iconst (v := 0) dL_law_776 rfl ?_
      refine pz_rV1 (mi' := mX11_result) (As := [.int (xs (4 * c + 1)), .int (0)]) (q := (RX11, TX11, 33)) dL_law_777 lk_RL_142 mk_X11_result mi_X11_result me_X11_result ⟨by decide, by decide⟩ rfl rfl (Nat.le_of_ble_eq_true rfl) rfl rfl ⟨show k + 1 + 0 ≤ 601024 by omega, show n + 6 + 0 ≤ 7293034 by omega⟩ (hM _ _) (fun v ρ hq => ?_)
      obtain ⟨hV2, hth, hKM⟩ := hq
      obtain ⟨r2, rfl⟩ := hVM v hV2
      refine pz_kn (k + 1) (n + 6) rfl rfl ?_
      refine pz_istore dL_law_780 (by decide) ?_
      refine pz_goto (tgt := 1019) dL_law_782 (by decide) ?_
      refine pz_ws (ws' := wp G adX LX [] (rtM G adM ρ ow (vp_updL f 0 r1.toInt64)) τ) rfl ?_
      exact pz_lk [(0, .ref b), (1, .ref (adX 0)), (2, .ref (adM 0)), (3, .ref ow), (4, .int (nI (4 * c)))] ⟨rfl, rfl, rfl, rfl, rfl, trivial⟩ (kk τ ρ (vp_updL f 0 r1.toInt64) (k + 1) (n + 6) (by omega) (by omega) (hLI _ _ hKX hKM))
    · obtain ⟨hC, hM⟩ := hs
      have hVM : ∀ v : Value, (∃ r : Int32, v = .int r) → ∃ r : Int32, v = .int r := fun v q => q
      refine pz_aload_n dL_law_729 rfl ?_
      refine pz_aload_n dL_law_730 rfl ?_
      refine pz_iload dL_law_731 rfl ?_
      refine pz_iconst (v := 1) dL_law_733 rfl ?_
      refine pz_iadd dL_law_734 ?_
      refine pz_top (nI (4 * c + 1)) (ix1 (c := c) (d := 1) (by omega)) ?_
      refine pz_sld dL_law_735 (vp_in_nI (by omega) (by omega)) ?_
      refine pz_top (xs (4 * c + 1)) (congrArg xs (nI_clamp (by omega))) ?_
      refine pz_aload_n dL_law_736 rfl ?_
      refine pz_iload dL_law_737 rfl ?_
      refine pz_iconst (v := 2) dL_law_739 rfl ?_
      refine pz_iadd dL_law_740 ?_
      refine pz_top (nI (4 * c + 2)) (ix1 (c := c) (d := 2) (by omega)) ?_
      refine pz_sld dL_law_741 (vp_in_nI (by omega) (by omega)) ?_
      refine pz_top (xs (4 * c + 2)) (congrArg xs (nI_clamp (by omega))) ?_
      refine pz_if_eq 749 dL_law_742 (by decide) (fun c_ => ?_) (fun c_ => absurd hz c_)
      refine pz_iconst (v := 0) dL_law_749 rfl ?_
      refine pz_aload_n dL_law_750 rfl ?_
      refine pz_callW (mi' := mL_result) (hh := hhL_result) (As := [.ref (adX 0), .int (xs (4 * c + 1)), .int (0), .ref ow]) dL_law_751 (tw_in 974 (by decide +kernel) (by decide +kernel)) mw_result ⟨by decide, by decide⟩ rfl rfl (Nat.le_of_ble_eq_true rfl) (wt1_result (xs (4 * c + 1)) (0) (hC _)) ⟨show k + 1 ≤ 601024 by omega, show n + 6 ≤ 7293034 by omega⟩ (fun v ws1 hv => ?_)
      cases hv
      refine pz_kn (k + 1) (n + 6) rfl rfl ?_
      refine pz_ws (ws' := wp G adM LM (cellsE G adX LX σX LX.1 0) [outC G ow f] σM) rfl ?_
      refine pz_istore dL_law_754 (by decide) ?_
      refine pz_aload_n dL_law_756 rfl ?_
      refine pz_aload_n dL_law_757 rfl ?_
      refine pz_iload dL_law_758 rfl ?_
      refine pz_iconst (v := 1) dL_law_760 rfl ?_
      refine pz_iadd dL_law_761 ?_
      refine pz_top (nI (4 * c + 1)) (ix1 (c := c) (d := 1) (by omega)) ?_
      refine pz_sld dL_law_762 (vp_in_nI (by omega) (by omega)) ?_
      refine pz_top (xs (4 * c + 1)) (congrArg xs (nI_clamp (by omega))) ?_
      refine pz_aload_n dL_law_763 rfl ?_
      refine pz_iload dL_law_764 rfl ?_
      refine pz_iconst (v := 2) dL_law_766 rfl ?_
      refine pz_iadd dL_law_767 ?_
      refine pz_top (nI (4 * c + 2)) (ix1 (c := c) (d := 2) (by omega)) ?_
      refine pz_sld dL_law_768 (vp_in_nI (by omega) (by omega)) ?_
      refine pz_top (xs (4 * c + 2)) (congrArg xs (nI_clamp (by omega))) ?_
      refine pz_if_eq 776 dL_law_769 (by decide) (fun c_ => ?_) (fun c_ => absurd hz c_)
      refine pz_iconst (v := 0) dL_law_776 rfl ?_
      refine pz_rV1 (mi' := mX11_result) (As := [.int (xs (4 * c + 1)), .int (0)]) (q := (RX11, TX11, 33)) dL_law_777 lk_RL_142 mk_X11_result mi_X11_result me_X11_result ⟨by decide, by decide⟩ rfl rfl (Nat.le_of_ble_eq_true rfl) rfl rfl ⟨show k + 1 + 0 ≤ 601024 by omega, show n + 6 + 0 ≤ 7293034 by omega⟩ (hM _ _) (fun v ρ hq => ?_)
      obtain ⟨hV2, hth, hKM⟩ := hq
      obtain ⟨r2, rfl⟩ := hVM v hV2
      refine pz_kn (k + 1) (n + 6) rfl rfl ?_
      refine pz_istore dL_law_780 (by decide) ?_
      refine pz_goto (tgt := 1019) dL_law_782 (by decide) ?_
      refine pz_ws (ws' := wp G adX LX [] (rtM G adM ρ ow f) σX) rfl ?_
      exact pz_lk [(0, .ref b), (1, .ref (adX 0)), (2, .ref (adM 0)), (3, .ref ow), (4, .int (nI (4 * c)))] ⟨rfl, rfl, rfl, rfl, rfl, trivial⟩ (kk σX ρ f (k + 1) (n + 6) (by omega) (by omega) hKM)
  · have hs := sm_result (l := l) (G := G) (adX := adX) (adM := adM) hl h (xs (4 * c + 1)) true
    rcases hs with hs | hs
    · obtain ⟨KX, KM, hLI, hC, hM⟩ := hs
      have hVX : ∀ v : Value, (∃ r : Int32, v = .int r) → ∃ r : Int32, v = .int r := fun v q => q
      have hVM := hVX
      refine pz_aload_n dL_law_729 rfl ?_
      refine pz_aload_n dL_law_730 rfl ?_
      refine pz_iload dL_law_731 rfl ?_
      refine pz_iconst (v := 1) dL_law_733 rfl ?_
      refine pz_iadd dL_law_734 ?_
      refine pz_top (nI (4 * c + 1)) (ix1 (c := c) (d := 1) (by omega)) ?_
      refine pz_sld dL_law_735 (vp_in_nI (by omega) (by omega)) ?_
      refine pz_top (xs (4 * c + 1)) (congrArg xs (nI_clamp (by omega))) ?_
      refine pz_aload_n dL_law_736 rfl ?_
      refine pz_iload dL_law_737 rfl ?_
      refine pz_iconst (v := 2) dL_law_739 rfl ?_
      refine pz_iadd dL_law_740 ?_
      refine pz_top (nI (4 * c + 2)) (ix1 (c := c) (d := 2) (by omega)) ?_
      refine pz_sld dL_law_741 (vp_in_nI (by omega) (by omega)) ?_
      refine pz_top (xs (4 * c + 2)) (congrArg xs (nI_clamp (by omega))) ?_
      refine pz_if_eq 749 dL_law_742 (by decide) (fun c_ => absurd c_ hz) (fun c_ => ?_)
      refine pz_iconst (v := 1) dL_law_745 rfl ?_
      refine pz_goto (tgt := 750) dL_law_746 (by decide) ?_
      refine pz_aload_n dL_law_750 rfl ?_
      refine pz_callW (mi' := mL_result) (hh := hhL_result) (As := [.ref (adX 0), .int (xs (4 * c + 1)), .int (1), .ref ow]) dL_law_751 (tw_in 974 (by decide +kernel) (by decide +kernel)) mw_result ⟨by decide, by decide⟩ rfl rfl (Nat.le_of_ble_eq_true rfl) (wx_result (p := 22) rt_at (xs (4 * c + 1)) (1) hVX (hC _)) ⟨show k + 1 ≤ 601024 by omega, show n + 6 ≤ 7293034 by omega⟩ (fun v ws1 hv => ?_)
      obtain ⟨τ, r1, hV1, hv, hKX⟩ := hv
      cases hv
      refine pz_kn (k + 1) (n + 6) rfl rfl ?_
      refine pz_ws (ws' := wp G adM LM (cellsE G adX LX τ LX.1 0) [outC G ow (vp_updL f 0 r1.toInt64)] σM) (by rw [rt_set]; rfl) ?_
      refine pz_istore dL_law_754 (by decide) ?_
      refine pz_aload_n dL_law_756 rfl ?_
      refine pz_aload_n dL_law_757 rfl ?_
      refine pz_iload dL_law_758 rfl ?_
      refine pz_iconst (v := 1) dL_law_760 rfl ?_
      refine pz_iadd dL_law_761 ?_
      refine pz_top (nI (4 * c + 1)) (ix1 (c := c) (d := 1) (by omega)) ?_
      refine pz_sld dL_law_762 (vp_in_nI (by omega) (by omega)) ?_
      refine pz_top (xs (4 * c + 1)) (congrArg xs (nI_clamp (by omega))) ?_
      refine pz_aload_n dL_law_763 rfl ?_
      refine pz_iload dL_law_764 rfl ?_
      refine pz_iconst (v := 2) dL_law_766 rfl ?_
      refine pz_iadd dL_law_767 ?_
      refine pz_top (nI (4 * c + 2)) (ix1 (c := c) (d := 2) (by omega)) ?_
      refine pz_sld dL_law_768 (vp_in_nI (by omega) (by omega)) ?_
      refine pz_top (xs (4 * c + 2)) (congrArg xs (nI_clamp (by omega))) ?_
      refine pz_if_eq 776 dL_law_769 (by decide) (fun c_ => absurd c_ hz) (fun c_ => ?_)
      refine pz_iconst (v := 1) dL_law_772 rfl ?_
      refine pz_goto (tgt := 777) dL_law_773 (by decide) ?_
      refine pz_rV1 (mi' := mX11_result) (As := [.int (xs (4 * c + 1)), .int (1)]) (q := (RX11, TX11, 33)) dL_law_777 lk_RL_142 mk_X11_result mi_X11_result me_X11_result ⟨by decide, by decide⟩ rfl rfl (Nat.le_of_ble_eq_true rfl) rfl rfl ⟨show k + 1 + 0 ≤ 601024 by omega, show n + 6 + 0 ≤ 7293034 by omega⟩ (hM _ _) (fun v ρ hq => ?_)
      obtain ⟨hV2, hth, hKM⟩ := hq
      obtain ⟨r2, rfl⟩ := hVM v hV2
      refine pz_kn (k + 1) (n + 6) rfl rfl ?_
      refine pz_istore dL_law_780 (by decide) ?_
      refine pz_goto (tgt := 1019) dL_law_782 (by decide) ?_
      refine pz_ws (ws' := wp G adX LX [] (rtM G adM ρ ow (vp_updL f 0 r1.toInt64)) τ) rfl ?_
      exact pz_lk [(0, .ref b), (1, .ref (adX 0)), (2, .ref (adM 0)), (3, .ref ow), (4, .int (nI (4 * c)))] ⟨rfl, rfl, rfl, rfl, rfl, trivial⟩ (kk τ ρ (vp_updL f 0 r1.toInt64) (k + 1) (n + 6) (by omega) (by omega) (hLI _ _ hKX hKM))
    · obtain ⟨hC, hM⟩ := hs
      have hVM : ∀ v : Value, (∃ r : Int32, v = .int r) → ∃ r : Int32, v = .int r := fun v q => q
      refine pz_aload_n dL_law_729 rfl ?_
      refine pz_aload_n dL_law_730 rfl ?_
      refine pz_iload dL_law_731 rfl ?_
      refine pz_iconst (v := 1) dL_law_733 rfl ?_
      refine pz_iadd dL_law_734 ?_
      refine pz_top (nI (4 * c + 1)) (ix1 (c := c) (d := 1) (by omega)) ?_
      refine pz_sld dL_law_735 (vp_in_nI (by omega) (by omega)) ?_
      refine pz_top (xs (4 * c + 1)) (congrArg xs (nI_clamp (by omega))) ?_
      refine pz_aload_n dL_law_736 rfl ?_
      refine pz_iload dL_law_737 rfl ?_
      refine pz_iconst (v := 2) dL_law_739 rfl ?_
      refine pz_iadd dL_law_740 ?_
      refine pz_top (nI (4 * c + 2)) (ix1 (c := c) (d := 2) (by omega)) ?_
      refine pz_sld dL_law_741 (vp_in_nI (by omega) (by omega)) ?_
      refine pz_top (xs (4 * c + 2)) (congrArg xs (nI_clamp (by omega))) ?_
      refine pz_if_eq 749 dL_law_742 (by decide) (fun c_ => absurd c_ hz) (fun c_ => ?_)
      refine pz_iconst (v := 1) dL_law_745 rfl ?_
      refine pz_goto (tgt := 750) dL_law_746 (by decide) ?_
      refine pz_aload_n dL_law_750 rfl ?_
      refine pz_callW (mi' := mL_result) (hh := hhL_result) (As := [.ref (adX 0), .int (xs (4 * c + 1)), .int (1), .ref ow]) dL_law_751 (tw_in 974 (by decide +kernel) (by decide +kernel)) mw_result ⟨by decide, by decide⟩ rfl rfl (Nat.le_of_ble_eq_true rfl) (wt1_result (xs (4 * c + 1)) (1) (hC _)) ⟨show k + 1 ≤ 601024 by omega, show n + 6 ≤ 7293034 by omega⟩ (fun v ws1 hv => ?_)
      cases hv
      refine pz_kn (k + 1) (n + 6) rfl rfl ?_
      refine pz_ws (ws' := wp G adM LM (cellsE G adX LX σX LX.1 0) [outC G ow f] σM) rfl ?_
      refine pz_istore dL_law_754 (by decide) ?_
      refine pz_aload_n dL_law_756 rfl ?_
      refine pz_aload_n dL_law_757 rfl ?_
      refine pz_iload dL_law_758 rfl ?_
      refine pz_iconst (v := 1) dL_law_760 rfl ?_
      refine pz_iadd dL_law_761 ?_
      refine pz_top (nI (4 * c + 1)) (ix1 (c := c) (d := 1) (by omega)) ?_
      refine pz_sld dL_law_762 (vp_in_nI (by omega) (by omega)) ?_
      refine pz_top (xs (4 * c + 1)) (congrArg xs (nI_clamp (by omega))) ?_
      refine pz_aload_n dL_law_763 rfl ?_
      refine pz_iload dL_law_764 rfl ?_
      refine pz_iconst (v := 2) dL_law_766 rfl ?_
      refine pz_iadd dL_law_767 ?_
      refine pz_top (nI (4 * c + 2)) (ix1 (c := c) (d := 2) (by omega)) ?_
      refine pz_sld dL_law_768 (vp_in_nI (by omega) (by omega)) ?_
      refine pz_top (xs (4 * c + 2)) (congrArg xs (nI_clamp (by omega))) ?_
      refine pz_if_eq 776 dL_law_769 (by decide) (fun c_ => absurd c_ hz) (fun c_ => ?_)
      refine pz_iconst (v := 1) dL_law_772 rfl ?_
      refine pz_goto (tgt := 777) dL_law_773 (by decide) ?_
      refine pz_rV1 (mi' := mX11_result) (As := [.int (xs (4 * c + 1)), .int (1)]) (q := (RX11, TX11, 33)) dL_law_777 lk_RL_142 mk_X11_result mi_X11_result me_X11_result ⟨by decide, by decide⟩ rfl rfl (Nat.le_of_ble_eq_true rfl) rfl rfl ⟨show k + 1 + 0 ≤ 601024 by omega, show n + 6 + 0 ≤ 7293034 by omega⟩ (hM _ _) (fun v ρ hq => ?_)
      obtain ⟨hV2, hth, hKM⟩ := hq
      obtain ⟨r2, rfl⟩ := hVM v hV2
      refine pz_kn (k + 1) (n + 6) rfl rfl ?_
      refine pz_istore dL_law_780 (by decide) ?_
      refine pz_goto (tgt := 1019) dL_law_782 (by decide) ?_
      refine pz_ws (ws' := wp G adX LX [] (rtM G adM ρ ow f) σX) rfl ?_
      exact pz_lk [(0, .ref b), (1, .ref (adX 0)), (2, .ref (adM 0)), (3, .ref ow), (4, .int (nI (4 * c)))] ⟨rfl, rfl, rfl, rfl, rfl, trivial⟩ (kk σX ρ f (k + 1) (n + 6) (by omega) (by omega) hKM)
theorem lc_checks (hl : l.stackTraces = false) (hcL : 4 * c + 4 ≤ L) (hL : L ≤ 2048) (hk : k + 1100 ≤ 601024) (hn : n + 14000 ≤ 7293034) (kk : GoOn l G b L sz c k n xs adX adM ow) (h : LI σX σM) : PZ (XL b L xs) QL l G mL_law [] sz 785 [(0, .ref b), (1, .ref (adX 0)), (2, .ref (adM 0)), (3, .ref ow), (4, .int (nI (4 * c)))] [] k n (wp G adX LX [] (rtM G adM σM ow f) σX) := by
  by_cases hz : xs (4 * c + 1) = 0
  · have hs := sm_checks (l := l) (G := G) (adX := adX) (adM := adM) h  false
    obtain ⟨KX, KM, hLI, hC, hM⟩ := hs
    have hVX : ∀ v : Value, (∃ r : Int32, v = .int r) → ∃ r : Int32, v = .int r := fun v q => q
    have hVM := hVX
    refine pz_aload_n dL_law_785 rfl ?_
    refine pz_aload_n dL_law_786 rfl ?_
    refine pz_iload dL_law_787 rfl ?_
    refine pz_iconst (v := 1) dL_law_789 rfl ?_
    refine pz_iadd dL_law_790 ?_
    refine pz_top (nI (4 * c + 1)) (ix1 (c := c) (d := 1) (by omega)) ?_
    refine pz_sld dL_law_791 (vp_in_nI (by omega) (by omega)) ?_
    refine pz_top (xs (4 * c + 1)) (congrArg xs (nI_clamp (by omega))) ?_
    refine pz_if_eq 799 dL_law_792 (by decide) (fun c_ => ?_) (fun c_ => absurd hz c_)
    refine pz_iconst (v := 0) dL_law_799 rfl ?_
    refine pz_rV1 (mi' := mX10_checks) (As := [.int (0)]) (q := (RX10, TX10, 14)) dL_law_800 lk_RL_143 mk_X10_checks mi_X10_checks me_X10_checks ⟨by decide, by decide⟩ rfl rfl (Nat.le_of_ble_eq_true rfl) rfl rfl ⟨show k + 0 ≤ 601024 by omega, show n + 0 ≤ 7293034 by omega⟩ (hC _) (fun v τ hq => ?_)
    obtain ⟨hV1, hKX⟩ := hq
    obtain ⟨r1, rfl⟩ := hVX v hV1
    refine pz_ws (ws' := wp G adM LM (cellsE G adX LX τ LX.1 0) [outC G ow f] σM) rfl ?_
    refine pz_kn (k + 0) (n + 0) rfl rfl ?_
    refine pz_pop dL_law_803 rfl ?_
    refine pz_aload_n dL_law_804 rfl ?_
    refine pz_aload_n dL_law_805 rfl ?_
    refine pz_iload dL_law_806 rfl ?_
    refine pz_iconst (v := 1) dL_law_808 rfl ?_
    refine pz_iadd dL_law_809 ?_
    refine pz_top (nI (4 * c + 1)) (ix1 (c := c) (d := 1) (by omega)) ?_
    refine pz_sld dL_law_810 (vp_in_nI (by omega) (by omega)) ?_
    refine pz_top (xs (4 * c + 1)) (congrArg xs (nI_clamp (by omega))) ?_
    refine pz_if_eq 818 dL_law_811 (by decide) (fun c_ => ?_) (fun c_ => absurd hz c_)
    refine pz_iconst (v := 0) dL_law_818 rfl ?_
    refine pz_rV1 (mi' := mX11_checks) (As := [.int (0)]) (q := (RX11, TX11, 33)) dL_law_819 lk_RL_146 mk_X11_checks mi_X11_checks me_X11_checks ⟨by decide, by decide⟩ rfl rfl (Nat.le_of_ble_eq_true rfl) rfl rfl ⟨show k + 0 ≤ 601024 by omega, show n + 0 ≤ 7293034 by omega⟩ (hM _ _) (fun v ρ hq => ?_)
    obtain ⟨hV2, hth, hKM⟩ := hq
    obtain ⟨r2, rfl⟩ := hVM v hV2
    refine pz_kn (k + 0) (n + 0) rfl rfl ?_
    refine pz_pop dL_law_822 rfl ?_
    refine pz_goto (tgt := 1019) dL_law_823 (by decide) ?_
    refine pz_ws (ws' := wp G adX LX [] (rtM G adM ρ ow f) τ) rfl ?_
    exact pz_lk [(0, .ref b), (1, .ref (adX 0)), (2, .ref (adM 0)), (3, .ref ow), (4, .int (nI (4 * c)))] ⟨rfl, rfl, rfl, rfl, rfl, trivial⟩ (kk τ ρ f (k + 0) (n + 0) (by omega) (by omega) (hLI _ _ hKX hKM))
  · have hs := sm_checks (l := l) (G := G) (adX := adX) (adM := adM) h  true
    obtain ⟨KX, KM, hLI, hC, hM⟩ := hs
    have hVX : ∀ v : Value, (∃ r : Int32, v = .int r) → ∃ r : Int32, v = .int r := fun v q => q
    have hVM := hVX
    refine pz_aload_n dL_law_785 rfl ?_
    refine pz_aload_n dL_law_786 rfl ?_
    refine pz_iload dL_law_787 rfl ?_
    refine pz_iconst (v := 1) dL_law_789 rfl ?_
    refine pz_iadd dL_law_790 ?_
    refine pz_top (nI (4 * c + 1)) (ix1 (c := c) (d := 1) (by omega)) ?_
    refine pz_sld dL_law_791 (vp_in_nI (by omega) (by omega)) ?_
    refine pz_top (xs (4 * c + 1)) (congrArg xs (nI_clamp (by omega))) ?_
    refine pz_if_eq 799 dL_law_792 (by decide) (fun c_ => absurd c_ hz) (fun c_ => ?_)
    refine pz_iconst (v := 1) dL_law_795 rfl ?_
    refine pz_goto (tgt := 800) dL_law_796 (by decide) ?_
    refine pz_rV1 (mi' := mX10_checks) (As := [.int (1)]) (q := (RX10, TX10, 14)) dL_law_800 lk_RL_143 mk_X10_checks mi_X10_checks me_X10_checks ⟨by decide, by decide⟩ rfl rfl (Nat.le_of_ble_eq_true rfl) rfl rfl ⟨show k + 0 ≤ 601024 by omega, show n + 0 ≤ 7293034 by omega⟩ (hC _) (fun v τ hq => ?_)
    obtain ⟨hV1, hKX⟩ := hq
    obtain ⟨r1, rfl⟩ := hVX v hV1
    refine pz_ws (ws' := wp G adM LM (cellsE G adX LX τ LX.1 0) [outC G ow f] σM) rfl ?_
    refine pz_kn (k + 0) (n + 0) rfl rfl ?_
    refine pz_pop dL_law_803 rfl ?_
    refine pz_aload_n dL_law_804 rfl ?_
    refine pz_aload_n dL_law_805 rfl ?_
    refine pz_iload dL_law_806 rfl ?_
    refine pz_iconst (v := 1) dL_law_808 rfl ?_
    refine pz_iadd dL_law_809 ?_
    refine pz_top (nI (4 * c + 1)) (ix1 (c := c) (d := 1) (by omega)) ?_
    refine pz_sld dL_law_810 (vp_in_nI (by omega) (by omega)) ?_
    refine pz_top (xs (4 * c + 1)) (congrArg xs (nI_clamp (by omega))) ?_
    refine pz_if_eq 818 dL_law_811 (by decide) (fun c_ => absurd c_ hz) (fun c_ => ?_)
    refine pz_iconst (v := 1) dL_law_814 rfl ?_
    refine pz_goto (tgt := 819) dL_law_815 (by decide) ?_
    refine pz_rV1 (mi' := mX11_checks) (As := [.int (1)]) (q := (RX11, TX11, 33)) dL_law_819 lk_RL_146 mk_X11_checks mi_X11_checks me_X11_checks ⟨by decide, by decide⟩ rfl rfl (Nat.le_of_ble_eq_true rfl) rfl rfl ⟨show k + 0 ≤ 601024 by omega, show n + 0 ≤ 7293034 by omega⟩ (hM _ _) (fun v ρ hq => ?_)
    obtain ⟨hV2, hth, hKM⟩ := hq
    obtain ⟨r2, rfl⟩ := hVM v hV2
    refine pz_kn (k + 0) (n + 0) rfl rfl ?_
    refine pz_pop dL_law_822 rfl ?_
    refine pz_goto (tgt := 1019) dL_law_823 (by decide) ?_
    refine pz_ws (ws' := wp G adX LX [] (rtM G adM ρ ow f) τ) rfl ?_
    exact pz_lk [(0, .ref b), (1, .ref (adX 0)), (2, .ref (adM 0)), (3, .ref ow), (4, .int (nI (4 * c)))] ⟨rfl, rfl, rfl, rfl, rfl, trivial⟩ (kk τ ρ f (k + 0) (n + 0) (by omega) (by omega) (hLI _ _ hKX hKM))
theorem lc_executed (hl : l.stackTraces = false) (hcL : 4 * c + 4 ≤ L) (hL : L ≤ 2048) (hk : k + 1100 ≤ 601024) (hn : n + 14000 ≤ 7293034) (kk : GoOn l G b L sz c k n xs adX adM ow) (h : LI σX σM) : PZ (XL b L xs) QL l G mL_law [] sz 826 [(0, .ref b), (1, .ref (adX 0)), (2, .ref (adM 0)), (3, .ref ow), (4, .int (nI (4 * c)))] [] k n (wp G adX LX [] (rtM G adM σM ow f) σX) := by
  have hs := sm_executed (l := l) (G := G) (adX := adX) (adM := adM) h 
  obtain ⟨r0, KX, KM, hLI, hC, hM⟩ := hs
  have hVX : ∀ v : Value, v = .int r0 → ∃ r : Int32, v = .int r := fun v q => ⟨r0, q⟩
  have hVM := hVX
  have hEq : ∀ r1 r2 : Int32, (.int r1 : Value) = .int r0 → (.int r2 : Value) = .int r0 → r1 = r2 := fun r1 r2 a b => by cases a; cases b; rfl
  refine pz_aload_n dL_law_826 rfl ?_
  refine pz_rV1 (mi' := mX10_executed) (As := []) (q := (RX10, TX10, 14)) dL_law_827 lk_RL_147 mk_X10_executed mi_X10_executed me_X10_executed ⟨by decide, by decide⟩ rfl rfl (Nat.le_of_ble_eq_true rfl) rfl rfl ⟨show k + 0 ≤ 601024 by omega, show n + 0 ≤ 7293034 by omega⟩ (hC _) (fun v τ hq => ?_)
  obtain ⟨hV1, hKX⟩ := hq
  obtain ⟨r1, rfl⟩ := hVX v hV1
  refine pz_ws (ws' := wp G adM LM (cellsE G adX LX τ LX.1 0) [outC G ow f] σM) rfl ?_
  refine pz_kn (k + 0) (n + 0) rfl rfl ?_
  refine pz_pop dL_law_830 rfl ?_
  refine pz_aload_n dL_law_831 rfl ?_
  refine pz_rV1 (mi' := mX11_executed) (As := []) (q := (RX11, TX11, 33)) dL_law_832 lk_RL_150 mk_X11_executed mi_X11_executed me_X11_executed ⟨by decide, by decide⟩ rfl rfl (Nat.le_of_ble_eq_true rfl) rfl rfl ⟨show k + 0 ≤ 601024 by omega, show n + 0 ≤ 7293034 by omega⟩ (hM _ _) (fun v ρ hq => ?_)
  obtain ⟨hV2, hth, hKM⟩ := hq
  obtain ⟨r2, rfl⟩ := hVM v hV2
  have er : r1 = r2 := hEq r1 r2 hV1 hV2
  subst er
  refine pz_kn (k + 0) (n + 0) rfl rfl ?_
  refine pz_pop dL_law_835 rfl ?_
  refine pz_goto (tgt := 1019) dL_law_836 (by decide) ?_
  refine pz_ws (ws' := wp G adX LX [] (rtM G adM ρ ow f) τ) rfl ?_
  exact pz_lk [(0, .ref b), (1, .ref (adX 0)), (2, .ref (adM 0)), (3, .ref ow), (4, .int (nI (4 * c)))] ⟨rfl, rfl, rfl, rfl, rfl, trivial⟩ (kk τ ρ f (k + 0) (n + 0) (by omega) (by omega) (hLI _ _ hKX hKM))
theorem lc_saving (hl : l.stackTraces = false) (hcL : 4 * c + 4 ≤ L) (hL : L ≤ 2048) (hk : k + 1100 ≤ 601024) (hn : n + 14000 ≤ 7293034) (kk : GoOn l G b L sz c k n xs adX adM ow) (h : LI σX σM) : PZ (XL b L xs) QL l G mL_law [] sz 839 [(0, .ref b), (1, .ref (adX 0)), (2, .ref (adM 0)), (3, .ref ow), (4, .int (nI (4 * c)))] [] k n (wp G adX LX [] (rtM G adM σM ow f) σX) := by
  have hs := sm_saving (l := l) (G := G) (adX := adX) (adM := adM) h 
  obtain ⟨KX, KM, hLI, hC, hM⟩ := hs
  have hVX : ∀ v : Value, (∃ r : UInt64, v = .double r) → ∃ r : UInt64, v = .double r := fun v q => q
  have hVM := hVX
  refine pz_aload_n dL_law_839 rfl ?_
  refine pz_rV1 (mi' := mX10_saving) (As := []) (q := (RX10, TX10, 14)) dL_law_840 lk_RL_151 mk_X10_saving mi_X10_saving me_X10_saving ⟨by decide, by decide⟩ rfl rfl (Nat.le_of_ble_eq_true rfl) rfl rfl ⟨show k + 0 ≤ 601024 by omega, show n + 0 ≤ 7293034 by omega⟩ (hC _) (fun v τ hq => ?_)
  obtain ⟨hV1, hKX⟩ := hq
  obtain ⟨r1, rfl⟩ := hVX v hV1
  refine pz_ws (ws' := wp G adM LM (cellsE G adX LX τ LX.1 0) [outC G ow f] σM) rfl ?_
  refine pz_kn (k + 0) (n + 0) rfl rfl ?_
  refine pz_dstore dL_law_843 (by decide) ?_
  refine pz_aload_n dL_law_845 rfl ?_
  refine pz_rV1 (mi' := mX11_saving) (As := []) (q := (RX11, TX11, 33)) dL_law_846 lk_RL_155 mk_X11_saving mi_X11_saving me_X11_saving ⟨by decide, by decide⟩ rfl rfl (Nat.le_of_ble_eq_true rfl) rfl rfl ⟨show k + 0 ≤ 601024 by omega, show n + 0 ≤ 7293034 by omega⟩ (hM _ _) (fun v ρ hq => ?_)
  obtain ⟨hV2, hth, hKM⟩ := hq
  obtain ⟨r2, rfl⟩ := hVM v hV2
  refine pz_kn (k + 0) (n + 0) rfl rfl ?_
  refine pz_dstore dL_law_849 (by decide) ?_
  refine pz_goto (tgt := 1019) dL_law_851 (by decide) ?_
  refine pz_ws (ws' := wp G adX LX [] (rtM G adM ρ ow f) τ) rfl ?_
  exact pz_lk [(0, .ref b), (1, .ref (adX 0)), (2, .ref (adM 0)), (3, .ref ow), (4, .int (nI (4 * c)))] ⟨rfl, rfl, rfl, rfl, rfl, trivial⟩ (kk τ ρ f (k + 0) (n + 0) (by omega) (by omega) (hLI _ _ hKX hKM))
theorem lc_openWith (hl : l.stackTraces = false) (hcL : 4 * c + 4 ≤ L) (hL : L ≤ 2048) (hk : k + 1100 ≤ 601024) (hn : n + 14000 ≤ 7293034) (kk : GoOn l G b L sz c k n xs adX adM ow) (h : LI σX σM) : PZ (XL b L xs) QL l G mL_law [] sz 854 [(0, .ref b), (1, .ref (adX 0)), (2, .ref (adM 0)), (3, .ref ow), (4, .int (nI (4 * c)))] [] k n (wp G adX LX [] (rtM G adM σM ow f) σX) := by
  have hs := sm_openWith (l := l) (G := G) (adX := adX) (adM := adM) hl h (xs (4 * c + 1)) (xs (4 * c + 2)) (xs (4 * c + 3))
  rcases hs with hs | hs | hs
  · obtain ⟨r0, KX, KM, hLI, hC, hM⟩ := hs
    have hVX : ∀ v : Value, v = .int r0 → ∃ r : Int32, v = .int r := fun v q => ⟨r0, q⟩
    have hVM := hVX
    have hEq : ∀ r1 r2 : Int32, (.int r1 : Value) = .int r0 → (.int r2 : Value) = .int r0 → r1 = r2 := fun r1 r2 a b => by cases a; cases b; rfl
    refine pz_aload_n dL_law_854 rfl ?_
    refine pz_aload_n dL_law_855 rfl ?_
    refine pz_iload dL_law_856 rfl ?_
    refine pz_iconst (v := 1) dL_law_858 rfl ?_
    refine pz_iadd dL_law_859 ?_
    refine pz_top (nI (4 * c + 1)) (ix1 (c := c) (d := 1) (by omega)) ?_
    refine pz_sld dL_law_860 (vp_in_nI (by omega) (by omega)) ?_
    refine pz_top (xs (4 * c + 1)) (congrArg xs (nI_clamp (by omega))) ?_
    refine pz_aload_n dL_law_861 rfl ?_
    refine pz_iload dL_law_862 rfl ?_
    refine pz_iconst (v := 2) dL_law_864 rfl ?_
    refine pz_iadd dL_law_865 ?_
    refine pz_top (nI (4 * c + 2)) (ix1 (c := c) (d := 2) (by omega)) ?_
    refine pz_sld dL_law_866 (vp_in_nI (by omega) (by omega)) ?_
    refine pz_top (xs (4 * c + 2)) (congrArg xs (nI_clamp (by omega))) ?_
    refine pz_aload_n dL_law_867 rfl ?_
    refine pz_iload dL_law_868 rfl ?_
    refine pz_iconst (v := 3) dL_law_870 rfl ?_
    refine pz_iadd dL_law_871 ?_
    refine pz_top (nI (4 * c + 3)) (ix1 (c := c) (d := 3) (by omega)) ?_
    refine pz_sld dL_law_872 (vp_in_nI (by omega) (by omega)) ?_
    refine pz_top (xs (4 * c + 3)) (congrArg xs (nI_clamp (by omega))) ?_
    refine pz_aload_n dL_law_873 rfl ?_
    refine pz_callW (mi' := mL_openWith) (hh := hhL_openWith) (As := [.ref (adX 0), .int (xs (4 * c + 1)), .int (xs (4 * c + 2)), .int (xs (4 * c + 3)), .ref ow]) dL_law_874 (tw_in 981 (by decide +kernel) (by decide +kernel)) mw_openWith ⟨by decide, by decide⟩ rfl rfl (Nat.le_of_ble_eq_true rfl) (wx_openWith (p := 22) rt_at (xs (4 * c + 1)) (xs (4 * c + 2)) (xs (4 * c + 3)) hVX (hC _)) ⟨show k + 2 ≤ 601024 by omega, show n + 12 ≤ 7293034 by omega⟩ (fun v ws1 hv => ?_)
    obtain ⟨τ, r1, hV1, hv, hKX⟩ := hv
    cases hv
    refine pz_kn (k + 2) (n + 12) rfl rfl ?_
    refine pz_ws (ws' := wp G adM LM (cellsE G adX LX τ LX.1 0) [outC G ow (vp_updL f 0 r1.toInt64)] σM) (by rw [rt_set]; rfl) ?_
    refine pz_istore dL_law_877 (by decide) ?_
    refine pz_aload_n dL_law_879 rfl ?_
    refine pz_aload_n dL_law_880 rfl ?_
    refine pz_iload dL_law_881 rfl ?_
    refine pz_iconst (v := 1) dL_law_883 rfl ?_
    refine pz_iadd dL_law_884 ?_
    refine pz_top (nI (4 * c + 1)) (ix1 (c := c) (d := 1) (by omega)) ?_
    refine pz_sld dL_law_885 (vp_in_nI (by omega) (by omega)) ?_
    refine pz_top (xs (4 * c + 1)) (congrArg xs (nI_clamp (by omega))) ?_
    refine pz_aload_n dL_law_886 rfl ?_
    refine pz_iload dL_law_887 rfl ?_
    refine pz_iconst (v := 2) dL_law_889 rfl ?_
    refine pz_iadd dL_law_890 ?_
    refine pz_top (nI (4 * c + 2)) (ix1 (c := c) (d := 2) (by omega)) ?_
    refine pz_sld dL_law_891 (vp_in_nI (by omega) (by omega)) ?_
    refine pz_top (xs (4 * c + 2)) (congrArg xs (nI_clamp (by omega))) ?_
    refine pz_aload_n dL_law_892 rfl ?_
    refine pz_iload dL_law_893 rfl ?_
    refine pz_iconst (v := 3) dL_law_895 rfl ?_
    refine pz_iadd dL_law_896 ?_
    refine pz_top (nI (4 * c + 3)) (ix1 (c := c) (d := 3) (by omega)) ?_
    refine pz_sld dL_law_897 (vp_in_nI (by omega) (by omega)) ?_
    refine pz_top (xs (4 * c + 3)) (congrArg xs (nI_clamp (by omega))) ?_
    refine pz_rV1 (mi' := mX11_openWith) (As := [.int (xs (4 * c + 1)), .int (xs (4 * c + 2)), .int (xs (4 * c + 3))]) (q := (RX11, TX11, 33)) dL_law_898 lk_RL_158 mk_X11_openWith mi_X11_openWith me_X11_openWith ⟨by decide, by decide⟩ rfl rfl (Nat.le_of_ble_eq_true rfl) rfl rfl ⟨show k + 2 + 0 ≤ 601024 by omega, show n + 12 + 0 ≤ 7293034 by omega⟩ (hM _ _) (fun v ρ hq => ?_)
    obtain ⟨hV2, hth, hKM⟩ := hq
    obtain ⟨r2, rfl⟩ := hVM v hV2
    have er : r1 = r2 := hEq r1 r2 hV1 hV2
    subst er
    refine pz_kn (k + 2) (n + 12) rfl rfl ?_
    refine pz_istore dL_law_901 (by decide) ?_
    refine pz_goto (tgt := 1019) dL_law_903 (by decide) ?_
    refine pz_ws (ws' := wp G adX LX [] (rtM G adM ρ ow (vp_updL f 0 r1.toInt64)) τ) rfl ?_
    exact pz_lk [(0, .ref b), (1, .ref (adX 0)), (2, .ref (adM 0)), (3, .ref ow), (4, .int (nI (4 * c)))] ⟨rfl, rfl, rfl, rfl, rfl, trivial⟩ (kk τ ρ (vp_updL f 0 r1.toInt64) (k + 2) (n + 12) (by omega) (by omega) (hLI _ _ hKX hKM))
  · obtain ⟨hC, hM⟩ := hs
    have hVM : ∀ v : Value, (∃ r : Int32, v = .int r) → ∃ r : Int32, v = .int r := fun v q => q
    refine pz_aload_n dL_law_854 rfl ?_
    refine pz_aload_n dL_law_855 rfl ?_
    refine pz_iload dL_law_856 rfl ?_
    refine pz_iconst (v := 1) dL_law_858 rfl ?_
    refine pz_iadd dL_law_859 ?_
    refine pz_top (nI (4 * c + 1)) (ix1 (c := c) (d := 1) (by omega)) ?_
    refine pz_sld dL_law_860 (vp_in_nI (by omega) (by omega)) ?_
    refine pz_top (xs (4 * c + 1)) (congrArg xs (nI_clamp (by omega))) ?_
    refine pz_aload_n dL_law_861 rfl ?_
    refine pz_iload dL_law_862 rfl ?_
    refine pz_iconst (v := 2) dL_law_864 rfl ?_
    refine pz_iadd dL_law_865 ?_
    refine pz_top (nI (4 * c + 2)) (ix1 (c := c) (d := 2) (by omega)) ?_
    refine pz_sld dL_law_866 (vp_in_nI (by omega) (by omega)) ?_
    refine pz_top (xs (4 * c + 2)) (congrArg xs (nI_clamp (by omega))) ?_
    refine pz_aload_n dL_law_867 rfl ?_
    refine pz_iload dL_law_868 rfl ?_
    refine pz_iconst (v := 3) dL_law_870 rfl ?_
    refine pz_iadd dL_law_871 ?_
    refine pz_top (nI (4 * c + 3)) (ix1 (c := c) (d := 3) (by omega)) ?_
    refine pz_sld dL_law_872 (vp_in_nI (by omega) (by omega)) ?_
    refine pz_top (xs (4 * c + 3)) (congrArg xs (nI_clamp (by omega))) ?_
    refine pz_aload_n dL_law_873 rfl ?_
    refine pz_callW (mi' := mL_openWith) (hh := hhL_openWith) (As := [.ref (adX 0), .int (xs (4 * c + 1)), .int (xs (4 * c + 2)), .int (xs (4 * c + 3)), .ref ow]) dL_law_874 (tw_in 981 (by decide +kernel) (by decide +kernel)) mw_openWith ⟨by decide, by decide⟩ rfl rfl (Nat.le_of_ble_eq_true rfl) (wt1_openWith (xs (4 * c + 1)) (xs (4 * c + 2)) (xs (4 * c + 3)) (hC _)) ⟨show k + 2 ≤ 601024 by omega, show n + 12 ≤ 7293034 by omega⟩ (fun v ws1 hv => ?_)
    cases hv
    refine pz_kn (k + 2) (n + 12) rfl rfl ?_
    refine pz_ws (ws' := wp G adM LM (cellsE G adX LX σX LX.1 0) [outC G ow f] σM) rfl ?_
    refine pz_istore dL_law_877 (by decide) ?_
    refine pz_aload_n dL_law_879 rfl ?_
    refine pz_aload_n dL_law_880 rfl ?_
    refine pz_iload dL_law_881 rfl ?_
    refine pz_iconst (v := 1) dL_law_883 rfl ?_
    refine pz_iadd dL_law_884 ?_
    refine pz_top (nI (4 * c + 1)) (ix1 (c := c) (d := 1) (by omega)) ?_
    refine pz_sld dL_law_885 (vp_in_nI (by omega) (by omega)) ?_
    refine pz_top (xs (4 * c + 1)) (congrArg xs (nI_clamp (by omega))) ?_
    refine pz_aload_n dL_law_886 rfl ?_
    refine pz_iload dL_law_887 rfl ?_
    refine pz_iconst (v := 2) dL_law_889 rfl ?_
    refine pz_iadd dL_law_890 ?_
    refine pz_top (nI (4 * c + 2)) (ix1 (c := c) (d := 2) (by omega)) ?_
    refine pz_sld dL_law_891 (vp_in_nI (by omega) (by omega)) ?_
    refine pz_top (xs (4 * c + 2)) (congrArg xs (nI_clamp (by omega))) ?_
    refine pz_aload_n dL_law_892 rfl ?_
    refine pz_iload dL_law_893 rfl ?_
    refine pz_iconst (v := 3) dL_law_895 rfl ?_
    refine pz_iadd dL_law_896 ?_
    refine pz_top (nI (4 * c + 3)) (ix1 (c := c) (d := 3) (by omega)) ?_
    refine pz_sld dL_law_897 (vp_in_nI (by omega) (by omega)) ?_
    refine pz_top (xs (4 * c + 3)) (congrArg xs (nI_clamp (by omega))) ?_
    refine pz_rV1 (mi' := mX11_openWith) (As := [.int (xs (4 * c + 1)), .int (xs (4 * c + 2)), .int (xs (4 * c + 3))]) (q := (RX11, TX11, 33)) dL_law_898 lk_RL_158 mk_X11_openWith mi_X11_openWith me_X11_openWith ⟨by decide, by decide⟩ rfl rfl (Nat.le_of_ble_eq_true rfl) rfl rfl ⟨show k + 2 + 0 ≤ 601024 by omega, show n + 12 + 0 ≤ 7293034 by omega⟩ (hM _ _) (fun v ρ hq => ?_)
    obtain ⟨hV2, hth, hKM⟩ := hq
    obtain ⟨r2, rfl⟩ := hVM v hV2
    refine pz_kn (k + 2) (n + 12) rfl rfl ?_
    refine pz_istore dL_law_901 (by decide) ?_
    refine pz_goto (tgt := 1019) dL_law_903 (by decide) ?_
    refine pz_ws (ws' := wp G adX LX [] (rtM G adM ρ ow f) σX) rfl ?_
    exact pz_lk [(0, .ref b), (1, .ref (adX 0)), (2, .ref (adM 0)), (3, .ref ow), (4, .int (nI (4 * c)))] ⟨rfl, rfl, rfl, rfl, rfl, trivial⟩ (kk σX ρ f (k + 2) (n + 12) (by omega) (by omega) hKM)
  · obtain ⟨hC, hM⟩ := hs
    have hVM : ∀ v : Value, (∃ r : Int32, v = .int r) → ∃ r : Int32, v = .int r := fun v q => q
    refine pz_aload_n dL_law_854 rfl ?_
    refine pz_aload_n dL_law_855 rfl ?_
    refine pz_iload dL_law_856 rfl ?_
    refine pz_iconst (v := 1) dL_law_858 rfl ?_
    refine pz_iadd dL_law_859 ?_
    refine pz_top (nI (4 * c + 1)) (ix1 (c := c) (d := 1) (by omega)) ?_
    refine pz_sld dL_law_860 (vp_in_nI (by omega) (by omega)) ?_
    refine pz_top (xs (4 * c + 1)) (congrArg xs (nI_clamp (by omega))) ?_
    refine pz_aload_n dL_law_861 rfl ?_
    refine pz_iload dL_law_862 rfl ?_
    refine pz_iconst (v := 2) dL_law_864 rfl ?_
    refine pz_iadd dL_law_865 ?_
    refine pz_top (nI (4 * c + 2)) (ix1 (c := c) (d := 2) (by omega)) ?_
    refine pz_sld dL_law_866 (vp_in_nI (by omega) (by omega)) ?_
    refine pz_top (xs (4 * c + 2)) (congrArg xs (nI_clamp (by omega))) ?_
    refine pz_aload_n dL_law_867 rfl ?_
    refine pz_iload dL_law_868 rfl ?_
    refine pz_iconst (v := 3) dL_law_870 rfl ?_
    refine pz_iadd dL_law_871 ?_
    refine pz_top (nI (4 * c + 3)) (ix1 (c := c) (d := 3) (by omega)) ?_
    refine pz_sld dL_law_872 (vp_in_nI (by omega) (by omega)) ?_
    refine pz_top (xs (4 * c + 3)) (congrArg xs (nI_clamp (by omega))) ?_
    refine pz_aload_n dL_law_873 rfl ?_
    refine pz_callW (mi' := mL_openWith) (hh := hhL_openWith) (As := [.ref (adX 0), .int (xs (4 * c + 1)), .int (xs (4 * c + 2)), .int (xs (4 * c + 3)), .ref ow]) dL_law_874 (tw_in 981 (by decide +kernel) (by decide +kernel)) mw_openWith ⟨by decide, by decide⟩ rfl rfl (Nat.le_of_ble_eq_true rfl) (wt2_openWith (xs (4 * c + 1)) (xs (4 * c + 2)) (xs (4 * c + 3)) (hC _)) ⟨show k + 2 ≤ 601024 by omega, show n + 12 ≤ 7293034 by omega⟩ (fun v ws1 hv => ?_)
    cases hv
    refine pz_kn (k + 2) (n + 12) rfl rfl ?_
    refine pz_ws (ws' := wp G adM LM (cellsE G adX LX σX LX.1 0) [outC G ow f] σM) rfl ?_
    refine pz_istore dL_law_877 (by decide) ?_
    refine pz_aload_n dL_law_879 rfl ?_
    refine pz_aload_n dL_law_880 rfl ?_
    refine pz_iload dL_law_881 rfl ?_
    refine pz_iconst (v := 1) dL_law_883 rfl ?_
    refine pz_iadd dL_law_884 ?_
    refine pz_top (nI (4 * c + 1)) (ix1 (c := c) (d := 1) (by omega)) ?_
    refine pz_sld dL_law_885 (vp_in_nI (by omega) (by omega)) ?_
    refine pz_top (xs (4 * c + 1)) (congrArg xs (nI_clamp (by omega))) ?_
    refine pz_aload_n dL_law_886 rfl ?_
    refine pz_iload dL_law_887 rfl ?_
    refine pz_iconst (v := 2) dL_law_889 rfl ?_
    refine pz_iadd dL_law_890 ?_
    refine pz_top (nI (4 * c + 2)) (ix1 (c := c) (d := 2) (by omega)) ?_
    refine pz_sld dL_law_891 (vp_in_nI (by omega) (by omega)) ?_
    refine pz_top (xs (4 * c + 2)) (congrArg xs (nI_clamp (by omega))) ?_
    refine pz_aload_n dL_law_892 rfl ?_
    refine pz_iload dL_law_893 rfl ?_
    refine pz_iconst (v := 3) dL_law_895 rfl ?_
    refine pz_iadd dL_law_896 ?_
    refine pz_top (nI (4 * c + 3)) (ix1 (c := c) (d := 3) (by omega)) ?_
    refine pz_sld dL_law_897 (vp_in_nI (by omega) (by omega)) ?_
    refine pz_top (xs (4 * c + 3)) (congrArg xs (nI_clamp (by omega))) ?_
    refine pz_rV1 (mi' := mX11_openWith) (As := [.int (xs (4 * c + 1)), .int (xs (4 * c + 2)), .int (xs (4 * c + 3))]) (q := (RX11, TX11, 33)) dL_law_898 lk_RL_158 mk_X11_openWith mi_X11_openWith me_X11_openWith ⟨by decide, by decide⟩ rfl rfl (Nat.le_of_ble_eq_true rfl) rfl rfl ⟨show k + 2 + 0 ≤ 601024 by omega, show n + 12 + 0 ≤ 7293034 by omega⟩ (hM _ _) (fun v ρ hq => ?_)
    obtain ⟨hV2, hth, hKM⟩ := hq
    obtain ⟨r2, rfl⟩ := hVM v hV2
    refine pz_kn (k + 2) (n + 12) rfl rfl ?_
    refine pz_istore dL_law_901 (by decide) ?_
    refine pz_goto (tgt := 1019) dL_law_903 (by decide) ?_
    refine pz_ws (ws' := wp G adX LX [] (rtM G adM ρ ow f) σX) rfl ?_
    exact pz_lk [(0, .ref b), (1, .ref (adX 0)), (2, .ref (adM 0)), (3, .ref ow), (4, .int (nI (4 * c)))] ⟨rfl, rfl, rfl, rfl, rfl, trivial⟩ (kk σX ρ f (k + 2) (n + 12) (by omega) (by omega) hKM)
theorem lc_safePower (hl : l.stackTraces = false) (hcL : 4 * c + 4 ≤ L) (hL : L ≤ 2048) (hk : k + 1100 ≤ 601024) (hn : n + 14000 ≤ 7293034) (kk : GoOn l G b L sz c k n xs adX adM ow) (h : LI σX σM) : PZ (XL b L xs) QL l G mL_law [] sz 906 [(0, .ref b), (1, .ref (adX 0)), (2, .ref (adM 0)), (3, .ref ow), (4, .int (nI (4 * c)))] [] k n (wp G adX LX [] (rtM G adM σM ow f) σX) := by
  have hs := sm_safePower (l := l) (G := G) (adX := adX) (adM := adM) hl h (xs (4 * c + 1))
  rcases hs with hs | hs
  · obtain ⟨r0, KX, KM, hLI, hC, hM⟩ := hs
    have hVX : ∀ v : Value, v = .int r0 → ∃ r : Int32, v = .int r := fun v q => ⟨r0, q⟩
    have hVM := hVX
    have hEq : ∀ r1 r2 : Int32, (.int r1 : Value) = .int r0 → (.int r2 : Value) = .int r0 → r1 = r2 := fun r1 r2 a b => by cases a; cases b; rfl
    refine pz_aload_n dL_law_906 rfl ?_
    refine pz_aload_n dL_law_907 rfl ?_
    refine pz_iload dL_law_908 rfl ?_
    refine pz_iconst (v := 1) dL_law_910 rfl ?_
    refine pz_iadd dL_law_911 ?_
    refine pz_top (nI (4 * c + 1)) (ix1 (c := c) (d := 1) (by omega)) ?_
    refine pz_sld dL_law_912 (vp_in_nI (by omega) (by omega)) ?_
    refine pz_top (xs (4 * c + 1)) (congrArg xs (nI_clamp (by omega))) ?_
    refine pz_aload_n dL_law_913 rfl ?_
    refine pz_callW (mi' := mL_safePower) (hh := hhL_safePower) (As := [.ref (adX 0), .int (xs (4 * c + 1)), .ref ow]) dL_law_914 (tw_in 993 (by decide +kernel) (by decide +kernel)) mw_safePower ⟨by decide, by decide⟩ rfl rfl (Nat.le_of_ble_eq_true rfl) (wx_safePower (p := 22) rt_at (xs (4 * c + 1)) hVX (hC _)) ⟨show k + 1 ≤ 601024 by omega, show n + 6 ≤ 7293034 by omega⟩ (fun v ws1 hv => ?_)
    obtain ⟨τ, r1, hV1, hv, hKX⟩ := hv
    cases hv
    refine pz_kn (k + 1) (n + 6) rfl rfl ?_
    refine pz_ws (ws' := wp G adM LM (cellsE G adX LX τ LX.1 0) [outC G ow (vp_updL f 0 r1.toInt64)] σM) (by rw [rt_set]; rfl) ?_
    refine pz_istore dL_law_917 (by decide) ?_
    refine pz_aload_n dL_law_919 rfl ?_
    refine pz_aload_n dL_law_920 rfl ?_
    refine pz_iload dL_law_921 rfl ?_
    refine pz_iconst (v := 1) dL_law_923 rfl ?_
    refine pz_iadd dL_law_924 ?_
    refine pz_top (nI (4 * c + 1)) (ix1 (c := c) (d := 1) (by omega)) ?_
    refine pz_sld dL_law_925 (vp_in_nI (by omega) (by omega)) ?_
    refine pz_top (xs (4 * c + 1)) (congrArg xs (nI_clamp (by omega))) ?_
    refine pz_rV1 (mi' := mX11_safePower) (As := [.int (xs (4 * c + 1))]) (q := (RX11, TX11, 33)) dL_law_926 lk_RL_161 mk_X11_safePower mi_X11_safePower me_X11_safePower ⟨by decide, by decide⟩ rfl rfl (Nat.le_of_ble_eq_true rfl) rfl rfl ⟨show k + 1 + 0 ≤ 601024 by omega, show n + 6 + 0 ≤ 7293034 by omega⟩ (hM _ _) (fun v ρ hq => ?_)
    obtain ⟨hV2, hth, hKM⟩ := hq
    obtain ⟨r2, rfl⟩ := hVM v hV2
    have er : r1 = r2 := hEq r1 r2 hV1 hV2
    subst er
    refine pz_kn (k + 1) (n + 6) rfl rfl ?_
    refine pz_istore dL_law_929 (by decide) ?_
    refine pz_goto (tgt := 1019) dL_law_931 (by decide) ?_
    refine pz_ws (ws' := wp G adX LX [] (rtM G adM ρ ow (vp_updL f 0 r1.toInt64)) τ) rfl ?_
    exact pz_lk [(0, .ref b), (1, .ref (adX 0)), (2, .ref (adM 0)), (3, .ref ow), (4, .int (nI (4 * c)))] ⟨rfl, rfl, rfl, rfl, rfl, trivial⟩ (kk τ ρ (vp_updL f 0 r1.toInt64) (k + 1) (n + 6) (by omega) (by omega) (hLI _ _ hKX hKM))
  · obtain ⟨hC, hM⟩ := hs
    have hVM : ∀ v : Value, (∃ r : Int32, v = .int r) → ∃ r : Int32, v = .int r := fun v q => q
    refine pz_aload_n dL_law_906 rfl ?_
    refine pz_aload_n dL_law_907 rfl ?_
    refine pz_iload dL_law_908 rfl ?_
    refine pz_iconst (v := 1) dL_law_910 rfl ?_
    refine pz_iadd dL_law_911 ?_
    refine pz_top (nI (4 * c + 1)) (ix1 (c := c) (d := 1) (by omega)) ?_
    refine pz_sld dL_law_912 (vp_in_nI (by omega) (by omega)) ?_
    refine pz_top (xs (4 * c + 1)) (congrArg xs (nI_clamp (by omega))) ?_
    refine pz_aload_n dL_law_913 rfl ?_
    refine pz_callW (mi' := mL_safePower) (hh := hhL_safePower) (As := [.ref (adX 0), .int (xs (4 * c + 1)), .ref ow]) dL_law_914 (tw_in 993 (by decide +kernel) (by decide +kernel)) mw_safePower ⟨by decide, by decide⟩ rfl rfl (Nat.le_of_ble_eq_true rfl) (wt1_safePower (xs (4 * c + 1)) (hC _)) ⟨show k + 1 ≤ 601024 by omega, show n + 6 ≤ 7293034 by omega⟩ (fun v ws1 hv => ?_)
    cases hv
    refine pz_kn (k + 1) (n + 6) rfl rfl ?_
    refine pz_ws (ws' := wp G adM LM (cellsE G adX LX σX LX.1 0) [outC G ow f] σM) rfl ?_
    refine pz_istore dL_law_917 (by decide) ?_
    refine pz_aload_n dL_law_919 rfl ?_
    refine pz_aload_n dL_law_920 rfl ?_
    refine pz_iload dL_law_921 rfl ?_
    refine pz_iconst (v := 1) dL_law_923 rfl ?_
    refine pz_iadd dL_law_924 ?_
    refine pz_top (nI (4 * c + 1)) (ix1 (c := c) (d := 1) (by omega)) ?_
    refine pz_sld dL_law_925 (vp_in_nI (by omega) (by omega)) ?_
    refine pz_top (xs (4 * c + 1)) (congrArg xs (nI_clamp (by omega))) ?_
    refine pz_rV1 (mi' := mX11_safePower) (As := [.int (xs (4 * c + 1))]) (q := (RX11, TX11, 33)) dL_law_926 lk_RL_161 mk_X11_safePower mi_X11_safePower me_X11_safePower ⟨by decide, by decide⟩ rfl rfl (Nat.le_of_ble_eq_true rfl) rfl rfl ⟨show k + 1 + 0 ≤ 601024 by omega, show n + 6 + 0 ≤ 7293034 by omega⟩ (hM _ _) (fun v ρ hq => ?_)
    obtain ⟨hV2, hth, hKM⟩ := hq
    obtain ⟨r2, rfl⟩ := hVM v hV2
    refine pz_kn (k + 1) (n + 6) rfl rfl ?_
    refine pz_istore dL_law_929 (by decide) ?_
    refine pz_goto (tgt := 1019) dL_law_931 (by decide) ?_
    refine pz_ws (ws' := wp G adX LX [] (rtM G adM ρ ow f) σX) rfl ?_
    exact pz_lk [(0, .ref b), (1, .ref (adX 0)), (2, .ref (adM 0)), (3, .ref ow), (4, .int (nI (4 * c)))] ⟨rfl, rfl, rfl, rfl, rfl, trivial⟩ (kk σX ρ f (k + 1) (n + 6) (by omega) (by omega) hKM)
theorem lc_failingInput (hl : l.stackTraces = false) (hcL : 4 * c + 4 ≤ L) (hL : L ≤ 2048) (hk : k + 1100 ≤ 601024) (hn : n + 14000 ≤ 7293034) (kk : GoOn l G b L sz c k n xs adX adM ow) (h : LI σX σM) : PZ (XL b L xs) QL l G mL_law [] sz 934 [(0, .ref b), (1, .ref (adX 0)), (2, .ref (adM 0)), (3, .ref ow), (4, .int (nI (4 * c)))] [] k n (wp G adX LX [] (rtM G adM σM ow f) σX) := by
  have hs := sm_failingInputE (l := l) (G := G) (adX := adX) (adM := adM) hl h (xs (4 * c + 1))
  rcases hs with hs | hs
  · obtain ⟨r0, KX, KM, hLI, hC, hM⟩ := hs
    have hVX : ∀ v : Value, v = .int r0 → ∃ r : Int32, v = .int r := fun v q => ⟨r0, q⟩
    have hVM := hVX
    have hEq : ∀ r1 r2 : Int32, (.int r1 : Value) = .int r0 → (.int r2 : Value) = .int r0 → r1 = r2 := fun r1 r2 a b => by cases a; cases b; rfl
    refine pz_aload_n dL_law_934 rfl ?_
    refine pz_aload_n dL_law_935 rfl ?_
    refine pz_iload dL_law_936 rfl ?_
    refine pz_iconst (v := 1) dL_law_938 rfl ?_
    refine pz_iadd dL_law_939 ?_
    refine pz_top (nI (4 * c + 1)) (ix1 (c := c) (d := 1) (by omega)) ?_
    refine pz_sld dL_law_940 (vp_in_nI (by omega) (by omega)) ?_
    refine pz_top (xs (4 * c + 1)) (congrArg xs (nI_clamp (by omega))) ?_
    refine pz_aload_n dL_law_941 rfl ?_
    refine pz_callW (mi' := mL_failingInput) (hh := hhL_failingInput) (As := [.ref (adX 0), .int (xs (4 * c + 1)), .ref ow]) dL_law_942 (tw_in 1000 (by decide +kernel) (by decide +kernel)) mw_failingInput ⟨by decide, by decide⟩ rfl rfl (Nat.le_of_ble_eq_true rfl) (wx_failingInput (p := 22) rt_at (xs (4 * c + 1)) hVX (hC _)) ⟨show k + 1 ≤ 601024 by omega, show n + 6 ≤ 7293034 by omega⟩ (fun v ws1 hv => ?_)
    obtain ⟨τ, r1, hV1, hv, hKX⟩ := hv
    cases hv
    refine pz_kn (k + 1) (n + 6) rfl rfl ?_
    refine pz_ws (ws' := wp G adM LM (cellsE G adX LX τ LX.1 0) [outC G ow (vp_updL f 0 r1.toInt64)] σM) (by rw [rt_set]; rfl) ?_
    refine pz_istore dL_law_945 (by decide) ?_
    refine pz_aload_n dL_law_947 rfl ?_
    refine pz_aload_n dL_law_948 rfl ?_
    refine pz_iload dL_law_949 rfl ?_
    refine pz_iconst (v := 1) dL_law_951 rfl ?_
    refine pz_iadd dL_law_952 ?_
    refine pz_top (nI (4 * c + 1)) (ix1 (c := c) (d := 1) (by omega)) ?_
    refine pz_sld dL_law_953 (vp_in_nI (by omega) (by omega)) ?_
    refine pz_top (xs (4 * c + 1)) (congrArg xs (nI_clamp (by omega))) ?_
    refine pz_rV1 (mi' := mX11_failingInput) (As := [.int (xs (4 * c + 1))]) (q := (RX11, TX11, 33)) dL_law_954 lk_RL_164 mk_X11_failingInput mi_X11_failingInput me_X11_failingInput ⟨by decide, by decide⟩ rfl rfl (Nat.le_of_ble_eq_true rfl) rfl rfl ⟨show k + 1 + 0 ≤ 601024 by omega, show n + 6 + 0 ≤ 7293034 by omega⟩ (hM _ _) (fun v ρ hq => ?_)
    obtain ⟨hV2, hth, hKM⟩ := hq
    obtain ⟨r2, rfl⟩ := hVM v hV2
    have er : r1 = r2 := hEq r1 r2 hV1 hV2
    subst er
    refine pz_kn (k + 1) (n + 6) rfl rfl ?_
    refine pz_istore dL_law_957 (by decide) ?_
    refine pz_aload_n dL_law_959 rfl ?_
    refine pz_rV1 (mi' := mX11_thrown) (As := []) (q := (RX11, TX11, 33)) dL_law_960 lk_RL_165 mk_X11_thrown mi_X11_thrown me_X11_thrown ⟨by decide, by decide⟩ rfl rfl (Nat.le_of_ble_eq_true rfl) rfl rfl ⟨show k + 1 + 0 ≤ 601024 by omega, show n + 6 + 0 ≤ 7293034 by omega⟩ (specD_r1 (Q := fun v τ => v = .int 0 ∧ τ = ρ) r_thrown ⟨congrArg Value.int hth, rfl⟩) (fun v ρ2 hq => ?_)
    obtain ⟨hq, hρ⟩ := hq
    subst hq
    have hρ := hρ.symm
    subst hρ
    refine pz_kn (k + 1) (n + 6) rfl rfl ?_
    refine pz_iload dL_law_963 rfl ?_
    refine pz_icmp_eq 970 dL_law_965 (by decide) (fun _ => ?_) (fun c_ => absurd rfl c_)
    refine pz_iload dL_law_970 rfl ?_
    refine pz_if_ne 987 dL_law_972 (by decide) (fun c_ => absurd rfl c_) (fun _ => ?_)
    refine pz_aload_n dL_law_975 rfl ?_
    refine pz_iconst (v := 0) dL_law_976 rfl ?_
    refine pz_lald dL_law_977 ((cellsE G adX LX τ LX.1 0).length + (LM.1.length + 0)) (wp_rt rfl) (vp_in_nI (n := 0) (by decide) (by decide)) ?_
    refine pz_iload dL_law_978 rfl ?_
    refine pz_i2l dL_law_980 ?_
    refine pz_lcmp dL_law_981 ?_
    refine pz_if_eq 987 dL_law_982 (by decide) (fun _ => ?_) (fun c_ => absurd (lg_cmp_self _) c_)
    refine pz_goto (tgt := 1019) dL_law_987 (by decide) ?_
    refine pz_ws (ws' := wp G adX LX [] (rtM G adM ρ ow (vp_updL f 0 r1.toInt64)) τ) rfl ?_
    exact pz_lk [(0, .ref b), (1, .ref (adX 0)), (2, .ref (adM 0)), (3, .ref ow), (4, .int (nI (4 * c)))] ⟨rfl, rfl, rfl, rfl, rfl, trivial⟩ (kk τ ρ (vp_updL f 0 r1.toInt64) (k + 1) (n + 6) (by omega) (by omega) (hLI _ _ hKX hKM))
  · obtain ⟨hC, hM⟩ := hs
    have hVM : ∀ v : Value, (∃ r : Int32, v = .int r) → ∃ r : Int32, v = .int r := fun v q => q
    refine pz_aload_n dL_law_934 rfl ?_
    refine pz_aload_n dL_law_935 rfl ?_
    refine pz_iload dL_law_936 rfl ?_
    refine pz_iconst (v := 1) dL_law_938 rfl ?_
    refine pz_iadd dL_law_939 ?_
    refine pz_top (nI (4 * c + 1)) (ix1 (c := c) (d := 1) (by omega)) ?_
    refine pz_sld dL_law_940 (vp_in_nI (by omega) (by omega)) ?_
    refine pz_top (xs (4 * c + 1)) (congrArg xs (nI_clamp (by omega))) ?_
    refine pz_aload_n dL_law_941 rfl ?_
    refine pz_callW (mi' := mL_failingInput) (hh := hhL_failingInput) (As := [.ref (adX 0), .int (xs (4 * c + 1)), .ref ow]) dL_law_942 (tw_in 1000 (by decide +kernel) (by decide +kernel)) mw_failingInput ⟨by decide, by decide⟩ rfl rfl (Nat.le_of_ble_eq_true rfl) (wt1_failingInput (xs (4 * c + 1)) (hC _)) ⟨show k + 1 ≤ 601024 by omega, show n + 6 ≤ 7293034 by omega⟩ (fun v ws1 hv => ?_)
    cases hv
    refine pz_kn (k + 1) (n + 6) rfl rfl ?_
    refine pz_ws (ws' := wp G adM LM (cellsE G adX LX σX LX.1 0) [outC G ow f] σM) rfl ?_
    refine pz_istore dL_law_945 (by decide) ?_
    refine pz_aload_n dL_law_947 rfl ?_
    refine pz_aload_n dL_law_948 rfl ?_
    refine pz_iload dL_law_949 rfl ?_
    refine pz_iconst (v := 1) dL_law_951 rfl ?_
    refine pz_iadd dL_law_952 ?_
    refine pz_top (nI (4 * c + 1)) (ix1 (c := c) (d := 1) (by omega)) ?_
    refine pz_sld dL_law_953 (vp_in_nI (by omega) (by omega)) ?_
    refine pz_top (xs (4 * c + 1)) (congrArg xs (nI_clamp (by omega))) ?_
    refine pz_rV1 (mi' := mX11_failingInput) (As := [.int (xs (4 * c + 1))]) (q := (RX11, TX11, 33)) dL_law_954 lk_RL_164 mk_X11_failingInput mi_X11_failingInput me_X11_failingInput ⟨by decide, by decide⟩ rfl rfl (Nat.le_of_ble_eq_true rfl) rfl rfl ⟨show k + 1 + 0 ≤ 601024 by omega, show n + 6 + 0 ≤ 7293034 by omega⟩ (hM _ _) (fun v ρ hq => ?_)
    obtain ⟨hV2, hth, hKM⟩ := hq
    obtain ⟨r2, rfl⟩ := hVM v hV2
    refine pz_kn (k + 1) (n + 6) rfl rfl ?_
    refine pz_istore dL_law_957 (by decide) ?_
    refine pz_aload_n dL_law_959 rfl ?_
    refine pz_rV1 (mi' := mX11_thrown) (As := []) (q := (RX11, TX11, 33)) dL_law_960 lk_RL_165 mk_X11_thrown mi_X11_thrown me_X11_thrown ⟨by decide, by decide⟩ rfl rfl (Nat.le_of_ble_eq_true rfl) rfl rfl ⟨show k + 1 + 0 ≤ 601024 by omega, show n + 6 + 0 ≤ 7293034 by omega⟩ (specD_r1 (Q := fun v τ => v = .int 1 ∧ τ = ρ) r_thrown ⟨congrArg Value.int hth, rfl⟩) (fun v ρ2 hq => ?_)
    obtain ⟨hq, hρ⟩ := hq
    subst hq
    have hρ := hρ.symm
    subst hρ
    refine pz_kn (k + 1) (n + 6) rfl rfl ?_
    refine pz_iload dL_law_963 rfl ?_
    refine pz_icmp_eq 970 dL_law_965 (by decide) (fun _ => ?_) (fun c_ => absurd rfl c_)
    refine pz_iload dL_law_970 rfl ?_
    refine pz_if_ne 987 dL_law_972 (by decide) (fun _ => ?_) (fun c_ => absurd c_ (by decide))
    refine pz_goto (tgt := 1019) dL_law_987 (by decide) ?_
    refine pz_ws (ws' := wp G adX LX [] (rtM G adM ρ ow f) σX) rfl ?_
    exact pz_lk [(0, .ref b), (1, .ref (adX 0)), (2, .ref (adM 0)), (3, .ref ow), (4, .int (nI (4 * c)))] ⟨rfl, rfl, rfl, rfl, rfl, trivial⟩ (kk σX ρ f (k + 1) (n + 6) (by omega) (by omega) hKM)
theorem lc_undo (hl : l.stackTraces = false) (hcL : 4 * c + 4 ≤ L) (hL : L ≤ 2048) (hk : k + 1100 ≤ 601024) (hn : n + 14000 ≤ 7293034) (kk : GoOn l G b L sz c k n xs adX adM ow) (h : LI σX σM) : PZ (XL b L xs) QL l G mL_law [] sz 990 [(0, .ref b), (1, .ref (adX 0)), (2, .ref (adM 0)), (3, .ref ow), (4, .int (nI (4 * c)))] [] k n (wp G adX LX [] (rtM G adM σM ow f) σX) := by
  have hs := sm_undo (l := l) (G := G) (adX := adX) (adM := adM) hl h 
  rcases hs with hs | hs
  · obtain ⟨r0, KX, KM, hLI, hC, hM⟩ := hs
    have hVX : ∀ v : Value, v = .int r0 → ∃ r : Int32, v = .int r := fun v q => ⟨r0, q⟩
    have hVM := hVX
    have hEq : ∀ r1 r2 : Int32, (.int r1 : Value) = .int r0 → (.int r2 : Value) = .int r0 → r1 = r2 := fun r1 r2 a b => by cases a; cases b; rfl
    refine pz_aload_n dL_law_990 rfl ?_
    refine pz_aload_n dL_law_991 rfl ?_
    refine pz_callW (mi' := mL_undo) (hh := hhL_undo) (As := [.ref (adX 0), .ref ow]) dL_law_992 (tw_in 1022 (by decide +kernel) (by decide +kernel)) mw_undo ⟨by decide, by decide⟩ rfl rfl (Nat.le_of_ble_eq_true rfl) (wx_undo (p := 22) rt_at  hVX (hC _)) ⟨show k + 1 ≤ 601024 by omega, show n + 6 ≤ 7293034 by omega⟩ (fun v ws1 hv => ?_)
    obtain ⟨τ, r1, hV1, hv, hKX⟩ := hv
    cases hv
    refine pz_kn (k + 1) (n + 6) rfl rfl ?_
    refine pz_ws (ws' := wp G adM LM (cellsE G adX LX τ LX.1 0) [outC G ow (vp_updL f 0 r1.toInt64)] σM) (by rw [rt_set]; rfl) ?_
    refine pz_istore dL_law_995 (by decide) ?_
    refine pz_aload_n dL_law_997 rfl ?_
    refine pz_rV1 (mi' := mX11_undo) (As := []) (q := (RX11, TX11, 33)) dL_law_998 lk_RL_171 mk_X11_undo mi_X11_undo me_X11_undo ⟨by decide, by decide⟩ rfl rfl (Nat.le_of_ble_eq_true rfl) rfl rfl ⟨show k + 1 + 0 ≤ 601024 by omega, show n + 6 + 0 ≤ 7293034 by omega⟩ (hM _ _) (fun v ρ hq => ?_)
    obtain ⟨hV2, hth, hKM⟩ := hq
    obtain ⟨r2, rfl⟩ := hVM v hV2
    have er : r1 = r2 := hEq r1 r2 hV1 hV2
    subst er
    refine pz_kn (k + 1) (n + 6) rfl rfl ?_
    refine pz_istore dL_law_1001 (by decide) ?_
    refine pz_goto (tgt := 1019) dL_law_1003 (by decide) ?_
    refine pz_ws (ws' := wp G adX LX [] (rtM G adM ρ ow (vp_updL f 0 r1.toInt64)) τ) rfl ?_
    exact pz_lk [(0, .ref b), (1, .ref (adX 0)), (2, .ref (adM 0)), (3, .ref ow), (4, .int (nI (4 * c)))] ⟨rfl, rfl, rfl, rfl, rfl, trivial⟩ (kk τ ρ (vp_updL f 0 r1.toInt64) (k + 1) (n + 6) (by omega) (by omega) (hLI _ _ hKX hKM))
  · obtain ⟨hC, hM⟩ := hs
    have hVM : ∀ v : Value, (∃ r : Int32, v = .int r) → ∃ r : Int32, v = .int r := fun v q => q
    refine pz_aload_n dL_law_990 rfl ?_
    refine pz_aload_n dL_law_991 rfl ?_
    refine pz_callW (mi' := mL_undo) (hh := hhL_undo) (As := [.ref (adX 0), .ref ow]) dL_law_992 (tw_in 1022 (by decide +kernel) (by decide +kernel)) mw_undo ⟨by decide, by decide⟩ rfl rfl (Nat.le_of_ble_eq_true rfl) (wt1_undo  (hC _)) ⟨show k + 1 ≤ 601024 by omega, show n + 6 ≤ 7293034 by omega⟩ (fun v ws1 hv => ?_)
    cases hv
    refine pz_kn (k + 1) (n + 6) rfl rfl ?_
    refine pz_ws (ws' := wp G adM LM (cellsE G adX LX σX LX.1 0) [outC G ow f] σM) rfl ?_
    refine pz_istore dL_law_995 (by decide) ?_
    refine pz_aload_n dL_law_997 rfl ?_
    refine pz_rV1 (mi' := mX11_undo) (As := []) (q := (RX11, TX11, 33)) dL_law_998 lk_RL_171 mk_X11_undo mi_X11_undo me_X11_undo ⟨by decide, by decide⟩ rfl rfl (Nat.le_of_ble_eq_true rfl) rfl rfl ⟨show k + 1 + 0 ≤ 601024 by omega, show n + 6 + 0 ≤ 7293034 by omega⟩ (hM _ _) (fun v ρ hq => ?_)
    obtain ⟨hV2, hth, hKM⟩ := hq
    obtain ⟨r2, rfl⟩ := hVM v hV2
    refine pz_kn (k + 1) (n + 6) rfl rfl ?_
    refine pz_istore dL_law_1001 (by decide) ?_
    refine pz_goto (tgt := 1019) dL_law_1003 (by decide) ?_
    refine pz_ws (ws' := wp G adX LX [] (rtM G adM ρ ow f) σX) rfl ?_
    exact pz_lk [(0, .ref b), (1, .ref (adX 0)), (2, .ref (adM 0)), (3, .ref ow), (4, .int (nI (4 * c)))] ⟨rfl, rfl, rfl, rfl, rfl, trivial⟩ (kk σX ρ f (k + 1) (n + 6) (by omega) (by omega) hKM)
theorem lc_digest (hl : l.stackTraces = false) (hcL : 4 * c + 4 ≤ L) (hL : L ≤ 2048) (hk : k + 1100 ≤ 601024) (hn : n + 14000 ≤ 7293034) (kk : GoOn l G b L sz c k n xs adX adM ow) (h : LI σX σM) : PZ (XL b L xs) QL l G mL_law [] sz 1006 [(0, .ref b), (1, .ref (adX 0)), (2, .ref (adM 0)), (3, .ref ow), (4, .int (nI (4 * c)))] [] k n (wp G adX LX [] (rtM G adM σM ow f) σX) := by
  have hs := sm_digest (l := l) (G := G) (adX := adX) (adM := adM) h 
  obtain ⟨KX, KM, hLI, hC, hM⟩ := hs
  have hVX : ∀ v : Value, (∃ r : Int64, v = .long r) → ∃ r : Int64, v = .long r := fun v q => q
  have hVM := hVX
  refine pz_aload_n dL_law_1006 rfl ?_
  refine pz_rV1 (mi' := mX10_digest) (As := []) (q := (RX10, TX10, 14)) dL_law_1007 lk_RL_172 mk_X10_digest mi_X10_digest me_X10_digest ⟨by decide, by decide⟩ rfl rfl (Nat.le_of_ble_eq_true rfl) rfl rfl ⟨show k + 0 ≤ 601024 by omega, show n + 0 ≤ 7293034 by omega⟩ (hC _) (fun v τ hq => ?_)
  obtain ⟨hV1, hKX⟩ := hq
  obtain ⟨r1, rfl⟩ := hVX v hV1
  refine pz_ws (ws' := wp G adM LM (cellsE G adX LX τ LX.1 0) [outC G ow f] σM) rfl ?_
  refine pz_kn (k + 0) (n + 0) rfl rfl ?_
  refine pz_pop2 dL_law_1010 rfl ?_
  refine pz_aload_n dL_law_1011 rfl ?_
  refine pz_rV1 (mi' := mX11_digest) (As := []) (q := (RX11, TX11, 33)) dL_law_1012 lk_RL_176 mk_X11_digest mi_X11_digest me_X11_digest ⟨by decide, by decide⟩ rfl rfl (Nat.le_of_ble_eq_true rfl) rfl rfl ⟨show k + 0 ≤ 601024 by omega, show n + 0 ≤ 7293034 by omega⟩ (hM _ _) (fun v ρ hq => ?_)
  obtain ⟨hV2, hth, hKM⟩ := hq
  obtain ⟨r2, rfl⟩ := hVM v hV2
  refine pz_kn (k + 0) (n + 0) rfl rfl ?_
  refine pz_pop2 dL_law_1015 rfl ?_
  refine pz_goto (tgt := 1019) dL_law_1016 (by decide) ?_
  refine pz_ws (ws' := wp G adX LX [] (rtM G adM ρ ow f) τ) rfl ?_
  exact pz_lk [(0, .ref b), (1, .ref (adX 0)), (2, .ref (adM 0)), (3, .ref ow), (4, .int (nI (4 * c)))] ⟨rfl, rfl, rfl, rfl, rfl, trivial⟩ (kk τ ρ f (k + 0) (n + 0) (by omega) (by omega) (hLI _ _ hKX hKM))
end LC
