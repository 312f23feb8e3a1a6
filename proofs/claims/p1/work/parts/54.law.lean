/-! the law: its cases on a fresh object -/
def R_law : String := "OverflowGuardsLaw"
def lw_P (b : Addr) (xs : List Int32) (args : Array Value) (s : State) : Prop := args = #[.ref b] ∧ s.IntsAt b xs ∧ xs.length ≤ 4 ∧ (Jvm.Cond.and given_1 narrow_1).before args s = true
/-- what a walk over the start with the record d0 says of its end, said of the start itself -/
theorem lw_closed {s t : State} {o : Outcome} {d0 : Drawn} {L : List Loc} {k n : Nat} (hd0 : s.drawn.sameBut d0 lw_cs) (hv : ∃ v, o = .returned v) (hW : (s.setDrawn d0).WarmedH t.vm) (hs : (s.setDrawn d0).sameButNew ({ t with vm := s.vm } : State) L k n) : State.butDraws s t lw_cs (fun t1 => Framed s o t1 L k n) := by
  have h2 : t.drawn = d0 := congrArg State.drawn hs.1
  refine ⟨⟨hv, hW, State.sameButNew.setDrawn hs s.drawn⟩, ?_, by decide⟩
  rw [h2]
  exact hd0
def lw_Q (_ : Array Value) (s : State) (o : Outcome) (t : State) : Prop := o = .returned (some (.int 1)) ∧ State.butDraws s t lw_cs (fun t1 => Framed s o t1 [] 600002 7302232)
def lw_Z (below : List Frame) (a : Array Value) (s : State) : State → Prop := fun t => ∃ o, t.status = .running ∧ Ended t below o ∧ lw_Q a s o t
/-- the law's own end, with 1 on the stack, nothing written that was there before, its room as the claim has it; d0: the record of draws at this point (at the entry s.drawn: begin with 'refine W.base ?_' and 'have hd0 := Drawn.sameBut.refl s.drawn lw_cs') -/
theorem lw_ret {p : Program} {l : Launch} {e : Env} {s : State} {m : MethodId} {below : List Frame} {meth : Method} {c : Code} {b : Nat} {d0 : Drawn} (hd0 : s.drawn.sameBut d0 lw_cs) (hx : p.tables.exec = Jvm.exec) (hb : c.code = code) (hr : meth.sig.returnType = ret) (hlocks : meth.locks = false) {pc : Nat} {H : Heap} {ls : Array Slot} (hdg : decode code pc = .ok (.ireturn, 1)) : W p l e room_1 (s.setDrawn d0) m #[Value.ref b] below meth c H [] 600002 7302232 (lw_Z below #[Value.ref b] s) (F0 m pc ls [.int 1]) := by
  intro T hT X
  obtain ⟨fs, hret, hrun, hended, hW, hframe⟩ := X.leave (v := some (.int 1)) (hlocks := hlocks) (fun h => by rw [hr] at h; cases h)
  have hmeth' : T.vm.method? m = some meth := X.method'
  refine ⟨T.setFrames fs, ?_, .returned (some (.int 1)), hrun, hended, rfl, lw_closed hd0 ⟨_, rfl⟩ hW hframe⟩
  jvm_step X.here [X.here.top, hx, hb, hdg, hmeth', hr, ret, narrow_b1]
  (try refine ⟨rfl, ?_⟩); (try refine ⟨rfl, ?_⟩)
  first | (intro acts; rw [hret _ acts rfl rfl rfl]) | rw [hret _ _ rfl rfl rfl]
  exact Steps.refl _
/-- what holds at the law's entry: the machine, the code, the tables' words (any of lw_tbl by 'hts w (by decide +kernel)'), the script of L ints xs at the cell b, what the Statement gives of the start (any of its parts by flat_of_before) -/
def lw_At (p : Program) (s : State) (m : MethodId) (meth : Method) (c : Code) (b L : Nat) (xs : Nat → Int32) : Prop :=
  p.tables.exec = Jvm.exec ∧ c.code = code ∧ meth.sig.returnType = ret ∧ c.maxLocals = 9 ∧ s.vm.findClass R_law = some m.cls ∧ (∀ w ∈ lw_tbl, w.before #[Value.ref b] s = true) ∧ va_X b L xs s s.heap ∧ b < s.heap.size ∧ meth.locks = false ∧ (Jvm.Cond.and given_1 narrow_1).before #[Value.ref b] s = true
abbrev mL_law : MI := (yL_law, cL_law, 9, some .boolean, room_1)
theorem lw_retA {p : Program} {l : Launch} {e : Env} {s : State} {m : MethodId} {below : List Frame} {meth : Method} {c : Code} {args : Array Value} (hx : p.tables.exec = Jvm.exec) (hb : c.code = code) (hr : meth.sig.returnType = ret) (hlocks : meth.locks = false) {pc : Nat} {H : Heap} {ls : Array Slot} (hdg : decode code pc = .ok (.ireturn, 1)) : W p l e room_1 s m args below meth c H [] 600002 7302232 (lw_Z below args s) (F0 m pc ls [.int 1]) := by
  refine W.base ?_
  have hd0 := Drawn.sameBut.refl s.drawn lw_cs
  intro T hT X
  obtain ⟨fs, hret, hrun, hended, hW, hframe⟩ := X.leave (v := some (.int 1)) (hlocks := hlocks) (fun h => by rw [hr] at h; cases h)
  have hmeth' : T.vm.method? m = some meth := X.method'
  refine ⟨T.setFrames fs, ?_, .returned (some (.int 1)), hrun, hended, rfl, lw_closed hd0 ⟨_, rfl⟩ hW hframe⟩
  jvm_step X.here [X.here.top, hx, hb, hdg, hmeth', hr, ret, narrow_b1]
  (try refine ⟨rfl, ?_⟩); (try refine ⟨rfl, ?_⟩)
  first | (intro acts; rw [hret _ acts rfl rfl rfl]) | rw [hret _ _ rfl rfl rfl]
  exact Steps.refl _
def XL (b L : Nat) (xs : Nat → Int32) : State → Code → Prop := fun s _ => va_X b L xs s s.heap ∧ b < s.heap.size
def QL : List Frame → Array Value → State → State → Prop := fun below args s => lw_Z below args s
abbrev outC (G : cxG) (ow : Nat) (f : Nat → Int64) : Nat × va_E := (ow, .inl (G.2.2.1, 1, .inr (.inl f)))
abbrev rtM (G : cxG) (adM : Nat → Nat) (σM : St) (ow : Nat) (f : Nat → Int64) : va_W := cellsE G adM LM σM LM.1 0 ++ [outC G ow f]
theorem rt_at {G : cxG} {adM : Nat → Nat} {σM : St} {ow : Nat} {f : Nat → Int64} : (rtM G adM σM ow f)[22]? = some (outC G ow f) := by
  rw [List.getElem?_append_right (by rw [cellsE_len]; decide), cellsE_len]; rfl
theorem rt_set {G : cxG} {adM : Nat → Nat} {σM : St} {ow : Nat} {f g : Nat → Int64} : (rtM G adM σM ow f).set 22 (outC G ow g) = rtM G adM σM ow g := by
  rw [List.set_append_right _ _ (by rw [cellsE_len]; decide), cellsE_len]; rfl
theorem lg_cmp_self (x : Int64) : lg_cmp x x = 0 := by
  simp [lg_cmp]
section LW
variable {l : Launch} {G : cxG} {mi : MI} {b L sz : Nat} {xs : Nat → Int32} {Q : List Frame → Array Value → State → State → Prop} {X : State → Code → Prop} {w0 : va_W} {pc : Nat} {lv : List (Nat × Value)} {st : List Value} {k n : Nat} {ws : va_W}
theorem nA {s : State} (hz : s.heap.size = sz) (hb : b < s.heap.size) : ¬ va_A [] sz b := by
  rintro (⟨j, e, h⟩ | h)
  · simp at h
  · omega
theorem pz_sld {i : Int32} (hd : decode mi.2.1 pc = .ok (.iaload, 1)) (hin : vp_in i L) (kk : PZ (XL b L xs) Q l G mi [] sz (pc + 1) lv (.int (xs i.toNatClampNeg) :: st) k n ws) : PZ (XL b L xs) Q l G mi [] sz pc lv (.int i :: .ref b :: st) k n ws :=
  fun p e s m args below meth c H locs ls F hx hz hP hD hS hl => va_sld F.1 F.2.1 hx.1 hx.2 (nA hz hx.2) hS hin hd (kk p e s m args below meth c H locs ls F hx hz hP hD hS hl)
theorem pz_slen (hd : decode mi.2.1 pc = .ok (.arraylength, 1)) (kk : PZ (XL b L xs) Q l G mi [] sz (pc + 1) lv (.int (Int32.ofNat L) :: st) k n ws) : PZ (XL b L xs) Q l G mi [] sz pc lv (.ref b :: st) k n ws :=
  fun p e s m args below meth c H locs ls F hx hz hP hD hS hl => va_slen F.1 F.2.1 hx.1 hx.2 (nA hz hx.2) hS hd (kk p e s m args below meth c H locs ls F hx hz hP hD hS hl)
theorem pz_lawret (hd : decode cL_law pc = .ok (.ireturn, 1)) (hc : k ≤ 600002) (hs : n ≤ 7302232) : PZ X QL l G mL_law [] sz pc lv [.int 1] k n ws := by
  intro p e s m args below meth c H locs ls F hx hz hP hD hS hl
  refine W.widen hc hs (va_forget (fun q hq => ?_) (lw_retA F.1 F.2.1 F.2.2.2.1 F.2.2.2.2.1 hd))
  rcases hS.2.2 q hq with ⟨j, e, h⟩ | h
  · simp at h
  · omega
theorem pz_rV1 {mi' : MI} {As : List Value} {ci id idx na : Nat} {q : vw_C} {stk : List Value} {adr : Nat → Nat} {Λ : Lay} {Lf Rt : va_W} {σ : St} {R : Value → St → Prop} (hd : decode mi.2.1 pc = .ok (.invokevirtual idx, 3)) (hlk : LK mi.1.cls idx mi'.1) (hm : MK mi' na) (hi : Cond.instanceMethod mi'.1 ∈ TW) (hse : Cond.selects q.1 mi'.1 mi'.1 ∈ TW) (hr : RMok mi mi') (hn : As.length = na) (hst : stk = As.reverse ++ .ref (adr id) :: st) (hcat : (st.map fun v => v.category).sum ≤ 8) (hk : Λ.1[id]? = some (.inl ci)) (hc : vwCl[ci]? = some q) (hroom : k + mi'.2.2.2.2.cells ≤ mi.2.2.2.2.cells ∧ n + mi'.2.2.2.2.slots ≤ mi.2.2.2.2.slots) (hsp : SpR1 l G mi' (.ref (adr id) :: As) adr Λ Lf Rt σ R)
    (kk : ∀ v σ', R v σ' → PZ X Q l G mi w0 sz (pc + 3) lv (v :: st) (k + mi'.2.2.2.2.cells) (n + mi'.2.2.2.2.slots) (wp G adr Λ Lf Rt σ')) : PZ X Q l G mi w0 sz pc lv stk k n (wp G adr Λ Lf Rt σ) :=
  pz_callV hd hlk hm hi hse hr hn hst hcat (Lf.length + id) (wp_at hk) hc hsp hroom (fun v ws' h => by obtain ⟨v1, σ', h, hR⟩ := h; cases h; exact kk v1 σ' hR) (fun E ws' h => by obtain ⟨v1, σ', h, -⟩ := h; cases h)
theorem pz_dcmp {x y : UInt64} {op : CmpOp} (z : Int32) (hd : decode mi.2.1 pc = .ok (.dcmp op, 1)) (hz : Op.cmpValue (FP.dcmp x y) op = z) (kk : PZ X Q l G mi w0 sz (pc + 1) lv (.int z :: st) k n ws) : PZ X Q l G mi w0 sz pc lv (.double y :: .double x :: st) k n ws := by
  subst hz
  exact fun p e s m args below meth c H locs ls F hx hz hP hD hS hl => lv_dcmp F.1 F.2.1 hd (kk p e s m args below meth c H locs ls F hx hz hP hD hS hl)
theorem lw_end (hc : k ≤ 600002) (hs : n ≤ 7302232) : PZ (XL b 4 xs) QL l G mL_law [] sz 1493 [(0, .ref b), (4, .int 0)] [] k n ws := by
  refine pz_iinc dL_law_1493 rfl (by decide) ?_
  refine pz_goto (tgt := 23) dL_law_1496 (by decide) ?_
  refine pz_iload dL_law_23 rfl ?_
  refine pz_aload_n dL_law_25 rfl ?_
  refine pz_slen dL_law_26 ?_
  refine pz_iconst (v := 4) dL_law_27 rfl ?_
  refine pz_isub dL_law_28 ?_
  refine pz_icmp_gt 1499 dL_law_29 (by decide) (fun _ => ?_) (fun c => absurd (by decide) c)
  refine pz_iconst (v := 1) dL_law_1499 rfl ?_
  exact pz_lawret dL_law_1500 hc hs
variable {adX adM : Nat → Nat} {ow : Nat} {σX σM : St} {f : Nat → Int64}
theorem lo_append {r : Int32} (hC : SpR1 l G mX10_append [.ref (adX 0), .int (xs 1)] adX LX [] (rtM G adM σM ow f) σX (fun v _ => v = .int r)) (hM : ∀ τ g, SpR1 l G mX11_append [.ref (adM 0), .int (xs 1)] adM LM (cellsE G adX LX τ LX.1 0) [outC G ow g] σM (fun v ρ => v = .int r ∧ ρ.1 0 3 = 0)) : PZ (XL b 4 xs) QL l G mL_law [] sz 156 [(0, .ref b), (1, .ref (adX 0)), (2, .ref (adM 0)), (3, .ref ow), (4, .int 0)] [] 140 3622 (wp G adX LX [] (rtM G adM σM ow f) σX) := by
  refine pz_aload_n dL_law_156 rfl ?_
  refine pz_aload_n dL_law_157 rfl ?_
  refine pz_iload dL_law_158 rfl ?_
  refine pz_iconst (v := 1) dL_law_160 rfl ?_
  refine pz_iadd dL_law_161 ?_
  refine pz_sld dL_law_162 (by unfold vp_in; decide) ?_
  refine pz_top (xs 1) (congrArg xs (by decide)) ?_
  refine pz_aload_n dL_law_163 rfl ?_
  refine pz_callW (mi' := mL_append) (hh := hhL_append) (As := [.ref (adX 0), .int (xs 1), .ref ow]) dL_law_164 (tw_in 753 (by decide +kernel) (by decide +kernel)) mw_append ⟨by decide, by decide⟩ rfl rfl (Nat.le_of_ble_eq_true rfl) (wo_append (p := 22) rt_at (xs 1) (Qs := fun _ => True) (r1_mono hC (fun v τ h => ⟨h, trivial⟩))) ⟨Nat.le_of_ble_eq_true rfl, Nat.le_of_ble_eq_true rfl⟩ (fun v ws1 hv => ?_)
  obtain ⟨τ, hv, -⟩ := hv
  cases hv
  refine pz_kn 141 3628 rfl rfl ?_
  refine pz_ws (ws' := wp G adM LM (cellsE G adX LX τ LX.1 0) [outC G ow (vp_updL f 0 r.toInt64)] σM) (by rw [rt_set]; rfl) ?_
  refine pz_istore dL_law_167 (by decide) ?_
  refine pz_aload_n dL_law_169 rfl ?_
  refine pz_aload_n dL_law_170 rfl ?_
  refine pz_iload dL_law_171 rfl ?_
  refine pz_iconst (v := 1) dL_law_173 rfl ?_
  refine pz_iadd dL_law_174 ?_
  refine pz_sld dL_law_175 (by unfold vp_in; decide) ?_
  refine pz_top (xs 1) (congrArg xs (by decide)) ?_
  refine pz_rV1 (mi' := mX11_append) (As := [.int (xs 1)]) (q := (RX11, TX11, 33)) dL_law_176 lk_RL_81 mk_X11_append mi_X11_append me_X11_append ⟨by decide, by decide⟩ rfl rfl (Nat.le_of_ble_eq_true rfl) rfl rfl ⟨Nat.le_of_ble_eq_true rfl, Nat.le_of_ble_eq_true rfl⟩ (hM τ _) (fun v ρ hq => ?_)
  obtain ⟨hq, hth⟩ := hq
  subst hq
  refine pz_kn 141 3628 rfl rfl ?_
  refine pz_istore dL_law_179 (by decide) ?_
  refine pz_aload_n dL_law_181 rfl ?_
  refine pz_rV1 (mi' := mX11_thrown) (As := []) (q := (RX11, TX11, 33)) dL_law_182 lk_RL_82 mk_X11_thrown mi_X11_thrown me_X11_thrown ⟨by decide, by decide⟩ rfl rfl (Nat.le_of_ble_eq_true rfl) rfl rfl ⟨Nat.le_of_ble_eq_true rfl, Nat.le_of_ble_eq_true rfl⟩ (specD_r1 (Q := fun v τ => v = .int 0 ∧ τ = ρ) r_thrown ⟨congrArg Value.int hth, rfl⟩) (fun v ρ2 hq => ?_)
  obtain ⟨hq, hρ⟩ := hq
  subst hq
  subst hρ
  refine pz_kn 141 3628 rfl rfl ?_
  refine pz_iload dL_law_185 rfl ?_
  refine pz_icmp_eq 192 dL_law_187 (by decide) (fun _ => ?_) (fun c_ => absurd rfl c_)
  refine pz_iload dL_law_192 rfl ?_
  refine pz_if_ne 209 dL_law_194 (by decide) (fun c_ => absurd rfl c_) (fun _ => ?_)
  refine pz_aload_n dL_law_197 rfl ?_
  refine pz_iconst (v := 0) dL_law_198 rfl ?_
  refine pz_lald dL_law_199 ((cellsE G adX LX τ LX.1 0).length + (LM.1.length + 0)) (wp_rt rfl) (vp_in_nI (n := 0) (by decide) (by decide)) ?_
  refine pz_iload dL_law_200 rfl ?_
  refine pz_i2l dL_law_202 ?_
  refine pz_lcmp dL_law_203 ?_
  refine pz_if_eq 209 dL_law_204 (by decide) (fun _ => ?_) (fun c_ => absurd (lg_cmp_self _) c_)
  refine pz_goto (tgt := 1493) dL_law_209 (by decide) ?_
  exact pz_lk [(0, .ref b), (4, .int 0)] ⟨rfl, rfl, trivial⟩ (lw_end (Nat.le_of_ble_eq_true rfl) (Nat.le_of_ble_eq_true rfl))
theorem lt1_append (hC : SpecT l G mX10_append [.ref (adX 0), .int (xs 1)] (wp G adX LX [] (rtM G adM σM ow f) σX) "java/lang/IllegalArgumentException" (wp G adX LX [] (rtM G adM σM ow f) σX)) (hM : SpR1 l G mX11_append [.ref (adM 0), .int (xs 1)] adM LM (cellsE G adX LX σX LX.1 0) [outC G ow f] σM (fun v ρ => (∃ bb, v = .int bb) ∧ ρ.1 0 3 = 1)) : PZ (XL b 4 xs) QL l G mL_law [] sz 156 [(0, .ref b), (1, .ref (adX 0)), (2, .ref (adM 0)), (3, .ref ow), (4, .int 0)] [] 140 3622 (wp G adX LX [] (rtM G adM σM ow f) σX) := by
  refine pz_aload_n dL_law_156 rfl ?_
  refine pz_aload_n dL_law_157 rfl ?_
  refine pz_iload dL_law_158 rfl ?_
  refine pz_iconst (v := 1) dL_law_160 rfl ?_
  refine pz_iadd dL_law_161 ?_
  refine pz_sld dL_law_162 (by unfold vp_in; decide) ?_
  refine pz_top (xs 1) (congrArg xs (by decide)) ?_
  refine pz_aload_n dL_law_163 rfl ?_
  refine pz_callW (mi' := mL_append) (hh := hhL_append) (As := [.ref (adX 0), .int (xs 1), .ref ow]) dL_law_164 (tw_in 753 (by decide +kernel) (by decide +kernel)) mw_append ⟨by decide, by decide⟩ rfl rfl (Nat.le_of_ble_eq_true rfl) (wt1_append (xs 1) hC) ⟨Nat.le_of_ble_eq_true rfl, Nat.le_of_ble_eq_true rfl⟩ (fun v ws1 hv => ?_)
  cases hv
  refine pz_kn 141 3628 rfl rfl ?_
  refine pz_ws (ws' := wp G adM LM (cellsE G adX LX σX LX.1 0) [outC G ow f] σM) rfl ?_
  refine pz_istore dL_law_167 (by decide) ?_
  refine pz_aload_n dL_law_169 rfl ?_
  refine pz_aload_n dL_law_170 rfl ?_
  refine pz_iload dL_law_171 rfl ?_
  refine pz_iconst (v := 1) dL_law_173 rfl ?_
  refine pz_iadd dL_law_174 ?_
  refine pz_sld dL_law_175 (by unfold vp_in; decide) ?_
  refine pz_top (xs 1) (congrArg xs (by decide)) ?_
  refine pz_rV1 (mi' := mX11_append) (As := [.int (xs 1)]) (q := (RX11, TX11, 33)) dL_law_176 lk_RL_81 mk_X11_append mi_X11_append me_X11_append ⟨by decide, by decide⟩ rfl rfl (Nat.le_of_ble_eq_true rfl) rfl rfl ⟨Nat.le_of_ble_eq_true rfl, Nat.le_of_ble_eq_true rfl⟩ hM (fun v ρ hq => ?_)
  obtain ⟨⟨bb, hq⟩, hth⟩ := hq
  subst hq
  refine pz_kn 141 3628 rfl rfl ?_
  refine pz_istore dL_law_179 (by decide) ?_
  refine pz_aload_n dL_law_181 rfl ?_
  refine pz_rV1 (mi' := mX11_thrown) (As := []) (q := (RX11, TX11, 33)) dL_law_182 lk_RL_82 mk_X11_thrown mi_X11_thrown me_X11_thrown ⟨by decide, by decide⟩ rfl rfl (Nat.le_of_ble_eq_true rfl) rfl rfl ⟨Nat.le_of_ble_eq_true rfl, Nat.le_of_ble_eq_true rfl⟩ (specD_r1 (Q := fun v τ => v = .int 1 ∧ τ = ρ) r_thrown ⟨congrArg Value.int hth, rfl⟩) (fun v ρ2 hq => ?_)
  obtain ⟨hq, hρ⟩ := hq
  subst hq
  subst hρ
  refine pz_kn 141 3628 rfl rfl ?_
  refine pz_iload dL_law_185 rfl ?_
  refine pz_icmp_eq 192 dL_law_187 (by decide) (fun _ => ?_) (fun c_ => absurd rfl c_)
  refine pz_iload dL_law_192 rfl ?_
  refine pz_if_ne 209 dL_law_194 (by decide) (fun _ => ?_) (fun c_ => absurd c_ (by decide))
  refine pz_goto (tgt := 1493) dL_law_209 (by decide) ?_
  exact pz_lk [(0, .ref b), (4, .int 0)] ⟨rfl, rfl, trivial⟩ (lw_end (Nat.le_of_ble_eq_true rfl) (Nat.le_of_ble_eq_true rfl))
theorem lt2_append (hC : SpecT l G mX10_append [.ref (adX 0), .int (xs 1)] (wp G adX LX [] (rtM G adM σM ow f) σX) "java/lang/IllegalStateException" (wp G adX LX [] (rtM G adM σM ow f) σX)) (hM : SpR1 l G mX11_append [.ref (adM 0), .int (xs 1)] adM LM (cellsE G adX LX σX LX.1 0) [outC G ow f] σM (fun v ρ => (∃ bb, v = .int bb) ∧ ρ.1 0 3 = 2)) : PZ (XL b 4 xs) QL l G mL_law [] sz 156 [(0, .ref b), (1, .ref (adX 0)), (2, .ref (adM 0)), (3, .ref ow), (4, .int 0)] [] 140 3622 (wp G adX LX [] (rtM G adM σM ow f) σX) := by
  refine pz_aload_n dL_law_156 rfl ?_
  refine pz_aload_n dL_law_157 rfl ?_
  refine pz_iload dL_law_158 rfl ?_
  refine pz_iconst (v := 1) dL_law_160 rfl ?_
  refine pz_iadd dL_law_161 ?_
  refine pz_sld dL_law_162 (by unfold vp_in; decide) ?_
  refine pz_top (xs 1) (congrArg xs (by decide)) ?_
  refine pz_aload_n dL_law_163 rfl ?_
  refine pz_callW (mi' := mL_append) (hh := hhL_append) (As := [.ref (adX 0), .int (xs 1), .ref ow]) dL_law_164 (tw_in 753 (by decide +kernel) (by decide +kernel)) mw_append ⟨by decide, by decide⟩ rfl rfl (Nat.le_of_ble_eq_true rfl) (wt2_append (xs 1) hC) ⟨Nat.le_of_ble_eq_true rfl, Nat.le_of_ble_eq_true rfl⟩ (fun v ws1 hv => ?_)
  cases hv
  refine pz_kn 141 3628 rfl rfl ?_
  refine pz_ws (ws' := wp G adM LM (cellsE G adX LX σX LX.1 0) [outC G ow f] σM) rfl ?_
  refine pz_istore dL_law_167 (by decide) ?_
  refine pz_aload_n dL_law_169 rfl ?_
  refine pz_aload_n dL_law_170 rfl ?_
  refine pz_iload dL_law_171 rfl ?_
  refine pz_iconst (v := 1) dL_law_173 rfl ?_
  refine pz_iadd dL_law_174 ?_
  refine pz_sld dL_law_175 (by unfold vp_in; decide) ?_
  refine pz_top (xs 1) (congrArg xs (by decide)) ?_
  refine pz_rV1 (mi' := mX11_append) (As := [.int (xs 1)]) (q := (RX11, TX11, 33)) dL_law_176 lk_RL_81 mk_X11_append mi_X11_append me_X11_append ⟨by decide, by decide⟩ rfl rfl (Nat.le_of_ble_eq_true rfl) rfl rfl ⟨Nat.le_of_ble_eq_true rfl, Nat.le_of_ble_eq_true rfl⟩ hM (fun v ρ hq => ?_)
  obtain ⟨⟨bb, hq⟩, hth⟩ := hq
  subst hq
  refine pz_kn 141 3628 rfl rfl ?_
  refine pz_istore dL_law_179 (by decide) ?_
  refine pz_aload_n dL_law_181 rfl ?_
  refine pz_rV1 (mi' := mX11_thrown) (As := []) (q := (RX11, TX11, 33)) dL_law_182 lk_RL_82 mk_X11_thrown mi_X11_thrown me_X11_thrown ⟨by decide, by decide⟩ rfl rfl (Nat.le_of_ble_eq_true rfl) rfl rfl ⟨Nat.le_of_ble_eq_true rfl, Nat.le_of_ble_eq_true rfl⟩ (specD_r1 (Q := fun v τ => v = .int 2 ∧ τ = ρ) r_thrown ⟨congrArg Value.int hth, rfl⟩) (fun v ρ2 hq => ?_)
  obtain ⟨hq, hρ⟩ := hq
  subst hq
  subst hρ
  refine pz_kn 141 3628 rfl rfl ?_
  refine pz_iload dL_law_185 rfl ?_
  refine pz_icmp_eq 192 dL_law_187 (by decide) (fun _ => ?_) (fun c_ => absurd rfl c_)
  refine pz_iload dL_law_192 rfl ?_
  refine pz_if_ne 209 dL_law_194 (by decide) (fun _ => ?_) (fun c_ => absurd c_ (by decide))
  refine pz_goto (tgt := 1493) dL_law_209 (by decide) ?_
  exact pz_lk [(0, .ref b), (4, .int 0)] ⟨rfl, rfl, trivial⟩ (lw_end (Nat.le_of_ble_eq_true rfl) (Nat.le_of_ble_eq_true rfl))
theorem ld_clearText {r : Int32} (hC : SpR1 l G mX10_clearText [.ref (adX 0)] adX LX [] (rtM G adM σM ow f) σX (fun v _ => v = .int r)) (hM : ∀ τ, SpR1 l G mX11_clearText [.ref (adM 0)] adM LM (cellsE G adX LX τ LX.1 0) [outC G ow f] σM (fun v _ => v = .int r)) : PZ (XL b 4 xs) QL l G mL_law [] sz 212 [(0, .ref b), (1, .ref (adX 0)), (2, .ref (adM 0)), (3, .ref ow), (4, .int 0)] [] 140 3622 (wp G adX LX [] (rtM G adM σM ow f) σX) := by
  refine pz_aload_n dL_law_212 rfl ?_
  refine pz_rV1 (mi' := mX10_clearText) (As := []) (q := (RX10, TX10, 14)) dL_law_213 lk_RL_85 mk_X10_clearText mi_X10_clearText me_X10_clearText ⟨by decide, by decide⟩ rfl rfl (Nat.le_of_ble_eq_true rfl) rfl rfl ⟨Nat.le_of_ble_eq_true rfl, Nat.le_of_ble_eq_true rfl⟩ hC (fun v τ hq => ?_)
  subst hq
  refine pz_ws (ws' := wp G adM LM (cellsE G adX LX τ LX.1 0) [outC G ow f] σM) rfl ?_
  refine pz_kn 140 3622 rfl rfl ?_
  refine pz_aload_n dL_law_216 rfl ?_
  refine pz_rV1 (mi' := mX11_clearText) (As := []) (q := (RX11, TX11, 33)) dL_law_217 lk_RL_88 mk_X11_clearText mi_X11_clearText me_X11_clearText ⟨by decide, by decide⟩ rfl rfl (Nat.le_of_ble_eq_true rfl) rfl rfl ⟨Nat.le_of_ble_eq_true rfl, Nat.le_of_ble_eq_true rfl⟩ (hM τ) (fun v ρ hq => ?_)
  subst hq
  refine pz_kn 140 3622 rfl rfl ?_
  refine pz_icmp_eq 1493 dL_law_220 (by decide) (fun _ => ?_) (fun c_ => absurd rfl c_)
  exact pz_lk [(0, .ref b), (4, .int 0)] ⟨rfl, rfl, trivial⟩ (lw_end (Nat.le_of_ble_eq_true rfl) (Nat.le_of_ble_eq_true rfl))
theorem ld_parse {r : Int32} (hC : SpR1 l G mX10_parse [.ref (adX 0)] adX LX [] (rtM G adM σM ow f) σX (fun v _ => v = .int r)) (hM : ∀ τ, SpR1 l G mX11_parse [.ref (adM 0)] adM LM (cellsE G adX LX τ LX.1 0) [outC G ow f] σM (fun v _ => v = .int r)) : PZ (XL b 4 xs) QL l G mL_law [] sz 225 [(0, .ref b), (1, .ref (adX 0)), (2, .ref (adM 0)), (3, .ref ow), (4, .int 0)] [] 140 3622 (wp G adX LX [] (rtM G adM σM ow f) σX) := by
  refine pz_aload_n dL_law_225 rfl ?_
  refine pz_rV1 (mi' := mX10_parse) (As := []) (q := (RX10, TX10, 14)) dL_law_226 lk_RL_89 mk_X10_parse mi_X10_parse me_X10_parse ⟨by decide, by decide⟩ rfl rfl (Nat.le_of_ble_eq_true rfl) rfl rfl ⟨Nat.le_of_ble_eq_true rfl, Nat.le_of_ble_eq_true rfl⟩ hC (fun v τ hq => ?_)
  subst hq
  refine pz_ws (ws' := wp G adM LM (cellsE G adX LX τ LX.1 0) [outC G ow f] σM) rfl ?_
  refine pz_kn 140 3622 rfl rfl ?_
  refine pz_aload_n dL_law_229 rfl ?_
  refine pz_rV1 (mi' := mX11_parse) (As := []) (q := (RX11, TX11, 33)) dL_law_230 lk_RL_92 mk_X11_parse mi_X11_parse me_X11_parse ⟨by decide, by decide⟩ rfl rfl (Nat.le_of_ble_eq_true rfl) rfl rfl ⟨Nat.le_of_ble_eq_true rfl, Nat.le_of_ble_eq_true rfl⟩ (hM τ) (fun v ρ hq => ?_)
  subst hq
  refine pz_kn 140 3622 rfl rfl ?_
  refine pz_icmp_eq 1493 dL_law_233 (by decide) (fun _ => ?_) (fun c_ => absurd rfl c_)
  exact pz_lk [(0, .ref b), (4, .int 0)] ⟨rfl, rfl, trivial⟩ (lw_end (Nat.le_of_ble_eq_true rfl) (Nat.le_of_ble_eq_true rfl))
theorem lo_setRange {r : Int32} (hC : SpR1 l G mX10_setRange [.ref (adX 0), .int (xs 1), .int (xs 2), .int (xs 3)] adX LX [] (rtM G adM σM ow f) σX (fun v _ => v = .int r)) (hM : ∀ τ g, SpR1 l G mX11_setRange [.ref (adM 0), .int (xs 1), .int (xs 2), .int (xs 3)] adM LM (cellsE G adX LX τ LX.1 0) [outC G ow g] σM (fun v ρ => v = .int r ∧ ρ.1 0 3 = 0)) : PZ (XL b 4 xs) QL l G mL_law [] sz 238 [(0, .ref b), (1, .ref (adX 0)), (2, .ref (adM 0)), (3, .ref ow), (4, .int 0)] [] 140 3622 (wp G adX LX [] (rtM G adM σM ow f) σX) := by
  refine pz_aload_n dL_law_238 rfl ?_
  refine pz_aload_n dL_law_239 rfl ?_
  refine pz_iload dL_law_240 rfl ?_
  refine pz_iconst (v := 1) dL_law_242 rfl ?_
  refine pz_iadd dL_law_243 ?_
  refine pz_sld dL_law_244 (by unfold vp_in; decide) ?_
  refine pz_top (xs 1) (congrArg xs (by decide)) ?_
  refine pz_aload_n dL_law_245 rfl ?_
  refine pz_iload dL_law_246 rfl ?_
  refine pz_iconst (v := 2) dL_law_248 rfl ?_
  refine pz_iadd dL_law_249 ?_
  refine pz_sld dL_law_250 (by unfold vp_in; decide) ?_
  refine pz_top (xs 2) (congrArg xs (by decide)) ?_
  refine pz_aload_n dL_law_251 rfl ?_
  refine pz_iload dL_law_252 rfl ?_
  refine pz_iconst (v := 3) dL_law_254 rfl ?_
  refine pz_iadd dL_law_255 ?_
  refine pz_sld dL_law_256 (by unfold vp_in; decide) ?_
  refine pz_top (xs 3) (congrArg xs (by decide)) ?_
  refine pz_aload_n dL_law_257 rfl ?_
  refine pz_callW (mi' := mL_setRange) (hh := hhL_setRange) (As := [.ref (adX 0), .int (xs 1), .int (xs 2), .int (xs 3), .ref ow]) dL_law_258 (tw_in 850 (by decide +kernel) (by decide +kernel)) mw_setRange ⟨by decide, by decide⟩ rfl rfl (Nat.le_of_ble_eq_true rfl) (wo_setRange (p := 22) rt_at (xs 1) (xs 2) (xs 3) (Qs := fun _ => True) (r1_mono hC (fun v τ h => ⟨h, trivial⟩))) ⟨Nat.le_of_ble_eq_true rfl, Nat.le_of_ble_eq_true rfl⟩ (fun v ws1 hv => ?_)
  obtain ⟨τ, hv, -⟩ := hv
  cases hv
  refine pz_kn 142 3634 rfl rfl ?_
  refine pz_ws (ws' := wp G adM LM (cellsE G adX LX τ LX.1 0) [outC G ow (vp_updL f 0 r.toInt64)] σM) (by rw [rt_set]; rfl) ?_
  refine pz_istore dL_law_261 (by decide) ?_
  refine pz_aload_n dL_law_263 rfl ?_
  refine pz_aload_n dL_law_264 rfl ?_
  refine pz_iload dL_law_265 rfl ?_
  refine pz_iconst (v := 1) dL_law_267 rfl ?_
  refine pz_iadd dL_law_268 ?_
  refine pz_sld dL_law_269 (by unfold vp_in; decide) ?_
  refine pz_top (xs 1) (congrArg xs (by decide)) ?_
  refine pz_aload_n dL_law_270 rfl ?_
  refine pz_iload dL_law_271 rfl ?_
  refine pz_iconst (v := 2) dL_law_273 rfl ?_
  refine pz_iadd dL_law_274 ?_
  refine pz_sld dL_law_275 (by unfold vp_in; decide) ?_
  refine pz_top (xs 2) (congrArg xs (by decide)) ?_
  refine pz_aload_n dL_law_276 rfl ?_
  refine pz_iload dL_law_277 rfl ?_
  refine pz_iconst (v := 3) dL_law_279 rfl ?_
  refine pz_iadd dL_law_280 ?_
  refine pz_sld dL_law_281 (by unfold vp_in; decide) ?_
  refine pz_top (xs 3) (congrArg xs (by decide)) ?_
  refine pz_rV1 (mi' := mX11_setRange) (As := [.int (xs 1), .int (xs 2), .int (xs 3)]) (q := (RX11, TX11, 33)) dL_law_282 lk_RL_96 mk_X11_setRange mi_X11_setRange me_X11_setRange ⟨by decide, by decide⟩ rfl rfl (Nat.le_of_ble_eq_true rfl) rfl rfl ⟨Nat.le_of_ble_eq_true rfl, Nat.le_of_ble_eq_true rfl⟩ (hM τ _) (fun v ρ hq => ?_)
  obtain ⟨hq, hth⟩ := hq
  subst hq
  refine pz_kn 142 3634 rfl rfl ?_
  refine pz_istore dL_law_285 (by decide) ?_
  refine pz_aload_n dL_law_287 rfl ?_
  refine pz_rV1 (mi' := mX11_thrown) (As := []) (q := (RX11, TX11, 33)) dL_law_288 lk_RL_82 mk_X11_thrown mi_X11_thrown me_X11_thrown ⟨by decide, by decide⟩ rfl rfl (Nat.le_of_ble_eq_true rfl) rfl rfl ⟨Nat.le_of_ble_eq_true rfl, Nat.le_of_ble_eq_true rfl⟩ (specD_r1 (Q := fun v τ => v = .int 0 ∧ τ = ρ) r_thrown ⟨congrArg Value.int hth, rfl⟩) (fun v ρ2 hq => ?_)
  obtain ⟨hq, hρ⟩ := hq
  subst hq
  subst hρ
  refine pz_kn 142 3634 rfl rfl ?_
  refine pz_iload dL_law_291 rfl ?_
  refine pz_icmp_eq 298 dL_law_293 (by decide) (fun _ => ?_) (fun c_ => absurd rfl c_)
  refine pz_iload dL_law_298 rfl ?_
  refine pz_if_ne 315 dL_law_300 (by decide) (fun c_ => absurd rfl c_) (fun _ => ?_)
  refine pz_aload_n dL_law_303 rfl ?_
  refine pz_iconst (v := 0) dL_law_304 rfl ?_
  refine pz_lald dL_law_305 ((cellsE G adX LX τ LX.1 0).length + (LM.1.length + 0)) (wp_rt rfl) (vp_in_nI (n := 0) (by decide) (by decide)) ?_
  refine pz_iload dL_law_306 rfl ?_
  refine pz_i2l dL_law_308 ?_
  refine pz_lcmp dL_law_309 ?_
  refine pz_if_eq 315 dL_law_310 (by decide) (fun _ => ?_) (fun c_ => absurd (lg_cmp_self _) c_)
  refine pz_goto (tgt := 1493) dL_law_315 (by decide) ?_
  exact pz_lk [(0, .ref b), (4, .int 0)] ⟨rfl, rfl, trivial⟩ (lw_end (Nat.le_of_ble_eq_true rfl) (Nat.le_of_ble_eq_true rfl))
theorem lt1_setRange (hC : SpecT l G mX10_setRange [.ref (adX 0), .int (xs 1), .int (xs 2), .int (xs 3)] (wp G adX LX [] (rtM G adM σM ow f) σX) "java/lang/IndexOutOfBoundsException" (wp G adX LX [] (rtM G adM σM ow f) σX)) (hM : SpR1 l G mX11_setRange [.ref (adM 0), .int (xs 1), .int (xs 2), .int (xs 3)] adM LM (cellsE G adX LX σX LX.1 0) [outC G ow f] σM (fun v ρ => (∃ bb, v = .int bb) ∧ ρ.1 0 3 = 1)) : PZ (XL b 4 xs) QL l G mL_law [] sz 238 [(0, .ref b), (1, .ref (adX 0)), (2, .ref (adM 0)), (3, .ref ow), (4, .int 0)] [] 140 3622 (wp G adX LX [] (rtM G adM σM ow f) σX) := by
  refine pz_aload_n dL_law_238 rfl ?_
  refine pz_aload_n dL_law_239 rfl ?_
  refine pz_iload dL_law_240 rfl ?_
  refine pz_iconst (v := 1) dL_law_242 rfl ?_
  refine pz_iadd dL_law_243 ?_
  refine pz_sld dL_law_244 (by unfold vp_in; decide) ?_
  refine pz_top (xs 1) (congrArg xs (by decide)) ?_
  refine pz_aload_n dL_law_245 rfl ?_
  refine pz_iload dL_law_246 rfl ?_
  refine pz_iconst (v := 2) dL_law_248 rfl ?_
  refine pz_iadd dL_law_249 ?_
  refine pz_sld dL_law_250 (by unfold vp_in; decide) ?_
  refine pz_top (xs 2) (congrArg xs (by decide)) ?_
  refine pz_aload_n dL_law_251 rfl ?_
  refine pz_iload dL_law_252 rfl ?_
  refine pz_iconst (v := 3) dL_law_254 rfl ?_
  refine pz_iadd dL_law_255 ?_
  refine pz_sld dL_law_256 (by unfold vp_in; decide) ?_
  refine pz_top (xs 3) (congrArg xs (by decide)) ?_
  refine pz_aload_n dL_law_257 rfl ?_
  refine pz_callW (mi' := mL_setRange) (hh := hhL_setRange) (As := [.ref (adX 0), .int (xs 1), .int (xs 2), .int (xs 3), .ref ow]) dL_law_258 (tw_in 850 (by decide +kernel) (by decide +kernel)) mw_setRange ⟨by decide, by decide⟩ rfl rfl (Nat.le_of_ble_eq_true rfl) (wt1_setRange (xs 1) (xs 2) (xs 3) hC) ⟨Nat.le_of_ble_eq_true rfl, Nat.le_of_ble_eq_true rfl⟩ (fun v ws1 hv => ?_)
  cases hv
  refine pz_kn 142 3634 rfl rfl ?_
  refine pz_ws (ws' := wp G adM LM (cellsE G adX LX σX LX.1 0) [outC G ow f] σM) rfl ?_
  refine pz_istore dL_law_261 (by decide) ?_
  refine pz_aload_n dL_law_263 rfl ?_
  refine pz_aload_n dL_law_264 rfl ?_
  refine pz_iload dL_law_265 rfl ?_
  refine pz_iconst (v := 1) dL_law_267 rfl ?_
  refine pz_iadd dL_law_268 ?_
  refine pz_sld dL_law_269 (by unfold vp_in; decide) ?_
  refine pz_top (xs 1) (congrArg xs (by decide)) ?_
  refine pz_aload_n dL_law_270 rfl ?_
  refine pz_iload dL_law_271 rfl ?_
  refine pz_iconst (v := 2) dL_law_273 rfl ?_
  refine pz_iadd dL_law_274 ?_
  refine pz_sld dL_law_275 (by unfold vp_in; decide) ?_
  refine pz_top (xs 2) (congrArg xs (by decide)) ?_
  refine pz_aload_n dL_law_276 rfl ?_
  refine pz_iload dL_law_277 rfl ?_
  refine pz_iconst (v := 3) dL_law_279 rfl ?_
  refine pz_iadd dL_law_280 ?_
  refine pz_sld dL_law_281 (by unfold vp_in; decide) ?_
  refine pz_top (xs 3) (congrArg xs (by decide)) ?_
  refine pz_rV1 (mi' := mX11_setRange) (As := [.int (xs 1), .int (xs 2), .int (xs 3)]) (q := (RX11, TX11, 33)) dL_law_282 lk_RL_96 mk_X11_setRange mi_X11_setRange me_X11_setRange ⟨by decide, by decide⟩ rfl rfl (Nat.le_of_ble_eq_true rfl) rfl rfl ⟨Nat.le_of_ble_eq_true rfl, Nat.le_of_ble_eq_true rfl⟩ hM (fun v ρ hq => ?_)
  obtain ⟨⟨bb, hq⟩, hth⟩ := hq
  subst hq
  refine pz_kn 142 3634 rfl rfl ?_
  refine pz_istore dL_law_285 (by decide) ?_
  refine pz_aload_n dL_law_287 rfl ?_
  refine pz_rV1 (mi' := mX11_thrown) (As := []) (q := (RX11, TX11, 33)) dL_law_288 lk_RL_82 mk_X11_thrown mi_X11_thrown me_X11_thrown ⟨by decide, by decide⟩ rfl rfl (Nat.le_of_ble_eq_true rfl) rfl rfl ⟨Nat.le_of_ble_eq_true rfl, Nat.le_of_ble_eq_true rfl⟩ (specD_r1 (Q := fun v τ => v = .int 1 ∧ τ = ρ) r_thrown ⟨congrArg Value.int hth, rfl⟩) (fun v ρ2 hq => ?_)
  obtain ⟨hq, hρ⟩ := hq
  subst hq
  subst hρ
  refine pz_kn 142 3634 rfl rfl ?_
  refine pz_iload dL_law_291 rfl ?_
  refine pz_icmp_eq 298 dL_law_293 (by decide) (fun _ => ?_) (fun c_ => absurd rfl c_)
  refine pz_iload dL_law_298 rfl ?_
  refine pz_if_ne 315 dL_law_300 (by decide) (fun _ => ?_) (fun c_ => absurd c_ (by decide))
  refine pz_goto (tgt := 1493) dL_law_315 (by decide) ?_
  exact pz_lk [(0, .ref b), (4, .int 0)] ⟨rfl, rfl, trivial⟩ (lw_end (Nat.le_of_ble_eq_true rfl) (Nat.le_of_ble_eq_true rfl))
theorem lt2_setRange (hC : SpecT l G mX10_setRange [.ref (adX 0), .int (xs 1), .int (xs 2), .int (xs 3)] (wp G adX LX [] (rtM G adM σM ow f) σX) "java/lang/IllegalArgumentException" (wp G adX LX [] (rtM G adM σM ow f) σX)) (hM : SpR1 l G mX11_setRange [.ref (adM 0), .int (xs 1), .int (xs 2), .int (xs 3)] adM LM (cellsE G adX LX σX LX.1 0) [outC G ow f] σM (fun v ρ => (∃ bb, v = .int bb) ∧ ρ.1 0 3 = 2)) : PZ (XL b 4 xs) QL l G mL_law [] sz 238 [(0, .ref b), (1, .ref (adX 0)), (2, .ref (adM 0)), (3, .ref ow), (4, .int 0)] [] 140 3622 (wp G adX LX [] (rtM G adM σM ow f) σX) := by
  refine pz_aload_n dL_law_238 rfl ?_
  refine pz_aload_n dL_law_239 rfl ?_
  refine pz_iload dL_law_240 rfl ?_
  refine pz_iconst (v := 1) dL_law_242 rfl ?_
  refine pz_iadd dL_law_243 ?_
  refine pz_sld dL_law_244 (by unfold vp_in; decide) ?_
  refine pz_top (xs 1) (congrArg xs (by decide)) ?_
  refine pz_aload_n dL_law_245 rfl ?_
  refine pz_iload dL_law_246 rfl ?_
  refine pz_iconst (v := 2) dL_law_248 rfl ?_
  refine pz_iadd dL_law_249 ?_
  refine pz_sld dL_law_250 (by unfold vp_in; decide) ?_
  refine pz_top (xs 2) (congrArg xs (by decide)) ?_
  refine pz_aload_n dL_law_251 rfl ?_
  refine pz_iload dL_law_252 rfl ?_
  refine pz_iconst (v := 3) dL_law_254 rfl ?_
  refine pz_iadd dL_law_255 ?_
  refine pz_sld dL_law_256 (by unfold vp_in; decide) ?_
  refine pz_top (xs 3) (congrArg xs (by decide)) ?_
  refine pz_aload_n dL_law_257 rfl ?_
  refine pz_callW (mi' := mL_setRange) (hh := hhL_setRange) (As := [.ref (adX 0), .int (xs 1), .int (xs 2), .int (xs 3), .ref ow]) dL_law_258 (tw_in 850 (by decide +kernel) (by decide +kernel)) mw_setRange ⟨by decide, by decide⟩ rfl rfl (Nat.le_of_ble_eq_true rfl) (wt2_setRange (xs 1) (xs 2) (xs 3) hC) ⟨Nat.le_of_ble_eq_true rfl, Nat.le_of_ble_eq_true rfl⟩ (fun v ws1 hv => ?_)
  cases hv
  refine pz_kn 142 3634 rfl rfl ?_
  refine pz_ws (ws' := wp G adM LM (cellsE G adX LX σX LX.1 0) [outC G ow f] σM) rfl ?_
  refine pz_istore dL_law_261 (by decide) ?_
  refine pz_aload_n dL_law_263 rfl ?_
  refine pz_aload_n dL_law_264 rfl ?_
  refine pz_iload dL_law_265 rfl ?_
  refine pz_iconst (v := 1) dL_law_267 rfl ?_
  refine pz_iadd dL_law_268 ?_
  refine pz_sld dL_law_269 (by unfold vp_in; decide) ?_
  refine pz_top (xs 1) (congrArg xs (by decide)) ?_
  refine pz_aload_n dL_law_270 rfl ?_
  refine pz_iload dL_law_271 rfl ?_
  refine pz_iconst (v := 2) dL_law_273 rfl ?_
  refine pz_iadd dL_law_274 ?_
  refine pz_sld dL_law_275 (by unfold vp_in; decide) ?_
  refine pz_top (xs 2) (congrArg xs (by decide)) ?_
  refine pz_aload_n dL_law_276 rfl ?_
  refine pz_iload dL_law_277 rfl ?_
  refine pz_iconst (v := 3) dL_law_279 rfl ?_
  refine pz_iadd dL_law_280 ?_
  refine pz_sld dL_law_281 (by unfold vp_in; decide) ?_
  refine pz_top (xs 3) (congrArg xs (by decide)) ?_
  refine pz_rV1 (mi' := mX11_setRange) (As := [.int (xs 1), .int (xs 2), .int (xs 3)]) (q := (RX11, TX11, 33)) dL_law_282 lk_RL_96 mk_X11_setRange mi_X11_setRange me_X11_setRange ⟨by decide, by decide⟩ rfl rfl (Nat.le_of_ble_eq_true rfl) rfl rfl ⟨Nat.le_of_ble_eq_true rfl, Nat.le_of_ble_eq_true rfl⟩ hM (fun v ρ hq => ?_)
  obtain ⟨⟨bb, hq⟩, hth⟩ := hq
  subst hq
  refine pz_kn 142 3634 rfl rfl ?_
  refine pz_istore dL_law_285 (by decide) ?_
  refine pz_aload_n dL_law_287 rfl ?_
  refine pz_rV1 (mi' := mX11_thrown) (As := []) (q := (RX11, TX11, 33)) dL_law_288 lk_RL_82 mk_X11_thrown mi_X11_thrown me_X11_thrown ⟨by decide, by decide⟩ rfl rfl (Nat.le_of_ble_eq_true rfl) rfl rfl ⟨Nat.le_of_ble_eq_true rfl, Nat.le_of_ble_eq_true rfl⟩ (specD_r1 (Q := fun v τ => v = .int 2 ∧ τ = ρ) r_thrown ⟨congrArg Value.int hth, rfl⟩) (fun v ρ2 hq => ?_)
  obtain ⟨hq, hρ⟩ := hq
  subst hq
  subst hρ
  refine pz_kn 142 3634 rfl rfl ?_
  refine pz_iload dL_law_291 rfl ?_
  refine pz_icmp_eq 298 dL_law_293 (by decide) (fun _ => ?_) (fun c_ => absurd rfl c_)
  refine pz_iload dL_law_298 rfl ?_
  refine pz_if_ne 315 dL_law_300 (by decide) (fun _ => ?_) (fun c_ => absurd c_ (by decide))
  refine pz_goto (tgt := 1493) dL_law_315 (by decide) ?_
  exact pz_lk [(0, .ref b), (4, .int 0)] ⟨rfl, rfl, trivial⟩ (lw_end (Nat.le_of_ble_eq_true rfl) (Nat.le_of_ble_eq_true rfl))
theorem lo_setInput {r : Int32} (hC : SpR1 l G mX10_setInput [.ref (adX 0), .int (xs 1), .int (xs 2)] adX LX [] (rtM G adM σM ow f) σX (fun v _ => v = .int r)) (hM : ∀ τ g, SpR1 l G mX11_setInput [.ref (adM 0), .int (xs 1), .int (xs 2)] adM LM (cellsE G adX LX τ LX.1 0) [outC G ow g] σM (fun v ρ => v = .int r ∧ ρ.1 0 3 = 0)) : PZ (XL b 4 xs) QL l G mL_law [] sz 318 [(0, .ref b), (1, .ref (adX 0)), (2, .ref (adM 0)), (3, .ref ow), (4, .int 0)] [] 140 3622 (wp G adX LX [] (rtM G adM σM ow f) σX) := by
  refine pz_aload_n dL_law_318 rfl ?_
  refine pz_aload_n dL_law_319 rfl ?_
  refine pz_iload dL_law_320 rfl ?_
  refine pz_iconst (v := 1) dL_law_322 rfl ?_
  refine pz_iadd dL_law_323 ?_
  refine pz_sld dL_law_324 (by unfold vp_in; decide) ?_
  refine pz_top (xs 1) (congrArg xs (by decide)) ?_
  refine pz_aload_n dL_law_325 rfl ?_
  refine pz_iload dL_law_326 rfl ?_
  refine pz_iconst (v := 2) dL_law_328 rfl ?_
  refine pz_iadd dL_law_329 ?_
  refine pz_sld dL_law_330 (by unfold vp_in; decide) ?_
  refine pz_top (xs 2) (congrArg xs (by decide)) ?_
  refine pz_aload_n dL_law_331 rfl ?_
  refine pz_callW (mi' := mL_setInput) (hh := hhL_setInput) (As := [.ref (adX 0), .int (xs 1), .int (xs 2), .ref ow]) dL_law_332 (tw_in 885 (by decide +kernel) (by decide +kernel)) mw_setInput ⟨by decide, by decide⟩ rfl rfl (Nat.le_of_ble_eq_true rfl) (wo_setInput (p := 22) rt_at (xs 1) (xs 2) (Qs := fun _ => True) (r1_mono hC (fun v τ h => ⟨h, trivial⟩))) ⟨Nat.le_of_ble_eq_true rfl, Nat.le_of_ble_eq_true rfl⟩ (fun v ws1 hv => ?_)
  obtain ⟨τ, hv, -⟩ := hv
  cases hv
  refine pz_kn 141 3628 rfl rfl ?_
  refine pz_ws (ws' := wp G adM LM (cellsE G adX LX τ LX.1 0) [outC G ow (vp_updL f 0 r.toInt64)] σM) (by rw [rt_set]; rfl) ?_
  refine pz_istore dL_law_335 (by decide) ?_
  refine pz_aload_n dL_law_337 rfl ?_
  refine pz_aload_n dL_law_338 rfl ?_
  refine pz_iload dL_law_339 rfl ?_
  refine pz_iconst (v := 1) dL_law_341 rfl ?_
  refine pz_iadd dL_law_342 ?_
  refine pz_sld dL_law_343 (by unfold vp_in; decide) ?_
  refine pz_top (xs 1) (congrArg xs (by decide)) ?_
  refine pz_aload_n dL_law_344 rfl ?_
  refine pz_iload dL_law_345 rfl ?_
  refine pz_iconst (v := 2) dL_law_347 rfl ?_
  refine pz_iadd dL_law_348 ?_
  refine pz_sld dL_law_349 (by unfold vp_in; decide) ?_
  refine pz_top (xs 2) (congrArg xs (by decide)) ?_
  refine pz_rV1 (mi' := mX11_setInput) (As := [.int (xs 1), .int (xs 2)]) (q := (RX11, TX11, 33)) dL_law_350 lk_RL_100 mk_X11_setInput mi_X11_setInput me_X11_setInput ⟨by decide, by decide⟩ rfl rfl (Nat.le_of_ble_eq_true rfl) rfl rfl ⟨Nat.le_of_ble_eq_true rfl, Nat.le_of_ble_eq_true rfl⟩ (hM τ _) (fun v ρ hq => ?_)
  obtain ⟨hq, hth⟩ := hq
  subst hq
  refine pz_kn 141 3628 rfl rfl ?_
  refine pz_istore dL_law_353 (by decide) ?_
  refine pz_aload_n dL_law_355 rfl ?_
  refine pz_rV1 (mi' := mX11_thrown) (As := []) (q := (RX11, TX11, 33)) dL_law_356 lk_RL_82 mk_X11_thrown mi_X11_thrown me_X11_thrown ⟨by decide, by decide⟩ rfl rfl (Nat.le_of_ble_eq_true rfl) rfl rfl ⟨Nat.le_of_ble_eq_true rfl, Nat.le_of_ble_eq_true rfl⟩ (specD_r1 (Q := fun v τ => v = .int 0 ∧ τ = ρ) r_thrown ⟨congrArg Value.int hth, rfl⟩) (fun v ρ2 hq => ?_)
  obtain ⟨hq, hρ⟩ := hq
  subst hq
  subst hρ
  refine pz_kn 141 3628 rfl rfl ?_
  refine pz_iload dL_law_359 rfl ?_
  refine pz_icmp_eq 366 dL_law_361 (by decide) (fun _ => ?_) (fun c_ => absurd rfl c_)
  refine pz_iload dL_law_366 rfl ?_
  refine pz_if_ne 383 dL_law_368 (by decide) (fun c_ => absurd rfl c_) (fun _ => ?_)
  refine pz_aload_n dL_law_371 rfl ?_
  refine pz_iconst (v := 0) dL_law_372 rfl ?_
  refine pz_lald dL_law_373 ((cellsE G adX LX τ LX.1 0).length + (LM.1.length + 0)) (wp_rt rfl) (vp_in_nI (n := 0) (by decide) (by decide)) ?_
  refine pz_iload dL_law_374 rfl ?_
  refine pz_i2l dL_law_376 ?_
  refine pz_lcmp dL_law_377 ?_
  refine pz_if_eq 383 dL_law_378 (by decide) (fun _ => ?_) (fun c_ => absurd (lg_cmp_self _) c_)
  refine pz_goto (tgt := 1493) dL_law_383 (by decide) ?_
  exact pz_lk [(0, .ref b), (4, .int 0)] ⟨rfl, rfl, trivial⟩ (lw_end (Nat.le_of_ble_eq_true rfl) (Nat.le_of_ble_eq_true rfl))
theorem lt1_setInput (hC : SpecT l G mX10_setInput [.ref (adX 0), .int (xs 1), .int (xs 2)] (wp G adX LX [] (rtM G adM σM ow f) σX) "java/lang/IndexOutOfBoundsException" (wp G adX LX [] (rtM G adM σM ow f) σX)) (hM : SpR1 l G mX11_setInput [.ref (adM 0), .int (xs 1), .int (xs 2)] adM LM (cellsE G adX LX σX LX.1 0) [outC G ow f] σM (fun v ρ => (∃ bb, v = .int bb) ∧ ρ.1 0 3 = 1)) : PZ (XL b 4 xs) QL l G mL_law [] sz 318 [(0, .ref b), (1, .ref (adX 0)), (2, .ref (adM 0)), (3, .ref ow), (4, .int 0)] [] 140 3622 (wp G adX LX [] (rtM G adM σM ow f) σX) := by
  refine pz_aload_n dL_law_318 rfl ?_
  refine pz_aload_n dL_law_319 rfl ?_
  refine pz_iload dL_law_320 rfl ?_
  refine pz_iconst (v := 1) dL_law_322 rfl ?_
  refine pz_iadd dL_law_323 ?_
  refine pz_sld dL_law_324 (by unfold vp_in; decide) ?_
  refine pz_top (xs 1) (congrArg xs (by decide)) ?_
  refine pz_aload_n dL_law_325 rfl ?_
  refine pz_iload dL_law_326 rfl ?_
  refine pz_iconst (v := 2) dL_law_328 rfl ?_
  refine pz_iadd dL_law_329 ?_
  refine pz_sld dL_law_330 (by unfold vp_in; decide) ?_
  refine pz_top (xs 2) (congrArg xs (by decide)) ?_
  refine pz_aload_n dL_law_331 rfl ?_
  refine pz_callW (mi' := mL_setInput) (hh := hhL_setInput) (As := [.ref (adX 0), .int (xs 1), .int (xs 2), .ref ow]) dL_law_332 (tw_in 885 (by decide +kernel) (by decide +kernel)) mw_setInput ⟨by decide, by decide⟩ rfl rfl (Nat.le_of_ble_eq_true rfl) (wt1_setInput (xs 1) (xs 2) hC) ⟨Nat.le_of_ble_eq_true rfl, Nat.le_of_ble_eq_true rfl⟩ (fun v ws1 hv => ?_)
  cases hv
  refine pz_kn 141 3628 rfl rfl ?_
  refine pz_ws (ws' := wp G adM LM (cellsE G adX LX σX LX.1 0) [outC G ow f] σM) rfl ?_
  refine pz_istore dL_law_335 (by decide) ?_
  refine pz_aload_n dL_law_337 rfl ?_
  refine pz_aload_n dL_law_338 rfl ?_
  refine pz_iload dL_law_339 rfl ?_
  refine pz_iconst (v := 1) dL_law_341 rfl ?_
  refine pz_iadd dL_law_342 ?_
  refine pz_sld dL_law_343 (by unfold vp_in; decide) ?_
  refine pz_top (xs 1) (congrArg xs (by decide)) ?_
  refine pz_aload_n dL_law_344 rfl ?_
  refine pz_iload dL_law_345 rfl ?_
  refine pz_iconst (v := 2) dL_law_347 rfl ?_
  refine pz_iadd dL_law_348 ?_
  refine pz_sld dL_law_349 (by unfold vp_in; decide) ?_
  refine pz_top (xs 2) (congrArg xs (by decide)) ?_
  refine pz_rV1 (mi' := mX11_setInput) (As := [.int (xs 1), .int (xs 2)]) (q := (RX11, TX11, 33)) dL_law_350 lk_RL_100 mk_X11_setInput mi_X11_setInput me_X11_setInput ⟨by decide, by decide⟩ rfl rfl (Nat.le_of_ble_eq_true rfl) rfl rfl ⟨Nat.le_of_ble_eq_true rfl, Nat.le_of_ble_eq_true rfl⟩ hM (fun v ρ hq => ?_)
  obtain ⟨⟨bb, hq⟩, hth⟩ := hq
  subst hq
  refine pz_kn 141 3628 rfl rfl ?_
  refine pz_istore dL_law_353 (by decide) ?_
  refine pz_aload_n dL_law_355 rfl ?_
  refine pz_rV1 (mi' := mX11_thrown) (As := []) (q := (RX11, TX11, 33)) dL_law_356 lk_RL_82 mk_X11_thrown mi_X11_thrown me_X11_thrown ⟨by decide, by decide⟩ rfl rfl (Nat.le_of_ble_eq_true rfl) rfl rfl ⟨Nat.le_of_ble_eq_true rfl, Nat.le_of_ble_eq_true rfl⟩ (specD_r1 (Q := fun v τ => v = .int 1 ∧ τ = ρ) r_thrown ⟨congrArg Value.int hth, rfl⟩) (fun v ρ2 hq => ?_)
  obtain ⟨hq, hρ⟩ := hq
  subst hq
  subst hρ
  refine pz_kn 141 3628 rfl rfl ?_
  refine pz_iload dL_law_359 rfl ?_
  refine pz_icmp_eq 366 dL_law_361 (by decide) (fun _ => ?_) (fun c_ => absurd rfl c_)
  refine pz_iload dL_law_366 rfl ?_
  refine pz_if_ne 383 dL_law_368 (by decide) (fun _ => ?_) (fun c_ => absurd c_ (by decide))
  refine pz_goto (tgt := 1493) dL_law_383 (by decide) ?_
  exact pz_lk [(0, .ref b), (4, .int 0)] ⟨rfl, rfl, trivial⟩ (lw_end (Nat.le_of_ble_eq_true rfl) (Nat.le_of_ble_eq_true rfl))
theorem lt2_setInput (hC : SpecT l G mX10_setInput [.ref (adX 0), .int (xs 1), .int (xs 2)] (wp G adX LX [] (rtM G adM σM ow f) σX) "java/lang/IllegalArgumentException" (wp G adX LX [] (rtM G adM σM ow f) σX)) (hM : SpR1 l G mX11_setInput [.ref (adM 0), .int (xs 1), .int (xs 2)] adM LM (cellsE G adX LX σX LX.1 0) [outC G ow f] σM (fun v ρ => (∃ bb, v = .int bb) ∧ ρ.1 0 3 = 2)) : PZ (XL b 4 xs) QL l G mL_law [] sz 318 [(0, .ref b), (1, .ref (adX 0)), (2, .ref (adM 0)), (3, .ref ow), (4, .int 0)] [] 140 3622 (wp G adX LX [] (rtM G adM σM ow f) σX) := by
  refine pz_aload_n dL_law_318 rfl ?_
  refine pz_aload_n dL_law_319 rfl ?_
  refine pz_iload dL_law_320 rfl ?_
  refine pz_iconst (v := 1) dL_law_322 rfl ?_
  refine pz_iadd dL_law_323 ?_
  refine pz_sld dL_law_324 (by unfold vp_in; decide) ?_
  refine pz_top (xs 1) (congrArg xs (by decide)) ?_
  refine pz_aload_n dL_law_325 rfl ?_
  refine pz_iload dL_law_326 rfl ?_
  refine pz_iconst (v := 2) dL_law_328 rfl ?_
  refine pz_iadd dL_law_329 ?_
  refine pz_sld dL_law_330 (by unfold vp_in; decide) ?_
  refine pz_top (xs 2) (congrArg xs (by decide)) ?_
  refine pz_aload_n dL_law_331 rfl ?_
  refine pz_callW (mi' := mL_setInput) (hh := hhL_setInput) (As := [.ref (adX 0), .int (xs 1), .int (xs 2), .ref ow]) dL_law_332 (tw_in 885 (by decide +kernel) (by decide +kernel)) mw_setInput ⟨by decide, by decide⟩ rfl rfl (Nat.le_of_ble_eq_true rfl) (wt2_setInput (xs 1) (xs 2) hC) ⟨Nat.le_of_ble_eq_true rfl, Nat.le_of_ble_eq_true rfl⟩ (fun v ws1 hv => ?_)
  cases hv
  refine pz_kn 141 3628 rfl rfl ?_
  refine pz_ws (ws' := wp G adM LM (cellsE G adX LX σX LX.1 0) [outC G ow f] σM) rfl ?_
  refine pz_istore dL_law_335 (by decide) ?_
  refine pz_aload_n dL_law_337 rfl ?_
  refine pz_aload_n dL_law_338 rfl ?_
  refine pz_iload dL_law_339 rfl ?_
  refine pz_iconst (v := 1) dL_law_341 rfl ?_
  refine pz_iadd dL_law_342 ?_
  refine pz_sld dL_law_343 (by unfold vp_in; decide) ?_
  refine pz_top (xs 1) (congrArg xs (by decide)) ?_
  refine pz_aload_n dL_law_344 rfl ?_
  refine pz_iload dL_law_345 rfl ?_
  refine pz_iconst (v := 2) dL_law_347 rfl ?_
  refine pz_iadd dL_law_348 ?_
  refine pz_sld dL_law_349 (by unfold vp_in; decide) ?_
  refine pz_top (xs 2) (congrArg xs (by decide)) ?_
  refine pz_rV1 (mi' := mX11_setInput) (As := [.int (xs 1), .int (xs 2)]) (q := (RX11, TX11, 33)) dL_law_350 lk_RL_100 mk_X11_setInput mi_X11_setInput me_X11_setInput ⟨by decide, by decide⟩ rfl rfl (Nat.le_of_ble_eq_true rfl) rfl rfl ⟨Nat.le_of_ble_eq_true rfl, Nat.le_of_ble_eq_true rfl⟩ hM (fun v ρ hq => ?_)
  obtain ⟨⟨bb, hq⟩, hth⟩ := hq
  subst hq
  refine pz_kn 141 3628 rfl rfl ?_
  refine pz_istore dL_law_353 (by decide) ?_
  refine pz_aload_n dL_law_355 rfl ?_
  refine pz_rV1 (mi' := mX11_thrown) (As := []) (q := (RX11, TX11, 33)) dL_law_356 lk_RL_82 mk_X11_thrown mi_X11_thrown me_X11_thrown ⟨by decide, by decide⟩ rfl rfl (Nat.le_of_ble_eq_true rfl) rfl rfl ⟨Nat.le_of_ble_eq_true rfl, Nat.le_of_ble_eq_true rfl⟩ (specD_r1 (Q := fun v τ => v = .int 2 ∧ τ = ρ) r_thrown ⟨congrArg Value.int hth, rfl⟩) (fun v ρ2 hq => ?_)
  obtain ⟨hq, hρ⟩ := hq
  subst hq
  subst hρ
  refine pz_kn 141 3628 rfl rfl ?_
  refine pz_iload dL_law_359 rfl ?_
  refine pz_icmp_eq 366 dL_law_361 (by decide) (fun _ => ?_) (fun c_ => absurd rfl c_)
  refine pz_iload dL_law_366 rfl ?_
  refine pz_if_ne 383 dL_law_368 (by decide) (fun _ => ?_) (fun c_ => absurd c_ (by decide))
  refine pz_goto (tgt := 1493) dL_law_383 (by decide) ?_
  exact pz_lk [(0, .ref b), (4, .int 0)] ⟨rfl, rfl, trivial⟩ (lw_end (Nat.le_of_ble_eq_true rfl) (Nat.le_of_ble_eq_true rfl))
theorem lo_input {r : Int32} (hC : SpR1 l G mX10_input [.ref (adX 0), .int (xs 1), .int (xs 2)] adX LX [] (rtM G adM σM ow f) σX (fun v _ => v = .int r)) (hM : ∀ τ g, SpR1 l G mX11_input [.ref (adM 0), .int (xs 1), .int (xs 2)] adM LM (cellsE G adX LX τ LX.1 0) [outC G ow g] σM (fun v ρ => v = .int r ∧ ρ.1 0 3 = 0)) : PZ (XL b 4 xs) QL l G mL_law [] sz 386 [(0, .ref b), (1, .ref (adX 0)), (2, .ref (adM 0)), (3, .ref ow), (4, .int 0)] [] 140 3622 (wp G adX LX [] (rtM G adM σM ow f) σX) := by
  refine pz_aload_n dL_law_386 rfl ?_
  refine pz_aload_n dL_law_387 rfl ?_
  refine pz_iload dL_law_388 rfl ?_
  refine pz_iconst (v := 1) dL_law_390 rfl ?_
  refine pz_iadd dL_law_391 ?_
  refine pz_sld dL_law_392 (by unfold vp_in; decide) ?_
  refine pz_top (xs 1) (congrArg xs (by decide)) ?_
  refine pz_aload_n dL_law_393 rfl ?_
  refine pz_iload dL_law_394 rfl ?_
  refine pz_iconst (v := 2) dL_law_396 rfl ?_
  refine pz_iadd dL_law_397 ?_
  refine pz_sld dL_law_398 (by unfold vp_in; decide) ?_
  refine pz_top (xs 2) (congrArg xs (by decide)) ?_
  refine pz_aload_n dL_law_399 rfl ?_
  refine pz_callW (mi' := mL_input) (hh := hhL_input) (As := [.ref (adX 0), .int (xs 1), .int (xs 2), .ref ow]) dL_law_400 (tw_in 893 (by decide +kernel) (by decide +kernel)) mw_input ⟨by decide, by decide⟩ rfl rfl (Nat.le_of_ble_eq_true rfl) (wo_input (p := 22) rt_at (xs 1) (xs 2) (Qs := fun _ => True) (r1_mono hC (fun v τ h => ⟨h, trivial⟩))) ⟨Nat.le_of_ble_eq_true rfl, Nat.le_of_ble_eq_true rfl⟩ (fun v ws1 hv => ?_)
  obtain ⟨τ, hv, -⟩ := hv
  cases hv
  refine pz_kn 141 3628 rfl rfl ?_
  refine pz_ws (ws' := wp G adM LM (cellsE G adX LX τ LX.1 0) [outC G ow (vp_updL f 0 r.toInt64)] σM) (by rw [rt_set]; rfl) ?_
  refine pz_istore dL_law_403 (by decide) ?_
  refine pz_aload_n dL_law_405 rfl ?_
  refine pz_aload_n dL_law_406 rfl ?_
  refine pz_iload dL_law_407 rfl ?_
  refine pz_iconst (v := 1) dL_law_409 rfl ?_
  refine pz_iadd dL_law_410 ?_
  refine pz_sld dL_law_411 (by unfold vp_in; decide) ?_
  refine pz_top (xs 1) (congrArg xs (by decide)) ?_
  refine pz_aload_n dL_law_412 rfl ?_
  refine pz_iload dL_law_413 rfl ?_
  refine pz_iconst (v := 2) dL_law_415 rfl ?_
  refine pz_iadd dL_law_416 ?_
  refine pz_sld dL_law_417 (by unfold vp_in; decide) ?_
  refine pz_top (xs 2) (congrArg xs (by decide)) ?_
  refine pz_rV1 (mi' := mX11_input) (As := [.int (xs 1), .int (xs 2)]) (q := (RX11, TX11, 33)) dL_law_418 lk_RL_103 mk_X11_input mi_X11_input me_X11_input ⟨by decide, by decide⟩ rfl rfl (Nat.le_of_ble_eq_true rfl) rfl rfl ⟨Nat.le_of_ble_eq_true rfl, Nat.le_of_ble_eq_true rfl⟩ (hM τ _) (fun v ρ hq => ?_)
  obtain ⟨hq, hth⟩ := hq
  subst hq
  refine pz_kn 141 3628 rfl rfl ?_
  refine pz_istore dL_law_421 (by decide) ?_
  refine pz_aload_n dL_law_423 rfl ?_
  refine pz_rV1 (mi' := mX11_thrown) (As := []) (q := (RX11, TX11, 33)) dL_law_424 lk_RL_82 mk_X11_thrown mi_X11_thrown me_X11_thrown ⟨by decide, by decide⟩ rfl rfl (Nat.le_of_ble_eq_true rfl) rfl rfl ⟨Nat.le_of_ble_eq_true rfl, Nat.le_of_ble_eq_true rfl⟩ (specD_r1 (Q := fun v τ => v = .int 0 ∧ τ = ρ) r_thrown ⟨congrArg Value.int hth, rfl⟩) (fun v ρ2 hq => ?_)
  obtain ⟨hq, hρ⟩ := hq
  subst hq
  subst hρ
  refine pz_kn 141 3628 rfl rfl ?_
  refine pz_iload dL_law_427 rfl ?_
  refine pz_icmp_eq 434 dL_law_429 (by decide) (fun _ => ?_) (fun c_ => absurd rfl c_)
  refine pz_iload dL_law_434 rfl ?_
  refine pz_if_ne 451 dL_law_436 (by decide) (fun c_ => absurd rfl c_) (fun _ => ?_)
  refine pz_aload_n dL_law_439 rfl ?_
  refine pz_iconst (v := 0) dL_law_440 rfl ?_
  refine pz_lald dL_law_441 ((cellsE G adX LX τ LX.1 0).length + (LM.1.length + 0)) (wp_rt rfl) (vp_in_nI (n := 0) (by decide) (by decide)) ?_
  refine pz_iload dL_law_442 rfl ?_
  refine pz_i2l dL_law_444 ?_
  refine pz_lcmp dL_law_445 ?_
  refine pz_if_eq 451 dL_law_446 (by decide) (fun _ => ?_) (fun c_ => absurd (lg_cmp_self _) c_)
  refine pz_goto (tgt := 1493) dL_law_451 (by decide) ?_
  exact pz_lk [(0, .ref b), (4, .int 0)] ⟨rfl, rfl, trivial⟩ (lw_end (Nat.le_of_ble_eq_true rfl) (Nat.le_of_ble_eq_true rfl))
theorem lt1_input (hC : SpecT l G mX10_input [.ref (adX 0), .int (xs 1), .int (xs 2)] (wp G adX LX [] (rtM G adM σM ow f) σX) "java/lang/IndexOutOfBoundsException" (wp G adX LX [] (rtM G adM σM ow f) σX)) (hM : SpR1 l G mX11_input [.ref (adM 0), .int (xs 1), .int (xs 2)] adM LM (cellsE G adX LX σX LX.1 0) [outC G ow f] σM (fun v ρ => (∃ bb, v = .int bb) ∧ ρ.1 0 3 = 1)) : PZ (XL b 4 xs) QL l G mL_law [] sz 386 [(0, .ref b), (1, .ref (adX 0)), (2, .ref (adM 0)), (3, .ref ow), (4, .int 0)] [] 140 3622 (wp G adX LX [] (rtM G adM σM ow f) σX) := by
  refine pz_aload_n dL_law_386 rfl ?_
  refine pz_aload_n dL_law_387 rfl ?_
  refine pz_iload dL_law_388 rfl ?_
  refine pz_iconst (v := 1) dL_law_390 rfl ?_
  refine pz_iadd dL_law_391 ?_
  refine pz_sld dL_law_392 (by unfold vp_in; decide) ?_
  refine pz_top (xs 1) (congrArg xs (by decide)) ?_
  refine pz_aload_n dL_law_393 rfl ?_
  refine pz_iload dL_law_394 rfl ?_
  refine pz_iconst (v := 2) dL_law_396 rfl ?_
  refine pz_iadd dL_law_397 ?_
  refine pz_sld dL_law_398 (by unfold vp_in; decide) ?_
  refine pz_top (xs 2) (congrArg xs (by decide)) ?_
  refine pz_aload_n dL_law_399 rfl ?_
  refine pz_callW (mi' := mL_input) (hh := hhL_input) (As := [.ref (adX 0), .int (xs 1), .int (xs 2), .ref ow]) dL_law_400 (tw_in 893 (by decide +kernel) (by decide +kernel)) mw_input ⟨by decide, by decide⟩ rfl rfl (Nat.le_of_ble_eq_true rfl) (wt1_input (xs 1) (xs 2) hC) ⟨Nat.le_of_ble_eq_true rfl, Nat.le_of_ble_eq_true rfl⟩ (fun v ws1 hv => ?_)
  cases hv
  refine pz_kn 141 3628 rfl rfl ?_
  refine pz_ws (ws' := wp G adM LM (cellsE G adX LX σX LX.1 0) [outC G ow f] σM) rfl ?_
  refine pz_istore dL_law_403 (by decide) ?_
  refine pz_aload_n dL_law_405 rfl ?_
  refine pz_aload_n dL_law_406 rfl ?_
  refine pz_iload dL_law_407 rfl ?_
  refine pz_iconst (v := 1) dL_law_409 rfl ?_
  refine pz_iadd dL_law_410 ?_
  refine pz_sld dL_law_411 (by unfold vp_in; decide) ?_
  refine pz_top (xs 1) (congrArg xs (by decide)) ?_
  refine pz_aload_n dL_law_412 rfl ?_
  refine pz_iload dL_law_413 rfl ?_
  refine pz_iconst (v := 2) dL_law_415 rfl ?_
  refine pz_iadd dL_law_416 ?_
  refine pz_sld dL_law_417 (by unfold vp_in; decide) ?_
  refine pz_top (xs 2) (congrArg xs (by decide)) ?_
  refine pz_rV1 (mi' := mX11_input) (As := [.int (xs 1), .int (xs 2)]) (q := (RX11, TX11, 33)) dL_law_418 lk_RL_103 mk_X11_input mi_X11_input me_X11_input ⟨by decide, by decide⟩ rfl rfl (Nat.le_of_ble_eq_true rfl) rfl rfl ⟨Nat.le_of_ble_eq_true rfl, Nat.le_of_ble_eq_true rfl⟩ hM (fun v ρ hq => ?_)
  obtain ⟨⟨bb, hq⟩, hth⟩ := hq
  subst hq
  refine pz_kn 141 3628 rfl rfl ?_
  refine pz_istore dL_law_421 (by decide) ?_
  refine pz_aload_n dL_law_423 rfl ?_
  refine pz_rV1 (mi' := mX11_thrown) (As := []) (q := (RX11, TX11, 33)) dL_law_424 lk_RL_82 mk_X11_thrown mi_X11_thrown me_X11_thrown ⟨by decide, by decide⟩ rfl rfl (Nat.le_of_ble_eq_true rfl) rfl rfl ⟨Nat.le_of_ble_eq_true rfl, Nat.le_of_ble_eq_true rfl⟩ (specD_r1 (Q := fun v τ => v = .int 1 ∧ τ = ρ) r_thrown ⟨congrArg Value.int hth, rfl⟩) (fun v ρ2 hq => ?_)
  obtain ⟨hq, hρ⟩ := hq
  subst hq
  subst hρ
  refine pz_kn 141 3628 rfl rfl ?_
  refine pz_iload dL_law_427 rfl ?_
  refine pz_icmp_eq 434 dL_law_429 (by decide) (fun _ => ?_) (fun c_ => absurd rfl c_)
  refine pz_iload dL_law_434 rfl ?_
  refine pz_if_ne 451 dL_law_436 (by decide) (fun _ => ?_) (fun c_ => absurd c_ (by decide))
  refine pz_goto (tgt := 1493) dL_law_451 (by decide) ?_
  exact pz_lk [(0, .ref b), (4, .int 0)] ⟨rfl, rfl, trivial⟩ (lw_end (Nat.le_of_ble_eq_true rfl) (Nat.le_of_ble_eq_true rfl))
theorem lt2_input (hC : SpecT l G mX10_input [.ref (adX 0), .int (xs 1), .int (xs 2)] (wp G adX LX [] (rtM G adM σM ow f) σX) "java/lang/IllegalArgumentException" (wp G adX LX [] (rtM G adM σM ow f) σX)) (hM : SpR1 l G mX11_input [.ref (adM 0), .int (xs 1), .int (xs 2)] adM LM (cellsE G adX LX σX LX.1 0) [outC G ow f] σM (fun v ρ => (∃ bb, v = .int bb) ∧ ρ.1 0 3 = 2)) : PZ (XL b 4 xs) QL l G mL_law [] sz 386 [(0, .ref b), (1, .ref (adX 0)), (2, .ref (adM 0)), (3, .ref ow), (4, .int 0)] [] 140 3622 (wp G adX LX [] (rtM G adM σM ow f) σX) := by
  refine pz_aload_n dL_law_386 rfl ?_
  refine pz_aload_n dL_law_387 rfl ?_
  refine pz_iload dL_law_388 rfl ?_
  refine pz_iconst (v := 1) dL_law_390 rfl ?_
  refine pz_iadd dL_law_391 ?_
  refine pz_sld dL_law_392 (by unfold vp_in; decide) ?_
  refine pz_top (xs 1) (congrArg xs (by decide)) ?_
  refine pz_aload_n dL_law_393 rfl ?_
  refine pz_iload dL_law_394 rfl ?_
  refine pz_iconst (v := 2) dL_law_396 rfl ?_
  refine pz_iadd dL_law_397 ?_
  refine pz_sld dL_law_398 (by unfold vp_in; decide) ?_
  refine pz_top (xs 2) (congrArg xs (by decide)) ?_
  refine pz_aload_n dL_law_399 rfl ?_
  refine pz_callW (mi' := mL_input) (hh := hhL_input) (As := [.ref (adX 0), .int (xs 1), .int (xs 2), .ref ow]) dL_law_400 (tw_in 893 (by decide +kernel) (by decide +kernel)) mw_input ⟨by decide, by decide⟩ rfl rfl (Nat.le_of_ble_eq_true rfl) (wt2_input (xs 1) (xs 2) hC) ⟨Nat.le_of_ble_eq_true rfl, Nat.le_of_ble_eq_true rfl⟩ (fun v ws1 hv => ?_)
  cases hv
  refine pz_kn 141 3628 rfl rfl ?_
  refine pz_ws (ws' := wp G adM LM (cellsE G adX LX σX LX.1 0) [outC G ow f] σM) rfl ?_
  refine pz_istore dL_law_403 (by decide) ?_
  refine pz_aload_n dL_law_405 rfl ?_
  refine pz_aload_n dL_law_406 rfl ?_
  refine pz_iload dL_law_407 rfl ?_
  refine pz_iconst (v := 1) dL_law_409 rfl ?_
  refine pz_iadd dL_law_410 ?_
  refine pz_sld dL_law_411 (by unfold vp_in; decide) ?_
  refine pz_top (xs 1) (congrArg xs (by decide)) ?_
  refine pz_aload_n dL_law_412 rfl ?_
  refine pz_iload dL_law_413 rfl ?_
  refine pz_iconst (v := 2) dL_law_415 rfl ?_
  refine pz_iadd dL_law_416 ?_
  refine pz_sld dL_law_417 (by unfold vp_in; decide) ?_
  refine pz_top (xs 2) (congrArg xs (by decide)) ?_
  refine pz_rV1 (mi' := mX11_input) (As := [.int (xs 1), .int (xs 2)]) (q := (RX11, TX11, 33)) dL_law_418 lk_RL_103 mk_X11_input mi_X11_input me_X11_input ⟨by decide, by decide⟩ rfl rfl (Nat.le_of_ble_eq_true rfl) rfl rfl ⟨Nat.le_of_ble_eq_true rfl, Nat.le_of_ble_eq_true rfl⟩ hM (fun v ρ hq => ?_)
  obtain ⟨⟨bb, hq⟩, hth⟩ := hq
  subst hq
  refine pz_kn 141 3628 rfl rfl ?_
  refine pz_istore dL_law_421 (by decide) ?_
  refine pz_aload_n dL_law_423 rfl ?_
  refine pz_rV1 (mi' := mX11_thrown) (As := []) (q := (RX11, TX11, 33)) dL_law_424 lk_RL_82 mk_X11_thrown mi_X11_thrown me_X11_thrown ⟨by decide, by decide⟩ rfl rfl (Nat.le_of_ble_eq_true rfl) rfl rfl ⟨Nat.le_of_ble_eq_true rfl, Nat.le_of_ble_eq_true rfl⟩ (specD_r1 (Q := fun v τ => v = .int 2 ∧ τ = ρ) r_thrown ⟨congrArg Value.int hth, rfl⟩) (fun v ρ2 hq => ?_)
  obtain ⟨hq, hρ⟩ := hq
  subst hq
  subst hρ
  refine pz_kn 141 3628 rfl rfl ?_
  refine pz_iload dL_law_427 rfl ?_
  refine pz_icmp_eq 434 dL_law_429 (by decide) (fun _ => ?_) (fun c_ => absurd rfl c_)
  refine pz_iload dL_law_434 rfl ?_
  refine pz_if_ne 451 dL_law_436 (by decide) (fun _ => ?_) (fun c_ => absurd c_ (by decide))
  refine pz_goto (tgt := 1493) dL_law_451 (by decide) ?_
  exact pz_lk [(0, .ref b), (4, .int 0)] ⟨rfl, rfl, trivial⟩ (lw_end (Nat.le_of_ble_eq_true rfl) (Nat.le_of_ble_eq_true rfl))
theorem lo_remove {r : Int32} (hC : SpR1 l G mX10_remove [.ref (adX 0), .int (xs 1)] adX LX [] (rtM G adM σM ow f) σX (fun v _ => v = .int r)) (hM : ∀ τ g, SpR1 l G mX11_remove [.ref (adM 0), .int (xs 1)] adM LM (cellsE G adX LX τ LX.1 0) [outC G ow g] σM (fun v ρ => v = .int r ∧ ρ.1 0 3 = 0)) : PZ (XL b 4 xs) QL l G mL_law [] sz 454 [(0, .ref b), (1, .ref (adX 0)), (2, .ref (adM 0)), (3, .ref ow), (4, .int 0)] [] 140 3622 (wp G adX LX [] (rtM G adM σM ow f) σX) := by
  refine pz_aload_n dL_law_454 rfl ?_
  refine pz_aload_n dL_law_455 rfl ?_
  refine pz_iload dL_law_456 rfl ?_
  refine pz_iconst (v := 1) dL_law_458 rfl ?_
  refine pz_iadd dL_law_459 ?_
  refine pz_sld dL_law_460 (by unfold vp_in; decide) ?_
  refine pz_top (xs 1) (congrArg xs (by decide)) ?_
  refine pz_aload_n dL_law_461 rfl ?_
  refine pz_callW (mi' := mL_remove) (hh := hhL_remove) (As := [.ref (adX 0), .int (xs 1), .ref ow]) dL_law_462 (tw_in 901 (by decide +kernel) (by decide +kernel)) mw_remove ⟨by decide, by decide⟩ rfl rfl (Nat.le_of_ble_eq_true rfl) (wo_remove (p := 22) rt_at (xs 1) (Qs := fun _ => True) (r1_mono hC (fun v τ h => ⟨h, trivial⟩))) ⟨Nat.le_of_ble_eq_true rfl, Nat.le_of_ble_eq_true rfl⟩ (fun v ws1 hv => ?_)
  obtain ⟨τ, hv, -⟩ := hv
  cases hv
  refine pz_kn 142 3634 rfl rfl ?_
  refine pz_ws (ws' := wp G adM LM (cellsE G adX LX τ LX.1 0) [outC G ow (vp_updL f 0 r.toInt64)] σM) (by rw [rt_set]; rfl) ?_
  refine pz_istore dL_law_465 (by decide) ?_
  refine pz_aload_n dL_law_467 rfl ?_
  refine pz_aload_n dL_law_468 rfl ?_
  refine pz_iload dL_law_469 rfl ?_
  refine pz_iconst (v := 1) dL_law_471 rfl ?_
  refine pz_iadd dL_law_472 ?_
  refine pz_sld dL_law_473 (by unfold vp_in; decide) ?_
  refine pz_top (xs 1) (congrArg xs (by decide)) ?_
  refine pz_rV1 (mi' := mX11_remove) (As := [.int (xs 1)]) (q := (RX11, TX11, 33)) dL_law_474 lk_RL_106 mk_X11_remove mi_X11_remove me_X11_remove ⟨by decide, by decide⟩ rfl rfl (Nat.le_of_ble_eq_true rfl) rfl rfl ⟨Nat.le_of_ble_eq_true rfl, Nat.le_of_ble_eq_true rfl⟩ (hM τ _) (fun v ρ hq => ?_)
  obtain ⟨hq, hth⟩ := hq
  subst hq
  refine pz_kn 142 3634 rfl rfl ?_
  refine pz_istore dL_law_477 (by decide) ?_
  refine pz_aload_n dL_law_479 rfl ?_
  refine pz_rV1 (mi' := mX11_thrown) (As := []) (q := (RX11, TX11, 33)) dL_law_480 lk_RL_82 mk_X11_thrown mi_X11_thrown me_X11_thrown ⟨by decide, by decide⟩ rfl rfl (Nat.le_of_ble_eq_true rfl) rfl rfl ⟨Nat.le_of_ble_eq_true rfl, Nat.le_of_ble_eq_true rfl⟩ (specD_r1 (Q := fun v τ => v = .int 0 ∧ τ = ρ) r_thrown ⟨congrArg Value.int hth, rfl⟩) (fun v ρ2 hq => ?_)
  obtain ⟨hq, hρ⟩ := hq
  subst hq
  subst hρ
  refine pz_kn 142 3634 rfl rfl ?_
  refine pz_iload dL_law_483 rfl ?_
  refine pz_icmp_eq 490 dL_law_485 (by decide) (fun _ => ?_) (fun c_ => absurd rfl c_)
  refine pz_iload dL_law_490 rfl ?_
  refine pz_if_ne 507 dL_law_492 (by decide) (fun c_ => absurd rfl c_) (fun _ => ?_)
  refine pz_aload_n dL_law_495 rfl ?_
  refine pz_iconst (v := 0) dL_law_496 rfl ?_
  refine pz_lald dL_law_497 ((cellsE G adX LX τ LX.1 0).length + (LM.1.length + 0)) (wp_rt rfl) (vp_in_nI (n := 0) (by decide) (by decide)) ?_
  refine pz_iload dL_law_498 rfl ?_
  refine pz_i2l dL_law_500 ?_
  refine pz_lcmp dL_law_501 ?_
  refine pz_if_eq 507 dL_law_502 (by decide) (fun _ => ?_) (fun c_ => absurd (lg_cmp_self _) c_)
  refine pz_goto (tgt := 1493) dL_law_507 (by decide) ?_
  exact pz_lk [(0, .ref b), (4, .int 0)] ⟨rfl, rfl, trivial⟩ (lw_end (Nat.le_of_ble_eq_true rfl) (Nat.le_of_ble_eq_true rfl))
theorem lt1_remove (hC : SpecT l G mX10_remove [.ref (adX 0), .int (xs 1)] (wp G adX LX [] (rtM G adM σM ow f) σX) "java/lang/IndexOutOfBoundsException" (wp G adX LX [] (rtM G adM σM ow f) σX)) (hM : SpR1 l G mX11_remove [.ref (adM 0), .int (xs 1)] adM LM (cellsE G adX LX σX LX.1 0) [outC G ow f] σM (fun v ρ => (∃ bb, v = .int bb) ∧ ρ.1 0 3 = 1)) : PZ (XL b 4 xs) QL l G mL_law [] sz 454 [(0, .ref b), (1, .ref (adX 0)), (2, .ref (adM 0)), (3, .ref ow), (4, .int 0)] [] 140 3622 (wp G adX LX [] (rtM G adM σM ow f) σX) := by
  refine pz_aload_n dL_law_454 rfl ?_
  refine pz_aload_n dL_law_455 rfl ?_
  refine pz_iload dL_law_456 rfl ?_
  refine pz_iconst (v := 1) dL_law_458 rfl ?_
  refine pz_iadd dL_law_459 ?_
  refine pz_sld dL_law_460 (by unfold vp_in; decide) ?_
  refine pz_top (xs 1) (congrArg xs (by decide)) ?_
  refine pz_aload_n dL_law_461 rfl ?_
  refine pz_callW (mi' := mL_remove) (hh := hhL_remove) (As := [.ref (adX 0), .int (xs 1), .ref ow]) dL_law_462 (tw_in 901 (by decide +kernel) (by decide +kernel)) mw_remove ⟨by decide, by decide⟩ rfl rfl (Nat.le_of_ble_eq_true rfl) (wt1_remove (xs 1) hC) ⟨Nat.le_of_ble_eq_true rfl, Nat.le_of_ble_eq_true rfl⟩ (fun v ws1 hv => ?_)
  cases hv
  refine pz_kn 142 3634 rfl rfl ?_
  refine pz_ws (ws' := wp G adM LM (cellsE G adX LX σX LX.1 0) [outC G ow f] σM) rfl ?_
  refine pz_istore dL_law_465 (by decide) ?_
  refine pz_aload_n dL_law_467 rfl ?_
  refine pz_aload_n dL_law_468 rfl ?_
  refine pz_iload dL_law_469 rfl ?_
  refine pz_iconst (v := 1) dL_law_471 rfl ?_
  refine pz_iadd dL_law_472 ?_
  refine pz_sld dL_law_473 (by unfold vp_in; decide) ?_
  refine pz_top (xs 1) (congrArg xs (by decide)) ?_
  refine pz_rV1 (mi' := mX11_remove) (As := [.int (xs 1)]) (q := (RX11, TX11, 33)) dL_law_474 lk_RL_106 mk_X11_remove mi_X11_remove me_X11_remove ⟨by decide, by decide⟩ rfl rfl (Nat.le_of_ble_eq_true rfl) rfl rfl ⟨Nat.le_of_ble_eq_true rfl, Nat.le_of_ble_eq_true rfl⟩ hM (fun v ρ hq => ?_)
  obtain ⟨⟨bb, hq⟩, hth⟩ := hq
  subst hq
  refine pz_kn 142 3634 rfl rfl ?_
  refine pz_istore dL_law_477 (by decide) ?_
  refine pz_aload_n dL_law_479 rfl ?_
  refine pz_rV1 (mi' := mX11_thrown) (As := []) (q := (RX11, TX11, 33)) dL_law_480 lk_RL_82 mk_X11_thrown mi_X11_thrown me_X11_thrown ⟨by decide, by decide⟩ rfl rfl (Nat.le_of_ble_eq_true rfl) rfl rfl ⟨Nat.le_of_ble_eq_true rfl, Nat.le_of_ble_eq_true rfl⟩ (specD_r1 (Q := fun v τ => v = .int 1 ∧ τ = ρ) r_thrown ⟨congrArg Value.int hth, rfl⟩) (fun v ρ2 hq => ?_)
  obtain ⟨hq, hρ⟩ := hq
  subst hq
  subst hρ
  refine pz_kn 142 3634 rfl rfl ?_
  refine pz_iload dL_law_483 rfl ?_
  refine pz_icmp_eq 490 dL_law_485 (by decide) (fun _ => ?_) (fun c_ => absurd rfl c_)
  refine pz_iload dL_law_490 rfl ?_
  refine pz_if_ne 507 dL_law_492 (by decide) (fun _ => ?_) (fun c_ => absurd c_ (by decide))
  refine pz_goto (tgt := 1493) dL_law_507 (by decide) ?_
  exact pz_lk [(0, .ref b), (4, .int 0)] ⟨rfl, rfl, trivial⟩ (lw_end (Nat.le_of_ble_eq_true rfl) (Nat.le_of_ble_eq_true rfl))
theorem lt2_remove (hC : SpecT l G mX10_remove [.ref (adX 0), .int (xs 1)] (wp G adX LX [] (rtM G adM σM ow f) σX) "java/lang/IllegalStateException" (wp G adX LX [] (rtM G adM σM ow f) σX)) (hM : SpR1 l G mX11_remove [.ref (adM 0), .int (xs 1)] adM LM (cellsE G adX LX σX LX.1 0) [outC G ow f] σM (fun v ρ => (∃ bb, v = .int bb) ∧ ρ.1 0 3 = 2)) : PZ (XL b 4 xs) QL l G mL_law [] sz 454 [(0, .ref b), (1, .ref (adX 0)), (2, .ref (adM 0)), (3, .ref ow), (4, .int 0)] [] 140 3622 (wp G adX LX [] (rtM G adM σM ow f) σX) := by
  refine pz_aload_n dL_law_454 rfl ?_
  refine pz_aload_n dL_law_455 rfl ?_
  refine pz_iload dL_law_456 rfl ?_
  refine pz_iconst (v := 1) dL_law_458 rfl ?_
  refine pz_iadd dL_law_459 ?_
  refine pz_sld dL_law_460 (by unfold vp_in; decide) ?_
  refine pz_top (xs 1) (congrArg xs (by decide)) ?_
  refine pz_aload_n dL_law_461 rfl ?_
  refine pz_callW (mi' := mL_remove) (hh := hhL_remove) (As := [.ref (adX 0), .int (xs 1), .ref ow]) dL_law_462 (tw_in 901 (by decide +kernel) (by decide +kernel)) mw_remove ⟨by decide, by decide⟩ rfl rfl (Nat.le_of_ble_eq_true rfl) (wt2_remove (xs 1) hC) ⟨Nat.le_of_ble_eq_true rfl, Nat.le_of_ble_eq_true rfl⟩ (fun v ws1 hv => ?_)
  cases hv
  refine pz_kn 142 3634 rfl rfl ?_
  refine pz_ws (ws' := wp G adM LM (cellsE G adX LX σX LX.1 0) [outC G ow f] σM) rfl ?_
  refine pz_istore dL_law_465 (by decide) ?_
  refine pz_aload_n dL_law_467 rfl ?_
  refine pz_aload_n dL_law_468 rfl ?_
  refine pz_iload dL_law_469 rfl ?_
  refine pz_iconst (v := 1) dL_law_471 rfl ?_
  refine pz_iadd dL_law_472 ?_
  refine pz_sld dL_law_473 (by unfold vp_in; decide) ?_
  refine pz_top (xs 1) (congrArg xs (by decide)) ?_
  refine pz_rV1 (mi' := mX11_remove) (As := [.int (xs 1)]) (q := (RX11, TX11, 33)) dL_law_474 lk_RL_106 mk_X11_remove mi_X11_remove me_X11_remove ⟨by decide, by decide⟩ rfl rfl (Nat.le_of_ble_eq_true rfl) rfl rfl ⟨Nat.le_of_ble_eq_true rfl, Nat.le_of_ble_eq_true rfl⟩ hM (fun v ρ hq => ?_)
  obtain ⟨⟨bb, hq⟩, hth⟩ := hq
  subst hq
  refine pz_kn 142 3634 rfl rfl ?_
  refine pz_istore dL_law_477 (by decide) ?_
  refine pz_aload_n dL_law_479 rfl ?_
  refine pz_rV1 (mi' := mX11_thrown) (As := []) (q := (RX11, TX11, 33)) dL_law_480 lk_RL_82 mk_X11_thrown mi_X11_thrown me_X11_thrown ⟨by decide, by decide⟩ rfl rfl (Nat.le_of_ble_eq_true rfl) rfl rfl ⟨Nat.le_of_ble_eq_true rfl, Nat.le_of_ble_eq_true rfl⟩ (specD_r1 (Q := fun v τ => v = .int 2 ∧ τ = ρ) r_thrown ⟨congrArg Value.int hth, rfl⟩) (fun v ρ2 hq => ?_)
  obtain ⟨hq, hρ⟩ := hq
  subst hq
  subst hρ
  refine pz_kn 142 3634 rfl rfl ?_
  refine pz_iload dL_law_483 rfl ?_
  refine pz_icmp_eq 490 dL_law_485 (by decide) (fun _ => ?_) (fun c_ => absurd rfl c_)
  refine pz_iload dL_law_490 rfl ?_
  refine pz_if_ne 507 dL_law_492 (by decide) (fun _ => ?_) (fun c_ => absurd c_ (by decide))
  refine pz_goto (tgt := 1493) dL_law_507 (by decide) ?_
  exact pz_lk [(0, .ref b), (4, .int 0)] ⟨rfl, rfl, trivial⟩ (lw_end (Nat.le_of_ble_eq_true rfl) (Nat.le_of_ble_eq_true rfl))
theorem ld_instructions {r : Int32} (hC : SpR1 l G mX10_instructions [.ref (adX 0)] adX LX [] (rtM G adM σM ow f) σX (fun v _ => v = .int r)) (hM : ∀ τ, SpR1 l G mX11_instructions [.ref (adM 0)] adM LM (cellsE G adX LX τ LX.1 0) [outC G ow f] σM (fun v _ => v = .int r)) : PZ (XL b 4 xs) QL l G mL_law [] sz 510 [(0, .ref b), (1, .ref (adX 0)), (2, .ref (adM 0)), (3, .ref ow), (4, .int 0)] [] 140 3622 (wp G adX LX [] (rtM G adM σM ow f) σX) := by
  refine pz_aload_n dL_law_510 rfl ?_
  refine pz_rV1 (mi' := mX10_instructions) (As := []) (q := (RX10, TX10, 14)) dL_law_511 lk_RL_107 mk_X10_instructions mi_X10_instructions me_X10_instructions ⟨by decide, by decide⟩ rfl rfl (Nat.le_of_ble_eq_true rfl) rfl rfl ⟨Nat.le_of_ble_eq_true rfl, Nat.le_of_ble_eq_true rfl⟩ hC (fun v τ hq => ?_)
  subst hq
  refine pz_ws (ws' := wp G adM LM (cellsE G adX LX τ LX.1 0) [outC G ow f] σM) rfl ?_
  refine pz_kn 140 3622 rfl rfl ?_
  refine pz_aload_n dL_law_514 rfl ?_
  refine pz_rV1 (mi' := mX11_instructions) (As := []) (q := (RX11, TX11, 33)) dL_law_515 lk_RL_110 mk_X11_instructions mi_X11_instructions me_X11_instructions ⟨by decide, by decide⟩ rfl rfl (Nat.le_of_ble_eq_true rfl) rfl rfl ⟨Nat.le_of_ble_eq_true rfl, Nat.le_of_ble_eq_true rfl⟩ (hM τ) (fun v ρ hq => ?_)
  subst hq
  refine pz_kn 140 3622 rfl rfl ?_
  refine pz_icmp_eq 1493 dL_law_518 (by decide) (fun _ => ?_) (fun c_ => absurd rfl c_)
  exact pz_lk [(0, .ref b), (4, .int 0)] ⟨rfl, rfl, trivial⟩ (lw_end (Nat.le_of_ble_eq_true rfl) (Nat.le_of_ble_eq_true rfl))
theorem lo_instruction {r : Int32} (hC : SpR1 l G mX10_instruction [.ref (adX 0), .int (xs 1), .int (xs 2)] adX LX [] (rtM G adM σM ow f) σX (fun v _ => v = .int r)) (hM : ∀ τ g, SpR1 l G mX11_instruction [.ref (adM 0), .int (xs 1), .int (xs 2)] adM LM (cellsE G adX LX τ LX.1 0) [outC G ow g] σM (fun v ρ => v = .int r ∧ ρ.1 0 3 = 0)) : PZ (XL b 4 xs) QL l G mL_law [] sz 523 [(0, .ref b), (1, .ref (adX 0)), (2, .ref (adM 0)), (3, .ref ow), (4, .int 0)] [] 140 3622 (wp G adX LX [] (rtM G adM σM ow f) σX) := by
  refine pz_aload_n dL_law_523 rfl ?_
  refine pz_aload_n dL_law_524 rfl ?_
  refine pz_iload dL_law_525 rfl ?_
  refine pz_iconst (v := 1) dL_law_527 rfl ?_
  refine pz_iadd dL_law_528 ?_
  refine pz_sld dL_law_529 (by unfold vp_in; decide) ?_
  refine pz_top (xs 1) (congrArg xs (by decide)) ?_
  refine pz_aload_n dL_law_530 rfl ?_
  refine pz_iload dL_law_531 rfl ?_
  refine pz_iconst (v := 2) dL_law_533 rfl ?_
  refine pz_iadd dL_law_534 ?_
  refine pz_sld dL_law_535 (by unfold vp_in; decide) ?_
  refine pz_top (xs 2) (congrArg xs (by decide)) ?_
  refine pz_aload_n dL_law_536 rfl ?_
  refine pz_callW (mi' := mL_instruction) (hh := hhL_instruction) (As := [.ref (adX 0), .int (xs 1), .int (xs 2), .ref ow]) dL_law_537 (tw_in 923 (by decide +kernel) (by decide +kernel)) mw_instruction ⟨by decide, by decide⟩ rfl rfl (Nat.le_of_ble_eq_true rfl) (wo_instruction (p := 22) rt_at (xs 1) (xs 2) (Qs := fun _ => True) (r1_mono hC (fun v τ h => ⟨h, trivial⟩))) ⟨Nat.le_of_ble_eq_true rfl, Nat.le_of_ble_eq_true rfl⟩ (fun v ws1 hv => ?_)
  obtain ⟨τ, hv, -⟩ := hv
  cases hv
  refine pz_kn 141 3628 rfl rfl ?_
  refine pz_ws (ws' := wp G adM LM (cellsE G adX LX τ LX.1 0) [outC G ow (vp_updL f 0 r.toInt64)] σM) (by rw [rt_set]; rfl) ?_
  refine pz_istore dL_law_540 (by decide) ?_
  refine pz_aload_n dL_law_542 rfl ?_
  refine pz_aload_n dL_law_543 rfl ?_
  refine pz_iload dL_law_544 rfl ?_
  refine pz_iconst (v := 1) dL_law_546 rfl ?_
  refine pz_iadd dL_law_547 ?_
  refine pz_sld dL_law_548 (by unfold vp_in; decide) ?_
  refine pz_top (xs 1) (congrArg xs (by decide)) ?_
  refine pz_aload_n dL_law_549 rfl ?_
  refine pz_iload dL_law_550 rfl ?_
  refine pz_iconst (v := 2) dL_law_552 rfl ?_
  refine pz_iadd dL_law_553 ?_
  refine pz_sld dL_law_554 (by unfold vp_in; decide) ?_
  refine pz_top (xs 2) (congrArg xs (by decide)) ?_
  refine pz_rV1 (mi' := mX11_instruction) (As := [.int (xs 1), .int (xs 2)]) (q := (RX11, TX11, 33)) dL_law_555 lk_RL_113 mk_X11_instruction mi_X11_instruction me_X11_instruction ⟨by decide, by decide⟩ rfl rfl (Nat.le_of_ble_eq_true rfl) rfl rfl ⟨Nat.le_of_ble_eq_true rfl, Nat.le_of_ble_eq_true rfl⟩ (hM τ _) (fun v ρ hq => ?_)
  obtain ⟨hq, hth⟩ := hq
  subst hq
  refine pz_kn 141 3628 rfl rfl ?_
  refine pz_istore dL_law_558 (by decide) ?_
  refine pz_aload_n dL_law_560 rfl ?_
  refine pz_rV1 (mi' := mX11_thrown) (As := []) (q := (RX11, TX11, 33)) dL_law_561 lk_RL_82 mk_X11_thrown mi_X11_thrown me_X11_thrown ⟨by decide, by decide⟩ rfl rfl (Nat.le_of_ble_eq_true rfl) rfl rfl ⟨Nat.le_of_ble_eq_true rfl, Nat.le_of_ble_eq_true rfl⟩ (specD_r1 (Q := fun v τ => v = .int 0 ∧ τ = ρ) r_thrown ⟨congrArg Value.int hth, rfl⟩) (fun v ρ2 hq => ?_)
  obtain ⟨hq, hρ⟩ := hq
  subst hq
  subst hρ
  refine pz_kn 141 3628 rfl rfl ?_
  refine pz_iload dL_law_564 rfl ?_
  refine pz_icmp_eq 571 dL_law_566 (by decide) (fun _ => ?_) (fun c_ => absurd rfl c_)
  refine pz_iload dL_law_571 rfl ?_
  refine pz_if_ne 588 dL_law_573 (by decide) (fun c_ => absurd rfl c_) (fun _ => ?_)
  refine pz_aload_n dL_law_576 rfl ?_
  refine pz_iconst (v := 0) dL_law_577 rfl ?_
  refine pz_lald dL_law_578 ((cellsE G adX LX τ LX.1 0).length + (LM.1.length + 0)) (wp_rt rfl) (vp_in_nI (n := 0) (by decide) (by decide)) ?_
  refine pz_iload dL_law_579 rfl ?_
  refine pz_i2l dL_law_581 ?_
  refine pz_lcmp dL_law_582 ?_
  refine pz_if_eq 588 dL_law_583 (by decide) (fun _ => ?_) (fun c_ => absurd (lg_cmp_self _) c_)
  refine pz_goto (tgt := 1493) dL_law_588 (by decide) ?_
  exact pz_lk [(0, .ref b), (4, .int 0)] ⟨rfl, rfl, trivial⟩ (lw_end (Nat.le_of_ble_eq_true rfl) (Nat.le_of_ble_eq_true rfl))
theorem lt1_instruction (hC : SpecT l G mX10_instruction [.ref (adX 0), .int (xs 1), .int (xs 2)] (wp G adX LX [] (rtM G adM σM ow f) σX) "java/lang/IndexOutOfBoundsException" (wp G adX LX [] (rtM G adM σM ow f) σX)) (hM : SpR1 l G mX11_instruction [.ref (adM 0), .int (xs 1), .int (xs 2)] adM LM (cellsE G adX LX σX LX.1 0) [outC G ow f] σM (fun v ρ => (∃ bb, v = .int bb) ∧ ρ.1 0 3 = 1)) : PZ (XL b 4 xs) QL l G mL_law [] sz 523 [(0, .ref b), (1, .ref (adX 0)), (2, .ref (adM 0)), (3, .ref ow), (4, .int 0)] [] 140 3622 (wp G adX LX [] (rtM G adM σM ow f) σX) := by
  refine pz_aload_n dL_law_523 rfl ?_
  refine pz_aload_n dL_law_524 rfl ?_
  refine pz_iload dL_law_525 rfl ?_
  refine pz_iconst (v := 1) dL_law_527 rfl ?_
  refine pz_iadd dL_law_528 ?_
  refine pz_sld dL_law_529 (by unfold vp_in; decide) ?_
  refine pz_top (xs 1) (congrArg xs (by decide)) ?_
  refine pz_aload_n dL_law_530 rfl ?_
  refine pz_iload dL_law_531 rfl ?_
  refine pz_iconst (v := 2) dL_law_533 rfl ?_
  refine pz_iadd dL_law_534 ?_
  refine pz_sld dL_law_535 (by unfold vp_in; decide) ?_
  refine pz_top (xs 2) (congrArg xs (by decide)) ?_
  refine pz_aload_n dL_law_536 rfl ?_
  refine pz_callW (mi' := mL_instruction) (hh := hhL_instruction) (As := [.ref (adX 0), .int (xs 1), .int (xs 2), .ref ow]) dL_law_537 (tw_in 923 (by decide +kernel) (by decide +kernel)) mw_instruction ⟨by decide, by decide⟩ rfl rfl (Nat.le_of_ble_eq_true rfl) (wt1_instruction (xs 1) (xs 2) hC) ⟨Nat.le_of_ble_eq_true rfl, Nat.le_of_ble_eq_true rfl⟩ (fun v ws1 hv => ?_)
  cases hv
  refine pz_kn 141 3628 rfl rfl ?_
  refine pz_ws (ws' := wp G adM LM (cellsE G adX LX σX LX.1 0) [outC G ow f] σM) rfl ?_
  refine pz_istore dL_law_540 (by decide) ?_
  refine pz_aload_n dL_law_542 rfl ?_
  refine pz_aload_n dL_law_543 rfl ?_
  refine pz_iload dL_law_544 rfl ?_
  refine pz_iconst (v := 1) dL_law_546 rfl ?_
  refine pz_iadd dL_law_547 ?_
  refine pz_sld dL_law_548 (by unfold vp_in; decide) ?_
  refine pz_top (xs 1) (congrArg xs (by decide)) ?_
  refine pz_aload_n dL_law_549 rfl ?_
  refine pz_iload dL_law_550 rfl ?_
  refine pz_iconst (v := 2) dL_law_552 rfl ?_
  refine pz_iadd dL_law_553 ?_
  refine pz_sld dL_law_554 (by unfold vp_in; decide) ?_
  refine pz_top (xs 2) (congrArg xs (by decide)) ?_
  refine pz_rV1 (mi' := mX11_instruction) (As := [.int (xs 1), .int (xs 2)]) (q := (RX11, TX11, 33)) dL_law_555 lk_RL_113 mk_X11_instruction mi_X11_instruction me_X11_instruction ⟨by decide, by decide⟩ rfl rfl (Nat.le_of_ble_eq_true rfl) rfl rfl ⟨Nat.le_of_ble_eq_true rfl, Nat.le_of_ble_eq_true rfl⟩ hM (fun v ρ hq => ?_)
  obtain ⟨⟨bb, hq⟩, hth⟩ := hq
  subst hq
  refine pz_kn 141 3628 rfl rfl ?_
  refine pz_istore dL_law_558 (by decide) ?_
  refine pz_aload_n dL_law_560 rfl ?_
  refine pz_rV1 (mi' := mX11_thrown) (As := []) (q := (RX11, TX11, 33)) dL_law_561 lk_RL_82 mk_X11_thrown mi_X11_thrown me_X11_thrown ⟨by decide, by decide⟩ rfl rfl (Nat.le_of_ble_eq_true rfl) rfl rfl ⟨Nat.le_of_ble_eq_true rfl, Nat.le_of_ble_eq_true rfl⟩ (specD_r1 (Q := fun v τ => v = .int 1 ∧ τ = ρ) r_thrown ⟨congrArg Value.int hth, rfl⟩) (fun v ρ2 hq => ?_)
  obtain ⟨hq, hρ⟩ := hq
  subst hq
  subst hρ
  refine pz_kn 141 3628 rfl rfl ?_
  refine pz_iload dL_law_564 rfl ?_
  refine pz_icmp_eq 571 dL_law_566 (by decide) (fun _ => ?_) (fun c_ => absurd rfl c_)
  refine pz_iload dL_law_571 rfl ?_
  refine pz_if_ne 588 dL_law_573 (by decide) (fun _ => ?_) (fun c_ => absurd c_ (by decide))
  refine pz_goto (tgt := 1493) dL_law_588 (by decide) ?_
  exact pz_lk [(0, .ref b), (4, .int 0)] ⟨rfl, rfl, trivial⟩ (lw_end (Nat.le_of_ble_eq_true rfl) (Nat.le_of_ble_eq_true rfl))
theorem lt2_instruction (hC : SpecT l G mX10_instruction [.ref (adX 0), .int (xs 1), .int (xs 2)] (wp G adX LX [] (rtM G adM σM ow f) σX) "java/lang/IllegalArgumentException" (wp G adX LX [] (rtM G adM σM ow f) σX)) (hM : SpR1 l G mX11_instruction [.ref (adM 0), .int (xs 1), .int (xs 2)] adM LM (cellsE G adX LX σX LX.1 0) [outC G ow f] σM (fun v ρ => (∃ bb, v = .int bb) ∧ ρ.1 0 3 = 2)) : PZ (XL b 4 xs) QL l G mL_law [] sz 523 [(0, .ref b), (1, .ref (adX 0)), (2, .ref (adM 0)), (3, .ref ow), (4, .int 0)] [] 140 3622 (wp G adX LX [] (rtM G adM σM ow f) σX) := by
  refine pz_aload_n dL_law_523 rfl ?_
  refine pz_aload_n dL_law_524 rfl ?_
  refine pz_iload dL_law_525 rfl ?_
  refine pz_iconst (v := 1) dL_law_527 rfl ?_
  refine pz_iadd dL_law_528 ?_
  refine pz_sld dL_law_529 (by unfold vp_in; decide) ?_
  refine pz_top (xs 1) (congrArg xs (by decide)) ?_
  refine pz_aload_n dL_law_530 rfl ?_
  refine pz_iload dL_law_531 rfl ?_
  refine pz_iconst (v := 2) dL_law_533 rfl ?_
  refine pz_iadd dL_law_534 ?_
  refine pz_sld dL_law_535 (by unfold vp_in; decide) ?_
  refine pz_top (xs 2) (congrArg xs (by decide)) ?_
  refine pz_aload_n dL_law_536 rfl ?_
  refine pz_callW (mi' := mL_instruction) (hh := hhL_instruction) (As := [.ref (adX 0), .int (xs 1), .int (xs 2), .ref ow]) dL_law_537 (tw_in 923 (by decide +kernel) (by decide +kernel)) mw_instruction ⟨by decide, by decide⟩ rfl rfl (Nat.le_of_ble_eq_true rfl) (wt2_instruction (xs 1) (xs 2) hC) ⟨Nat.le_of_ble_eq_true rfl, Nat.le_of_ble_eq_true rfl⟩ (fun v ws1 hv => ?_)
  cases hv
  refine pz_kn 141 3628 rfl rfl ?_
  refine pz_ws (ws' := wp G adM LM (cellsE G adX LX σX LX.1 0) [outC G ow f] σM) rfl ?_
  refine pz_istore dL_law_540 (by decide) ?_
  refine pz_aload_n dL_law_542 rfl ?_
  refine pz_aload_n dL_law_543 rfl ?_
  refine pz_iload dL_law_544 rfl ?_
  refine pz_iconst (v := 1) dL_law_546 rfl ?_
  refine pz_iadd dL_law_547 ?_
  refine pz_sld dL_law_548 (by unfold vp_in; decide) ?_
  refine pz_top (xs 1) (congrArg xs (by decide)) ?_
  refine pz_aload_n dL_law_549 rfl ?_
  refine pz_iload dL_law_550 rfl ?_
  refine pz_iconst (v := 2) dL_law_552 rfl ?_
  refine pz_iadd dL_law_553 ?_
  refine pz_sld dL_law_554 (by unfold vp_in; decide) ?_
  refine pz_top (xs 2) (congrArg xs (by decide)) ?_
  refine pz_rV1 (mi' := mX11_instruction) (As := [.int (xs 1), .int (xs 2)]) (q := (RX11, TX11, 33)) dL_law_555 lk_RL_113 mk_X11_instruction mi_X11_instruction me_X11_instruction ⟨by decide, by decide⟩ rfl rfl (Nat.le_of_ble_eq_true rfl) rfl rfl ⟨Nat.le_of_ble_eq_true rfl, Nat.le_of_ble_eq_true rfl⟩ hM (fun v ρ hq => ?_)
  obtain ⟨⟨bb, hq⟩, hth⟩ := hq
  subst hq
  refine pz_kn 141 3628 rfl rfl ?_
  refine pz_istore dL_law_558 (by decide) ?_
  refine pz_aload_n dL_law_560 rfl ?_
  refine pz_rV1 (mi' := mX11_thrown) (As := []) (q := (RX11, TX11, 33)) dL_law_561 lk_RL_82 mk_X11_thrown mi_X11_thrown me_X11_thrown ⟨by decide, by decide⟩ rfl rfl (Nat.le_of_ble_eq_true rfl) rfl rfl ⟨Nat.le_of_ble_eq_true rfl, Nat.le_of_ble_eq_true rfl⟩ (specD_r1 (Q := fun v τ => v = .int 2 ∧ τ = ρ) r_thrown ⟨congrArg Value.int hth, rfl⟩) (fun v ρ2 hq => ?_)
  obtain ⟨hq, hρ⟩ := hq
  subst hq
  subst hρ
  refine pz_kn 141 3628 rfl rfl ?_
  refine pz_iload dL_law_564 rfl ?_
  refine pz_icmp_eq 571 dL_law_566 (by decide) (fun _ => ?_) (fun c_ => absurd rfl c_)
  refine pz_iload dL_law_571 rfl ?_
  refine pz_if_ne 588 dL_law_573 (by decide) (fun _ => ?_) (fun c_ => absurd c_ (by decide))
  refine pz_goto (tgt := 1493) dL_law_588 (by decide) ?_
  exact pz_lk [(0, .ref b), (4, .int 0)] ⟨rfl, rfl, trivial⟩ (lw_end (Nat.le_of_ble_eq_true rfl) (Nat.le_of_ble_eq_true rfl))
theorem lo_operand (z : Bool) (hz : if z = true then ¬ xs 2 = 0 else xs 2 = 0) {r : Int32} (hC : SpR1 l G mX10_operand [.ref (adX 0), .int (xs 1), .int (bI z)] adX LX [] (rtM G adM σM ow f) σX (fun v _ => v = .int r)) (hM : ∀ τ g, SpR1 l G mX11_operand [.ref (adM 0), .int (xs 1), .int (bI z)] adM LM (cellsE G adX LX τ LX.1 0) [outC G ow g] σM (fun v ρ => v = .int r ∧ ρ.1 0 3 = 0)) : PZ (XL b 4 xs) QL l G mL_law [] sz 591 [(0, .ref b), (1, .ref (adX 0)), (2, .ref (adM 0)), (3, .ref ow), (4, .int 0)] [] 140 3622 (wp G adX LX [] (rtM G adM σM ow f) σX) := by
  cases z
  · have hz : xs 2 = 0 := by simpa using hz
    refine pz_aload_n dL_law_591 rfl ?_
    refine pz_aload_n dL_law_592 rfl ?_
    refine pz_iload dL_law_593 rfl ?_
    refine pz_iconst (v := 1) dL_law_595 rfl ?_
    refine pz_iadd dL_law_596 ?_
    refine pz_sld dL_law_597 (by unfold vp_in; decide) ?_
    refine pz_top (xs 1) (congrArg xs (by decide)) ?_
    refine pz_aload_n dL_law_598 rfl ?_
    refine pz_iload dL_law_599 rfl ?_
    refine pz_iconst (v := 2) dL_law_601 rfl ?_
    refine pz_iadd dL_law_602 ?_
    refine pz_sld dL_law_603 (by unfold vp_in; decide) ?_
    refine pz_top (xs 2) (congrArg xs (by decide)) ?_
    refine pz_if_eq 611 dL_law_604 (by decide) (fun c_ => ?_) (fun c_ => absurd hz c_)
    refine pz_iconst (v := 0) dL_law_611 rfl ?_
    refine pz_aload_n dL_law_612 rfl ?_
    refine pz_callW (mi' := mL_operand) (hh := hhL_operand) (As := [.ref (adX 0), .int (xs 1), .int (0), .ref ow]) dL_law_613 (tw_in 931 (by decide +kernel) (by decide +kernel)) mw_operand ⟨by decide, by decide⟩ rfl rfl (Nat.le_of_ble_eq_true rfl) (wo_operand (p := 22) rt_at (xs 1) (0) (Qs := fun _ => True) (r1_mono hC (fun v τ h => ⟨h, trivial⟩))) ⟨Nat.le_of_ble_eq_true rfl, Nat.le_of_ble_eq_true rfl⟩ (fun v ws1 hv => ?_)
    obtain ⟨τ, hv, -⟩ := hv
    cases hv
    refine pz_kn 141 3628 rfl rfl ?_
    refine pz_ws (ws' := wp G adM LM (cellsE G adX LX τ LX.1 0) [outC G ow (vp_updL f 0 r.toInt64)] σM) (by rw [rt_set]; rfl) ?_
    refine pz_istore dL_law_616 (by decide) ?_
    refine pz_aload_n dL_law_618 rfl ?_
    refine pz_aload_n dL_law_619 rfl ?_
    refine pz_iload dL_law_620 rfl ?_
    refine pz_iconst (v := 1) dL_law_622 rfl ?_
    refine pz_iadd dL_law_623 ?_
    refine pz_sld dL_law_624 (by unfold vp_in; decide) ?_
    refine pz_top (xs 1) (congrArg xs (by decide)) ?_
    refine pz_aload_n dL_law_625 rfl ?_
    refine pz_iload dL_law_626 rfl ?_
    refine pz_iconst (v := 2) dL_law_628 rfl ?_
    refine pz_iadd dL_law_629 ?_
    refine pz_sld dL_law_630 (by unfold vp_in; decide) ?_
    refine pz_top (xs 2) (congrArg xs (by decide)) ?_
    refine pz_if_eq 638 dL_law_631 (by decide) (fun c_ => ?_) (fun c_ => absurd hz c_)
    refine pz_iconst (v := 0) dL_law_638 rfl ?_
    refine pz_rV1 (mi' := mX11_operand) (As := [.int (xs 1), .int (0)]) (q := (RX11, TX11, 33)) dL_law_639 lk_RL_117 mk_X11_operand mi_X11_operand me_X11_operand ⟨by decide, by decide⟩ rfl rfl (Nat.le_of_ble_eq_true rfl) rfl rfl ⟨Nat.le_of_ble_eq_true rfl, Nat.le_of_ble_eq_true rfl⟩ (hM τ _) (fun v ρ hq => ?_)
    obtain ⟨hq, hth⟩ := hq
    subst hq
    refine pz_kn 141 3628 rfl rfl ?_
    refine pz_istore dL_law_642 (by decide) ?_
    refine pz_aload_n dL_law_644 rfl ?_
    refine pz_rV1 (mi' := mX11_thrown) (As := []) (q := (RX11, TX11, 33)) dL_law_645 lk_RL_82 mk_X11_thrown mi_X11_thrown me_X11_thrown ⟨by decide, by decide⟩ rfl rfl (Nat.le_of_ble_eq_true rfl) rfl rfl ⟨Nat.le_of_ble_eq_true rfl, Nat.le_of_ble_eq_true rfl⟩ (specD_r1 (Q := fun v τ => v = .int 0 ∧ τ = ρ) r_thrown ⟨congrArg Value.int hth, rfl⟩) (fun v ρ2 hq => ?_)
    obtain ⟨hq, hρ⟩ := hq
    subst hq
    subst hρ
    refine pz_kn 141 3628 rfl rfl ?_
    refine pz_iload dL_law_648 rfl ?_
    refine pz_icmp_eq 655 dL_law_650 (by decide) (fun _ => ?_) (fun c_ => absurd rfl c_)
    refine pz_iload dL_law_655 rfl ?_
    refine pz_if_ne 672 dL_law_657 (by decide) (fun c_ => absurd rfl c_) (fun _ => ?_)
    refine pz_aload_n dL_law_660 rfl ?_
    refine pz_iconst (v := 0) dL_law_661 rfl ?_
    refine pz_lald dL_law_662 ((cellsE G adX LX τ LX.1 0).length + (LM.1.length + 0)) (wp_rt rfl) (vp_in_nI (n := 0) (by decide) (by decide)) ?_
    refine pz_iload dL_law_663 rfl ?_
    refine pz_i2l dL_law_665 ?_
    refine pz_lcmp dL_law_666 ?_
    refine pz_if_eq 672 dL_law_667 (by decide) (fun _ => ?_) (fun c_ => absurd (lg_cmp_self _) c_)
    refine pz_goto (tgt := 1493) dL_law_672 (by decide) ?_
    exact pz_lk [(0, .ref b), (4, .int 0)] ⟨rfl, rfl, trivial⟩ (lw_end (Nat.le_of_ble_eq_true rfl) (Nat.le_of_ble_eq_true rfl))
  · have hz : ¬ xs 2 = 0 := by simpa using hz
    refine pz_aload_n dL_law_591 rfl ?_
    refine pz_aload_n dL_law_592 rfl ?_
    refine pz_iload dL_law_593 rfl ?_
    refine pz_iconst (v := 1) dL_law_595 rfl ?_
    refine pz_iadd dL_law_596 ?_
    refine pz_sld dL_law_597 (by unfold vp_in; decide) ?_
    refine pz_top (xs 1) (congrArg xs (by decide)) ?_
    refine pz_aload_n dL_law_598 rfl ?_
    refine pz_iload dL_law_599 rfl ?_
    refine pz_iconst (v := 2) dL_law_601 rfl ?_
    refine pz_iadd dL_law_602 ?_
    refine pz_sld dL_law_603 (by unfold vp_in; decide) ?_
    refine pz_top (xs 2) (congrArg xs (by decide)) ?_
    refine pz_if_eq 611 dL_law_604 (by decide) (fun c_ => absurd c_ hz) (fun c_ => ?_)
    refine pz_iconst (v := 1) dL_law_607 rfl ?_
    refine pz_goto (tgt := 612) dL_law_608 (by decide) ?_
    refine pz_aload_n dL_law_612 rfl ?_
    refine pz_callW (mi' := mL_operand) (hh := hhL_operand) (As := [.ref (adX 0), .int (xs 1), .int (1), .ref ow]) dL_law_613 (tw_in 931 (by decide +kernel) (by decide +kernel)) mw_operand ⟨by decide, by decide⟩ rfl rfl (Nat.le_of_ble_eq_true rfl) (wo_operand (p := 22) rt_at (xs 1) (1) (Qs := fun _ => True) (r1_mono hC (fun v τ h => ⟨h, trivial⟩))) ⟨Nat.le_of_ble_eq_true rfl, Nat.le_of_ble_eq_true rfl⟩ (fun v ws1 hv => ?_)
    obtain ⟨τ, hv, -⟩ := hv
    cases hv
    refine pz_kn 141 3628 rfl rfl ?_
    refine pz_ws (ws' := wp G adM LM (cellsE G adX LX τ LX.1 0) [outC G ow (vp_updL f 0 r.toInt64)] σM) (by rw [rt_set]; rfl) ?_
    refine pz_istore dL_law_616 (by decide) ?_
    refine pz_aload_n dL_law_618 rfl ?_
    refine pz_aload_n dL_law_619 rfl ?_
    refine pz_iload dL_law_620 rfl ?_
    refine pz_iconst (v := 1) dL_law_622 rfl ?_
    refine pz_iadd dL_law_623 ?_
    refine pz_sld dL_law_624 (by unfold vp_in; decide) ?_
    refine pz_top (xs 1) (congrArg xs (by decide)) ?_
    refine pz_aload_n dL_law_625 rfl ?_
    refine pz_iload dL_law_626 rfl ?_
    refine pz_iconst (v := 2) dL_law_628 rfl ?_
    refine pz_iadd dL_law_629 ?_
    refine pz_sld dL_law_630 (by unfold vp_in; decide) ?_
    refine pz_top (xs 2) (congrArg xs (by decide)) ?_
    refine pz_if_eq 638 dL_law_631 (by decide) (fun c_ => absurd c_ hz) (fun c_ => ?_)
    refine pz_iconst (v := 1) dL_law_634 rfl ?_
    refine pz_goto (tgt := 639) dL_law_635 (by decide) ?_
    refine pz_rV1 (mi' := mX11_operand) (As := [.int (xs 1), .int (1)]) (q := (RX11, TX11, 33)) dL_law_639 lk_RL_117 mk_X11_operand mi_X11_operand me_X11_operand ⟨by decide, by decide⟩ rfl rfl (Nat.le_of_ble_eq_true rfl) rfl rfl ⟨Nat.le_of_ble_eq_true rfl, Nat.le_of_ble_eq_true rfl⟩ (hM τ _) (fun v ρ hq => ?_)
    obtain ⟨hq, hth⟩ := hq
    subst hq
    refine pz_kn 141 3628 rfl rfl ?_
    refine pz_istore dL_law_642 (by decide) ?_
    refine pz_aload_n dL_law_644 rfl ?_
    refine pz_rV1 (mi' := mX11_thrown) (As := []) (q := (RX11, TX11, 33)) dL_law_645 lk_RL_82 mk_X11_thrown mi_X11_thrown me_X11_thrown ⟨by decide, by decide⟩ rfl rfl (Nat.le_of_ble_eq_true rfl) rfl rfl ⟨Nat.le_of_ble_eq_true rfl, Nat.le_of_ble_eq_true rfl⟩ (specD_r1 (Q := fun v τ => v = .int 0 ∧ τ = ρ) r_thrown ⟨congrArg Value.int hth, rfl⟩) (fun v ρ2 hq => ?_)
    obtain ⟨hq, hρ⟩ := hq
    subst hq
    subst hρ
    refine pz_kn 141 3628 rfl rfl ?_
    refine pz_iload dL_law_648 rfl ?_
    refine pz_icmp_eq 655 dL_law_650 (by decide) (fun _ => ?_) (fun c_ => absurd rfl c_)
    refine pz_iload dL_law_655 rfl ?_
    refine pz_if_ne 672 dL_law_657 (by decide) (fun c_ => absurd rfl c_) (fun _ => ?_)
    refine pz_aload_n dL_law_660 rfl ?_
    refine pz_iconst (v := 0) dL_law_661 rfl ?_
    refine pz_lald dL_law_662 ((cellsE G adX LX τ LX.1 0).length + (LM.1.length + 0)) (wp_rt rfl) (vp_in_nI (n := 0) (by decide) (by decide)) ?_
    refine pz_iload dL_law_663 rfl ?_
    refine pz_i2l dL_law_665 ?_
    refine pz_lcmp dL_law_666 ?_
    refine pz_if_eq 672 dL_law_667 (by decide) (fun _ => ?_) (fun c_ => absurd (lg_cmp_self _) c_)
    refine pz_goto (tgt := 1493) dL_law_672 (by decide) ?_
    exact pz_lk [(0, .ref b), (4, .int 0)] ⟨rfl, rfl, trivial⟩ (lw_end (Nat.le_of_ble_eq_true rfl) (Nat.le_of_ble_eq_true rfl))
theorem lt1_operand (z : Bool) (hz : if z = true then ¬ xs 2 = 0 else xs 2 = 0) (hC : SpecT l G mX10_operand [.ref (adX 0), .int (xs 1), .int (bI z)] (wp G adX LX [] (rtM G adM σM ow f) σX) "java/lang/IndexOutOfBoundsException" (wp G adX LX [] (rtM G adM σM ow f) σX)) (hM : SpR1 l G mX11_operand [.ref (adM 0), .int (xs 1), .int (bI z)] adM LM (cellsE G adX LX σX LX.1 0) [outC G ow f] σM (fun v ρ => (∃ bb, v = .int bb) ∧ ρ.1 0 3 = 1)) : PZ (XL b 4 xs) QL l G mL_law [] sz 591 [(0, .ref b), (1, .ref (adX 0)), (2, .ref (adM 0)), (3, .ref ow), (4, .int 0)] [] 140 3622 (wp G adX LX [] (rtM G adM σM ow f) σX) := by
  cases z
  · have hz : xs 2 = 0 := by simpa using hz
    refine pz_aload_n dL_law_591 rfl ?_
    refine pz_aload_n dL_law_592 rfl ?_
    refine pz_iload dL_law_593 rfl ?_
    refine pz_iconst (v := 1) dL_law_595 rfl ?_
    refine pz_iadd dL_law_596 ?_
    refine pz_sld dL_law_597 (by unfold vp_in; decide) ?_
    refine pz_top (xs 1) (congrArg xs (by decide)) ?_
    refine pz_aload_n dL_law_598 rfl ?_
    refine pz_iload dL_law_599 rfl ?_
    refine pz_iconst (v := 2) dL_law_601 rfl ?_
    refine pz_iadd dL_law_602 ?_
    refine pz_sld dL_law_603 (by unfold vp_in; decide) ?_
    refine pz_top (xs 2) (congrArg xs (by decide)) ?_
    refine pz_if_eq 611 dL_law_604 (by decide) (fun c_ => ?_) (fun c_ => absurd hz c_)
    refine pz_iconst (v := 0) dL_law_611 rfl ?_
    refine pz_aload_n dL_law_612 rfl ?_
    refine pz_callW (mi' := mL_operand) (hh := hhL_operand) (As := [.ref (adX 0), .int (xs 1), .int (0), .ref ow]) dL_law_613 (tw_in 931 (by decide +kernel) (by decide +kernel)) mw_operand ⟨by decide, by decide⟩ rfl rfl (Nat.le_of_ble_eq_true rfl) (wt1_operand (xs 1) (0) hC) ⟨Nat.le_of_ble_eq_true rfl, Nat.le_of_ble_eq_true rfl⟩ (fun v ws1 hv => ?_)
    cases hv
    refine pz_kn 141 3628 rfl rfl ?_
    refine pz_ws (ws' := wp G adM LM (cellsE G adX LX σX LX.1 0) [outC G ow f] σM) rfl ?_
    refine pz_istore dL_law_616 (by decide) ?_
    refine pz_aload_n dL_law_618 rfl ?_
    refine pz_aload_n dL_law_619 rfl ?_
    refine pz_iload dL_law_620 rfl ?_
    refine pz_iconst (v := 1) dL_law_622 rfl ?_
    refine pz_iadd dL_law_623 ?_
    refine pz_sld dL_law_624 (by unfold vp_in; decide) ?_
    refine pz_top (xs 1) (congrArg xs (by decide)) ?_
    refine pz_aload_n dL_law_625 rfl ?_
    refine pz_iload dL_law_626 rfl ?_
    refine pz_iconst (v := 2) dL_law_628 rfl ?_
    refine pz_iadd dL_law_629 ?_
    refine pz_sld dL_law_630 (by unfold vp_in; decide) ?_
    refine pz_top (xs 2) (congrArg xs (by decide)) ?_
    refine pz_if_eq 638 dL_law_631 (by decide) (fun c_ => ?_) (fun c_ => absurd hz c_)
    refine pz_iconst (v := 0) dL_law_638 rfl ?_
    refine pz_rV1 (mi' := mX11_operand) (As := [.int (xs 1), .int (0)]) (q := (RX11, TX11, 33)) dL_law_639 lk_RL_117 mk_X11_operand mi_X11_operand me_X11_operand ⟨by decide, by decide⟩ rfl rfl (Nat.le_of_ble_eq_true rfl) rfl rfl ⟨Nat.le_of_ble_eq_true rfl, Nat.le_of_ble_eq_true rfl⟩ hM (fun v ρ hq => ?_)
    obtain ⟨⟨bb, hq⟩, hth⟩ := hq
    subst hq
    refine pz_kn 141 3628 rfl rfl ?_
    refine pz_istore dL_law_642 (by decide) ?_
    refine pz_aload_n dL_law_644 rfl ?_
    refine pz_rV1 (mi' := mX11_thrown) (As := []) (q := (RX11, TX11, 33)) dL_law_645 lk_RL_82 mk_X11_thrown mi_X11_thrown me_X11_thrown ⟨by decide, by decide⟩ rfl rfl (Nat.le_of_ble_eq_true rfl) rfl rfl ⟨Nat.le_of_ble_eq_true rfl, Nat.le_of_ble_eq_true rfl⟩ (specD_r1 (Q := fun v τ => v = .int 1 ∧ τ = ρ) r_thrown ⟨congrArg Value.int hth, rfl⟩) (fun v ρ2 hq => ?_)
    obtain ⟨hq, hρ⟩ := hq
    subst hq
    subst hρ
    refine pz_kn 141 3628 rfl rfl ?_
    refine pz_iload dL_law_648 rfl ?_
    refine pz_icmp_eq 655 dL_law_650 (by decide) (fun _ => ?_) (fun c_ => absurd rfl c_)
    refine pz_iload dL_law_655 rfl ?_
    refine pz_if_ne 672 dL_law_657 (by decide) (fun _ => ?_) (fun c_ => absurd c_ (by decide))
    refine pz_goto (tgt := 1493) dL_law_672 (by decide) ?_
    exact pz_lk [(0, .ref b), (4, .int 0)] ⟨rfl, rfl, trivial⟩ (lw_end (Nat.le_of_ble_eq_true rfl) (Nat.le_of_ble_eq_true rfl))
  · have hz : ¬ xs 2 = 0 := by simpa using hz
    refine pz_aload_n dL_law_591 rfl ?_
    refine pz_aload_n dL_law_592 rfl ?_
    refine pz_iload dL_law_593 rfl ?_
    refine pz_iconst (v := 1) dL_law_595 rfl ?_
    refine pz_iadd dL_law_596 ?_
    refine pz_sld dL_law_597 (by unfold vp_in; decide) ?_
    refine pz_top (xs 1) (congrArg xs (by decide)) ?_
    refine pz_aload_n dL_law_598 rfl ?_
    refine pz_iload dL_law_599 rfl ?_
    refine pz_iconst (v := 2) dL_law_601 rfl ?_
    refine pz_iadd dL_law_602 ?_
    refine pz_sld dL_law_603 (by unfold vp_in; decide) ?_
    refine pz_top (xs 2) (congrArg xs (by decide)) ?_
    refine pz_if_eq 611 dL_law_604 (by decide) (fun c_ => absurd c_ hz) (fun c_ => ?_)
    refine pz_iconst (v := 1) dL_law_607 rfl ?_
    refine pz_goto (tgt := 612) dL_law_608 (by decide) ?_
    refine pz_aload_n dL_law_612 rfl ?_
    refine pz_callW (mi' := mL_operand) (hh := hhL_operand) (As := [.ref (adX 0), .int (xs 1), .int (1), .ref ow]) dL_law_613 (tw_in 931 (by decide +kernel) (by decide +kernel)) mw_operand ⟨by decide, by decide⟩ rfl rfl (Nat.le_of_ble_eq_true rfl) (wt1_operand (xs 1) (1) hC) ⟨Nat.le_of_ble_eq_true rfl, Nat.le_of_ble_eq_true rfl⟩ (fun v ws1 hv => ?_)
    cases hv
    refine pz_kn 141 3628 rfl rfl ?_
    refine pz_ws (ws' := wp G adM LM (cellsE G adX LX σX LX.1 0) [outC G ow f] σM) rfl ?_
    refine pz_istore dL_law_616 (by decide) ?_
    refine pz_aload_n dL_law_618 rfl ?_
    refine pz_aload_n dL_law_619 rfl ?_
    refine pz_iload dL_law_620 rfl ?_
    refine pz_iconst (v := 1) dL_law_622 rfl ?_
    refine pz_iadd dL_law_623 ?_
    refine pz_sld dL_law_624 (by unfold vp_in; decide) ?_
    refine pz_top (xs 1) (congrArg xs (by decide)) ?_
    refine pz_aload_n dL_law_625 rfl ?_
    refine pz_iload dL_law_626 rfl ?_
    refine pz_iconst (v := 2) dL_law_628 rfl ?_
    refine pz_iadd dL_law_629 ?_
    refine pz_sld dL_law_630 (by unfold vp_in; decide) ?_
    refine pz_top (xs 2) (congrArg xs (by decide)) ?_
    refine pz_if_eq 638 dL_law_631 (by decide) (fun c_ => absurd c_ hz) (fun c_ => ?_)
    refine pz_iconst (v := 1) dL_law_634 rfl ?_
    refine pz_goto (tgt := 639) dL_law_635 (by decide) ?_
    refine pz_rV1 (mi' := mX11_operand) (As := [.int (xs 1), .int (1)]) (q := (RX11, TX11, 33)) dL_law_639 lk_RL_117 mk_X11_operand mi_X11_operand me_X11_operand ⟨by decide, by decide⟩ rfl rfl (Nat.le_of_ble_eq_true rfl) rfl rfl ⟨Nat.le_of_ble_eq_true rfl, Nat.le_of_ble_eq_true rfl⟩ hM (fun v ρ hq => ?_)
    obtain ⟨⟨bb, hq⟩, hth⟩ := hq
    subst hq
    refine pz_kn 141 3628 rfl rfl ?_
    refine pz_istore dL_law_642 (by decide) ?_
    refine pz_aload_n dL_law_644 rfl ?_
    refine pz_rV1 (mi' := mX11_thrown) (As := []) (q := (RX11, TX11, 33)) dL_law_645 lk_RL_82 mk_X11_thrown mi_X11_thrown me_X11_thrown ⟨by decide, by decide⟩ rfl rfl (Nat.le_of_ble_eq_true rfl) rfl rfl ⟨Nat.le_of_ble_eq_true rfl, Nat.le_of_ble_eq_true rfl⟩ (specD_r1 (Q := fun v τ => v = .int 1 ∧ τ = ρ) r_thrown ⟨congrArg Value.int hth, rfl⟩) (fun v ρ2 hq => ?_)
    obtain ⟨hq, hρ⟩ := hq
    subst hq
    subst hρ
    refine pz_kn 141 3628 rfl rfl ?_
    refine pz_iload dL_law_648 rfl ?_
    refine pz_icmp_eq 655 dL_law_650 (by decide) (fun _ => ?_) (fun c_ => absurd rfl c_)
    refine pz_iload dL_law_655 rfl ?_
    refine pz_if_ne 672 dL_law_657 (by decide) (fun _ => ?_) (fun c_ => absurd c_ (by decide))
    refine pz_goto (tgt := 1493) dL_law_672 (by decide) ?_
    exact pz_lk [(0, .ref b), (4, .int 0)] ⟨rfl, rfl, trivial⟩ (lw_end (Nat.le_of_ble_eq_true rfl) (Nat.le_of_ble_eq_true rfl))
theorem lo_state {r : Int32} (hC : SpR1 l G mX10_state [.ref (adX 0), .int (xs 1)] adX LX [] (rtM G adM σM ow f) σX (fun v _ => v = .int r)) (hM : ∀ τ g, SpR1 l G mX11_state [.ref (adM 0), .int (xs 1)] adM LM (cellsE G adX LX τ LX.1 0) [outC G ow g] σM (fun v ρ => v = .int r ∧ ρ.1 0 3 = 0)) : PZ (XL b 4 xs) QL l G mL_law [] sz 675 [(0, .ref b), (1, .ref (adX 0)), (2, .ref (adM 0)), (3, .ref ow), (4, .int 0)] [] 140 3622 (wp G adX LX [] (rtM G adM σM ow f) σX) := by
  refine pz_aload_n dL_law_675 rfl ?_
  refine pz_aload_n dL_law_676 rfl ?_
  refine pz_iload dL_law_677 rfl ?_
  refine pz_iconst (v := 1) dL_law_679 rfl ?_
  refine pz_iadd dL_law_680 ?_
  refine pz_sld dL_law_681 (by unfold vp_in; decide) ?_
  refine pz_top (xs 1) (congrArg xs (by decide)) ?_
  refine pz_aload_n dL_law_682 rfl ?_
  refine pz_callW (mi' := mL_state) (hh := hhL_state) (As := [.ref (adX 0), .int (xs 1), .ref ow]) dL_law_683 (tw_in 938 (by decide +kernel) (by decide +kernel)) mw_state ⟨by decide, by decide⟩ rfl rfl (Nat.le_of_ble_eq_true rfl) (wo_state (p := 22) rt_at (xs 1) (Qs := fun _ => True) (r1_mono hC (fun v τ h => ⟨h, trivial⟩))) ⟨Nat.le_of_ble_eq_true rfl, Nat.le_of_ble_eq_true rfl⟩ (fun v ws1 hv => ?_)
  obtain ⟨τ, hv, -⟩ := hv
  cases hv
  refine pz_kn 141 3628 rfl rfl ?_
  refine pz_ws (ws' := wp G adM LM (cellsE G adX LX τ LX.1 0) [outC G ow (vp_updL f 0 r.toInt64)] σM) (by rw [rt_set]; rfl) ?_
  refine pz_istore dL_law_686 (by decide) ?_
  refine pz_aload_n dL_law_688 rfl ?_
  refine pz_aload_n dL_law_689 rfl ?_
  refine pz_iload dL_law_690 rfl ?_
  refine pz_iconst (v := 1) dL_law_692 rfl ?_
  refine pz_iadd dL_law_693 ?_
  refine pz_sld dL_law_694 (by unfold vp_in; decide) ?_
  refine pz_top (xs 1) (congrArg xs (by decide)) ?_
  refine pz_rV1 (mi' := mX11_state) (As := [.int (xs 1)]) (q := (RX11, TX11, 33)) dL_law_695 lk_RL_120 mk_X11_state mi_X11_state me_X11_state ⟨by decide, by decide⟩ rfl rfl (Nat.le_of_ble_eq_true rfl) rfl rfl ⟨Nat.le_of_ble_eq_true rfl, Nat.le_of_ble_eq_true rfl⟩ (hM τ _) (fun v ρ hq => ?_)
  obtain ⟨hq, hth⟩ := hq
  subst hq
  refine pz_kn 141 3628 rfl rfl ?_
  refine pz_istore dL_law_698 (by decide) ?_
  refine pz_aload_n dL_law_700 rfl ?_
  refine pz_rV1 (mi' := mX11_thrown) (As := []) (q := (RX11, TX11, 33)) dL_law_701 lk_RL_82 mk_X11_thrown mi_X11_thrown me_X11_thrown ⟨by decide, by decide⟩ rfl rfl (Nat.le_of_ble_eq_true rfl) rfl rfl ⟨Nat.le_of_ble_eq_true rfl, Nat.le_of_ble_eq_true rfl⟩ (specD_r1 (Q := fun v τ => v = .int 0 ∧ τ = ρ) r_thrown ⟨congrArg Value.int hth, rfl⟩) (fun v ρ2 hq => ?_)
  obtain ⟨hq, hρ⟩ := hq
  subst hq
  subst hρ
  refine pz_kn 141 3628 rfl rfl ?_
  refine pz_iload dL_law_704 rfl ?_
  refine pz_icmp_eq 711 dL_law_706 (by decide) (fun _ => ?_) (fun c_ => absurd rfl c_)
  refine pz_iload dL_law_711 rfl ?_
  refine pz_if_ne 728 dL_law_713 (by decide) (fun c_ => absurd rfl c_) (fun _ => ?_)
  refine pz_aload_n dL_law_716 rfl ?_
  refine pz_iconst (v := 0) dL_law_717 rfl ?_
  refine pz_lald dL_law_718 ((cellsE G adX LX τ LX.1 0).length + (LM.1.length + 0)) (wp_rt rfl) (vp_in_nI (n := 0) (by decide) (by decide)) ?_
  refine pz_iload dL_law_719 rfl ?_
  refine pz_i2l dL_law_721 ?_
  refine pz_lcmp dL_law_722 ?_
  refine pz_if_eq 728 dL_law_723 (by decide) (fun _ => ?_) (fun c_ => absurd (lg_cmp_self _) c_)
  refine pz_goto (tgt := 1493) dL_law_728 (by decide) ?_
  exact pz_lk [(0, .ref b), (4, .int 0)] ⟨rfl, rfl, trivial⟩ (lw_end (Nat.le_of_ble_eq_true rfl) (Nat.le_of_ble_eq_true rfl))
theorem lt1_state (hC : SpecT l G mX10_state [.ref (adX 0), .int (xs 1)] (wp G adX LX [] (rtM G adM σM ow f) σX) "java/lang/IndexOutOfBoundsException" (wp G adX LX [] (rtM G adM σM ow f) σX)) (hM : SpR1 l G mX11_state [.ref (adM 0), .int (xs 1)] adM LM (cellsE G adX LX σX LX.1 0) [outC G ow f] σM (fun v ρ => (∃ bb, v = .int bb) ∧ ρ.1 0 3 = 1)) : PZ (XL b 4 xs) QL l G mL_law [] sz 675 [(0, .ref b), (1, .ref (adX 0)), (2, .ref (adM 0)), (3, .ref ow), (4, .int 0)] [] 140 3622 (wp G adX LX [] (rtM G adM σM ow f) σX) := by
  refine pz_aload_n dL_law_675 rfl ?_
  refine pz_aload_n dL_law_676 rfl ?_
  refine pz_iload dL_law_677 rfl ?_
  refine pz_iconst (v := 1) dL_law_679 rfl ?_
  refine pz_iadd dL_law_680 ?_
  refine pz_sld dL_law_681 (by unfold vp_in; decide) ?_
  refine pz_top (xs 1) (congrArg xs (by decide)) ?_
  refine pz_aload_n dL_law_682 rfl ?_
  refine pz_callW (mi' := mL_state) (hh := hhL_state) (As := [.ref (adX 0), .int (xs 1), .ref ow]) dL_law_683 (tw_in 938 (by decide +kernel) (by decide +kernel)) mw_state ⟨by decide, by decide⟩ rfl rfl (Nat.le_of_ble_eq_true rfl) (wt1_state (xs 1) hC) ⟨Nat.le_of_ble_eq_true rfl, Nat.le_of_ble_eq_true rfl⟩ (fun v ws1 hv => ?_)
  cases hv
  refine pz_kn 141 3628 rfl rfl ?_
  refine pz_ws (ws' := wp G adM LM (cellsE G adX LX σX LX.1 0) [outC G ow f] σM) rfl ?_
  refine pz_istore dL_law_686 (by decide) ?_
  refine pz_aload_n dL_law_688 rfl ?_
  refine pz_aload_n dL_law_689 rfl ?_
  refine pz_iload dL_law_690 rfl ?_
  refine pz_iconst (v := 1) dL_law_692 rfl ?_
  refine pz_iadd dL_law_693 ?_
  refine pz_sld dL_law_694 (by unfold vp_in; decide) ?_
  refine pz_top (xs 1) (congrArg xs (by decide)) ?_
  refine pz_rV1 (mi' := mX11_state) (As := [.int (xs 1)]) (q := (RX11, TX11, 33)) dL_law_695 lk_RL_120 mk_X11_state mi_X11_state me_X11_state ⟨by decide, by decide⟩ rfl rfl (Nat.le_of_ble_eq_true rfl) rfl rfl ⟨Nat.le_of_ble_eq_true rfl, Nat.le_of_ble_eq_true rfl⟩ hM (fun v ρ hq => ?_)
  obtain ⟨⟨bb, hq⟩, hth⟩ := hq
  subst hq
  refine pz_kn 141 3628 rfl rfl ?_
  refine pz_istore dL_law_698 (by decide) ?_
  refine pz_aload_n dL_law_700 rfl ?_
  refine pz_rV1 (mi' := mX11_thrown) (As := []) (q := (RX11, TX11, 33)) dL_law_701 lk_RL_82 mk_X11_thrown mi_X11_thrown me_X11_thrown ⟨by decide, by decide⟩ rfl rfl (Nat.le_of_ble_eq_true rfl) rfl rfl ⟨Nat.le_of_ble_eq_true rfl, Nat.le_of_ble_eq_true rfl⟩ (specD_r1 (Q := fun v τ => v = .int 1 ∧ τ = ρ) r_thrown ⟨congrArg Value.int hth, rfl⟩) (fun v ρ2 hq => ?_)
  obtain ⟨hq, hρ⟩ := hq
  subst hq
  subst hρ
  refine pz_kn 141 3628 rfl rfl ?_
  refine pz_iload dL_law_704 rfl ?_
  refine pz_icmp_eq 711 dL_law_706 (by decide) (fun _ => ?_) (fun c_ => absurd rfl c_)
  refine pz_iload dL_law_711 rfl ?_
  refine pz_if_ne 728 dL_law_713 (by decide) (fun _ => ?_) (fun c_ => absurd c_ (by decide))
  refine pz_goto (tgt := 1493) dL_law_728 (by decide) ?_
  exact pz_lk [(0, .ref b), (4, .int 0)] ⟨rfl, rfl, trivial⟩ (lw_end (Nat.le_of_ble_eq_true rfl) (Nat.le_of_ble_eq_true rfl))
theorem lo_states {r : Int32} (hC : SpR1 l G mX10_states [.ref (adX 0), .int (xs 1)] adX LX [] (rtM G adM σM ow f) σX (fun v _ => v = .int r)) (hM : ∀ τ g, SpR1 l G mX11_states [.ref (adM 0), .int (xs 1)] adM LM (cellsE G adX LX τ LX.1 0) [outC G ow g] σM (fun v ρ => v = .int r ∧ ρ.1 0 3 = 0)) : PZ (XL b 4 xs) QL l G mL_law [] sz 731 [(0, .ref b), (1, .ref (adX 0)), (2, .ref (adM 0)), (3, .ref ow), (4, .int 0)] [] 140 3622 (wp G adX LX [] (rtM G adM σM ow f) σX) := by
  refine pz_aload_n dL_law_731 rfl ?_
  refine pz_aload_n dL_law_732 rfl ?_
  refine pz_iload dL_law_733 rfl ?_
  refine pz_iconst (v := 1) dL_law_735 rfl ?_
  refine pz_iadd dL_law_736 ?_
  refine pz_sld dL_law_737 (by unfold vp_in; decide) ?_
  refine pz_top (xs 1) (congrArg xs (by decide)) ?_
  refine pz_aload_n dL_law_738 rfl ?_
  refine pz_callW (mi' := mL_states) (hh := hhL_states) (As := [.ref (adX 0), .int (xs 1), .ref ow]) dL_law_739 (tw_in 945 (by decide +kernel) (by decide +kernel)) mw_states ⟨by decide, by decide⟩ rfl rfl (Nat.le_of_ble_eq_true rfl) (wo_states (p := 22) rt_at (xs 1) (Qs := fun _ => True) (r1_mono hC (fun v τ h => ⟨h, trivial⟩))) ⟨Nat.le_of_ble_eq_true rfl, Nat.le_of_ble_eq_true rfl⟩ (fun v ws1 hv => ?_)
  obtain ⟨τ, hv, -⟩ := hv
  cases hv
  refine pz_kn 141 3628 rfl rfl ?_
  refine pz_ws (ws' := wp G adM LM (cellsE G adX LX τ LX.1 0) [outC G ow (vp_updL f 0 r.toInt64)] σM) (by rw [rt_set]; rfl) ?_
  refine pz_istore dL_law_742 (by decide) ?_
  refine pz_aload_n dL_law_744 rfl ?_
  refine pz_aload_n dL_law_745 rfl ?_
  refine pz_iload dL_law_746 rfl ?_
  refine pz_iconst (v := 1) dL_law_748 rfl ?_
  refine pz_iadd dL_law_749 ?_
  refine pz_sld dL_law_750 (by unfold vp_in; decide) ?_
  refine pz_top (xs 1) (congrArg xs (by decide)) ?_
  refine pz_rV1 (mi' := mX11_states) (As := [.int (xs 1)]) (q := (RX11, TX11, 33)) dL_law_751 lk_RL_123 mk_X11_states mi_X11_states me_X11_states ⟨by decide, by decide⟩ rfl rfl (Nat.le_of_ble_eq_true rfl) rfl rfl ⟨Nat.le_of_ble_eq_true rfl, Nat.le_of_ble_eq_true rfl⟩ (hM τ _) (fun v ρ hq => ?_)
  obtain ⟨hq, hth⟩ := hq
  subst hq
  refine pz_kn 141 3628 rfl rfl ?_
  refine pz_istore dL_law_754 (by decide) ?_
  refine pz_aload_n dL_law_756 rfl ?_
  refine pz_rV1 (mi' := mX11_thrown) (As := []) (q := (RX11, TX11, 33)) dL_law_757 lk_RL_82 mk_X11_thrown mi_X11_thrown me_X11_thrown ⟨by decide, by decide⟩ rfl rfl (Nat.le_of_ble_eq_true rfl) rfl rfl ⟨Nat.le_of_ble_eq_true rfl, Nat.le_of_ble_eq_true rfl⟩ (specD_r1 (Q := fun v τ => v = .int 0 ∧ τ = ρ) r_thrown ⟨congrArg Value.int hth, rfl⟩) (fun v ρ2 hq => ?_)
  obtain ⟨hq, hρ⟩ := hq
  subst hq
  subst hρ
  refine pz_kn 141 3628 rfl rfl ?_
  refine pz_iload dL_law_760 rfl ?_
  refine pz_icmp_eq 767 dL_law_762 (by decide) (fun _ => ?_) (fun c_ => absurd rfl c_)
  refine pz_iload dL_law_767 rfl ?_
  refine pz_if_ne 784 dL_law_769 (by decide) (fun c_ => absurd rfl c_) (fun _ => ?_)
  refine pz_aload_n dL_law_772 rfl ?_
  refine pz_iconst (v := 0) dL_law_773 rfl ?_
  refine pz_lald dL_law_774 ((cellsE G adX LX τ LX.1 0).length + (LM.1.length + 0)) (wp_rt rfl) (vp_in_nI (n := 0) (by decide) (by decide)) ?_
  refine pz_iload dL_law_775 rfl ?_
  refine pz_i2l dL_law_777 ?_
  refine pz_lcmp dL_law_778 ?_
  refine pz_if_eq 784 dL_law_779 (by decide) (fun _ => ?_) (fun c_ => absurd (lg_cmp_self _) c_)
  refine pz_goto (tgt := 1493) dL_law_784 (by decide) ?_
  exact pz_lk [(0, .ref b), (4, .int 0)] ⟨rfl, rfl, trivial⟩ (lw_end (Nat.le_of_ble_eq_true rfl) (Nat.le_of_ble_eq_true rfl))
theorem lt1_states (hC : SpecT l G mX10_states [.ref (adX 0), .int (xs 1)] (wp G adX LX [] (rtM G adM σM ow f) σX) "java/lang/IllegalArgumentException" (wp G adX LX [] (rtM G adM σM ow f) σX)) (hM : SpR1 l G mX11_states [.ref (adM 0), .int (xs 1)] adM LM (cellsE G adX LX σX LX.1 0) [outC G ow f] σM (fun v ρ => (∃ bb, v = .int bb) ∧ ρ.1 0 3 = 1)) : PZ (XL b 4 xs) QL l G mL_law [] sz 731 [(0, .ref b), (1, .ref (adX 0)), (2, .ref (adM 0)), (3, .ref ow), (4, .int 0)] [] 140 3622 (wp G adX LX [] (rtM G adM σM ow f) σX) := by
  refine pz_aload_n dL_law_731 rfl ?_
  refine pz_aload_n dL_law_732 rfl ?_
  refine pz_iload dL_law_733 rfl ?_
  refine pz_iconst (v := 1) dL_law_735 rfl ?_
  refine pz_iadd dL_law_736 ?_
  refine pz_sld dL_law_737 (by unfold vp_in; decide) ?_
  refine pz_top (xs 1) (congrArg xs (by decide)) ?_
  refine pz_aload_n dL_law_738 rfl ?_
  refine pz_callW (mi' := mL_states) (hh := hhL_states) (As := [.ref (adX 0), .int (xs 1), .ref ow]) dL_law_739 (tw_in 945 (by decide +kernel) (by decide +kernel)) mw_states ⟨by decide, by decide⟩ rfl rfl (Nat.le_of_ble_eq_true rfl) (wt1_states (xs 1) hC) ⟨Nat.le_of_ble_eq_true rfl, Nat.le_of_ble_eq_true rfl⟩ (fun v ws1 hv => ?_)
  cases hv
  refine pz_kn 141 3628 rfl rfl ?_
  refine pz_ws (ws' := wp G adM LM (cellsE G adX LX σX LX.1 0) [outC G ow f] σM) rfl ?_
  refine pz_istore dL_law_742 (by decide) ?_
  refine pz_aload_n dL_law_744 rfl ?_
  refine pz_aload_n dL_law_745 rfl ?_
  refine pz_iload dL_law_746 rfl ?_
  refine pz_iconst (v := 1) dL_law_748 rfl ?_
  refine pz_iadd dL_law_749 ?_
  refine pz_sld dL_law_750 (by unfold vp_in; decide) ?_
  refine pz_top (xs 1) (congrArg xs (by decide)) ?_
  refine pz_rV1 (mi' := mX11_states) (As := [.int (xs 1)]) (q := (RX11, TX11, 33)) dL_law_751 lk_RL_123 mk_X11_states mi_X11_states me_X11_states ⟨by decide, by decide⟩ rfl rfl (Nat.le_of_ble_eq_true rfl) rfl rfl ⟨Nat.le_of_ble_eq_true rfl, Nat.le_of_ble_eq_true rfl⟩ hM (fun v ρ hq => ?_)
  obtain ⟨⟨bb, hq⟩, hth⟩ := hq
  subst hq
  refine pz_kn 141 3628 rfl rfl ?_
  refine pz_istore dL_law_754 (by decide) ?_
  refine pz_aload_n dL_law_756 rfl ?_
  refine pz_rV1 (mi' := mX11_thrown) (As := []) (q := (RX11, TX11, 33)) dL_law_757 lk_RL_82 mk_X11_thrown mi_X11_thrown me_X11_thrown ⟨by decide, by decide⟩ rfl rfl (Nat.le_of_ble_eq_true rfl) rfl rfl ⟨Nat.le_of_ble_eq_true rfl, Nat.le_of_ble_eq_true rfl⟩ (specD_r1 (Q := fun v τ => v = .int 1 ∧ τ = ρ) r_thrown ⟨congrArg Value.int hth, rfl⟩) (fun v ρ2 hq => ?_)
  obtain ⟨hq, hρ⟩ := hq
  subst hq
  subst hρ
  refine pz_kn 141 3628 rfl rfl ?_
  refine pz_iload dL_law_760 rfl ?_
  refine pz_icmp_eq 767 dL_law_762 (by decide) (fun _ => ?_) (fun c_ => absurd rfl c_)
  refine pz_iload dL_law_767 rfl ?_
  refine pz_if_ne 784 dL_law_769 (by decide) (fun _ => ?_) (fun c_ => absurd c_ (by decide))
  refine pz_goto (tgt := 1493) dL_law_784 (by decide) ?_
  exact pz_lk [(0, .ref b), (4, .int 0)] ⟨rfl, rfl, trivial⟩ (lw_end (Nat.le_of_ble_eq_true rfl) (Nat.le_of_ble_eq_true rfl))
theorem lo_coveredBy {r : Int32} (hC : SpR1 l G mX10_coveredBy [.ref (adX 0), .int (xs 1)] adX LX [] (rtM G adM σM ow f) σX (fun v _ => v = .int r)) (hM : ∀ τ g, SpR1 l G mX11_coveredBy [.ref (adM 0), .int (xs 1)] adM LM (cellsE G adX LX τ LX.1 0) [outC G ow g] σM (fun v ρ => v = .int r ∧ ρ.1 0 3 = 0)) : PZ (XL b 4 xs) QL l G mL_law [] sz 787 [(0, .ref b), (1, .ref (adX 0)), (2, .ref (adM 0)), (3, .ref ow), (4, .int 0)] [] 140 3622 (wp G adX LX [] (rtM G adM σM ow f) σX) := by
  refine pz_aload_n dL_law_787 rfl ?_
  refine pz_aload_n dL_law_788 rfl ?_
  refine pz_iload dL_law_789 rfl ?_
  refine pz_iconst (v := 1) dL_law_791 rfl ?_
  refine pz_iadd dL_law_792 ?_
  refine pz_sld dL_law_793 (by unfold vp_in; decide) ?_
  refine pz_top (xs 1) (congrArg xs (by decide)) ?_
  refine pz_aload_n dL_law_794 rfl ?_
  refine pz_callW (mi' := mL_coveredBy) (hh := hhL_coveredBy) (As := [.ref (adX 0), .int (xs 1), .ref ow]) dL_law_795 (tw_in 953 (by decide +kernel) (by decide +kernel)) mw_coveredBy ⟨by decide, by decide⟩ rfl rfl (Nat.le_of_ble_eq_true rfl) (wo_coveredBy (p := 22) rt_at (xs 1) (Qs := fun _ => True) (r1_mono hC (fun v τ h => ⟨h, trivial⟩))) ⟨Nat.le_of_ble_eq_true rfl, Nat.le_of_ble_eq_true rfl⟩ (fun v ws1 hv => ?_)
  obtain ⟨τ, hv, -⟩ := hv
  cases hv
  refine pz_kn 141 3628 rfl rfl ?_
  refine pz_ws (ws' := wp G adM LM (cellsE G adX LX τ LX.1 0) [outC G ow (vp_updL f 0 r.toInt64)] σM) (by rw [rt_set]; rfl) ?_
  refine pz_istore dL_law_798 (by decide) ?_
  refine pz_aload_n dL_law_800 rfl ?_
  refine pz_aload_n dL_law_801 rfl ?_
  refine pz_iload dL_law_802 rfl ?_
  refine pz_iconst (v := 1) dL_law_804 rfl ?_
  refine pz_iadd dL_law_805 ?_
  refine pz_sld dL_law_806 (by unfold vp_in; decide) ?_
  refine pz_top (xs 1) (congrArg xs (by decide)) ?_
  refine pz_rV1 (mi' := mX11_coveredBy) (As := [.int (xs 1)]) (q := (RX11, TX11, 33)) dL_law_807 lk_RL_126 mk_X11_coveredBy mi_X11_coveredBy me_X11_coveredBy ⟨by decide, by decide⟩ rfl rfl (Nat.le_of_ble_eq_true rfl) rfl rfl ⟨Nat.le_of_ble_eq_true rfl, Nat.le_of_ble_eq_true rfl⟩ (hM τ _) (fun v ρ hq => ?_)
  obtain ⟨hq, hth⟩ := hq
  subst hq
  refine pz_kn 141 3628 rfl rfl ?_
  refine pz_istore dL_law_810 (by decide) ?_
  refine pz_aload_n dL_law_812 rfl ?_
  refine pz_rV1 (mi' := mX11_thrown) (As := []) (q := (RX11, TX11, 33)) dL_law_813 lk_RL_82 mk_X11_thrown mi_X11_thrown me_X11_thrown ⟨by decide, by decide⟩ rfl rfl (Nat.le_of_ble_eq_true rfl) rfl rfl ⟨Nat.le_of_ble_eq_true rfl, Nat.le_of_ble_eq_true rfl⟩ (specD_r1 (Q := fun v τ => v = .int 0 ∧ τ = ρ) r_thrown ⟨congrArg Value.int hth, rfl⟩) (fun v ρ2 hq => ?_)
  obtain ⟨hq, hρ⟩ := hq
  subst hq
  subst hρ
  refine pz_kn 141 3628 rfl rfl ?_
  refine pz_iload dL_law_816 rfl ?_
  refine pz_icmp_eq 823 dL_law_818 (by decide) (fun _ => ?_) (fun c_ => absurd rfl c_)
  refine pz_iload dL_law_823 rfl ?_
  refine pz_if_ne 840 dL_law_825 (by decide) (fun c_ => absurd rfl c_) (fun _ => ?_)
  refine pz_aload_n dL_law_828 rfl ?_
  refine pz_iconst (v := 0) dL_law_829 rfl ?_
  refine pz_lald dL_law_830 ((cellsE G adX LX τ LX.1 0).length + (LM.1.length + 0)) (wp_rt rfl) (vp_in_nI (n := 0) (by decide) (by decide)) ?_
  refine pz_iload dL_law_831 rfl ?_
  refine pz_i2l dL_law_833 ?_
  refine pz_lcmp dL_law_834 ?_
  refine pz_if_eq 840 dL_law_835 (by decide) (fun _ => ?_) (fun c_ => absurd (lg_cmp_self _) c_)
  refine pz_goto (tgt := 1493) dL_law_840 (by decide) ?_
  exact pz_lk [(0, .ref b), (4, .int 0)] ⟨rfl, rfl, trivial⟩ (lw_end (Nat.le_of_ble_eq_true rfl) (Nat.le_of_ble_eq_true rfl))
theorem lt1_coveredBy (hC : SpecT l G mX10_coveredBy [.ref (adX 0), .int (xs 1)] (wp G adX LX [] (rtM G adM σM ow f) σX) "java/lang/IndexOutOfBoundsException" (wp G adX LX [] (rtM G adM σM ow f) σX)) (hM : SpR1 l G mX11_coveredBy [.ref (adM 0), .int (xs 1)] adM LM (cellsE G adX LX σX LX.1 0) [outC G ow f] σM (fun v ρ => (∃ bb, v = .int bb) ∧ ρ.1 0 3 = 1)) : PZ (XL b 4 xs) QL l G mL_law [] sz 787 [(0, .ref b), (1, .ref (adX 0)), (2, .ref (adM 0)), (3, .ref ow), (4, .int 0)] [] 140 3622 (wp G adX LX [] (rtM G adM σM ow f) σX) := by
  refine pz_aload_n dL_law_787 rfl ?_
  refine pz_aload_n dL_law_788 rfl ?_
  refine pz_iload dL_law_789 rfl ?_
  refine pz_iconst (v := 1) dL_law_791 rfl ?_
  refine pz_iadd dL_law_792 ?_
  refine pz_sld dL_law_793 (by unfold vp_in; decide) ?_
  refine pz_top (xs 1) (congrArg xs (by decide)) ?_
  refine pz_aload_n dL_law_794 rfl ?_
  refine pz_callW (mi' := mL_coveredBy) (hh := hhL_coveredBy) (As := [.ref (adX 0), .int (xs 1), .ref ow]) dL_law_795 (tw_in 953 (by decide +kernel) (by decide +kernel)) mw_coveredBy ⟨by decide, by decide⟩ rfl rfl (Nat.le_of_ble_eq_true rfl) (wt1_coveredBy (xs 1) hC) ⟨Nat.le_of_ble_eq_true rfl, Nat.le_of_ble_eq_true rfl⟩ (fun v ws1 hv => ?_)
  cases hv
  refine pz_kn 141 3628 rfl rfl ?_
  refine pz_ws (ws' := wp G adM LM (cellsE G adX LX σX LX.1 0) [outC G ow f] σM) rfl ?_
  refine pz_istore dL_law_798 (by decide) ?_
  refine pz_aload_n dL_law_800 rfl ?_
  refine pz_aload_n dL_law_801 rfl ?_
  refine pz_iload dL_law_802 rfl ?_
  refine pz_iconst (v := 1) dL_law_804 rfl ?_
  refine pz_iadd dL_law_805 ?_
  refine pz_sld dL_law_806 (by unfold vp_in; decide) ?_
  refine pz_top (xs 1) (congrArg xs (by decide)) ?_
  refine pz_rV1 (mi' := mX11_coveredBy) (As := [.int (xs 1)]) (q := (RX11, TX11, 33)) dL_law_807 lk_RL_126 mk_X11_coveredBy mi_X11_coveredBy me_X11_coveredBy ⟨by decide, by decide⟩ rfl rfl (Nat.le_of_ble_eq_true rfl) rfl rfl ⟨Nat.le_of_ble_eq_true rfl, Nat.le_of_ble_eq_true rfl⟩ hM (fun v ρ hq => ?_)
  obtain ⟨⟨bb, hq⟩, hth⟩ := hq
  subst hq
  refine pz_kn 141 3628 rfl rfl ?_
  refine pz_istore dL_law_810 (by decide) ?_
  refine pz_aload_n dL_law_812 rfl ?_
  refine pz_rV1 (mi' := mX11_thrown) (As := []) (q := (RX11, TX11, 33)) dL_law_813 lk_RL_82 mk_X11_thrown mi_X11_thrown me_X11_thrown ⟨by decide, by decide⟩ rfl rfl (Nat.le_of_ble_eq_true rfl) rfl rfl ⟨Nat.le_of_ble_eq_true rfl, Nat.le_of_ble_eq_true rfl⟩ (specD_r1 (Q := fun v τ => v = .int 1 ∧ τ = ρ) r_thrown ⟨congrArg Value.int hth, rfl⟩) (fun v ρ2 hq => ?_)
  obtain ⟨hq, hρ⟩ := hq
  subst hq
  subst hρ
  refine pz_kn 141 3628 rfl rfl ?_
  refine pz_iload dL_law_816 rfl ?_
  refine pz_icmp_eq 823 dL_law_818 (by decide) (fun _ => ?_) (fun c_ => absurd rfl c_)
  refine pz_iload dL_law_823 rfl ?_
  refine pz_if_ne 840 dL_law_825 (by decide) (fun _ => ?_) (fun c_ => absurd c_ (by decide))
  refine pz_goto (tgt := 1493) dL_law_840 (by decide) ?_
  exact pz_lk [(0, .ref b), (4, .int 0)] ⟨rfl, rfl, trivial⟩ (lw_end (Nat.le_of_ble_eq_true rfl) (Nat.le_of_ble_eq_true rfl))
theorem lo_range (z : Bool) (hz : if z = true then ¬ xs 2 = 0 else xs 2 = 0) {r : Int64} (hC : SpR1 l G mX10_range [.ref (adX 0), .int (xs 1), .int (bI z)] adX LX [] (rtM G adM σM ow f) σX (fun v _ => v = .long r)) (hM : ∀ τ g, SpR1 l G mX11_range [.ref (adM 0), .int (xs 1), .int (bI z)] adM LM (cellsE G adX LX τ LX.1 0) [outC G ow g] σM (fun v ρ => v = .long r ∧ ρ.1 0 3 = 0)) : PZ (XL b 4 xs) QL l G mL_law [] sz 843 [(0, .ref b), (1, .ref (adX 0)), (2, .ref (adM 0)), (3, .ref ow), (4, .int 0)] [] 140 3622 (wp G adX LX [] (rtM G adM σM ow f) σX) := by
  cases z
  · have hz : xs 2 = 0 := by simpa using hz
    refine pz_aload_n dL_law_843 rfl ?_
    refine pz_aload_n dL_law_844 rfl ?_
    refine pz_iload dL_law_845 rfl ?_
    refine pz_iconst (v := 1) dL_law_847 rfl ?_
    refine pz_iadd dL_law_848 ?_
    refine pz_sld dL_law_849 (by unfold vp_in; decide) ?_
    refine pz_top (xs 1) (congrArg xs (by decide)) ?_
    refine pz_aload_n dL_law_850 rfl ?_
    refine pz_iload dL_law_851 rfl ?_
    refine pz_iconst (v := 2) dL_law_853 rfl ?_
    refine pz_iadd dL_law_854 ?_
    refine pz_sld dL_law_855 (by unfold vp_in; decide) ?_
    refine pz_top (xs 2) (congrArg xs (by decide)) ?_
    refine pz_if_eq 863 dL_law_856 (by decide) (fun c_ => ?_) (fun c_ => absurd hz c_)
    refine pz_iconst (v := 0) dL_law_863 rfl ?_
    refine pz_aload_n dL_law_864 rfl ?_
    refine pz_callW (mi' := mL_range) (hh := hhL_range) (As := [.ref (adX 0), .int (xs 1), .int (0), .ref ow]) dL_law_865 (tw_in 960 (by decide +kernel) (by decide +kernel)) mw_range ⟨by decide, by decide⟩ rfl rfl (Nat.le_of_ble_eq_true rfl) (wo_range (p := 22) rt_at (xs 1) (0) (Qs := fun _ => True) (r1_mono hC (fun v τ h => ⟨h, trivial⟩))) ⟨Nat.le_of_ble_eq_true rfl, Nat.le_of_ble_eq_true rfl⟩ (fun v ws1 hv => ?_)
    obtain ⟨τ, hv, -⟩ := hv
    cases hv
    refine pz_kn 142 3634 rfl rfl ?_
    refine pz_ws (ws' := wp G adM LM (cellsE G adX LX τ LX.1 0) [outC G ow (vp_updL f 0 r)] σM) (by rw [rt_set]; rfl) ?_
    refine pz_istore dL_law_868 (by decide) ?_
    refine pz_aload_n dL_law_870 rfl ?_
    refine pz_aload_n dL_law_871 rfl ?_
    refine pz_iload dL_law_872 rfl ?_
    refine pz_iconst (v := 1) dL_law_874 rfl ?_
    refine pz_iadd dL_law_875 ?_
    refine pz_sld dL_law_876 (by unfold vp_in; decide) ?_
    refine pz_top (xs 1) (congrArg xs (by decide)) ?_
    refine pz_aload_n dL_law_877 rfl ?_
    refine pz_iload dL_law_878 rfl ?_
    refine pz_iconst (v := 2) dL_law_880 rfl ?_
    refine pz_iadd dL_law_881 ?_
    refine pz_sld dL_law_882 (by unfold vp_in; decide) ?_
    refine pz_top (xs 2) (congrArg xs (by decide)) ?_
    refine pz_if_eq 890 dL_law_883 (by decide) (fun c_ => ?_) (fun c_ => absurd hz c_)
    refine pz_iconst (v := 0) dL_law_890 rfl ?_
    refine pz_rV1 (mi' := mX11_range) (As := [.int (xs 1), .int (0)]) (q := (RX11, TX11, 33)) dL_law_891 lk_RL_129 mk_X11_range mi_X11_range me_X11_range ⟨by decide, by decide⟩ rfl rfl (Nat.le_of_ble_eq_true rfl) rfl rfl ⟨Nat.le_of_ble_eq_true rfl, Nat.le_of_ble_eq_true rfl⟩ (hM τ _) (fun v ρ hq => ?_)
    obtain ⟨hq, hth⟩ := hq
    subst hq
    refine pz_kn 142 3634 rfl rfl ?_
    refine pz_lstore dL_law_894 (by decide) ?_
    refine pz_aload_n dL_law_896 rfl ?_
    refine pz_rV1 (mi' := mX11_thrown) (As := []) (q := (RX11, TX11, 33)) dL_law_897 lk_RL_82 mk_X11_thrown mi_X11_thrown me_X11_thrown ⟨by decide, by decide⟩ rfl rfl (Nat.le_of_ble_eq_true rfl) rfl rfl ⟨Nat.le_of_ble_eq_true rfl, Nat.le_of_ble_eq_true rfl⟩ (specD_r1 (Q := fun v τ => v = .int 0 ∧ τ = ρ) r_thrown ⟨congrArg Value.int hth, rfl⟩) (fun v ρ2 hq => ?_)
    obtain ⟨hq, hρ⟩ := hq
    subst hq
    subst hρ
    refine pz_kn 142 3634 rfl rfl ?_
    refine pz_iload dL_law_900 rfl ?_
    refine pz_icmp_eq 907 dL_law_902 (by decide) (fun _ => ?_) (fun c_ => absurd rfl c_)
    refine pz_iload dL_law_907 rfl ?_
    refine pz_if_ne 923 dL_law_909 (by decide) (fun c_ => absurd rfl c_) (fun _ => ?_)
    refine pz_aload_n dL_law_912 rfl ?_
    refine pz_iconst (v := 0) dL_law_913 rfl ?_
    refine pz_lald dL_law_914 ((cellsE G adX LX τ LX.1 0).length + (LM.1.length + 0)) (wp_rt rfl) (vp_in_nI (n := 0) (by decide) (by decide)) ?_
    refine pz_lload dL_law_915 rfl ?_
    refine pz_lcmp dL_law_917 ?_
    refine pz_if_eq 923 dL_law_918 (by decide) (fun _ => ?_) (fun c_ => absurd (lg_cmp_self _) c_)
    refine pz_goto (tgt := 1493) dL_law_923 (by decide) ?_
    exact pz_lk [(0, .ref b), (4, .int 0)] ⟨rfl, rfl, trivial⟩ (lw_end (Nat.le_of_ble_eq_true rfl) (Nat.le_of_ble_eq_true rfl))
  · have hz : ¬ xs 2 = 0 := by simpa using hz
    refine pz_aload_n dL_law_843 rfl ?_
    refine pz_aload_n dL_law_844 rfl ?_
    refine pz_iload dL_law_845 rfl ?_
    refine pz_iconst (v := 1) dL_law_847 rfl ?_
    refine pz_iadd dL_law_848 ?_
    refine pz_sld dL_law_849 (by unfold vp_in; decide) ?_
    refine pz_top (xs 1) (congrArg xs (by decide)) ?_
    refine pz_aload_n dL_law_850 rfl ?_
    refine pz_iload dL_law_851 rfl ?_
    refine pz_iconst (v := 2) dL_law_853 rfl ?_
    refine pz_iadd dL_law_854 ?_
    refine pz_sld dL_law_855 (by unfold vp_in; decide) ?_
    refine pz_top (xs 2) (congrArg xs (by decide)) ?_
    refine pz_if_eq 863 dL_law_856 (by decide) (fun c_ => absurd c_ hz) (fun c_ => ?_)
    refine pz_iconst (v := 1) dL_law_859 rfl ?_
    refine pz_goto (tgt := 864) dL_law_860 (by decide) ?_
    refine pz_aload_n dL_law_864 rfl ?_
    refine pz_callW (mi' := mL_range) (hh := hhL_range) (As := [.ref (adX 0), .int (xs 1), .int (1), .ref ow]) dL_law_865 (tw_in 960 (by decide +kernel) (by decide +kernel)) mw_range ⟨by decide, by decide⟩ rfl rfl (Nat.le_of_ble_eq_true rfl) (wo_range (p := 22) rt_at (xs 1) (1) (Qs := fun _ => True) (r1_mono hC (fun v τ h => ⟨h, trivial⟩))) ⟨Nat.le_of_ble_eq_true rfl, Nat.le_of_ble_eq_true rfl⟩ (fun v ws1 hv => ?_)
    obtain ⟨τ, hv, -⟩ := hv
    cases hv
    refine pz_kn 142 3634 rfl rfl ?_
    refine pz_ws (ws' := wp G adM LM (cellsE G adX LX τ LX.1 0) [outC G ow (vp_updL f 0 r)] σM) (by rw [rt_set]; rfl) ?_
    refine pz_istore dL_law_868 (by decide) ?_
    refine pz_aload_n dL_law_870 rfl ?_
    refine pz_aload_n dL_law_871 rfl ?_
    refine pz_iload dL_law_872 rfl ?_
    refine pz_iconst (v := 1) dL_law_874 rfl ?_
    refine pz_iadd dL_law_875 ?_
    refine pz_sld dL_law_876 (by unfold vp_in; decide) ?_
    refine pz_top (xs 1) (congrArg xs (by decide)) ?_
    refine pz_aload_n dL_law_877 rfl ?_
    refine pz_iload dL_law_878 rfl ?_
    refine pz_iconst (v := 2) dL_law_880 rfl ?_
    refine pz_iadd dL_law_881 ?_
    refine pz_sld dL_law_882 (by unfold vp_in; decide) ?_
    refine pz_top (xs 2) (congrArg xs (by decide)) ?_
    refine pz_if_eq 890 dL_law_883 (by decide) (fun c_ => absurd c_ hz) (fun c_ => ?_)
    refine pz_iconst (v := 1) dL_law_886 rfl ?_
    refine pz_goto (tgt := 891) dL_law_887 (by decide) ?_
    refine pz_rV1 (mi' := mX11_range) (As := [.int (xs 1), .int (1)]) (q := (RX11, TX11, 33)) dL_law_891 lk_RL_129 mk_X11_range mi_X11_range me_X11_range ⟨by decide, by decide⟩ rfl rfl (Nat.le_of_ble_eq_true rfl) rfl rfl ⟨Nat.le_of_ble_eq_true rfl, Nat.le_of_ble_eq_true rfl⟩ (hM τ _) (fun v ρ hq => ?_)
    obtain ⟨hq, hth⟩ := hq
    subst hq
    refine pz_kn 142 3634 rfl rfl ?_
    refine pz_lstore dL_law_894 (by decide) ?_
    refine pz_aload_n dL_law_896 rfl ?_
    refine pz_rV1 (mi' := mX11_thrown) (As := []) (q := (RX11, TX11, 33)) dL_law_897 lk_RL_82 mk_X11_thrown mi_X11_thrown me_X11_thrown ⟨by decide, by decide⟩ rfl rfl (Nat.le_of_ble_eq_true rfl) rfl rfl ⟨Nat.le_of_ble_eq_true rfl, Nat.le_of_ble_eq_true rfl⟩ (specD_r1 (Q := fun v τ => v = .int 0 ∧ τ = ρ) r_thrown ⟨congrArg Value.int hth, rfl⟩) (fun v ρ2 hq => ?_)
    obtain ⟨hq, hρ⟩ := hq
    subst hq
    subst hρ
    refine pz_kn 142 3634 rfl rfl ?_
    refine pz_iload dL_law_900 rfl ?_
    refine pz_icmp_eq 907 dL_law_902 (by decide) (fun _ => ?_) (fun c_ => absurd rfl c_)
    refine pz_iload dL_law_907 rfl ?_
    refine pz_if_ne 923 dL_law_909 (by decide) (fun c_ => absurd rfl c_) (fun _ => ?_)
    refine pz_aload_n dL_law_912 rfl ?_
    refine pz_iconst (v := 0) dL_law_913 rfl ?_
    refine pz_lald dL_law_914 ((cellsE G adX LX τ LX.1 0).length + (LM.1.length + 0)) (wp_rt rfl) (vp_in_nI (n := 0) (by decide) (by decide)) ?_
    refine pz_lload dL_law_915 rfl ?_
    refine pz_lcmp dL_law_917 ?_
    refine pz_if_eq 923 dL_law_918 (by decide) (fun _ => ?_) (fun c_ => absurd (lg_cmp_self _) c_)
    refine pz_goto (tgt := 1493) dL_law_923 (by decide) ?_
    exact pz_lk [(0, .ref b), (4, .int 0)] ⟨rfl, rfl, trivial⟩ (lw_end (Nat.le_of_ble_eq_true rfl) (Nat.le_of_ble_eq_true rfl))
theorem lt1_range (z : Bool) (hz : if z = true then ¬ xs 2 = 0 else xs 2 = 0) (hC : SpecT l G mX10_range [.ref (adX 0), .int (xs 1), .int (bI z)] (wp G adX LX [] (rtM G adM σM ow f) σX) "java/lang/IndexOutOfBoundsException" (wp G adX LX [] (rtM G adM σM ow f) σX)) (hM : SpR1 l G mX11_range [.ref (adM 0), .int (xs 1), .int (bI z)] adM LM (cellsE G adX LX σX LX.1 0) [outC G ow f] σM (fun v ρ => (∃ bb, v = .long bb) ∧ ρ.1 0 3 = 1)) : PZ (XL b 4 xs) QL l G mL_law [] sz 843 [(0, .ref b), (1, .ref (adX 0)), (2, .ref (adM 0)), (3, .ref ow), (4, .int 0)] [] 140 3622 (wp G adX LX [] (rtM G adM σM ow f) σX) := by
  cases z
  · have hz : xs 2 = 0 := by simpa using hz
    refine pz_aload_n dL_law_843 rfl ?_
    refine pz_aload_n dL_law_844 rfl ?_
    refine pz_iload dL_law_845 rfl ?_
    refine pz_iconst (v := 1) dL_law_847 rfl ?_
    refine pz_iadd dL_law_848 ?_
    refine pz_sld dL_law_849 (by unfold vp_in; decide) ?_
    refine pz_top (xs 1) (congrArg xs (by decide)) ?_
    refine pz_aload_n dL_law_850 rfl ?_
    refine pz_iload dL_law_851 rfl ?_
    refine pz_iconst (v := 2) dL_law_853 rfl ?_
    refine pz_iadd dL_law_854 ?_
    refine pz_sld dL_law_855 (by unfold vp_in; decide) ?_
    refine pz_top (xs 2) (congrArg xs (by decide)) ?_
    refine pz_if_eq 863 dL_law_856 (by decide) (fun c_ => ?_) (fun c_ => absurd hz c_)
    refine pz_iconst (v := 0) dL_law_863 rfl ?_
    refine pz_aload_n dL_law_864 rfl ?_
    refine pz_callW (mi' := mL_range) (hh := hhL_range) (As := [.ref (adX 0), .int (xs 1), .int (0), .ref ow]) dL_law_865 (tw_in 960 (by decide +kernel) (by decide +kernel)) mw_range ⟨by decide, by decide⟩ rfl rfl (Nat.le_of_ble_eq_true rfl) (wt1_range (xs 1) (0) hC) ⟨Nat.le_of_ble_eq_true rfl, Nat.le_of_ble_eq_true rfl⟩ (fun v ws1 hv => ?_)
    cases hv
    refine pz_kn 142 3634 rfl rfl ?_
    refine pz_ws (ws' := wp G adM LM (cellsE G adX LX σX LX.1 0) [outC G ow f] σM) rfl ?_
    refine pz_istore dL_law_868 (by decide) ?_
    refine pz_aload_n dL_law_870 rfl ?_
    refine pz_aload_n dL_law_871 rfl ?_
    refine pz_iload dL_law_872 rfl ?_
    refine pz_iconst (v := 1) dL_law_874 rfl ?_
    refine pz_iadd dL_law_875 ?_
    refine pz_sld dL_law_876 (by unfold vp_in; decide) ?_
    refine pz_top (xs 1) (congrArg xs (by decide)) ?_
    refine pz_aload_n dL_law_877 rfl ?_
    refine pz_iload dL_law_878 rfl ?_
    refine pz_iconst (v := 2) dL_law_880 rfl ?_
    refine pz_iadd dL_law_881 ?_
    refine pz_sld dL_law_882 (by unfold vp_in; decide) ?_
    refine pz_top (xs 2) (congrArg xs (by decide)) ?_
    refine pz_if_eq 890 dL_law_883 (by decide) (fun c_ => ?_) (fun c_ => absurd hz c_)
    refine pz_iconst (v := 0) dL_law_890 rfl ?_
    refine pz_rV1 (mi' := mX11_range) (As := [.int (xs 1), .int (0)]) (q := (RX11, TX11, 33)) dL_law_891 lk_RL_129 mk_X11_range mi_X11_range me_X11_range ⟨by decide, by decide⟩ rfl rfl (Nat.le_of_ble_eq_true rfl) rfl rfl ⟨Nat.le_of_ble_eq_true rfl, Nat.le_of_ble_eq_true rfl⟩ hM (fun v ρ hq => ?_)
    obtain ⟨⟨bb, hq⟩, hth⟩ := hq
    subst hq
    refine pz_kn 142 3634 rfl rfl ?_
    refine pz_lstore dL_law_894 (by decide) ?_
    refine pz_aload_n dL_law_896 rfl ?_
    refine pz_rV1 (mi' := mX11_thrown) (As := []) (q := (RX11, TX11, 33)) dL_law_897 lk_RL_82 mk_X11_thrown mi_X11_thrown me_X11_thrown ⟨by decide, by decide⟩ rfl rfl (Nat.le_of_ble_eq_true rfl) rfl rfl ⟨Nat.le_of_ble_eq_true rfl, Nat.le_of_ble_eq_true rfl⟩ (specD_r1 (Q := fun v τ => v = .int 1 ∧ τ = ρ) r_thrown ⟨congrArg Value.int hth, rfl⟩) (fun v ρ2 hq => ?_)
    obtain ⟨hq, hρ⟩ := hq
    subst hq
    subst hρ
    refine pz_kn 142 3634 rfl rfl ?_
    refine pz_iload dL_law_900 rfl ?_
    refine pz_icmp_eq 907 dL_law_902 (by decide) (fun _ => ?_) (fun c_ => absurd rfl c_)
    refine pz_iload dL_law_907 rfl ?_
    refine pz_if_ne 923 dL_law_909 (by decide) (fun _ => ?_) (fun c_ => absurd c_ (by decide))
    refine pz_goto (tgt := 1493) dL_law_923 (by decide) ?_
    exact pz_lk [(0, .ref b), (4, .int 0)] ⟨rfl, rfl, trivial⟩ (lw_end (Nat.le_of_ble_eq_true rfl) (Nat.le_of_ble_eq_true rfl))
  · have hz : ¬ xs 2 = 0 := by simpa using hz
    refine pz_aload_n dL_law_843 rfl ?_
    refine pz_aload_n dL_law_844 rfl ?_
    refine pz_iload dL_law_845 rfl ?_
    refine pz_iconst (v := 1) dL_law_847 rfl ?_
    refine pz_iadd dL_law_848 ?_
    refine pz_sld dL_law_849 (by unfold vp_in; decide) ?_
    refine pz_top (xs 1) (congrArg xs (by decide)) ?_
    refine pz_aload_n dL_law_850 rfl ?_
    refine pz_iload dL_law_851 rfl ?_
    refine pz_iconst (v := 2) dL_law_853 rfl ?_
    refine pz_iadd dL_law_854 ?_
    refine pz_sld dL_law_855 (by unfold vp_in; decide) ?_
    refine pz_top (xs 2) (congrArg xs (by decide)) ?_
    refine pz_if_eq 863 dL_law_856 (by decide) (fun c_ => absurd c_ hz) (fun c_ => ?_)
    refine pz_iconst (v := 1) dL_law_859 rfl ?_
    refine pz_goto (tgt := 864) dL_law_860 (by decide) ?_
    refine pz_aload_n dL_law_864 rfl ?_
    refine pz_callW (mi' := mL_range) (hh := hhL_range) (As := [.ref (adX 0), .int (xs 1), .int (1), .ref ow]) dL_law_865 (tw_in 960 (by decide +kernel) (by decide +kernel)) mw_range ⟨by decide, by decide⟩ rfl rfl (Nat.le_of_ble_eq_true rfl) (wt1_range (xs 1) (1) hC) ⟨Nat.le_of_ble_eq_true rfl, Nat.le_of_ble_eq_true rfl⟩ (fun v ws1 hv => ?_)
    cases hv
    refine pz_kn 142 3634 rfl rfl ?_
    refine pz_ws (ws' := wp G adM LM (cellsE G adX LX σX LX.1 0) [outC G ow f] σM) rfl ?_
    refine pz_istore dL_law_868 (by decide) ?_
    refine pz_aload_n dL_law_870 rfl ?_
    refine pz_aload_n dL_law_871 rfl ?_
    refine pz_iload dL_law_872 rfl ?_
    refine pz_iconst (v := 1) dL_law_874 rfl ?_
    refine pz_iadd dL_law_875 ?_
    refine pz_sld dL_law_876 (by unfold vp_in; decide) ?_
    refine pz_top (xs 1) (congrArg xs (by decide)) ?_
    refine pz_aload_n dL_law_877 rfl ?_
    refine pz_iload dL_law_878 rfl ?_
    refine pz_iconst (v := 2) dL_law_880 rfl ?_
    refine pz_iadd dL_law_881 ?_
    refine pz_sld dL_law_882 (by unfold vp_in; decide) ?_
    refine pz_top (xs 2) (congrArg xs (by decide)) ?_
    refine pz_if_eq 890 dL_law_883 (by decide) (fun c_ => absurd c_ hz) (fun c_ => ?_)
    refine pz_iconst (v := 1) dL_law_886 rfl ?_
    refine pz_goto (tgt := 891) dL_law_887 (by decide) ?_
    refine pz_rV1 (mi' := mX11_range) (As := [.int (xs 1), .int (1)]) (q := (RX11, TX11, 33)) dL_law_891 lk_RL_129 mk_X11_range mi_X11_range me_X11_range ⟨by decide, by decide⟩ rfl rfl (Nat.le_of_ble_eq_true rfl) rfl rfl ⟨Nat.le_of_ble_eq_true rfl, Nat.le_of_ble_eq_true rfl⟩ hM (fun v ρ hq => ?_)
    obtain ⟨⟨bb, hq⟩, hth⟩ := hq
    subst hq
    refine pz_kn 142 3634 rfl rfl ?_
    refine pz_lstore dL_law_894 (by decide) ?_
    refine pz_aload_n dL_law_896 rfl ?_
    refine pz_rV1 (mi' := mX11_thrown) (As := []) (q := (RX11, TX11, 33)) dL_law_897 lk_RL_82 mk_X11_thrown mi_X11_thrown me_X11_thrown ⟨by decide, by decide⟩ rfl rfl (Nat.le_of_ble_eq_true rfl) rfl rfl ⟨Nat.le_of_ble_eq_true rfl, Nat.le_of_ble_eq_true rfl⟩ (specD_r1 (Q := fun v τ => v = .int 1 ∧ τ = ρ) r_thrown ⟨congrArg Value.int hth, rfl⟩) (fun v ρ2 hq => ?_)
    obtain ⟨hq, hρ⟩ := hq
    subst hq
    subst hρ
    refine pz_kn 142 3634 rfl rfl ?_
    refine pz_iload dL_law_900 rfl ?_
    refine pz_icmp_eq 907 dL_law_902 (by decide) (fun _ => ?_) (fun c_ => absurd rfl c_)
    refine pz_iload dL_law_907 rfl ?_
    refine pz_if_ne 923 dL_law_909 (by decide) (fun _ => ?_) (fun c_ => absurd c_ (by decide))
    refine pz_goto (tgt := 1493) dL_law_923 (by decide) ?_
    exact pz_lk [(0, .ref b), (4, .int 0)] ⟨rfl, rfl, trivial⟩ (lw_end (Nat.le_of_ble_eq_true rfl) (Nat.le_of_ble_eq_true rfl))
theorem lt2_range (z : Bool) (hz : if z = true then ¬ xs 2 = 0 else xs 2 = 0) (hC : SpecT l G mX10_range [.ref (adX 0), .int (xs 1), .int (bI z)] (wp G adX LX [] (rtM G adM σM ow f) σX) "java/lang/IllegalStateException" (wp G adX LX [] (rtM G adM σM ow f) σX)) (hM : SpR1 l G mX11_range [.ref (adM 0), .int (xs 1), .int (bI z)] adM LM (cellsE G adX LX σX LX.1 0) [outC G ow f] σM (fun v ρ => (∃ bb, v = .long bb) ∧ ρ.1 0 3 = 2)) : PZ (XL b 4 xs) QL l G mL_law [] sz 843 [(0, .ref b), (1, .ref (adX 0)), (2, .ref (adM 0)), (3, .ref ow), (4, .int 0)] [] 140 3622 (wp G adX LX [] (rtM G adM σM ow f) σX) := by
  cases z
  · have hz : xs 2 = 0 := by simpa using hz
    refine pz_aload_n dL_law_843 rfl ?_
    refine pz_aload_n dL_law_844 rfl ?_
    refine pz_iload dL_law_845 rfl ?_
    refine pz_iconst (v := 1) dL_law_847 rfl ?_
    refine pz_iadd dL_law_848 ?_
    refine pz_sld dL_law_849 (by unfold vp_in; decide) ?_
    refine pz_top (xs 1) (congrArg xs (by decide)) ?_
    refine pz_aload_n dL_law_850 rfl ?_
    refine pz_iload dL_law_851 rfl ?_
    refine pz_iconst (v := 2) dL_law_853 rfl ?_
    refine pz_iadd dL_law_854 ?_
    refine pz_sld dL_law_855 (by unfold vp_in; decide) ?_
    refine pz_top (xs 2) (congrArg xs (by decide)) ?_
    refine pz_if_eq 863 dL_law_856 (by decide) (fun c_ => ?_) (fun c_ => absurd hz c_)
    refine pz_iconst (v := 0) dL_law_863 rfl ?_
    refine pz_aload_n dL_law_864 rfl ?_
    refine pz_callW (mi' := mL_range) (hh := hhL_range) (As := [.ref (adX 0), .int (xs 1), .int (0), .ref ow]) dL_law_865 (tw_in 960 (by decide +kernel) (by decide +kernel)) mw_range ⟨by decide, by decide⟩ rfl rfl (Nat.le_of_ble_eq_true rfl) (wt2_range (xs 1) (0) hC) ⟨Nat.le_of_ble_eq_true rfl, Nat.le_of_ble_eq_true rfl⟩ (fun v ws1 hv => ?_)
    cases hv
    refine pz_kn 142 3634 rfl rfl ?_
    refine pz_ws (ws' := wp G adM LM (cellsE G adX LX σX LX.1 0) [outC G ow f] σM) rfl ?_
    refine pz_istore dL_law_868 (by decide) ?_
    refine pz_aload_n dL_law_870 rfl ?_
    refine pz_aload_n dL_law_871 rfl ?_
    refine pz_iload dL_law_872 rfl ?_
    refine pz_iconst (v := 1) dL_law_874 rfl ?_
    refine pz_iadd dL_law_875 ?_
    refine pz_sld dL_law_876 (by unfold vp_in; decide) ?_
    refine pz_top (xs 1) (congrArg xs (by decide)) ?_
    refine pz_aload_n dL_law_877 rfl ?_
    refine pz_iload dL_law_878 rfl ?_
    refine pz_iconst (v := 2) dL_law_880 rfl ?_
    refine pz_iadd dL_law_881 ?_
    refine pz_sld dL_law_882 (by unfold vp_in; decide) ?_
    refine pz_top (xs 2) (congrArg xs (by decide)) ?_
    refine pz_if_eq 890 dL_law_883 (by decide) (fun c_ => ?_) (fun c_ => absurd hz c_)
    refine pz_iconst (v := 0) dL_law_890 rfl ?_
    refine pz_rV1 (mi' := mX11_range) (As := [.int (xs 1), .int (0)]) (q := (RX11, TX11, 33)) dL_law_891 lk_RL_129 mk_X11_range mi_X11_range me_X11_range ⟨by decide, by decide⟩ rfl rfl (Nat.le_of_ble_eq_true rfl) rfl rfl ⟨Nat.le_of_ble_eq_true rfl, Nat.le_of_ble_eq_true rfl⟩ hM (fun v ρ hq => ?_)
    obtain ⟨⟨bb, hq⟩, hth⟩ := hq
    subst hq
    refine pz_kn 142 3634 rfl rfl ?_
    refine pz_lstore dL_law_894 (by decide) ?_
    refine pz_aload_n dL_law_896 rfl ?_
    refine pz_rV1 (mi' := mX11_thrown) (As := []) (q := (RX11, TX11, 33)) dL_law_897 lk_RL_82 mk_X11_thrown mi_X11_thrown me_X11_thrown ⟨by decide, by decide⟩ rfl rfl (Nat.le_of_ble_eq_true rfl) rfl rfl ⟨Nat.le_of_ble_eq_true rfl, Nat.le_of_ble_eq_true rfl⟩ (specD_r1 (Q := fun v τ => v = .int 2 ∧ τ = ρ) r_thrown ⟨congrArg Value.int hth, rfl⟩) (fun v ρ2 hq => ?_)
    obtain ⟨hq, hρ⟩ := hq
    subst hq
    subst hρ
    refine pz_kn 142 3634 rfl rfl ?_
    refine pz_iload dL_law_900 rfl ?_
    refine pz_icmp_eq 907 dL_law_902 (by decide) (fun _ => ?_) (fun c_ => absurd rfl c_)
    refine pz_iload dL_law_907 rfl ?_
    refine pz_if_ne 923 dL_law_909 (by decide) (fun _ => ?_) (fun c_ => absurd c_ (by decide))
    refine pz_goto (tgt := 1493) dL_law_923 (by decide) ?_
    exact pz_lk [(0, .ref b), (4, .int 0)] ⟨rfl, rfl, trivial⟩ (lw_end (Nat.le_of_ble_eq_true rfl) (Nat.le_of_ble_eq_true rfl))
  · have hz : ¬ xs 2 = 0 := by simpa using hz
    refine pz_aload_n dL_law_843 rfl ?_
    refine pz_aload_n dL_law_844 rfl ?_
    refine pz_iload dL_law_845 rfl ?_
    refine pz_iconst (v := 1) dL_law_847 rfl ?_
    refine pz_iadd dL_law_848 ?_
    refine pz_sld dL_law_849 (by unfold vp_in; decide) ?_
    refine pz_top (xs 1) (congrArg xs (by decide)) ?_
    refine pz_aload_n dL_law_850 rfl ?_
    refine pz_iload dL_law_851 rfl ?_
    refine pz_iconst (v := 2) dL_law_853 rfl ?_
    refine pz_iadd dL_law_854 ?_
    refine pz_sld dL_law_855 (by unfold vp_in; decide) ?_
    refine pz_top (xs 2) (congrArg xs (by decide)) ?_
    refine pz_if_eq 863 dL_law_856 (by decide) (fun c_ => absurd c_ hz) (fun c_ => ?_)
    refine pz_iconst (v := 1) dL_law_859 rfl ?_
    refine pz_goto (tgt := 864) dL_law_860 (by decide) ?_
    refine pz_aload_n dL_law_864 rfl ?_
    refine pz_callW (mi' := mL_range) (hh := hhL_range) (As := [.ref (adX 0), .int (xs 1), .int (1), .ref ow]) dL_law_865 (tw_in 960 (by decide +kernel) (by decide +kernel)) mw_range ⟨by decide, by decide⟩ rfl rfl (Nat.le_of_ble_eq_true rfl) (wt2_range (xs 1) (1) hC) ⟨Nat.le_of_ble_eq_true rfl, Nat.le_of_ble_eq_true rfl⟩ (fun v ws1 hv => ?_)
    cases hv
    refine pz_kn 142 3634 rfl rfl ?_
    refine pz_ws (ws' := wp G adM LM (cellsE G adX LX σX LX.1 0) [outC G ow f] σM) rfl ?_
    refine pz_istore dL_law_868 (by decide) ?_
    refine pz_aload_n dL_law_870 rfl ?_
    refine pz_aload_n dL_law_871 rfl ?_
    refine pz_iload dL_law_872 rfl ?_
    refine pz_iconst (v := 1) dL_law_874 rfl ?_
    refine pz_iadd dL_law_875 ?_
    refine pz_sld dL_law_876 (by unfold vp_in; decide) ?_
    refine pz_top (xs 1) (congrArg xs (by decide)) ?_
    refine pz_aload_n dL_law_877 rfl ?_
    refine pz_iload dL_law_878 rfl ?_
    refine pz_iconst (v := 2) dL_law_880 rfl ?_
    refine pz_iadd dL_law_881 ?_
    refine pz_sld dL_law_882 (by unfold vp_in; decide) ?_
    refine pz_top (xs 2) (congrArg xs (by decide)) ?_
    refine pz_if_eq 890 dL_law_883 (by decide) (fun c_ => absurd c_ hz) (fun c_ => ?_)
    refine pz_iconst (v := 1) dL_law_886 rfl ?_
    refine pz_goto (tgt := 891) dL_law_887 (by decide) ?_
    refine pz_rV1 (mi' := mX11_range) (As := [.int (xs 1), .int (1)]) (q := (RX11, TX11, 33)) dL_law_891 lk_RL_129 mk_X11_range mi_X11_range me_X11_range ⟨by decide, by decide⟩ rfl rfl (Nat.le_of_ble_eq_true rfl) rfl rfl ⟨Nat.le_of_ble_eq_true rfl, Nat.le_of_ble_eq_true rfl⟩ hM (fun v ρ hq => ?_)
    obtain ⟨⟨bb, hq⟩, hth⟩ := hq
    subst hq
    refine pz_kn 142 3634 rfl rfl ?_
    refine pz_lstore dL_law_894 (by decide) ?_
    refine pz_aload_n dL_law_896 rfl ?_
    refine pz_rV1 (mi' := mX11_thrown) (As := []) (q := (RX11, TX11, 33)) dL_law_897 lk_RL_82 mk_X11_thrown mi_X11_thrown me_X11_thrown ⟨by decide, by decide⟩ rfl rfl (Nat.le_of_ble_eq_true rfl) rfl rfl ⟨Nat.le_of_ble_eq_true rfl, Nat.le_of_ble_eq_true rfl⟩ (specD_r1 (Q := fun v τ => v = .int 2 ∧ τ = ρ) r_thrown ⟨congrArg Value.int hth, rfl⟩) (fun v ρ2 hq => ?_)
    obtain ⟨hq, hρ⟩ := hq
    subst hq
    subst hρ
    refine pz_kn 142 3634 rfl rfl ?_
    refine pz_iload dL_law_900 rfl ?_
    refine pz_icmp_eq 907 dL_law_902 (by decide) (fun _ => ?_) (fun c_ => absurd rfl c_)
    refine pz_iload dL_law_907 rfl ?_
    refine pz_if_ne 923 dL_law_909 (by decide) (fun _ => ?_) (fun c_ => absurd c_ (by decide))
    refine pz_goto (tgt := 1493) dL_law_923 (by decide) ?_
    exact pz_lk [(0, .ref b), (4, .int 0)] ⟨rfl, rfl, trivial⟩ (lw_end (Nat.le_of_ble_eq_true rfl) (Nat.le_of_ble_eq_true rfl))
theorem lo_finalRange (z : Bool) (hz : if z = true then ¬ xs 2 = 0 else xs 2 = 0) {r : Int32} (hC : SpR1 l G mX10_finalRange [.ref (adX 0), .int (xs 1), .int (bI z)] adX LX [] (rtM G adM σM ow f) σX (fun v _ => v = .int r)) (hM : ∀ τ g, SpR1 l G mX11_finalRange [.ref (adM 0), .int (xs 1), .int (bI z)] adM LM (cellsE G adX LX τ LX.1 0) [outC G ow g] σM (fun v ρ => v = .int r ∧ ρ.1 0 3 = 0)) : PZ (XL b 4 xs) QL l G mL_law [] sz 926 [(0, .ref b), (1, .ref (adX 0)), (2, .ref (adM 0)), (3, .ref ow), (4, .int 0)] [] 140 3622 (wp G adX LX [] (rtM G adM σM ow f) σX) := by
  cases z
  · have hz : xs 2 = 0 := by simpa using hz
    refine pz_aload_n dL_law_926 rfl ?_
    refine pz_aload_n dL_law_927 rfl ?_
    refine pz_iload dL_law_928 rfl ?_
    refine pz_iconst (v := 1) dL_law_930 rfl ?_
    refine pz_iadd dL_law_931 ?_
    refine pz_sld dL_law_932 (by unfold vp_in; decide) ?_
    refine pz_top (xs 1) (congrArg xs (by decide)) ?_
    refine pz_aload_n dL_law_933 rfl ?_
    refine pz_iload dL_law_934 rfl ?_
    refine pz_iconst (v := 2) dL_law_936 rfl ?_
    refine pz_iadd dL_law_937 ?_
    refine pz_sld dL_law_938 (by unfold vp_in; decide) ?_
    refine pz_top (xs 2) (congrArg xs (by decide)) ?_
    refine pz_if_eq 946 dL_law_939 (by decide) (fun c_ => ?_) (fun c_ => absurd hz c_)
    refine pz_iconst (v := 0) dL_law_946 rfl ?_
    refine pz_aload_n dL_law_947 rfl ?_
    refine pz_callW (mi' := mL_finalRange) (hh := hhL_finalRange) (As := [.ref (adX 0), .int (xs 1), .int (0), .ref ow]) dL_law_948 (tw_in 967 (by decide +kernel) (by decide +kernel)) mw_finalRange ⟨by decide, by decide⟩ rfl rfl (Nat.le_of_ble_eq_true rfl) (wo_finalRange (p := 22) rt_at (xs 1) (0) (Qs := fun _ => True) (r1_mono hC (fun v τ h => ⟨h, trivial⟩))) ⟨Nat.le_of_ble_eq_true rfl, Nat.le_of_ble_eq_true rfl⟩ (fun v ws1 hv => ?_)
    obtain ⟨τ, hv, -⟩ := hv
    cases hv
    refine pz_kn 141 3628 rfl rfl ?_
    refine pz_ws (ws' := wp G adM LM (cellsE G adX LX τ LX.1 0) [outC G ow (vp_updL f 0 r.toInt64)] σM) (by rw [rt_set]; rfl) ?_
    refine pz_istore dL_law_951 (by decide) ?_
    refine pz_aload_n dL_law_953 rfl ?_
    refine pz_aload_n dL_law_954 rfl ?_
    refine pz_iload dL_law_955 rfl ?_
    refine pz_iconst (v := 1) dL_law_957 rfl ?_
    refine pz_iadd dL_law_958 ?_
    refine pz_sld dL_law_959 (by unfold vp_in; decide) ?_
    refine pz_top (xs 1) (congrArg xs (by decide)) ?_
    refine pz_aload_n dL_law_960 rfl ?_
    refine pz_iload dL_law_961 rfl ?_
    refine pz_iconst (v := 2) dL_law_963 rfl ?_
    refine pz_iadd dL_law_964 ?_
    refine pz_sld dL_law_965 (by unfold vp_in; decide) ?_
    refine pz_top (xs 2) (congrArg xs (by decide)) ?_
    refine pz_if_eq 973 dL_law_966 (by decide) (fun c_ => ?_) (fun c_ => absurd hz c_)
    refine pz_iconst (v := 0) dL_law_973 rfl ?_
    refine pz_rV1 (mi' := mX11_finalRange) (As := [.int (xs 1), .int (0)]) (q := (RX11, TX11, 33)) dL_law_974 lk_RL_132 mk_X11_finalRange mi_X11_finalRange me_X11_finalRange ⟨by decide, by decide⟩ rfl rfl (Nat.le_of_ble_eq_true rfl) rfl rfl ⟨Nat.le_of_ble_eq_true rfl, Nat.le_of_ble_eq_true rfl⟩ (hM τ _) (fun v ρ hq => ?_)
    obtain ⟨hq, hth⟩ := hq
    subst hq
    refine pz_kn 141 3628 rfl rfl ?_
    refine pz_istore dL_law_977 (by decide) ?_
    refine pz_aload_n dL_law_979 rfl ?_
    refine pz_rV1 (mi' := mX11_thrown) (As := []) (q := (RX11, TX11, 33)) dL_law_980 lk_RL_82 mk_X11_thrown mi_X11_thrown me_X11_thrown ⟨by decide, by decide⟩ rfl rfl (Nat.le_of_ble_eq_true rfl) rfl rfl ⟨Nat.le_of_ble_eq_true rfl, Nat.le_of_ble_eq_true rfl⟩ (specD_r1 (Q := fun v τ => v = .int 0 ∧ τ = ρ) r_thrown ⟨congrArg Value.int hth, rfl⟩) (fun v ρ2 hq => ?_)
    obtain ⟨hq, hρ⟩ := hq
    subst hq
    subst hρ
    refine pz_kn 141 3628 rfl rfl ?_
    refine pz_iload dL_law_983 rfl ?_
    refine pz_icmp_eq 990 dL_law_985 (by decide) (fun _ => ?_) (fun c_ => absurd rfl c_)
    refine pz_iload dL_law_990 rfl ?_
    refine pz_if_ne 1007 dL_law_992 (by decide) (fun c_ => absurd rfl c_) (fun _ => ?_)
    refine pz_aload_n dL_law_995 rfl ?_
    refine pz_iconst (v := 0) dL_law_996 rfl ?_
    refine pz_lald dL_law_997 ((cellsE G adX LX τ LX.1 0).length + (LM.1.length + 0)) (wp_rt rfl) (vp_in_nI (n := 0) (by decide) (by decide)) ?_
    refine pz_iload dL_law_998 rfl ?_
    refine pz_i2l dL_law_1000 ?_
    refine pz_lcmp dL_law_1001 ?_
    refine pz_if_eq 1007 dL_law_1002 (by decide) (fun _ => ?_) (fun c_ => absurd (lg_cmp_self _) c_)
    refine pz_goto (tgt := 1493) dL_law_1007 (by decide) ?_
    exact pz_lk [(0, .ref b), (4, .int 0)] ⟨rfl, rfl, trivial⟩ (lw_end (Nat.le_of_ble_eq_true rfl) (Nat.le_of_ble_eq_true rfl))
  · have hz : ¬ xs 2 = 0 := by simpa using hz
    refine pz_aload_n dL_law_926 rfl ?_
    refine pz_aload_n dL_law_927 rfl ?_
    refine pz_iload dL_law_928 rfl ?_
    refine pz_iconst (v := 1) dL_law_930 rfl ?_
    refine pz_iadd dL_law_931 ?_
    refine pz_sld dL_law_932 (by unfold vp_in; decide) ?_
    refine pz_top (xs 1) (congrArg xs (by decide)) ?_
    refine pz_aload_n dL_law_933 rfl ?_
    refine pz_iload dL_law_934 rfl ?_
    refine pz_iconst (v := 2) dL_law_936 rfl ?_
    refine pz_iadd dL_law_937 ?_
    refine pz_sld dL_law_938 (by unfold vp_in; decide) ?_
    refine pz_top (xs 2) (congrArg xs (by decide)) ?_
    refine pz_if_eq 946 dL_law_939 (by decide) (fun c_ => absurd c_ hz) (fun c_ => ?_)
    refine pz_iconst (v := 1) dL_law_942 rfl ?_
    refine pz_goto (tgt := 947) dL_law_943 (by decide) ?_
    refine pz_aload_n dL_law_947 rfl ?_
    refine pz_callW (mi' := mL_finalRange) (hh := hhL_finalRange) (As := [.ref (adX 0), .int (xs 1), .int (1), .ref ow]) dL_law_948 (tw_in 967 (by decide +kernel) (by decide +kernel)) mw_finalRange ⟨by decide, by decide⟩ rfl rfl (Nat.le_of_ble_eq_true rfl) (wo_finalRange (p := 22) rt_at (xs 1) (1) (Qs := fun _ => True) (r1_mono hC (fun v τ h => ⟨h, trivial⟩))) ⟨Nat.le_of_ble_eq_true rfl, Nat.le_of_ble_eq_true rfl⟩ (fun v ws1 hv => ?_)
    obtain ⟨τ, hv, -⟩ := hv
    cases hv
    refine pz_kn 141 3628 rfl rfl ?_
    refine pz_ws (ws' := wp G adM LM (cellsE G adX LX τ LX.1 0) [outC G ow (vp_updL f 0 r.toInt64)] σM) (by rw [rt_set]; rfl) ?_
    refine pz_istore dL_law_951 (by decide) ?_
    refine pz_aload_n dL_law_953 rfl ?_
    refine pz_aload_n dL_law_954 rfl ?_
    refine pz_iload dL_law_955 rfl ?_
    refine pz_iconst (v := 1) dL_law_957 rfl ?_
    refine pz_iadd dL_law_958 ?_
    refine pz_sld dL_law_959 (by unfold vp_in; decide) ?_
    refine pz_top (xs 1) (congrArg xs (by decide)) ?_
    refine pz_aload_n dL_law_960 rfl ?_
    refine pz_iload dL_law_961 rfl ?_
    refine pz_iconst (v := 2) dL_law_963 rfl ?_
    refine pz_iadd dL_law_964 ?_
    refine pz_sld dL_law_965 (by unfold vp_in; decide) ?_
    refine pz_top (xs 2) (congrArg xs (by decide)) ?_
    refine pz_if_eq 973 dL_law_966 (by decide) (fun c_ => absurd c_ hz) (fun c_ => ?_)
    refine pz_iconst (v := 1) dL_law_969 rfl ?_
    refine pz_goto (tgt := 974) dL_law_970 (by decide) ?_
    refine pz_rV1 (mi' := mX11_finalRange) (As := [.int (xs 1), .int (1)]) (q := (RX11, TX11, 33)) dL_law_974 lk_RL_132 mk_X11_finalRange mi_X11_finalRange me_X11_finalRange ⟨by decide, by decide⟩ rfl rfl (Nat.le_of_ble_eq_true rfl) rfl rfl ⟨Nat.le_of_ble_eq_true rfl, Nat.le_of_ble_eq_true rfl⟩ (hM τ _) (fun v ρ hq => ?_)
    obtain ⟨hq, hth⟩ := hq
    subst hq
    refine pz_kn 141 3628 rfl rfl ?_
    refine pz_istore dL_law_977 (by decide) ?_
    refine pz_aload_n dL_law_979 rfl ?_
    refine pz_rV1 (mi' := mX11_thrown) (As := []) (q := (RX11, TX11, 33)) dL_law_980 lk_RL_82 mk_X11_thrown mi_X11_thrown me_X11_thrown ⟨by decide, by decide⟩ rfl rfl (Nat.le_of_ble_eq_true rfl) rfl rfl ⟨Nat.le_of_ble_eq_true rfl, Nat.le_of_ble_eq_true rfl⟩ (specD_r1 (Q := fun v τ => v = .int 0 ∧ τ = ρ) r_thrown ⟨congrArg Value.int hth, rfl⟩) (fun v ρ2 hq => ?_)
    obtain ⟨hq, hρ⟩ := hq
    subst hq
    subst hρ
    refine pz_kn 141 3628 rfl rfl ?_
    refine pz_iload dL_law_983 rfl ?_
    refine pz_icmp_eq 990 dL_law_985 (by decide) (fun _ => ?_) (fun c_ => absurd rfl c_)
    refine pz_iload dL_law_990 rfl ?_
    refine pz_if_ne 1007 dL_law_992 (by decide) (fun c_ => absurd rfl c_) (fun _ => ?_)
    refine pz_aload_n dL_law_995 rfl ?_
    refine pz_iconst (v := 0) dL_law_996 rfl ?_
    refine pz_lald dL_law_997 ((cellsE G adX LX τ LX.1 0).length + (LM.1.length + 0)) (wp_rt rfl) (vp_in_nI (n := 0) (by decide) (by decide)) ?_
    refine pz_iload dL_law_998 rfl ?_
    refine pz_i2l dL_law_1000 ?_
    refine pz_lcmp dL_law_1001 ?_
    refine pz_if_eq 1007 dL_law_1002 (by decide) (fun _ => ?_) (fun c_ => absurd (lg_cmp_self _) c_)
    refine pz_goto (tgt := 1493) dL_law_1007 (by decide) ?_
    exact pz_lk [(0, .ref b), (4, .int 0)] ⟨rfl, rfl, trivial⟩ (lw_end (Nat.le_of_ble_eq_true rfl) (Nat.le_of_ble_eq_true rfl))
theorem lt1_finalRange (z : Bool) (hz : if z = true then ¬ xs 2 = 0 else xs 2 = 0) (hC : SpecT l G mX10_finalRange [.ref (adX 0), .int (xs 1), .int (bI z)] (wp G adX LX [] (rtM G adM σM ow f) σX) "java/lang/IndexOutOfBoundsException" (wp G adX LX [] (rtM G adM σM ow f) σX)) (hM : SpR1 l G mX11_finalRange [.ref (adM 0), .int (xs 1), .int (bI z)] adM LM (cellsE G adX LX σX LX.1 0) [outC G ow f] σM (fun v ρ => (∃ bb, v = .int bb) ∧ ρ.1 0 3 = 1)) : PZ (XL b 4 xs) QL l G mL_law [] sz 926 [(0, .ref b), (1, .ref (adX 0)), (2, .ref (adM 0)), (3, .ref ow), (4, .int 0)] [] 140 3622 (wp G adX LX [] (rtM G adM σM ow f) σX) := by
  cases z
  · have hz : xs 2 = 0 := by simpa using hz
    refine pz_aload_n dL_law_926 rfl ?_
    refine pz_aload_n dL_law_927 rfl ?_
    refine pz_iload dL_law_928 rfl ?_
    refine pz_iconst (v := 1) dL_law_930 rfl ?_
    refine pz_iadd dL_law_931 ?_
    refine pz_sld dL_law_932 (by unfold vp_in; decide) ?_
    refine pz_top (xs 1) (congrArg xs (by decide)) ?_
    refine pz_aload_n dL_law_933 rfl ?_
    refine pz_iload dL_law_934 rfl ?_
    refine pz_iconst (v := 2) dL_law_936 rfl ?_
    refine pz_iadd dL_law_937 ?_
    refine pz_sld dL_law_938 (by unfold vp_in; decide) ?_
    refine pz_top (xs 2) (congrArg xs (by decide)) ?_
    refine pz_if_eq 946 dL_law_939 (by decide) (fun c_ => ?_) (fun c_ => absurd hz c_)
    refine pz_iconst (v := 0) dL_law_946 rfl ?_
    refine pz_aload_n dL_law_947 rfl ?_
    refine pz_callW (mi' := mL_finalRange) (hh := hhL_finalRange) (As := [.ref (adX 0), .int (xs 1), .int (0), .ref ow]) dL_law_948 (tw_in 967 (by decide +kernel) (by decide +kernel)) mw_finalRange ⟨by decide, by decide⟩ rfl rfl (Nat.le_of_ble_eq_true rfl) (wt1_finalRange (xs 1) (0) hC) ⟨Nat.le_of_ble_eq_true rfl, Nat.le_of_ble_eq_true rfl⟩ (fun v ws1 hv => ?_)
    cases hv
    refine pz_kn 141 3628 rfl rfl ?_
    refine pz_ws (ws' := wp G adM LM (cellsE G adX LX σX LX.1 0) [outC G ow f] σM) rfl ?_
    refine pz_istore dL_law_951 (by decide) ?_
    refine pz_aload_n dL_law_953 rfl ?_
    refine pz_aload_n dL_law_954 rfl ?_
    refine pz_iload dL_law_955 rfl ?_
    refine pz_iconst (v := 1) dL_law_957 rfl ?_
    refine pz_iadd dL_law_958 ?_
    refine pz_sld dL_law_959 (by unfold vp_in; decide) ?_
    refine pz_top (xs 1) (congrArg xs (by decide)) ?_
    refine pz_aload_n dL_law_960 rfl ?_
    refine pz_iload dL_law_961 rfl ?_
    refine pz_iconst (v := 2) dL_law_963 rfl ?_
    refine pz_iadd dL_law_964 ?_
    refine pz_sld dL_law_965 (by unfold vp_in; decide) ?_
    refine pz_top (xs 2) (congrArg xs (by decide)) ?_
    refine pz_if_eq 973 dL_law_966 (by decide) (fun c_ => ?_) (fun c_ => absurd hz c_)
    refine pz_iconst (v := 0) dL_law_973 rfl ?_
    refine pz_rV1 (mi' := mX11_finalRange) (As := [.int (xs 1), .int (0)]) (q := (RX11, TX11, 33)) dL_law_974 lk_RL_132 mk_X11_finalRange mi_X11_finalRange me_X11_finalRange ⟨by decide, by decide⟩ rfl rfl (Nat.le_of_ble_eq_true rfl) rfl rfl ⟨Nat.le_of_ble_eq_true rfl, Nat.le_of_ble_eq_true rfl⟩ hM (fun v ρ hq => ?_)
    obtain ⟨⟨bb, hq⟩, hth⟩ := hq
    subst hq
    refine pz_kn 141 3628 rfl rfl ?_
    refine pz_istore dL_law_977 (by decide) ?_
    refine pz_aload_n dL_law_979 rfl ?_
    refine pz_rV1 (mi' := mX11_thrown) (As := []) (q := (RX11, TX11, 33)) dL_law_980 lk_RL_82 mk_X11_thrown mi_X11_thrown me_X11_thrown ⟨by decide, by decide⟩ rfl rfl (Nat.le_of_ble_eq_true rfl) rfl rfl ⟨Nat.le_of_ble_eq_true rfl, Nat.le_of_ble_eq_true rfl⟩ (specD_r1 (Q := fun v τ => v = .int 1 ∧ τ = ρ) r_thrown ⟨congrArg Value.int hth, rfl⟩) (fun v ρ2 hq => ?_)
    obtain ⟨hq, hρ⟩ := hq
    subst hq
    subst hρ
    refine pz_kn 141 3628 rfl rfl ?_
    refine pz_iload dL_law_983 rfl ?_
    refine pz_icmp_eq 990 dL_law_985 (by decide) (fun _ => ?_) (fun c_ => absurd rfl c_)
    refine pz_iload dL_law_990 rfl ?_
    refine pz_if_ne 1007 dL_law_992 (by decide) (fun _ => ?_) (fun c_ => absurd c_ (by decide))
    refine pz_goto (tgt := 1493) dL_law_1007 (by decide) ?_
    exact pz_lk [(0, .ref b), (4, .int 0)] ⟨rfl, rfl, trivial⟩ (lw_end (Nat.le_of_ble_eq_true rfl) (Nat.le_of_ble_eq_true rfl))
  · have hz : ¬ xs 2 = 0 := by simpa using hz
    refine pz_aload_n dL_law_926 rfl ?_
    refine pz_aload_n dL_law_927 rfl ?_
    refine pz_iload dL_law_928 rfl ?_
    refine pz_iconst (v := 1) dL_law_930 rfl ?_
    refine pz_iadd dL_law_931 ?_
    refine pz_sld dL_law_932 (by unfold vp_in; decide) ?_
    refine pz_top (xs 1) (congrArg xs (by decide)) ?_
    refine pz_aload_n dL_law_933 rfl ?_
    refine pz_iload dL_law_934 rfl ?_
    refine pz_iconst (v := 2) dL_law_936 rfl ?_
    refine pz_iadd dL_law_937 ?_
    refine pz_sld dL_law_938 (by unfold vp_in; decide) ?_
    refine pz_top (xs 2) (congrArg xs (by decide)) ?_
    refine pz_if_eq 946 dL_law_939 (by decide) (fun c_ => absurd c_ hz) (fun c_ => ?_)
    refine pz_iconst (v := 1) dL_law_942 rfl ?_
    refine pz_goto (tgt := 947) dL_law_943 (by decide) ?_
    refine pz_aload_n dL_law_947 rfl ?_
    refine pz_callW (mi' := mL_finalRange) (hh := hhL_finalRange) (As := [.ref (adX 0), .int (xs 1), .int (1), .ref ow]) dL_law_948 (tw_in 967 (by decide +kernel) (by decide +kernel)) mw_finalRange ⟨by decide, by decide⟩ rfl rfl (Nat.le_of_ble_eq_true rfl) (wt1_finalRange (xs 1) (1) hC) ⟨Nat.le_of_ble_eq_true rfl, Nat.le_of_ble_eq_true rfl⟩ (fun v ws1 hv => ?_)
    cases hv
    refine pz_kn 141 3628 rfl rfl ?_
    refine pz_ws (ws' := wp G adM LM (cellsE G adX LX σX LX.1 0) [outC G ow f] σM) rfl ?_
    refine pz_istore dL_law_951 (by decide) ?_
    refine pz_aload_n dL_law_953 rfl ?_
    refine pz_aload_n dL_law_954 rfl ?_
    refine pz_iload dL_law_955 rfl ?_
    refine pz_iconst (v := 1) dL_law_957 rfl ?_
    refine pz_iadd dL_law_958 ?_
    refine pz_sld dL_law_959 (by unfold vp_in; decide) ?_
    refine pz_top (xs 1) (congrArg xs (by decide)) ?_
    refine pz_aload_n dL_law_960 rfl ?_
    refine pz_iload dL_law_961 rfl ?_
    refine pz_iconst (v := 2) dL_law_963 rfl ?_
    refine pz_iadd dL_law_964 ?_
    refine pz_sld dL_law_965 (by unfold vp_in; decide) ?_
    refine pz_top (xs 2) (congrArg xs (by decide)) ?_
    refine pz_if_eq 973 dL_law_966 (by decide) (fun c_ => absurd c_ hz) (fun c_ => ?_)
    refine pz_iconst (v := 1) dL_law_969 rfl ?_
    refine pz_goto (tgt := 974) dL_law_970 (by decide) ?_
    refine pz_rV1 (mi' := mX11_finalRange) (As := [.int (xs 1), .int (1)]) (q := (RX11, TX11, 33)) dL_law_974 lk_RL_132 mk_X11_finalRange mi_X11_finalRange me_X11_finalRange ⟨by decide, by decide⟩ rfl rfl (Nat.le_of_ble_eq_true rfl) rfl rfl ⟨Nat.le_of_ble_eq_true rfl, Nat.le_of_ble_eq_true rfl⟩ hM (fun v ρ hq => ?_)
    obtain ⟨⟨bb, hq⟩, hth⟩ := hq
    subst hq
    refine pz_kn 141 3628 rfl rfl ?_
    refine pz_istore dL_law_977 (by decide) ?_
    refine pz_aload_n dL_law_979 rfl ?_
    refine pz_rV1 (mi' := mX11_thrown) (As := []) (q := (RX11, TX11, 33)) dL_law_980 lk_RL_82 mk_X11_thrown mi_X11_thrown me_X11_thrown ⟨by decide, by decide⟩ rfl rfl (Nat.le_of_ble_eq_true rfl) rfl rfl ⟨Nat.le_of_ble_eq_true rfl, Nat.le_of_ble_eq_true rfl⟩ (specD_r1 (Q := fun v τ => v = .int 1 ∧ τ = ρ) r_thrown ⟨congrArg Value.int hth, rfl⟩) (fun v ρ2 hq => ?_)
    obtain ⟨hq, hρ⟩ := hq
    subst hq
    subst hρ
    refine pz_kn 141 3628 rfl rfl ?_
    refine pz_iload dL_law_983 rfl ?_
    refine pz_icmp_eq 990 dL_law_985 (by decide) (fun _ => ?_) (fun c_ => absurd rfl c_)
    refine pz_iload dL_law_990 rfl ?_
    refine pz_if_ne 1007 dL_law_992 (by decide) (fun _ => ?_) (fun c_ => absurd c_ (by decide))
    refine pz_goto (tgt := 1493) dL_law_1007 (by decide) ?_
    exact pz_lk [(0, .ref b), (4, .int 0)] ⟨rfl, rfl, trivial⟩ (lw_end (Nat.le_of_ble_eq_true rfl) (Nat.le_of_ble_eq_true rfl))
theorem ld_completes {r : Int32} (hC : SpR1 l G mX10_completes [.ref (adX 0)] adX LX [] (rtM G adM σM ow f) σX (fun v _ => v = .int r)) (hM : ∀ τ, SpR1 l G mX11_completes [.ref (adM 0)] adM LM (cellsE G adX LX τ LX.1 0) [outC G ow f] σM (fun v _ => v = .int r)) : PZ (XL b 4 xs) QL l G mL_law [] sz 1010 [(0, .ref b), (1, .ref (adX 0)), (2, .ref (adM 0)), (3, .ref ow), (4, .int 0)] [] 140 3622 (wp G adX LX [] (rtM G adM σM ow f) σX) := by
  refine pz_aload_n dL_law_1010 rfl ?_
  refine pz_rV1 (mi' := mX10_completes) (As := []) (q := (RX10, TX10, 14)) dL_law_1011 lk_RL_133 mk_X10_completes mi_X10_completes me_X10_completes ⟨by decide, by decide⟩ rfl rfl (Nat.le_of_ble_eq_true rfl) rfl rfl ⟨Nat.le_of_ble_eq_true rfl, Nat.le_of_ble_eq_true rfl⟩ hC (fun v τ hq => ?_)
  subst hq
  refine pz_ws (ws' := wp G adM LM (cellsE G adX LX τ LX.1 0) [outC G ow f] σM) rfl ?_
  refine pz_kn 140 3622 rfl rfl ?_
  refine pz_aload_n dL_law_1014 rfl ?_
  refine pz_rV1 (mi' := mX11_completes) (As := []) (q := (RX11, TX11, 33)) dL_law_1015 lk_RL_137 mk_X11_completes mi_X11_completes me_X11_completes ⟨by decide, by decide⟩ rfl rfl (Nat.le_of_ble_eq_true rfl) rfl rfl ⟨Nat.le_of_ble_eq_true rfl, Nat.le_of_ble_eq_true rfl⟩ (hM τ) (fun v ρ hq => ?_)
  subst hq
  refine pz_kn 140 3622 rfl rfl ?_
  refine pz_icmp_eq 1493 dL_law_1018 (by decide) (fun _ => ?_) (fun c_ => absurd rfl c_)
  exact pz_lk [(0, .ref b), (4, .int 0)] ⟨rfl, rfl, trivial⟩ (lw_end (Nat.le_of_ble_eq_true rfl) (Nat.le_of_ble_eq_true rfl))
theorem ld_failure (z : Bool) (hz : if z = true then ¬ xs 1 = 0 else xs 1 = 0) {r : Int32} (hC : SpR1 l G mX10_failure [.ref (adX 0), .int (bI z)] adX LX [] (rtM G adM σM ow f) σX (fun v _ => v = .int r)) (hM : ∀ τ, SpR1 l G mX11_failure [.ref (adM 0), .int (bI z)] adM LM (cellsE G adX LX τ LX.1 0) [outC G ow f] σM (fun v _ => v = .int r)) : PZ (XL b 4 xs) QL l G mL_law [] sz 1023 [(0, .ref b), (1, .ref (adX 0)), (2, .ref (adM 0)), (3, .ref ow), (4, .int 0)] [] 140 3622 (wp G adX LX [] (rtM G adM σM ow f) σX) := by
  cases z
  · have hz : xs 1 = 0 := by simpa using hz
    refine pz_aload_n dL_law_1023 rfl ?_
    refine pz_aload_n dL_law_1024 rfl ?_
    refine pz_iload dL_law_1025 rfl ?_
    refine pz_iconst (v := 1) dL_law_1027 rfl ?_
    refine pz_iadd dL_law_1028 ?_
    refine pz_sld dL_law_1029 (by unfold vp_in; decide) ?_
    refine pz_top (xs 1) (congrArg xs (by decide)) ?_
    refine pz_if_eq 1037 dL_law_1030 (by decide) (fun c_ => ?_) (fun c_ => absurd hz c_)
    refine pz_iconst (v := 0) dL_law_1037 rfl ?_
    refine pz_rV1 (mi' := mX10_failure) (As := [.int (0)]) (q := (RX10, TX10, 14)) dL_law_1038 lk_RL_138 mk_X10_failure mi_X10_failure me_X10_failure ⟨by decide, by decide⟩ rfl rfl (Nat.le_of_ble_eq_true rfl) rfl rfl ⟨Nat.le_of_ble_eq_true rfl, Nat.le_of_ble_eq_true rfl⟩ hC (fun v τ hq => ?_)
    subst hq
    refine pz_ws (ws' := wp G adM LM (cellsE G adX LX τ LX.1 0) [outC G ow f] σM) rfl ?_
    refine pz_kn 140 3622 rfl rfl ?_
    refine pz_aload_n dL_law_1041 rfl ?_
    refine pz_aload_n dL_law_1042 rfl ?_
    refine pz_iload dL_law_1043 rfl ?_
    refine pz_iconst (v := 1) dL_law_1045 rfl ?_
    refine pz_iadd dL_law_1046 ?_
    refine pz_sld dL_law_1047 (by unfold vp_in; decide) ?_
    refine pz_top (xs 1) (congrArg xs (by decide)) ?_
    refine pz_if_eq 1055 dL_law_1048 (by decide) (fun c_ => ?_) (fun c_ => absurd hz c_)
    refine pz_iconst (v := 0) dL_law_1055 rfl ?_
    refine pz_rV1 (mi' := mX11_failure) (As := [.int (0)]) (q := (RX11, TX11, 33)) dL_law_1056 lk_RL_142 mk_X11_failure mi_X11_failure me_X11_failure ⟨by decide, by decide⟩ rfl rfl (Nat.le_of_ble_eq_true rfl) rfl rfl ⟨Nat.le_of_ble_eq_true rfl, Nat.le_of_ble_eq_true rfl⟩ (hM τ) (fun v ρ hq => ?_)
    subst hq
    refine pz_kn 140 3622 rfl rfl ?_
    refine pz_icmp_eq 1493 dL_law_1059 (by decide) (fun _ => ?_) (fun c_ => absurd rfl c_)
    exact pz_lk [(0, .ref b), (4, .int 0)] ⟨rfl, rfl, trivial⟩ (lw_end (Nat.le_of_ble_eq_true rfl) (Nat.le_of_ble_eq_true rfl))
  · have hz : ¬ xs 1 = 0 := by simpa using hz
    refine pz_aload_n dL_law_1023 rfl ?_
    refine pz_aload_n dL_law_1024 rfl ?_
    refine pz_iload dL_law_1025 rfl ?_
    refine pz_iconst (v := 1) dL_law_1027 rfl ?_
    refine pz_iadd dL_law_1028 ?_
    refine pz_sld dL_law_1029 (by unfold vp_in; decide) ?_
    refine pz_top (xs 1) (congrArg xs (by decide)) ?_
    refine pz_if_eq 1037 dL_law_1030 (by decide) (fun c_ => absurd c_ hz) (fun c_ => ?_)
    refine pz_iconst (v := 1) dL_law_1033 rfl ?_
    refine pz_goto (tgt := 1038) dL_law_1034 (by decide) ?_
    refine pz_rV1 (mi' := mX10_failure) (As := [.int (1)]) (q := (RX10, TX10, 14)) dL_law_1038 lk_RL_138 mk_X10_failure mi_X10_failure me_X10_failure ⟨by decide, by decide⟩ rfl rfl (Nat.le_of_ble_eq_true rfl) rfl rfl ⟨Nat.le_of_ble_eq_true rfl, Nat.le_of_ble_eq_true rfl⟩ hC (fun v τ hq => ?_)
    subst hq
    refine pz_ws (ws' := wp G adM LM (cellsE G adX LX τ LX.1 0) [outC G ow f] σM) rfl ?_
    refine pz_kn 140 3622 rfl rfl ?_
    refine pz_aload_n dL_law_1041 rfl ?_
    refine pz_aload_n dL_law_1042 rfl ?_
    refine pz_iload dL_law_1043 rfl ?_
    refine pz_iconst (v := 1) dL_law_1045 rfl ?_
    refine pz_iadd dL_law_1046 ?_
    refine pz_sld dL_law_1047 (by unfold vp_in; decide) ?_
    refine pz_top (xs 1) (congrArg xs (by decide)) ?_
    refine pz_if_eq 1055 dL_law_1048 (by decide) (fun c_ => absurd c_ hz) (fun c_ => ?_)
    refine pz_iconst (v := 1) dL_law_1051 rfl ?_
    refine pz_goto (tgt := 1056) dL_law_1052 (by decide) ?_
    refine pz_rV1 (mi' := mX11_failure) (As := [.int (1)]) (q := (RX11, TX11, 33)) dL_law_1056 lk_RL_142 mk_X11_failure mi_X11_failure me_X11_failure ⟨by decide, by decide⟩ rfl rfl (Nat.le_of_ble_eq_true rfl) rfl rfl ⟨Nat.le_of_ble_eq_true rfl, Nat.le_of_ble_eq_true rfl⟩ (hM τ) (fun v ρ hq => ?_)
    subst hq
    refine pz_kn 140 3622 rfl rfl ?_
    refine pz_icmp_eq 1493 dL_law_1059 (by decide) (fun _ => ?_) (fun c_ => absurd rfl c_)
    exact pz_lk [(0, .ref b), (4, .int 0)] ⟨rfl, rfl, trivial⟩ (lw_end (Nat.le_of_ble_eq_true rfl) (Nat.le_of_ble_eq_true rfl))
theorem lo_result (z : Bool) (hz : if z = true then ¬ xs 2 = 0 else xs 2 = 0) {r : Int32} (hC : SpR1 l G mX10_result [.ref (adX 0), .int (xs 1), .int (bI z)] adX LX [] (rtM G adM σM ow f) σX (fun v _ => v = .int r)) (hM : ∀ τ g, SpR1 l G mX11_result [.ref (adM 0), .int (xs 1), .int (bI z)] adM LM (cellsE G adX LX τ LX.1 0) [outC G ow g] σM (fun v ρ => v = .int r ∧ ρ.1 0 3 = 0)) : PZ (XL b 4 xs) QL l G mL_law [] sz 1064 [(0, .ref b), (1, .ref (adX 0)), (2, .ref (adM 0)), (3, .ref ow), (4, .int 0)] [] 140 3622 (wp G adX LX [] (rtM G adM σM ow f) σX) := by
  cases z
  · have hz : xs 2 = 0 := by simpa using hz
    refine pz_aload_n dL_law_1064 rfl ?_
    refine pz_aload_n dL_law_1065 rfl ?_
    refine pz_iload dL_law_1066 rfl ?_
    refine pz_iconst (v := 1) dL_law_1068 rfl ?_
    refine pz_iadd dL_law_1069 ?_
    refine pz_sld dL_law_1070 (by unfold vp_in; decide) ?_
    refine pz_top (xs 1) (congrArg xs (by decide)) ?_
    refine pz_aload_n dL_law_1071 rfl ?_
    refine pz_iload dL_law_1072 rfl ?_
    refine pz_iconst (v := 2) dL_law_1074 rfl ?_
    refine pz_iadd dL_law_1075 ?_
    refine pz_sld dL_law_1076 (by unfold vp_in; decide) ?_
    refine pz_top (xs 2) (congrArg xs (by decide)) ?_
    refine pz_if_eq 1084 dL_law_1077 (by decide) (fun c_ => ?_) (fun c_ => absurd hz c_)
    refine pz_iconst (v := 0) dL_law_1084 rfl ?_
    refine pz_aload_n dL_law_1085 rfl ?_
    refine pz_callW (mi' := mL_result) (hh := hhL_result) (As := [.ref (adX 0), .int (xs 1), .int (0), .ref ow]) dL_law_1086 (tw_in 974 (by decide +kernel) (by decide +kernel)) mw_result ⟨by decide, by decide⟩ rfl rfl (Nat.le_of_ble_eq_true rfl) (wo_result (p := 22) rt_at (xs 1) (0) (Qs := fun _ => True) (r1_mono hC (fun v τ h => ⟨h, trivial⟩))) ⟨Nat.le_of_ble_eq_true rfl, Nat.le_of_ble_eq_true rfl⟩ (fun v ws1 hv => ?_)
    obtain ⟨τ, hv, -⟩ := hv
    cases hv
    refine pz_kn 141 3628 rfl rfl ?_
    refine pz_ws (ws' := wp G adM LM (cellsE G adX LX τ LX.1 0) [outC G ow (vp_updL f 0 r.toInt64)] σM) (by rw [rt_set]; rfl) ?_
    refine pz_istore dL_law_1089 (by decide) ?_
    refine pz_aload_n dL_law_1091 rfl ?_
    refine pz_aload_n dL_law_1092 rfl ?_
    refine pz_iload dL_law_1093 rfl ?_
    refine pz_iconst (v := 1) dL_law_1095 rfl ?_
    refine pz_iadd dL_law_1096 ?_
    refine pz_sld dL_law_1097 (by unfold vp_in; decide) ?_
    refine pz_top (xs 1) (congrArg xs (by decide)) ?_
    refine pz_aload_n dL_law_1098 rfl ?_
    refine pz_iload dL_law_1099 rfl ?_
    refine pz_iconst (v := 2) dL_law_1101 rfl ?_
    refine pz_iadd dL_law_1102 ?_
    refine pz_sld dL_law_1103 (by unfold vp_in; decide) ?_
    refine pz_top (xs 2) (congrArg xs (by decide)) ?_
    refine pz_if_eq 1111 dL_law_1104 (by decide) (fun c_ => ?_) (fun c_ => absurd hz c_)
    refine pz_iconst (v := 0) dL_law_1111 rfl ?_
    refine pz_rV1 (mi' := mX11_result) (As := [.int (xs 1), .int (0)]) (q := (RX11, TX11, 33)) dL_law_1112 lk_RL_145 mk_X11_result mi_X11_result me_X11_result ⟨by decide, by decide⟩ rfl rfl (Nat.le_of_ble_eq_true rfl) rfl rfl ⟨Nat.le_of_ble_eq_true rfl, Nat.le_of_ble_eq_true rfl⟩ (hM τ _) (fun v ρ hq => ?_)
    obtain ⟨hq, hth⟩ := hq
    subst hq
    refine pz_kn 141 3628 rfl rfl ?_
    refine pz_istore dL_law_1115 (by decide) ?_
    refine pz_aload_n dL_law_1117 rfl ?_
    refine pz_rV1 (mi' := mX11_thrown) (As := []) (q := (RX11, TX11, 33)) dL_law_1118 lk_RL_82 mk_X11_thrown mi_X11_thrown me_X11_thrown ⟨by decide, by decide⟩ rfl rfl (Nat.le_of_ble_eq_true rfl) rfl rfl ⟨Nat.le_of_ble_eq_true rfl, Nat.le_of_ble_eq_true rfl⟩ (specD_r1 (Q := fun v τ => v = .int 0 ∧ τ = ρ) r_thrown ⟨congrArg Value.int hth, rfl⟩) (fun v ρ2 hq => ?_)
    obtain ⟨hq, hρ⟩ := hq
    subst hq
    subst hρ
    refine pz_kn 141 3628 rfl rfl ?_
    refine pz_iload dL_law_1121 rfl ?_
    refine pz_icmp_eq 1128 dL_law_1123 (by decide) (fun _ => ?_) (fun c_ => absurd rfl c_)
    refine pz_iload dL_law_1128 rfl ?_
    refine pz_if_ne 1145 dL_law_1130 (by decide) (fun c_ => absurd rfl c_) (fun _ => ?_)
    refine pz_aload_n dL_law_1133 rfl ?_
    refine pz_iconst (v := 0) dL_law_1134 rfl ?_
    refine pz_lald dL_law_1135 ((cellsE G adX LX τ LX.1 0).length + (LM.1.length + 0)) (wp_rt rfl) (vp_in_nI (n := 0) (by decide) (by decide)) ?_
    refine pz_iload dL_law_1136 rfl ?_
    refine pz_i2l dL_law_1138 ?_
    refine pz_lcmp dL_law_1139 ?_
    refine pz_if_eq 1145 dL_law_1140 (by decide) (fun _ => ?_) (fun c_ => absurd (lg_cmp_self _) c_)
    refine pz_goto (tgt := 1493) dL_law_1145 (by decide) ?_
    exact pz_lk [(0, .ref b), (4, .int 0)] ⟨rfl, rfl, trivial⟩ (lw_end (Nat.le_of_ble_eq_true rfl) (Nat.le_of_ble_eq_true rfl))
  · have hz : ¬ xs 2 = 0 := by simpa using hz
    refine pz_aload_n dL_law_1064 rfl ?_
    refine pz_aload_n dL_law_1065 rfl ?_
    refine pz_iload dL_law_1066 rfl ?_
    refine pz_iconst (v := 1) dL_law_1068 rfl ?_
    refine pz_iadd dL_law_1069 ?_
    refine pz_sld dL_law_1070 (by unfold vp_in; decide) ?_
    refine pz_top (xs 1) (congrArg xs (by decide)) ?_
    refine pz_aload_n dL_law_1071 rfl ?_
    refine pz_iload dL_law_1072 rfl ?_
    refine pz_iconst (v := 2) dL_law_1074 rfl ?_
    refine pz_iadd dL_law_1075 ?_
    refine pz_sld dL_law_1076 (by unfold vp_in; decide) ?_
    refine pz_top (xs 2) (congrArg xs (by decide)) ?_
    refine pz_if_eq 1084 dL_law_1077 (by decide) (fun c_ => absurd c_ hz) (fun c_ => ?_)
    refine pz_iconst (v := 1) dL_law_1080 rfl ?_
    refine pz_goto (tgt := 1085) dL_law_1081 (by decide) ?_
    refine pz_aload_n dL_law_1085 rfl ?_
    refine pz_callW (mi' := mL_result) (hh := hhL_result) (As := [.ref (adX 0), .int (xs 1), .int (1), .ref ow]) dL_law_1086 (tw_in 974 (by decide +kernel) (by decide +kernel)) mw_result ⟨by decide, by decide⟩ rfl rfl (Nat.le_of_ble_eq_true rfl) (wo_result (p := 22) rt_at (xs 1) (1) (Qs := fun _ => True) (r1_mono hC (fun v τ h => ⟨h, trivial⟩))) ⟨Nat.le_of_ble_eq_true rfl, Nat.le_of_ble_eq_true rfl⟩ (fun v ws1 hv => ?_)
    obtain ⟨τ, hv, -⟩ := hv
    cases hv
    refine pz_kn 141 3628 rfl rfl ?_
    refine pz_ws (ws' := wp G adM LM (cellsE G adX LX τ LX.1 0) [outC G ow (vp_updL f 0 r.toInt64)] σM) (by rw [rt_set]; rfl) ?_
    refine pz_istore dL_law_1089 (by decide) ?_
    refine pz_aload_n dL_law_1091 rfl ?_
    refine pz_aload_n dL_law_1092 rfl ?_
    refine pz_iload dL_law_1093 rfl ?_
    refine pz_iconst (v := 1) dL_law_1095 rfl ?_
    refine pz_iadd dL_law_1096 ?_
    refine pz_sld dL_law_1097 (by unfold vp_in; decide) ?_
    refine pz_top (xs 1) (congrArg xs (by decide)) ?_
    refine pz_aload_n dL_law_1098 rfl ?_
    refine pz_iload dL_law_1099 rfl ?_
    refine pz_iconst (v := 2) dL_law_1101 rfl ?_
    refine pz_iadd dL_law_1102 ?_
    refine pz_sld dL_law_1103 (by unfold vp_in; decide) ?_
    refine pz_top (xs 2) (congrArg xs (by decide)) ?_
    refine pz_if_eq 1111 dL_law_1104 (by decide) (fun c_ => absurd c_ hz) (fun c_ => ?_)
    refine pz_iconst (v := 1) dL_law_1107 rfl ?_
    refine pz_goto (tgt := 1112) dL_law_1108 (by decide) ?_
    refine pz_rV1 (mi' := mX11_result) (As := [.int (xs 1), .int (1)]) (q := (RX11, TX11, 33)) dL_law_1112 lk_RL_145 mk_X11_result mi_X11_result me_X11_result ⟨by decide, by decide⟩ rfl rfl (Nat.le_of_ble_eq_true rfl) rfl rfl ⟨Nat.le_of_ble_eq_true rfl, Nat.le_of_ble_eq_true rfl⟩ (hM τ _) (fun v ρ hq => ?_)
    obtain ⟨hq, hth⟩ := hq
    subst hq
    refine pz_kn 141 3628 rfl rfl ?_
    refine pz_istore dL_law_1115 (by decide) ?_
    refine pz_aload_n dL_law_1117 rfl ?_
    refine pz_rV1 (mi' := mX11_thrown) (As := []) (q := (RX11, TX11, 33)) dL_law_1118 lk_RL_82 mk_X11_thrown mi_X11_thrown me_X11_thrown ⟨by decide, by decide⟩ rfl rfl (Nat.le_of_ble_eq_true rfl) rfl rfl ⟨Nat.le_of_ble_eq_true rfl, Nat.le_of_ble_eq_true rfl⟩ (specD_r1 (Q := fun v τ => v = .int 0 ∧ τ = ρ) r_thrown ⟨congrArg Value.int hth, rfl⟩) (fun v ρ2 hq => ?_)
    obtain ⟨hq, hρ⟩ := hq
    subst hq
    subst hρ
    refine pz_kn 141 3628 rfl rfl ?_
    refine pz_iload dL_law_1121 rfl ?_
    refine pz_icmp_eq 1128 dL_law_1123 (by decide) (fun _ => ?_) (fun c_ => absurd rfl c_)
    refine pz_iload dL_law_1128 rfl ?_
    refine pz_if_ne 1145 dL_law_1130 (by decide) (fun c_ => absurd rfl c_) (fun _ => ?_)
    refine pz_aload_n dL_law_1133 rfl ?_
    refine pz_iconst (v := 0) dL_law_1134 rfl ?_
    refine pz_lald dL_law_1135 ((cellsE G adX LX τ LX.1 0).length + (LM.1.length + 0)) (wp_rt rfl) (vp_in_nI (n := 0) (by decide) (by decide)) ?_
    refine pz_iload dL_law_1136 rfl ?_
    refine pz_i2l dL_law_1138 ?_
    refine pz_lcmp dL_law_1139 ?_
    refine pz_if_eq 1145 dL_law_1140 (by decide) (fun _ => ?_) (fun c_ => absurd (lg_cmp_self _) c_)
    refine pz_goto (tgt := 1493) dL_law_1145 (by decide) ?_
    exact pz_lk [(0, .ref b), (4, .int 0)] ⟨rfl, rfl, trivial⟩ (lw_end (Nat.le_of_ble_eq_true rfl) (Nat.le_of_ble_eq_true rfl))
theorem lt1_result (z : Bool) (hz : if z = true then ¬ xs 2 = 0 else xs 2 = 0) (hC : SpecT l G mX10_result [.ref (adX 0), .int (xs 1), .int (bI z)] (wp G adX LX [] (rtM G adM σM ow f) σX) "java/lang/IndexOutOfBoundsException" (wp G adX LX [] (rtM G adM σM ow f) σX)) (hM : SpR1 l G mX11_result [.ref (adM 0), .int (xs 1), .int (bI z)] adM LM (cellsE G adX LX σX LX.1 0) [outC G ow f] σM (fun v ρ => (∃ bb, v = .int bb) ∧ ρ.1 0 3 = 1)) : PZ (XL b 4 xs) QL l G mL_law [] sz 1064 [(0, .ref b), (1, .ref (adX 0)), (2, .ref (adM 0)), (3, .ref ow), (4, .int 0)] [] 140 3622 (wp G adX LX [] (rtM G adM σM ow f) σX) := by
  cases z
  · have hz : xs 2 = 0 := by simpa using hz
    refine pz_aload_n dL_law_1064 rfl ?_
    refine pz_aload_n dL_law_1065 rfl ?_
    refine pz_iload dL_law_1066 rfl ?_
    refine pz_iconst (v := 1) dL_law_1068 rfl ?_
    refine pz_iadd dL_law_1069 ?_
    refine pz_sld dL_law_1070 (by unfold vp_in; decide) ?_
    refine pz_top (xs 1) (congrArg xs (by decide)) ?_
    refine pz_aload_n dL_law_1071 rfl ?_
    refine pz_iload dL_law_1072 rfl ?_
    refine pz_iconst (v := 2) dL_law_1074 rfl ?_
    refine pz_iadd dL_law_1075 ?_
    refine pz_sld dL_law_1076 (by unfold vp_in; decide) ?_
    refine pz_top (xs 2) (congrArg xs (by decide)) ?_
    refine pz_if_eq 1084 dL_law_1077 (by decide) (fun c_ => ?_) (fun c_ => absurd hz c_)
    refine pz_iconst (v := 0) dL_law_1084 rfl ?_
    refine pz_aload_n dL_law_1085 rfl ?_
    refine pz_callW (mi' := mL_result) (hh := hhL_result) (As := [.ref (adX 0), .int (xs 1), .int (0), .ref ow]) dL_law_1086 (tw_in 974 (by decide +kernel) (by decide +kernel)) mw_result ⟨by decide, by decide⟩ rfl rfl (Nat.le_of_ble_eq_true rfl) (wt1_result (xs 1) (0) hC) ⟨Nat.le_of_ble_eq_true rfl, Nat.le_of_ble_eq_true rfl⟩ (fun v ws1 hv => ?_)
    cases hv
    refine pz_kn 141 3628 rfl rfl ?_
    refine pz_ws (ws' := wp G adM LM (cellsE G adX LX σX LX.1 0) [outC G ow f] σM) rfl ?_
    refine pz_istore dL_law_1089 (by decide) ?_
    refine pz_aload_n dL_law_1091 rfl ?_
    refine pz_aload_n dL_law_1092 rfl ?_
    refine pz_iload dL_law_1093 rfl ?_
    refine pz_iconst (v := 1) dL_law_1095 rfl ?_
    refine pz_iadd dL_law_1096 ?_
    refine pz_sld dL_law_1097 (by unfold vp_in; decide) ?_
    refine pz_top (xs 1) (congrArg xs (by decide)) ?_
    refine pz_aload_n dL_law_1098 rfl ?_
    refine pz_iload dL_law_1099 rfl ?_
    refine pz_iconst (v := 2) dL_law_1101 rfl ?_
    refine pz_iadd dL_law_1102 ?_
    refine pz_sld dL_law_1103 (by unfold vp_in; decide) ?_
    refine pz_top (xs 2) (congrArg xs (by decide)) ?_
    refine pz_if_eq 1111 dL_law_1104 (by decide) (fun c_ => ?_) (fun c_ => absurd hz c_)
    refine pz_iconst (v := 0) dL_law_1111 rfl ?_
    refine pz_rV1 (mi' := mX11_result) (As := [.int (xs 1), .int (0)]) (q := (RX11, TX11, 33)) dL_law_1112 lk_RL_145 mk_X11_result mi_X11_result me_X11_result ⟨by decide, by decide⟩ rfl rfl (Nat.le_of_ble_eq_true rfl) rfl rfl ⟨Nat.le_of_ble_eq_true rfl, Nat.le_of_ble_eq_true rfl⟩ hM (fun v ρ hq => ?_)
    obtain ⟨⟨bb, hq⟩, hth⟩ := hq
    subst hq
    refine pz_kn 141 3628 rfl rfl ?_
    refine pz_istore dL_law_1115 (by decide) ?_
    refine pz_aload_n dL_law_1117 rfl ?_
    refine pz_rV1 (mi' := mX11_thrown) (As := []) (q := (RX11, TX11, 33)) dL_law_1118 lk_RL_82 mk_X11_thrown mi_X11_thrown me_X11_thrown ⟨by decide, by decide⟩ rfl rfl (Nat.le_of_ble_eq_true rfl) rfl rfl ⟨Nat.le_of_ble_eq_true rfl, Nat.le_of_ble_eq_true rfl⟩ (specD_r1 (Q := fun v τ => v = .int 1 ∧ τ = ρ) r_thrown ⟨congrArg Value.int hth, rfl⟩) (fun v ρ2 hq => ?_)
    obtain ⟨hq, hρ⟩ := hq
    subst hq
    subst hρ
    refine pz_kn 141 3628 rfl rfl ?_
    refine pz_iload dL_law_1121 rfl ?_
    refine pz_icmp_eq 1128 dL_law_1123 (by decide) (fun _ => ?_) (fun c_ => absurd rfl c_)
    refine pz_iload dL_law_1128 rfl ?_
    refine pz_if_ne 1145 dL_law_1130 (by decide) (fun _ => ?_) (fun c_ => absurd c_ (by decide))
    refine pz_goto (tgt := 1493) dL_law_1145 (by decide) ?_
    exact pz_lk [(0, .ref b), (4, .int 0)] ⟨rfl, rfl, trivial⟩ (lw_end (Nat.le_of_ble_eq_true rfl) (Nat.le_of_ble_eq_true rfl))
  · have hz : ¬ xs 2 = 0 := by simpa using hz
    refine pz_aload_n dL_law_1064 rfl ?_
    refine pz_aload_n dL_law_1065 rfl ?_
    refine pz_iload dL_law_1066 rfl ?_
    refine pz_iconst (v := 1) dL_law_1068 rfl ?_
    refine pz_iadd dL_law_1069 ?_
    refine pz_sld dL_law_1070 (by unfold vp_in; decide) ?_
    refine pz_top (xs 1) (congrArg xs (by decide)) ?_
    refine pz_aload_n dL_law_1071 rfl ?_
    refine pz_iload dL_law_1072 rfl ?_
    refine pz_iconst (v := 2) dL_law_1074 rfl ?_
    refine pz_iadd dL_law_1075 ?_
    refine pz_sld dL_law_1076 (by unfold vp_in; decide) ?_
    refine pz_top (xs 2) (congrArg xs (by decide)) ?_
    refine pz_if_eq 1084 dL_law_1077 (by decide) (fun c_ => absurd c_ hz) (fun c_ => ?_)
    refine pz_iconst (v := 1) dL_law_1080 rfl ?_
    refine pz_goto (tgt := 1085) dL_law_1081 (by decide) ?_
    refine pz_aload_n dL_law_1085 rfl ?_
    refine pz_callW (mi' := mL_result) (hh := hhL_result) (As := [.ref (adX 0), .int (xs 1), .int (1), .ref ow]) dL_law_1086 (tw_in 974 (by decide +kernel) (by decide +kernel)) mw_result ⟨by decide, by decide⟩ rfl rfl (Nat.le_of_ble_eq_true rfl) (wt1_result (xs 1) (1) hC) ⟨Nat.le_of_ble_eq_true rfl, Nat.le_of_ble_eq_true rfl⟩ (fun v ws1 hv => ?_)
    cases hv
    refine pz_kn 141 3628 rfl rfl ?_
    refine pz_ws (ws' := wp G adM LM (cellsE G adX LX σX LX.1 0) [outC G ow f] σM) rfl ?_
    refine pz_istore dL_law_1089 (by decide) ?_
    refine pz_aload_n dL_law_1091 rfl ?_
    refine pz_aload_n dL_law_1092 rfl ?_
    refine pz_iload dL_law_1093 rfl ?_
    refine pz_iconst (v := 1) dL_law_1095 rfl ?_
    refine pz_iadd dL_law_1096 ?_
    refine pz_sld dL_law_1097 (by unfold vp_in; decide) ?_
    refine pz_top (xs 1) (congrArg xs (by decide)) ?_
    refine pz_aload_n dL_law_1098 rfl ?_
    refine pz_iload dL_law_1099 rfl ?_
    refine pz_iconst (v := 2) dL_law_1101 rfl ?_
    refine pz_iadd dL_law_1102 ?_
    refine pz_sld dL_law_1103 (by unfold vp_in; decide) ?_
    refine pz_top (xs 2) (congrArg xs (by decide)) ?_
    refine pz_if_eq 1111 dL_law_1104 (by decide) (fun c_ => absurd c_ hz) (fun c_ => ?_)
    refine pz_iconst (v := 1) dL_law_1107 rfl ?_
    refine pz_goto (tgt := 1112) dL_law_1108 (by decide) ?_
    refine pz_rV1 (mi' := mX11_result) (As := [.int (xs 1), .int (1)]) (q := (RX11, TX11, 33)) dL_law_1112 lk_RL_145 mk_X11_result mi_X11_result me_X11_result ⟨by decide, by decide⟩ rfl rfl (Nat.le_of_ble_eq_true rfl) rfl rfl ⟨Nat.le_of_ble_eq_true rfl, Nat.le_of_ble_eq_true rfl⟩ hM (fun v ρ hq => ?_)
    obtain ⟨⟨bb, hq⟩, hth⟩ := hq
    subst hq
    refine pz_kn 141 3628 rfl rfl ?_
    refine pz_istore dL_law_1115 (by decide) ?_
    refine pz_aload_n dL_law_1117 rfl ?_
    refine pz_rV1 (mi' := mX11_thrown) (As := []) (q := (RX11, TX11, 33)) dL_law_1118 lk_RL_82 mk_X11_thrown mi_X11_thrown me_X11_thrown ⟨by decide, by decide⟩ rfl rfl (Nat.le_of_ble_eq_true rfl) rfl rfl ⟨Nat.le_of_ble_eq_true rfl, Nat.le_of_ble_eq_true rfl⟩ (specD_r1 (Q := fun v τ => v = .int 1 ∧ τ = ρ) r_thrown ⟨congrArg Value.int hth, rfl⟩) (fun v ρ2 hq => ?_)
    obtain ⟨hq, hρ⟩ := hq
    subst hq
    subst hρ
    refine pz_kn 141 3628 rfl rfl ?_
    refine pz_iload dL_law_1121 rfl ?_
    refine pz_icmp_eq 1128 dL_law_1123 (by decide) (fun _ => ?_) (fun c_ => absurd rfl c_)
    refine pz_iload dL_law_1128 rfl ?_
    refine pz_if_ne 1145 dL_law_1130 (by decide) (fun _ => ?_) (fun c_ => absurd c_ (by decide))
    refine pz_goto (tgt := 1493) dL_law_1145 (by decide) ?_
    exact pz_lk [(0, .ref b), (4, .int 0)] ⟨rfl, rfl, trivial⟩ (lw_end (Nat.le_of_ble_eq_true rfl) (Nat.le_of_ble_eq_true rfl))
theorem ld_checks (z : Bool) (hz : if z = true then ¬ xs 1 = 0 else xs 1 = 0) {r : Int32} (hC : SpR1 l G mX10_checks [.ref (adX 0), .int (bI z)] adX LX [] (rtM G adM σM ow f) σX (fun v _ => v = .int r)) (hM : ∀ τ, SpR1 l G mX11_checks [.ref (adM 0), .int (bI z)] adM LM (cellsE G adX LX τ LX.1 0) [outC G ow f] σM (fun v _ => v = .int r)) : PZ (XL b 4 xs) QL l G mL_law [] sz 1148 [(0, .ref b), (1, .ref (adX 0)), (2, .ref (adM 0)), (3, .ref ow), (4, .int 0)] [] 140 3622 (wp G adX LX [] (rtM G adM σM ow f) σX) := by
  cases z
  · have hz : xs 1 = 0 := by simpa using hz
    refine pz_aload_n dL_law_1148 rfl ?_
    refine pz_aload_n dL_law_1149 rfl ?_
    refine pz_iload dL_law_1150 rfl ?_
    refine pz_iconst (v := 1) dL_law_1152 rfl ?_
    refine pz_iadd dL_law_1153 ?_
    refine pz_sld dL_law_1154 (by unfold vp_in; decide) ?_
    refine pz_top (xs 1) (congrArg xs (by decide)) ?_
    refine pz_if_eq 1162 dL_law_1155 (by decide) (fun c_ => ?_) (fun c_ => absurd hz c_)
    refine pz_iconst (v := 0) dL_law_1162 rfl ?_
    refine pz_rV1 (mi' := mX10_checks) (As := [.int (0)]) (q := (RX10, TX10, 14)) dL_law_1163 lk_RL_146 mk_X10_checks mi_X10_checks me_X10_checks ⟨by decide, by decide⟩ rfl rfl (Nat.le_of_ble_eq_true rfl) rfl rfl ⟨Nat.le_of_ble_eq_true rfl, Nat.le_of_ble_eq_true rfl⟩ hC (fun v τ hq => ?_)
    subst hq
    refine pz_ws (ws' := wp G adM LM (cellsE G adX LX τ LX.1 0) [outC G ow f] σM) rfl ?_
    refine pz_kn 140 3622 rfl rfl ?_
    refine pz_aload_n dL_law_1166 rfl ?_
    refine pz_aload_n dL_law_1167 rfl ?_
    refine pz_iload dL_law_1168 rfl ?_
    refine pz_iconst (v := 1) dL_law_1170 rfl ?_
    refine pz_iadd dL_law_1171 ?_
    refine pz_sld dL_law_1172 (by unfold vp_in; decide) ?_
    refine pz_top (xs 1) (congrArg xs (by decide)) ?_
    refine pz_if_eq 1180 dL_law_1173 (by decide) (fun c_ => ?_) (fun c_ => absurd hz c_)
    refine pz_iconst (v := 0) dL_law_1180 rfl ?_
    refine pz_rV1 (mi' := mX11_checks) (As := [.int (0)]) (q := (RX11, TX11, 33)) dL_law_1181 lk_RL_149 mk_X11_checks mi_X11_checks me_X11_checks ⟨by decide, by decide⟩ rfl rfl (Nat.le_of_ble_eq_true rfl) rfl rfl ⟨Nat.le_of_ble_eq_true rfl, Nat.le_of_ble_eq_true rfl⟩ (hM τ) (fun v ρ hq => ?_)
    subst hq
    refine pz_kn 140 3622 rfl rfl ?_
    refine pz_icmp_eq 1493 dL_law_1184 (by decide) (fun _ => ?_) (fun c_ => absurd rfl c_)
    exact pz_lk [(0, .ref b), (4, .int 0)] ⟨rfl, rfl, trivial⟩ (lw_end (Nat.le_of_ble_eq_true rfl) (Nat.le_of_ble_eq_true rfl))
  · have hz : ¬ xs 1 = 0 := by simpa using hz
    refine pz_aload_n dL_law_1148 rfl ?_
    refine pz_aload_n dL_law_1149 rfl ?_
    refine pz_iload dL_law_1150 rfl ?_
    refine pz_iconst (v := 1) dL_law_1152 rfl ?_
    refine pz_iadd dL_law_1153 ?_
    refine pz_sld dL_law_1154 (by unfold vp_in; decide) ?_
    refine pz_top (xs 1) (congrArg xs (by decide)) ?_
    refine pz_if_eq 1162 dL_law_1155 (by decide) (fun c_ => absurd c_ hz) (fun c_ => ?_)
    refine pz_iconst (v := 1) dL_law_1158 rfl ?_
    refine pz_goto (tgt := 1163) dL_law_1159 (by decide) ?_
    refine pz_rV1 (mi' := mX10_checks) (As := [.int (1)]) (q := (RX10, TX10, 14)) dL_law_1163 lk_RL_146 mk_X10_checks mi_X10_checks me_X10_checks ⟨by decide, by decide⟩ rfl rfl (Nat.le_of_ble_eq_true rfl) rfl rfl ⟨Nat.le_of_ble_eq_true rfl, Nat.le_of_ble_eq_true rfl⟩ hC (fun v τ hq => ?_)
    subst hq
    refine pz_ws (ws' := wp G adM LM (cellsE G adX LX τ LX.1 0) [outC G ow f] σM) rfl ?_
    refine pz_kn 140 3622 rfl rfl ?_
    refine pz_aload_n dL_law_1166 rfl ?_
    refine pz_aload_n dL_law_1167 rfl ?_
    refine pz_iload dL_law_1168 rfl ?_
    refine pz_iconst (v := 1) dL_law_1170 rfl ?_
    refine pz_iadd dL_law_1171 ?_
    refine pz_sld dL_law_1172 (by unfold vp_in; decide) ?_
    refine pz_top (xs 1) (congrArg xs (by decide)) ?_
    refine pz_if_eq 1180 dL_law_1173 (by decide) (fun c_ => absurd c_ hz) (fun c_ => ?_)
    refine pz_iconst (v := 1) dL_law_1176 rfl ?_
    refine pz_goto (tgt := 1181) dL_law_1177 (by decide) ?_
    refine pz_rV1 (mi' := mX11_checks) (As := [.int (1)]) (q := (RX11, TX11, 33)) dL_law_1181 lk_RL_149 mk_X11_checks mi_X11_checks me_X11_checks ⟨by decide, by decide⟩ rfl rfl (Nat.le_of_ble_eq_true rfl) rfl rfl ⟨Nat.le_of_ble_eq_true rfl, Nat.le_of_ble_eq_true rfl⟩ (hM τ) (fun v ρ hq => ?_)
    subst hq
    refine pz_kn 140 3622 rfl rfl ?_
    refine pz_icmp_eq 1493 dL_law_1184 (by decide) (fun _ => ?_) (fun c_ => absurd rfl c_)
    exact pz_lk [(0, .ref b), (4, .int 0)] ⟨rfl, rfl, trivial⟩ (lw_end (Nat.le_of_ble_eq_true rfl) (Nat.le_of_ble_eq_true rfl))
theorem ld_executed {r : Int32} (hC : SpR1 l G mX10_executed [.ref (adX 0)] adX LX [] (rtM G adM σM ow f) σX (fun v _ => v = .int r)) (hM : ∀ τ, SpR1 l G mX11_executed [.ref (adM 0)] adM LM (cellsE G adX LX τ LX.1 0) [outC G ow f] σM (fun v _ => v = .int r)) : PZ (XL b 4 xs) QL l G mL_law [] sz 1189 [(0, .ref b), (1, .ref (adX 0)), (2, .ref (adM 0)), (3, .ref ow), (4, .int 0)] [] 140 3622 (wp G adX LX [] (rtM G adM σM ow f) σX) := by
  refine pz_aload_n dL_law_1189 rfl ?_
  refine pz_rV1 (mi' := mX10_executed) (As := []) (q := (RX10, TX10, 14)) dL_law_1190 lk_RL_150 mk_X10_executed mi_X10_executed me_X10_executed ⟨by decide, by decide⟩ rfl rfl (Nat.le_of_ble_eq_true rfl) rfl rfl ⟨Nat.le_of_ble_eq_true rfl, Nat.le_of_ble_eq_true rfl⟩ hC (fun v τ hq => ?_)
  subst hq
  refine pz_ws (ws' := wp G adM LM (cellsE G adX LX τ LX.1 0) [outC G ow f] σM) rfl ?_
  refine pz_kn 140 3622 rfl rfl ?_
  refine pz_aload_n dL_law_1193 rfl ?_
  refine pz_rV1 (mi' := mX11_executed) (As := []) (q := (RX11, TX11, 33)) dL_law_1194 lk_RL_153 mk_X11_executed mi_X11_executed me_X11_executed ⟨by decide, by decide⟩ rfl rfl (Nat.le_of_ble_eq_true rfl) rfl rfl ⟨Nat.le_of_ble_eq_true rfl, Nat.le_of_ble_eq_true rfl⟩ (hM τ) (fun v ρ hq => ?_)
  subst hq
  refine pz_kn 140 3622 rfl rfl ?_
  refine pz_icmp_eq 1493 dL_law_1197 (by decide) (fun _ => ?_) (fun c_ => absurd rfl c_)
  exact pz_lk [(0, .ref b), (4, .int 0)] ⟨rfl, rfl, trivial⟩ (lw_end (Nat.le_of_ble_eq_true rfl) (Nat.le_of_ble_eq_true rfl))
theorem ld_saving (hC : SpR1 l G mX10_saving [.ref (adX 0)] adX LX [] (rtM G adM σM ow f) σX (fun v _ => v = .double FP.dconst0)) (hM : ∀ τ, SpR1 l G mX11_saving [.ref (adM 0)] adM LM (cellsE G adX LX τ LX.1 0) [outC G ow f] σM (fun v _ => v = .double FP.dconst0)) : PZ (XL b 4 xs) QL l G mL_law [] sz 1202 [(0, .ref b), (1, .ref (adX 0)), (2, .ref (adM 0)), (3, .ref ow), (4, .int 0)] [] 140 3622 (wp G adX LX [] (rtM G adM σM ow f) σX) := by
  refine pz_aload_n dL_law_1202 rfl ?_
  refine pz_rV1 (mi' := mX10_saving) (As := []) (q := (RX10, TX10, 14)) dL_law_1203 lk_RL_154 mk_X10_saving mi_X10_saving me_X10_saving ⟨by decide, by decide⟩ rfl rfl (Nat.le_of_ble_eq_true rfl) rfl rfl ⟨Nat.le_of_ble_eq_true rfl, Nat.le_of_ble_eq_true rfl⟩ hC (fun v τ hq => ?_)
  subst hq
  refine pz_ws (ws' := wp G adM LM (cellsE G adX LX τ LX.1 0) [outC G ow f] σM) rfl ?_
  refine pz_kn 140 3622 rfl rfl ?_
  refine pz_dstore dL_law_1206 (by decide) ?_
  refine pz_aload_n dL_law_1208 rfl ?_
  refine pz_rV1 (mi' := mX11_saving) (As := []) (q := (RX11, TX11, 33)) dL_law_1209 lk_RL_158 mk_X11_saving mi_X11_saving me_X11_saving ⟨by decide, by decide⟩ rfl rfl (Nat.le_of_ble_eq_true rfl) rfl rfl ⟨Nat.le_of_ble_eq_true rfl, Nat.le_of_ble_eq_true rfl⟩ (hM τ) (fun v ρ hq => ?_)
  subst hq
  refine pz_kn 140 3622 rfl rfl ?_
  refine pz_dstore dL_law_1212 (by decide) ?_
  refine pz_dload dL_law_1214 rfl ?_
  refine pz_dload dL_law_1216 rfl ?_
  refine pz_dcmp 0 dL_law_1218 (by decide) ?_
  refine pz_if_eq 1240 dL_law_1219 (by decide) (fun _ => ?_) (fun c_ => absurd rfl c_)
  refine pz_goto (tgt := 1493) dL_law_1240 (by decide) ?_
  exact pz_lk [(0, .ref b), (4, .int 0)] ⟨rfl, rfl, trivial⟩ (lw_end (Nat.le_of_ble_eq_true rfl) (Nat.le_of_ble_eq_true rfl))
theorem lo_openWith {r : Int32} (hC : SpR1 l G mX10_openWith [.ref (adX 0), .int (xs 1), .int (xs 2), .int (xs 3)] adX LX [] (rtM G adM σM ow f) σX (fun v _ => v = .int r)) (hM : ∀ τ g, SpR1 l G mX11_openWith [.ref (adM 0), .int (xs 1), .int (xs 2), .int (xs 3)] adM LM (cellsE G adX LX τ LX.1 0) [outC G ow g] σM (fun v ρ => v = .int r ∧ ρ.1 0 3 = 0)) : PZ (XL b 4 xs) QL l G mL_law [] sz 1243 [(0, .ref b), (1, .ref (adX 0)), (2, .ref (adM 0)), (3, .ref ow), (4, .int 0)] [] 140 3622 (wp G adX LX [] (rtM G adM σM ow f) σX) := by
  refine pz_aload_n dL_law_1243 rfl ?_
  refine pz_aload_n dL_law_1244 rfl ?_
  refine pz_iload dL_law_1245 rfl ?_
  refine pz_iconst (v := 1) dL_law_1247 rfl ?_
  refine pz_iadd dL_law_1248 ?_
  refine pz_sld dL_law_1249 (by unfold vp_in; decide) ?_
  refine pz_top (xs 1) (congrArg xs (by decide)) ?_
  refine pz_aload_n dL_law_1250 rfl ?_
  refine pz_iload dL_law_1251 rfl ?_
  refine pz_iconst (v := 2) dL_law_1253 rfl ?_
  refine pz_iadd dL_law_1254 ?_
  refine pz_sld dL_law_1255 (by unfold vp_in; decide) ?_
  refine pz_top (xs 2) (congrArg xs (by decide)) ?_
  refine pz_aload_n dL_law_1256 rfl ?_
  refine pz_iload dL_law_1257 rfl ?_
  refine pz_iconst (v := 3) dL_law_1259 rfl ?_
  refine pz_iadd dL_law_1260 ?_
  refine pz_sld dL_law_1261 (by unfold vp_in; decide) ?_
  refine pz_top (xs 3) (congrArg xs (by decide)) ?_
  refine pz_aload_n dL_law_1262 rfl ?_
  refine pz_callW (mi' := mL_openWith) (hh := hhL_openWith) (As := [.ref (adX 0), .int (xs 1), .int (xs 2), .int (xs 3), .ref ow]) dL_law_1263 (tw_in 981 (by decide +kernel) (by decide +kernel)) mw_openWith ⟨by decide, by decide⟩ rfl rfl (Nat.le_of_ble_eq_true rfl) (wo_openWith (p := 22) rt_at (xs 1) (xs 2) (xs 3) (Qs := fun _ => True) (r1_mono hC (fun v τ h => ⟨h, trivial⟩))) ⟨Nat.le_of_ble_eq_true rfl, Nat.le_of_ble_eq_true rfl⟩ (fun v ws1 hv => ?_)
  obtain ⟨τ, hv, -⟩ := hv
  cases hv
  refine pz_kn 142 3634 rfl rfl ?_
  refine pz_ws (ws' := wp G adM LM (cellsE G adX LX τ LX.1 0) [outC G ow (vp_updL f 0 r.toInt64)] σM) (by rw [rt_set]; rfl) ?_
  refine pz_istore dL_law_1266 (by decide) ?_
  refine pz_aload_n dL_law_1268 rfl ?_
  refine pz_aload_n dL_law_1269 rfl ?_
  refine pz_iload dL_law_1270 rfl ?_
  refine pz_iconst (v := 1) dL_law_1272 rfl ?_
  refine pz_iadd dL_law_1273 ?_
  refine pz_sld dL_law_1274 (by unfold vp_in; decide) ?_
  refine pz_top (xs 1) (congrArg xs (by decide)) ?_
  refine pz_aload_n dL_law_1275 rfl ?_
  refine pz_iload dL_law_1276 rfl ?_
  refine pz_iconst (v := 2) dL_law_1278 rfl ?_
  refine pz_iadd dL_law_1279 ?_
  refine pz_sld dL_law_1280 (by unfold vp_in; decide) ?_
  refine pz_top (xs 2) (congrArg xs (by decide)) ?_
  refine pz_aload_n dL_law_1281 rfl ?_
  refine pz_iload dL_law_1282 rfl ?_
  refine pz_iconst (v := 3) dL_law_1284 rfl ?_
  refine pz_iadd dL_law_1285 ?_
  refine pz_sld dL_law_1286 (by unfold vp_in; decide) ?_
  refine pz_top (xs 3) (congrArg xs (by decide)) ?_
  refine pz_rV1 (mi' := mX11_openWith) (As := [.int (xs 1), .int (xs 2), .int (xs 3)]) (q := (RX11, TX11, 33)) dL_law_1287 lk_RL_161 mk_X11_openWith mi_X11_openWith me_X11_openWith ⟨by decide, by decide⟩ rfl rfl (Nat.le_of_ble_eq_true rfl) rfl rfl ⟨Nat.le_of_ble_eq_true rfl, Nat.le_of_ble_eq_true rfl⟩ (hM τ _) (fun v ρ hq => ?_)
  obtain ⟨hq, hth⟩ := hq
  subst hq
  refine pz_kn 142 3634 rfl rfl ?_
  refine pz_istore dL_law_1290 (by decide) ?_
  refine pz_aload_n dL_law_1292 rfl ?_
  refine pz_rV1 (mi' := mX11_thrown) (As := []) (q := (RX11, TX11, 33)) dL_law_1293 lk_RL_82 mk_X11_thrown mi_X11_thrown me_X11_thrown ⟨by decide, by decide⟩ rfl rfl (Nat.le_of_ble_eq_true rfl) rfl rfl ⟨Nat.le_of_ble_eq_true rfl, Nat.le_of_ble_eq_true rfl⟩ (specD_r1 (Q := fun v τ => v = .int 0 ∧ τ = ρ) r_thrown ⟨congrArg Value.int hth, rfl⟩) (fun v ρ2 hq => ?_)
  obtain ⟨hq, hρ⟩ := hq
  subst hq
  subst hρ
  refine pz_kn 142 3634 rfl rfl ?_
  refine pz_iload dL_law_1296 rfl ?_
  refine pz_icmp_eq 1303 dL_law_1298 (by decide) (fun _ => ?_) (fun c_ => absurd rfl c_)
  refine pz_iload dL_law_1303 rfl ?_
  refine pz_if_ne 1320 dL_law_1305 (by decide) (fun c_ => absurd rfl c_) (fun _ => ?_)
  refine pz_aload_n dL_law_1308 rfl ?_
  refine pz_iconst (v := 0) dL_law_1309 rfl ?_
  refine pz_lald dL_law_1310 ((cellsE G adX LX τ LX.1 0).length + (LM.1.length + 0)) (wp_rt rfl) (vp_in_nI (n := 0) (by decide) (by decide)) ?_
  refine pz_iload dL_law_1311 rfl ?_
  refine pz_i2l dL_law_1313 ?_
  refine pz_lcmp dL_law_1314 ?_
  refine pz_if_eq 1320 dL_law_1315 (by decide) (fun _ => ?_) (fun c_ => absurd (lg_cmp_self _) c_)
  refine pz_goto (tgt := 1493) dL_law_1320 (by decide) ?_
  exact pz_lk [(0, .ref b), (4, .int 0)] ⟨rfl, rfl, trivial⟩ (lw_end (Nat.le_of_ble_eq_true rfl) (Nat.le_of_ble_eq_true rfl))
theorem lt1_openWith (hC : SpecT l G mX10_openWith [.ref (adX 0), .int (xs 1), .int (xs 2), .int (xs 3)] (wp G adX LX [] (rtM G adM σM ow f) σX) "java/lang/IndexOutOfBoundsException" (wp G adX LX [] (rtM G adM σM ow f) σX)) (hM : SpR1 l G mX11_openWith [.ref (adM 0), .int (xs 1), .int (xs 2), .int (xs 3)] adM LM (cellsE G adX LX σX LX.1 0) [outC G ow f] σM (fun v ρ => (∃ bb, v = .int bb) ∧ ρ.1 0 3 = 1)) : PZ (XL b 4 xs) QL l G mL_law [] sz 1243 [(0, .ref b), (1, .ref (adX 0)), (2, .ref (adM 0)), (3, .ref ow), (4, .int 0)] [] 140 3622 (wp G adX LX [] (rtM G adM σM ow f) σX) := by
  refine pz_aload_n dL_law_1243 rfl ?_
  refine pz_aload_n dL_law_1244 rfl ?_
  refine pz_iload dL_law_1245 rfl ?_
  refine pz_iconst (v := 1) dL_law_1247 rfl ?_
  refine pz_iadd dL_law_1248 ?_
  refine pz_sld dL_law_1249 (by unfold vp_in; decide) ?_
  refine pz_top (xs 1) (congrArg xs (by decide)) ?_
  refine pz_aload_n dL_law_1250 rfl ?_
  refine pz_iload dL_law_1251 rfl ?_
  refine pz_iconst (v := 2) dL_law_1253 rfl ?_
  refine pz_iadd dL_law_1254 ?_
  refine pz_sld dL_law_1255 (by unfold vp_in; decide) ?_
  refine pz_top (xs 2) (congrArg xs (by decide)) ?_
  refine pz_aload_n dL_law_1256 rfl ?_
  refine pz_iload dL_law_1257 rfl ?_
  refine pz_iconst (v := 3) dL_law_1259 rfl ?_
  refine pz_iadd dL_law_1260 ?_
  refine pz_sld dL_law_1261 (by unfold vp_in; decide) ?_
  refine pz_top (xs 3) (congrArg xs (by decide)) ?_
  refine pz_aload_n dL_law_1262 rfl ?_
  refine pz_callW (mi' := mL_openWith) (hh := hhL_openWith) (As := [.ref (adX 0), .int (xs 1), .int (xs 2), .int (xs 3), .ref ow]) dL_law_1263 (tw_in 981 (by decide +kernel) (by decide +kernel)) mw_openWith ⟨by decide, by decide⟩ rfl rfl (Nat.le_of_ble_eq_true rfl) (wt1_openWith (xs 1) (xs 2) (xs 3) hC) ⟨Nat.le_of_ble_eq_true rfl, Nat.le_of_ble_eq_true rfl⟩ (fun v ws1 hv => ?_)
  cases hv
  refine pz_kn 142 3634 rfl rfl ?_
  refine pz_ws (ws' := wp G adM LM (cellsE G adX LX σX LX.1 0) [outC G ow f] σM) rfl ?_
  refine pz_istore dL_law_1266 (by decide) ?_
  refine pz_aload_n dL_law_1268 rfl ?_
  refine pz_aload_n dL_law_1269 rfl ?_
  refine pz_iload dL_law_1270 rfl ?_
  refine pz_iconst (v := 1) dL_law_1272 rfl ?_
  refine pz_iadd dL_law_1273 ?_
  refine pz_sld dL_law_1274 (by unfold vp_in; decide) ?_
  refine pz_top (xs 1) (congrArg xs (by decide)) ?_
  refine pz_aload_n dL_law_1275 rfl ?_
  refine pz_iload dL_law_1276 rfl ?_
  refine pz_iconst (v := 2) dL_law_1278 rfl ?_
  refine pz_iadd dL_law_1279 ?_
  refine pz_sld dL_law_1280 (by unfold vp_in; decide) ?_
  refine pz_top (xs 2) (congrArg xs (by decide)) ?_
  refine pz_aload_n dL_law_1281 rfl ?_
  refine pz_iload dL_law_1282 rfl ?_
  refine pz_iconst (v := 3) dL_law_1284 rfl ?_
  refine pz_iadd dL_law_1285 ?_
  refine pz_sld dL_law_1286 (by unfold vp_in; decide) ?_
  refine pz_top (xs 3) (congrArg xs (by decide)) ?_
  refine pz_rV1 (mi' := mX11_openWith) (As := [.int (xs 1), .int (xs 2), .int (xs 3)]) (q := (RX11, TX11, 33)) dL_law_1287 lk_RL_161 mk_X11_openWith mi_X11_openWith me_X11_openWith ⟨by decide, by decide⟩ rfl rfl (Nat.le_of_ble_eq_true rfl) rfl rfl ⟨Nat.le_of_ble_eq_true rfl, Nat.le_of_ble_eq_true rfl⟩ hM (fun v ρ hq => ?_)
  obtain ⟨⟨bb, hq⟩, hth⟩ := hq
  subst hq
  refine pz_kn 142 3634 rfl rfl ?_
  refine pz_istore dL_law_1290 (by decide) ?_
  refine pz_aload_n dL_law_1292 rfl ?_
  refine pz_rV1 (mi' := mX11_thrown) (As := []) (q := (RX11, TX11, 33)) dL_law_1293 lk_RL_82 mk_X11_thrown mi_X11_thrown me_X11_thrown ⟨by decide, by decide⟩ rfl rfl (Nat.le_of_ble_eq_true rfl) rfl rfl ⟨Nat.le_of_ble_eq_true rfl, Nat.le_of_ble_eq_true rfl⟩ (specD_r1 (Q := fun v τ => v = .int 1 ∧ τ = ρ) r_thrown ⟨congrArg Value.int hth, rfl⟩) (fun v ρ2 hq => ?_)
  obtain ⟨hq, hρ⟩ := hq
  subst hq
  subst hρ
  refine pz_kn 142 3634 rfl rfl ?_
  refine pz_iload dL_law_1296 rfl ?_
  refine pz_icmp_eq 1303 dL_law_1298 (by decide) (fun _ => ?_) (fun c_ => absurd rfl c_)
  refine pz_iload dL_law_1303 rfl ?_
  refine pz_if_ne 1320 dL_law_1305 (by decide) (fun _ => ?_) (fun c_ => absurd c_ (by decide))
  refine pz_goto (tgt := 1493) dL_law_1320 (by decide) ?_
  exact pz_lk [(0, .ref b), (4, .int 0)] ⟨rfl, rfl, trivial⟩ (lw_end (Nat.le_of_ble_eq_true rfl) (Nat.le_of_ble_eq_true rfl))
theorem lt2_openWith (hC : SpecT l G mX10_openWith [.ref (adX 0), .int (xs 1), .int (xs 2), .int (xs 3)] (wp G adX LX [] (rtM G adM σM ow f) σX) "java/lang/IllegalArgumentException" (wp G adX LX [] (rtM G adM σM ow f) σX)) (hM : SpR1 l G mX11_openWith [.ref (adM 0), .int (xs 1), .int (xs 2), .int (xs 3)] adM LM (cellsE G adX LX σX LX.1 0) [outC G ow f] σM (fun v ρ => (∃ bb, v = .int bb) ∧ ρ.1 0 3 = 2)) : PZ (XL b 4 xs) QL l G mL_law [] sz 1243 [(0, .ref b), (1, .ref (adX 0)), (2, .ref (adM 0)), (3, .ref ow), (4, .int 0)] [] 140 3622 (wp G adX LX [] (rtM G adM σM ow f) σX) := by
  refine pz_aload_n dL_law_1243 rfl ?_
  refine pz_aload_n dL_law_1244 rfl ?_
  refine pz_iload dL_law_1245 rfl ?_
  refine pz_iconst (v := 1) dL_law_1247 rfl ?_
  refine pz_iadd dL_law_1248 ?_
  refine pz_sld dL_law_1249 (by unfold vp_in; decide) ?_
  refine pz_top (xs 1) (congrArg xs (by decide)) ?_
  refine pz_aload_n dL_law_1250 rfl ?_
  refine pz_iload dL_law_1251 rfl ?_
  refine pz_iconst (v := 2) dL_law_1253 rfl ?_
  refine pz_iadd dL_law_1254 ?_
  refine pz_sld dL_law_1255 (by unfold vp_in; decide) ?_
  refine pz_top (xs 2) (congrArg xs (by decide)) ?_
  refine pz_aload_n dL_law_1256 rfl ?_
  refine pz_iload dL_law_1257 rfl ?_
  refine pz_iconst (v := 3) dL_law_1259 rfl ?_
  refine pz_iadd dL_law_1260 ?_
  refine pz_sld dL_law_1261 (by unfold vp_in; decide) ?_
  refine pz_top (xs 3) (congrArg xs (by decide)) ?_
  refine pz_aload_n dL_law_1262 rfl ?_
  refine pz_callW (mi' := mL_openWith) (hh := hhL_openWith) (As := [.ref (adX 0), .int (xs 1), .int (xs 2), .int (xs 3), .ref ow]) dL_law_1263 (tw_in 981 (by decide +kernel) (by decide +kernel)) mw_openWith ⟨by decide, by decide⟩ rfl rfl (Nat.le_of_ble_eq_true rfl) (wt2_openWith (xs 1) (xs 2) (xs 3) hC) ⟨Nat.le_of_ble_eq_true rfl, Nat.le_of_ble_eq_true rfl⟩ (fun v ws1 hv => ?_)
  cases hv
  refine pz_kn 142 3634 rfl rfl ?_
  refine pz_ws (ws' := wp G adM LM (cellsE G adX LX σX LX.1 0) [outC G ow f] σM) rfl ?_
  refine pz_istore dL_law_1266 (by decide) ?_
  refine pz_aload_n dL_law_1268 rfl ?_
  refine pz_aload_n dL_law_1269 rfl ?_
  refine pz_iload dL_law_1270 rfl ?_
  refine pz_iconst (v := 1) dL_law_1272 rfl ?_
  refine pz_iadd dL_law_1273 ?_
  refine pz_sld dL_law_1274 (by unfold vp_in; decide) ?_
  refine pz_top (xs 1) (congrArg xs (by decide)) ?_
  refine pz_aload_n dL_law_1275 rfl ?_
  refine pz_iload dL_law_1276 rfl ?_
  refine pz_iconst (v := 2) dL_law_1278 rfl ?_
  refine pz_iadd dL_law_1279 ?_
  refine pz_sld dL_law_1280 (by unfold vp_in; decide) ?_
  refine pz_top (xs 2) (congrArg xs (by decide)) ?_
  refine pz_aload_n dL_law_1281 rfl ?_
  refine pz_iload dL_law_1282 rfl ?_
  refine pz_iconst (v := 3) dL_law_1284 rfl ?_
  refine pz_iadd dL_law_1285 ?_
  refine pz_sld dL_law_1286 (by unfold vp_in; decide) ?_
  refine pz_top (xs 3) (congrArg xs (by decide)) ?_
  refine pz_rV1 (mi' := mX11_openWith) (As := [.int (xs 1), .int (xs 2), .int (xs 3)]) (q := (RX11, TX11, 33)) dL_law_1287 lk_RL_161 mk_X11_openWith mi_X11_openWith me_X11_openWith ⟨by decide, by decide⟩ rfl rfl (Nat.le_of_ble_eq_true rfl) rfl rfl ⟨Nat.le_of_ble_eq_true rfl, Nat.le_of_ble_eq_true rfl⟩ hM (fun v ρ hq => ?_)
  obtain ⟨⟨bb, hq⟩, hth⟩ := hq
  subst hq
  refine pz_kn 142 3634 rfl rfl ?_
  refine pz_istore dL_law_1290 (by decide) ?_
  refine pz_aload_n dL_law_1292 rfl ?_
  refine pz_rV1 (mi' := mX11_thrown) (As := []) (q := (RX11, TX11, 33)) dL_law_1293 lk_RL_82 mk_X11_thrown mi_X11_thrown me_X11_thrown ⟨by decide, by decide⟩ rfl rfl (Nat.le_of_ble_eq_true rfl) rfl rfl ⟨Nat.le_of_ble_eq_true rfl, Nat.le_of_ble_eq_true rfl⟩ (specD_r1 (Q := fun v τ => v = .int 2 ∧ τ = ρ) r_thrown ⟨congrArg Value.int hth, rfl⟩) (fun v ρ2 hq => ?_)
  obtain ⟨hq, hρ⟩ := hq
  subst hq
  subst hρ
  refine pz_kn 142 3634 rfl rfl ?_
  refine pz_iload dL_law_1296 rfl ?_
  refine pz_icmp_eq 1303 dL_law_1298 (by decide) (fun _ => ?_) (fun c_ => absurd rfl c_)
  refine pz_iload dL_law_1303 rfl ?_
  refine pz_if_ne 1320 dL_law_1305 (by decide) (fun _ => ?_) (fun c_ => absurd c_ (by decide))
  refine pz_goto (tgt := 1493) dL_law_1320 (by decide) ?_
  exact pz_lk [(0, .ref b), (4, .int 0)] ⟨rfl, rfl, trivial⟩ (lw_end (Nat.le_of_ble_eq_true rfl) (Nat.le_of_ble_eq_true rfl))
theorem lo_safePower {r : Int32} (hC : SpR1 l G mX10_safePower [.ref (adX 0), .int (xs 1)] adX LX [] (rtM G adM σM ow f) σX (fun v _ => v = .int r)) (hM : ∀ τ g, SpR1 l G mX11_safePower [.ref (adM 0), .int (xs 1)] adM LM (cellsE G adX LX τ LX.1 0) [outC G ow g] σM (fun v ρ => v = .int r ∧ ρ.1 0 3 = 0)) : PZ (XL b 4 xs) QL l G mL_law [] sz 1323 [(0, .ref b), (1, .ref (adX 0)), (2, .ref (adM 0)), (3, .ref ow), (4, .int 0)] [] 140 3622 (wp G adX LX [] (rtM G adM σM ow f) σX) := by
  refine pz_aload_n dL_law_1323 rfl ?_
  refine pz_aload_n dL_law_1324 rfl ?_
  refine pz_iload dL_law_1325 rfl ?_
  refine pz_iconst (v := 1) dL_law_1327 rfl ?_
  refine pz_iadd dL_law_1328 ?_
  refine pz_sld dL_law_1329 (by unfold vp_in; decide) ?_
  refine pz_top (xs 1) (congrArg xs (by decide)) ?_
  refine pz_aload_n dL_law_1330 rfl ?_
  refine pz_callW (mi' := mL_safePower) (hh := hhL_safePower) (As := [.ref (adX 0), .int (xs 1), .ref ow]) dL_law_1331 (tw_in 993 (by decide +kernel) (by decide +kernel)) mw_safePower ⟨by decide, by decide⟩ rfl rfl (Nat.le_of_ble_eq_true rfl) (wo_safePower (p := 22) rt_at (xs 1) (Qs := fun _ => True) (r1_mono hC (fun v τ h => ⟨h, trivial⟩))) ⟨Nat.le_of_ble_eq_true rfl, Nat.le_of_ble_eq_true rfl⟩ (fun v ws1 hv => ?_)
  obtain ⟨τ, hv, -⟩ := hv
  cases hv
  refine pz_kn 141 3628 rfl rfl ?_
  refine pz_ws (ws' := wp G adM LM (cellsE G adX LX τ LX.1 0) [outC G ow (vp_updL f 0 r.toInt64)] σM) (by rw [rt_set]; rfl) ?_
  refine pz_istore dL_law_1334 (by decide) ?_
  refine pz_aload_n dL_law_1336 rfl ?_
  refine pz_aload_n dL_law_1337 rfl ?_
  refine pz_iload dL_law_1338 rfl ?_
  refine pz_iconst (v := 1) dL_law_1340 rfl ?_
  refine pz_iadd dL_law_1341 ?_
  refine pz_sld dL_law_1342 (by unfold vp_in; decide) ?_
  refine pz_top (xs 1) (congrArg xs (by decide)) ?_
  refine pz_rV1 (mi' := mX11_safePower) (As := [.int (xs 1)]) (q := (RX11, TX11, 33)) dL_law_1343 lk_RL_164 mk_X11_safePower mi_X11_safePower me_X11_safePower ⟨by decide, by decide⟩ rfl rfl (Nat.le_of_ble_eq_true rfl) rfl rfl ⟨Nat.le_of_ble_eq_true rfl, Nat.le_of_ble_eq_true rfl⟩ (hM τ _) (fun v ρ hq => ?_)
  obtain ⟨hq, hth⟩ := hq
  subst hq
  refine pz_kn 141 3628 rfl rfl ?_
  refine pz_istore dL_law_1346 (by decide) ?_
  refine pz_aload_n dL_law_1348 rfl ?_
  refine pz_rV1 (mi' := mX11_thrown) (As := []) (q := (RX11, TX11, 33)) dL_law_1349 lk_RL_82 mk_X11_thrown mi_X11_thrown me_X11_thrown ⟨by decide, by decide⟩ rfl rfl (Nat.le_of_ble_eq_true rfl) rfl rfl ⟨Nat.le_of_ble_eq_true rfl, Nat.le_of_ble_eq_true rfl⟩ (specD_r1 (Q := fun v τ => v = .int 0 ∧ τ = ρ) r_thrown ⟨congrArg Value.int hth, rfl⟩) (fun v ρ2 hq => ?_)
  obtain ⟨hq, hρ⟩ := hq
  subst hq
  subst hρ
  refine pz_kn 141 3628 rfl rfl ?_
  refine pz_iload dL_law_1352 rfl ?_
  refine pz_icmp_eq 1359 dL_law_1354 (by decide) (fun _ => ?_) (fun c_ => absurd rfl c_)
  refine pz_iload dL_law_1359 rfl ?_
  refine pz_if_ne 1376 dL_law_1361 (by decide) (fun c_ => absurd rfl c_) (fun _ => ?_)
  refine pz_aload_n dL_law_1364 rfl ?_
  refine pz_iconst (v := 0) dL_law_1365 rfl ?_
  refine pz_lald dL_law_1366 ((cellsE G adX LX τ LX.1 0).length + (LM.1.length + 0)) (wp_rt rfl) (vp_in_nI (n := 0) (by decide) (by decide)) ?_
  refine pz_iload dL_law_1367 rfl ?_
  refine pz_i2l dL_law_1369 ?_
  refine pz_lcmp dL_law_1370 ?_
  refine pz_if_eq 1376 dL_law_1371 (by decide) (fun _ => ?_) (fun c_ => absurd (lg_cmp_self _) c_)
  refine pz_goto (tgt := 1493) dL_law_1376 (by decide) ?_
  exact pz_lk [(0, .ref b), (4, .int 0)] ⟨rfl, rfl, trivial⟩ (lw_end (Nat.le_of_ble_eq_true rfl) (Nat.le_of_ble_eq_true rfl))
theorem lt1_safePower (hC : SpecT l G mX10_safePower [.ref (adX 0), .int (xs 1)] (wp G adX LX [] (rtM G adM σM ow f) σX) "java/lang/IndexOutOfBoundsException" (wp G adX LX [] (rtM G adM σM ow f) σX)) (hM : SpR1 l G mX11_safePower [.ref (adM 0), .int (xs 1)] adM LM (cellsE G adX LX σX LX.1 0) [outC G ow f] σM (fun v ρ => (∃ bb, v = .int bb) ∧ ρ.1 0 3 = 1)) : PZ (XL b 4 xs) QL l G mL_law [] sz 1323 [(0, .ref b), (1, .ref (adX 0)), (2, .ref (adM 0)), (3, .ref ow), (4, .int 0)] [] 140 3622 (wp G adX LX [] (rtM G adM σM ow f) σX) := by
  refine pz_aload_n dL_law_1323 rfl ?_
  refine pz_aload_n dL_law_1324 rfl ?_
  refine pz_iload dL_law_1325 rfl ?_
  refine pz_iconst (v := 1) dL_law_1327 rfl ?_
  refine pz_iadd dL_law_1328 ?_
  refine pz_sld dL_law_1329 (by unfold vp_in; decide) ?_
  refine pz_top (xs 1) (congrArg xs (by decide)) ?_
  refine pz_aload_n dL_law_1330 rfl ?_
  refine pz_callW (mi' := mL_safePower) (hh := hhL_safePower) (As := [.ref (adX 0), .int (xs 1), .ref ow]) dL_law_1331 (tw_in 993 (by decide +kernel) (by decide +kernel)) mw_safePower ⟨by decide, by decide⟩ rfl rfl (Nat.le_of_ble_eq_true rfl) (wt1_safePower (xs 1) hC) ⟨Nat.le_of_ble_eq_true rfl, Nat.le_of_ble_eq_true rfl⟩ (fun v ws1 hv => ?_)
  cases hv
  refine pz_kn 141 3628 rfl rfl ?_
  refine pz_ws (ws' := wp G adM LM (cellsE G adX LX σX LX.1 0) [outC G ow f] σM) rfl ?_
  refine pz_istore dL_law_1334 (by decide) ?_
  refine pz_aload_n dL_law_1336 rfl ?_
  refine pz_aload_n dL_law_1337 rfl ?_
  refine pz_iload dL_law_1338 rfl ?_
  refine pz_iconst (v := 1) dL_law_1340 rfl ?_
  refine pz_iadd dL_law_1341 ?_
  refine pz_sld dL_law_1342 (by unfold vp_in; decide) ?_
  refine pz_top (xs 1) (congrArg xs (by decide)) ?_
  refine pz_rV1 (mi' := mX11_safePower) (As := [.int (xs 1)]) (q := (RX11, TX11, 33)) dL_law_1343 lk_RL_164 mk_X11_safePower mi_X11_safePower me_X11_safePower ⟨by decide, by decide⟩ rfl rfl (Nat.le_of_ble_eq_true rfl) rfl rfl ⟨Nat.le_of_ble_eq_true rfl, Nat.le_of_ble_eq_true rfl⟩ hM (fun v ρ hq => ?_)
  obtain ⟨⟨bb, hq⟩, hth⟩ := hq
  subst hq
  refine pz_kn 141 3628 rfl rfl ?_
  refine pz_istore dL_law_1346 (by decide) ?_
  refine pz_aload_n dL_law_1348 rfl ?_
  refine pz_rV1 (mi' := mX11_thrown) (As := []) (q := (RX11, TX11, 33)) dL_law_1349 lk_RL_82 mk_X11_thrown mi_X11_thrown me_X11_thrown ⟨by decide, by decide⟩ rfl rfl (Nat.le_of_ble_eq_true rfl) rfl rfl ⟨Nat.le_of_ble_eq_true rfl, Nat.le_of_ble_eq_true rfl⟩ (specD_r1 (Q := fun v τ => v = .int 1 ∧ τ = ρ) r_thrown ⟨congrArg Value.int hth, rfl⟩) (fun v ρ2 hq => ?_)
  obtain ⟨hq, hρ⟩ := hq
  subst hq
  subst hρ
  refine pz_kn 141 3628 rfl rfl ?_
  refine pz_iload dL_law_1352 rfl ?_
  refine pz_icmp_eq 1359 dL_law_1354 (by decide) (fun _ => ?_) (fun c_ => absurd rfl c_)
  refine pz_iload dL_law_1359 rfl ?_
  refine pz_if_ne 1376 dL_law_1361 (by decide) (fun _ => ?_) (fun c_ => absurd c_ (by decide))
  refine pz_goto (tgt := 1493) dL_law_1376 (by decide) ?_
  exact pz_lk [(0, .ref b), (4, .int 0)] ⟨rfl, rfl, trivial⟩ (lw_end (Nat.le_of_ble_eq_true rfl) (Nat.le_of_ble_eq_true rfl))
theorem lo_failingInput {r : Int32} (hC : SpR1 l G mX10_failingInput [.ref (adX 0), .int (xs 1)] adX LX [] (rtM G adM σM ow f) σX (fun v _ => v = .int r)) (hM : ∀ τ g, SpR1 l G mX11_failingInput [.ref (adM 0), .int (xs 1)] adM LM (cellsE G adX LX τ LX.1 0) [outC G ow g] σM (fun v ρ => v = .int r ∧ ρ.1 0 3 = 0)) : PZ (XL b 4 xs) QL l G mL_law [] sz 1379 [(0, .ref b), (1, .ref (adX 0)), (2, .ref (adM 0)), (3, .ref ow), (4, .int 0)] [] 140 3622 (wp G adX LX [] (rtM G adM σM ow f) σX) := by
  refine pz_aload_n dL_law_1379 rfl ?_
  refine pz_aload_n dL_law_1380 rfl ?_
  refine pz_iload dL_law_1381 rfl ?_
  refine pz_iconst (v := 1) dL_law_1383 rfl ?_
  refine pz_iadd dL_law_1384 ?_
  refine pz_sld dL_law_1385 (by unfold vp_in; decide) ?_
  refine pz_top (xs 1) (congrArg xs (by decide)) ?_
  refine pz_aload_n dL_law_1386 rfl ?_
  refine pz_callW (mi' := mL_failingInput) (hh := hhL_failingInput) (As := [.ref (adX 0), .int (xs 1), .ref ow]) dL_law_1387 (tw_in 1000 (by decide +kernel) (by decide +kernel)) mw_failingInput ⟨by decide, by decide⟩ rfl rfl (Nat.le_of_ble_eq_true rfl) (wo_failingInput (p := 22) rt_at (xs 1) (Qs := fun _ => True) (r1_mono hC (fun v τ h => ⟨h, trivial⟩))) ⟨Nat.le_of_ble_eq_true rfl, Nat.le_of_ble_eq_true rfl⟩ (fun v ws1 hv => ?_)
  obtain ⟨τ, hv, -⟩ := hv
  cases hv
  refine pz_kn 141 3628 rfl rfl ?_
  refine pz_ws (ws' := wp G adM LM (cellsE G adX LX τ LX.1 0) [outC G ow (vp_updL f 0 r.toInt64)] σM) (by rw [rt_set]; rfl) ?_
  refine pz_istore dL_law_1390 (by decide) ?_
  refine pz_aload_n dL_law_1392 rfl ?_
  refine pz_aload_n dL_law_1393 rfl ?_
  refine pz_iload dL_law_1394 rfl ?_
  refine pz_iconst (v := 1) dL_law_1396 rfl ?_
  refine pz_iadd dL_law_1397 ?_
  refine pz_sld dL_law_1398 (by unfold vp_in; decide) ?_
  refine pz_top (xs 1) (congrArg xs (by decide)) ?_
  refine pz_rV1 (mi' := mX11_failingInput) (As := [.int (xs 1)]) (q := (RX11, TX11, 33)) dL_law_1399 lk_RL_167 mk_X11_failingInput mi_X11_failingInput me_X11_failingInput ⟨by decide, by decide⟩ rfl rfl (Nat.le_of_ble_eq_true rfl) rfl rfl ⟨Nat.le_of_ble_eq_true rfl, Nat.le_of_ble_eq_true rfl⟩ (hM τ _) (fun v ρ hq => ?_)
  obtain ⟨hq, hth⟩ := hq
  subst hq
  refine pz_kn 141 3628 rfl rfl ?_
  refine pz_istore dL_law_1402 (by decide) ?_
  refine pz_aload_n dL_law_1404 rfl ?_
  refine pz_rV1 (mi' := mX11_thrown) (As := []) (q := (RX11, TX11, 33)) dL_law_1405 lk_RL_82 mk_X11_thrown mi_X11_thrown me_X11_thrown ⟨by decide, by decide⟩ rfl rfl (Nat.le_of_ble_eq_true rfl) rfl rfl ⟨Nat.le_of_ble_eq_true rfl, Nat.le_of_ble_eq_true rfl⟩ (specD_r1 (Q := fun v τ => v = .int 0 ∧ τ = ρ) r_thrown ⟨congrArg Value.int hth, rfl⟩) (fun v ρ2 hq => ?_)
  obtain ⟨hq, hρ⟩ := hq
  subst hq
  subst hρ
  refine pz_kn 141 3628 rfl rfl ?_
  refine pz_iload dL_law_1408 rfl ?_
  refine pz_icmp_eq 1415 dL_law_1410 (by decide) (fun _ => ?_) (fun c_ => absurd rfl c_)
  refine pz_iload dL_law_1415 rfl ?_
  refine pz_if_ne 1432 dL_law_1417 (by decide) (fun c_ => absurd rfl c_) (fun _ => ?_)
  refine pz_aload_n dL_law_1420 rfl ?_
  refine pz_iconst (v := 0) dL_law_1421 rfl ?_
  refine pz_lald dL_law_1422 ((cellsE G adX LX τ LX.1 0).length + (LM.1.length + 0)) (wp_rt rfl) (vp_in_nI (n := 0) (by decide) (by decide)) ?_
  refine pz_iload dL_law_1423 rfl ?_
  refine pz_i2l dL_law_1425 ?_
  refine pz_lcmp dL_law_1426 ?_
  refine pz_if_eq 1432 dL_law_1427 (by decide) (fun _ => ?_) (fun c_ => absurd (lg_cmp_self _) c_)
  refine pz_goto (tgt := 1493) dL_law_1432 (by decide) ?_
  exact pz_lk [(0, .ref b), (4, .int 0)] ⟨rfl, rfl, trivial⟩ (lw_end (Nat.le_of_ble_eq_true rfl) (Nat.le_of_ble_eq_true rfl))
theorem lt1_failingInput (hC : SpecT l G mX10_failingInput [.ref (adX 0), .int (xs 1)] (wp G adX LX [] (rtM G adM σM ow f) σX) "java/lang/IndexOutOfBoundsException" (wp G adX LX [] (rtM G adM σM ow f) σX)) (hM : SpR1 l G mX11_failingInput [.ref (adM 0), .int (xs 1)] adM LM (cellsE G adX LX σX LX.1 0) [outC G ow f] σM (fun v ρ => (∃ bb, v = .int bb) ∧ ρ.1 0 3 = 1)) : PZ (XL b 4 xs) QL l G mL_law [] sz 1379 [(0, .ref b), (1, .ref (adX 0)), (2, .ref (adM 0)), (3, .ref ow), (4, .int 0)] [] 140 3622 (wp G adX LX [] (rtM G adM σM ow f) σX) := by
  refine pz_aload_n dL_law_1379 rfl ?_
  refine pz_aload_n dL_law_1380 rfl ?_
  refine pz_iload dL_law_1381 rfl ?_
  refine pz_iconst (v := 1) dL_law_1383 rfl ?_
  refine pz_iadd dL_law_1384 ?_
  refine pz_sld dL_law_1385 (by unfold vp_in; decide) ?_
  refine pz_top (xs 1) (congrArg xs (by decide)) ?_
  refine pz_aload_n dL_law_1386 rfl ?_
  refine pz_callW (mi' := mL_failingInput) (hh := hhL_failingInput) (As := [.ref (adX 0), .int (xs 1), .ref ow]) dL_law_1387 (tw_in 1000 (by decide +kernel) (by decide +kernel)) mw_failingInput ⟨by decide, by decide⟩ rfl rfl (Nat.le_of_ble_eq_true rfl) (wt1_failingInput (xs 1) hC) ⟨Nat.le_of_ble_eq_true rfl, Nat.le_of_ble_eq_true rfl⟩ (fun v ws1 hv => ?_)
  cases hv
  refine pz_kn 141 3628 rfl rfl ?_
  refine pz_ws (ws' := wp G adM LM (cellsE G adX LX σX LX.1 0) [outC G ow f] σM) rfl ?_
  refine pz_istore dL_law_1390 (by decide) ?_
  refine pz_aload_n dL_law_1392 rfl ?_
  refine pz_aload_n dL_law_1393 rfl ?_
  refine pz_iload dL_law_1394 rfl ?_
  refine pz_iconst (v := 1) dL_law_1396 rfl ?_
  refine pz_iadd dL_law_1397 ?_
  refine pz_sld dL_law_1398 (by unfold vp_in; decide) ?_
  refine pz_top (xs 1) (congrArg xs (by decide)) ?_
  refine pz_rV1 (mi' := mX11_failingInput) (As := [.int (xs 1)]) (q := (RX11, TX11, 33)) dL_law_1399 lk_RL_167 mk_X11_failingInput mi_X11_failingInput me_X11_failingInput ⟨by decide, by decide⟩ rfl rfl (Nat.le_of_ble_eq_true rfl) rfl rfl ⟨Nat.le_of_ble_eq_true rfl, Nat.le_of_ble_eq_true rfl⟩ hM (fun v ρ hq => ?_)
  obtain ⟨⟨bb, hq⟩, hth⟩ := hq
  subst hq
  refine pz_kn 141 3628 rfl rfl ?_
  refine pz_istore dL_law_1402 (by decide) ?_
  refine pz_aload_n dL_law_1404 rfl ?_
  refine pz_rV1 (mi' := mX11_thrown) (As := []) (q := (RX11, TX11, 33)) dL_law_1405 lk_RL_82 mk_X11_thrown mi_X11_thrown me_X11_thrown ⟨by decide, by decide⟩ rfl rfl (Nat.le_of_ble_eq_true rfl) rfl rfl ⟨Nat.le_of_ble_eq_true rfl, Nat.le_of_ble_eq_true rfl⟩ (specD_r1 (Q := fun v τ => v = .int 1 ∧ τ = ρ) r_thrown ⟨congrArg Value.int hth, rfl⟩) (fun v ρ2 hq => ?_)
  obtain ⟨hq, hρ⟩ := hq
  subst hq
  subst hρ
  refine pz_kn 141 3628 rfl rfl ?_
  refine pz_iload dL_law_1408 rfl ?_
  refine pz_icmp_eq 1415 dL_law_1410 (by decide) (fun _ => ?_) (fun c_ => absurd rfl c_)
  refine pz_iload dL_law_1415 rfl ?_
  refine pz_if_ne 1432 dL_law_1417 (by decide) (fun _ => ?_) (fun c_ => absurd c_ (by decide))
  refine pz_goto (tgt := 1493) dL_law_1432 (by decide) ?_
  exact pz_lk [(0, .ref b), (4, .int 0)] ⟨rfl, rfl, trivial⟩ (lw_end (Nat.le_of_ble_eq_true rfl) (Nat.le_of_ble_eq_true rfl))
theorem lo_undo {r : Int32} (hC : SpR1 l G mX10_undo [.ref (adX 0)] adX LX [] (rtM G adM σM ow f) σX (fun v _ => v = .int r)) (hM : ∀ τ g, SpR1 l G mX11_undo [.ref (adM 0)] adM LM (cellsE G adX LX τ LX.1 0) [outC G ow g] σM (fun v ρ => v = .int r ∧ ρ.1 0 3 = 0)) : PZ (XL b 4 xs) QL l G mL_law [] sz 1435 [(0, .ref b), (1, .ref (adX 0)), (2, .ref (adM 0)), (3, .ref ow), (4, .int 0)] [] 140 3622 (wp G adX LX [] (rtM G adM σM ow f) σX) := by
  refine pz_aload_n dL_law_1435 rfl ?_
  refine pz_aload_n dL_law_1436 rfl ?_
  refine pz_callW (mi' := mL_undo) (hh := hhL_undo) (As := [.ref (adX 0), .ref ow]) dL_law_1437 (tw_in 1022 (by decide +kernel) (by decide +kernel)) mw_undo ⟨by decide, by decide⟩ rfl rfl (Nat.le_of_ble_eq_true rfl) (wo_undo (p := 22) rt_at  (Qs := fun _ => True) (r1_mono hC (fun v τ h => ⟨h, trivial⟩))) ⟨Nat.le_of_ble_eq_true rfl, Nat.le_of_ble_eq_true rfl⟩ (fun v ws1 hv => ?_)
  obtain ⟨τ, hv, -⟩ := hv
  cases hv
  refine pz_kn 141 3628 rfl rfl ?_
  refine pz_ws (ws' := wp G adM LM (cellsE G adX LX τ LX.1 0) [outC G ow (vp_updL f 0 r.toInt64)] σM) (by rw [rt_set]; rfl) ?_
  refine pz_istore dL_law_1440 (by decide) ?_
  refine pz_aload_n dL_law_1442 rfl ?_
  refine pz_rV1 (mi' := mX11_undo) (As := []) (q := (RX11, TX11, 33)) dL_law_1443 lk_RL_171 mk_X11_undo mi_X11_undo me_X11_undo ⟨by decide, by decide⟩ rfl rfl (Nat.le_of_ble_eq_true rfl) rfl rfl ⟨Nat.le_of_ble_eq_true rfl, Nat.le_of_ble_eq_true rfl⟩ (hM τ _) (fun v ρ hq => ?_)
  obtain ⟨hq, hth⟩ := hq
  subst hq
  refine pz_kn 141 3628 rfl rfl ?_
  refine pz_istore dL_law_1446 (by decide) ?_
  refine pz_aload_n dL_law_1448 rfl ?_
  refine pz_rV1 (mi' := mX11_thrown) (As := []) (q := (RX11, TX11, 33)) dL_law_1449 lk_RL_82 mk_X11_thrown mi_X11_thrown me_X11_thrown ⟨by decide, by decide⟩ rfl rfl (Nat.le_of_ble_eq_true rfl) rfl rfl ⟨Nat.le_of_ble_eq_true rfl, Nat.le_of_ble_eq_true rfl⟩ (specD_r1 (Q := fun v τ => v = .int 0 ∧ τ = ρ) r_thrown ⟨congrArg Value.int hth, rfl⟩) (fun v ρ2 hq => ?_)
  obtain ⟨hq, hρ⟩ := hq
  subst hq
  subst hρ
  refine pz_kn 141 3628 rfl rfl ?_
  refine pz_iload dL_law_1452 rfl ?_
  refine pz_icmp_eq 1459 dL_law_1454 (by decide) (fun _ => ?_) (fun c_ => absurd rfl c_)
  refine pz_iload dL_law_1459 rfl ?_
  refine pz_if_ne 1476 dL_law_1461 (by decide) (fun c_ => absurd rfl c_) (fun _ => ?_)
  refine pz_aload_n dL_law_1464 rfl ?_
  refine pz_iconst (v := 0) dL_law_1465 rfl ?_
  refine pz_lald dL_law_1466 ((cellsE G adX LX τ LX.1 0).length + (LM.1.length + 0)) (wp_rt rfl) (vp_in_nI (n := 0) (by decide) (by decide)) ?_
  refine pz_iload dL_law_1467 rfl ?_
  refine pz_i2l dL_law_1469 ?_
  refine pz_lcmp dL_law_1470 ?_
  refine pz_if_eq 1476 dL_law_1471 (by decide) (fun _ => ?_) (fun c_ => absurd (lg_cmp_self _) c_)
  refine pz_goto (tgt := 1493) dL_law_1476 (by decide) ?_
  exact pz_lk [(0, .ref b), (4, .int 0)] ⟨rfl, rfl, trivial⟩ (lw_end (Nat.le_of_ble_eq_true rfl) (Nat.le_of_ble_eq_true rfl))
theorem lt1_undo (hC : SpecT l G mX10_undo [.ref (adX 0)] (wp G adX LX [] (rtM G adM σM ow f) σX) "java/lang/IllegalStateException" (wp G adX LX [] (rtM G adM σM ow f) σX)) (hM : SpR1 l G mX11_undo [.ref (adM 0)] adM LM (cellsE G adX LX σX LX.1 0) [outC G ow f] σM (fun v ρ => (∃ bb, v = .int bb) ∧ ρ.1 0 3 = 1)) : PZ (XL b 4 xs) QL l G mL_law [] sz 1435 [(0, .ref b), (1, .ref (adX 0)), (2, .ref (adM 0)), (3, .ref ow), (4, .int 0)] [] 140 3622 (wp G adX LX [] (rtM G adM σM ow f) σX) := by
  refine pz_aload_n dL_law_1435 rfl ?_
  refine pz_aload_n dL_law_1436 rfl ?_
  refine pz_callW (mi' := mL_undo) (hh := hhL_undo) (As := [.ref (adX 0), .ref ow]) dL_law_1437 (tw_in 1022 (by decide +kernel) (by decide +kernel)) mw_undo ⟨by decide, by decide⟩ rfl rfl (Nat.le_of_ble_eq_true rfl) (wt1_undo  hC) ⟨Nat.le_of_ble_eq_true rfl, Nat.le_of_ble_eq_true rfl⟩ (fun v ws1 hv => ?_)
  cases hv
  refine pz_kn 141 3628 rfl rfl ?_
  refine pz_ws (ws' := wp G adM LM (cellsE G adX LX σX LX.1 0) [outC G ow f] σM) rfl ?_
  refine pz_istore dL_law_1440 (by decide) ?_
  refine pz_aload_n dL_law_1442 rfl ?_
  refine pz_rV1 (mi' := mX11_undo) (As := []) (q := (RX11, TX11, 33)) dL_law_1443 lk_RL_171 mk_X11_undo mi_X11_undo me_X11_undo ⟨by decide, by decide⟩ rfl rfl (Nat.le_of_ble_eq_true rfl) rfl rfl ⟨Nat.le_of_ble_eq_true rfl, Nat.le_of_ble_eq_true rfl⟩ hM (fun v ρ hq => ?_)
  obtain ⟨⟨bb, hq⟩, hth⟩ := hq
  subst hq
  refine pz_kn 141 3628 rfl rfl ?_
  refine pz_istore dL_law_1446 (by decide) ?_
  refine pz_aload_n dL_law_1448 rfl ?_
  refine pz_rV1 (mi' := mX11_thrown) (As := []) (q := (RX11, TX11, 33)) dL_law_1449 lk_RL_82 mk_X11_thrown mi_X11_thrown me_X11_thrown ⟨by decide, by decide⟩ rfl rfl (Nat.le_of_ble_eq_true rfl) rfl rfl ⟨Nat.le_of_ble_eq_true rfl, Nat.le_of_ble_eq_true rfl⟩ (specD_r1 (Q := fun v τ => v = .int 1 ∧ τ = ρ) r_thrown ⟨congrArg Value.int hth, rfl⟩) (fun v ρ2 hq => ?_)
  obtain ⟨hq, hρ⟩ := hq
  subst hq
  subst hρ
  refine pz_kn 141 3628 rfl rfl ?_
  refine pz_iload dL_law_1452 rfl ?_
  refine pz_icmp_eq 1459 dL_law_1454 (by decide) (fun _ => ?_) (fun c_ => absurd rfl c_)
  refine pz_iload dL_law_1459 rfl ?_
  refine pz_if_ne 1476 dL_law_1461 (by decide) (fun _ => ?_) (fun c_ => absurd c_ (by decide))
  refine pz_goto (tgt := 1493) dL_law_1476 (by decide) ?_
  exact pz_lk [(0, .ref b), (4, .int 0)] ⟨rfl, rfl, trivial⟩ (lw_end (Nat.le_of_ble_eq_true rfl) (Nat.le_of_ble_eq_true rfl))
theorem ld_digest {r : Int64} (hC : SpR1 l G mX10_digest [.ref (adX 0)] adX LX [] (rtM G adM σM ow f) σX (fun v _ => v = .long r)) (hM : ∀ τ, SpR1 l G mX11_digest [.ref (adM 0)] adM LM (cellsE G adX LX τ LX.1 0) [outC G ow f] σM (fun v _ => v = .long r)) : PZ (XL b 4 xs) QL l G mL_law [] sz 1479 [(0, .ref b), (1, .ref (adX 0)), (2, .ref (adM 0)), (3, .ref ow), (4, .int 0)] [] 140 3622 (wp G adX LX [] (rtM G adM σM ow f) σX) := by
  refine pz_aload_n dL_law_1479 rfl ?_
  refine pz_rV1 (mi' := mX10_digest) (As := []) (q := (RX10, TX10, 14)) dL_law_1480 lk_RL_172 mk_X10_digest mi_X10_digest me_X10_digest ⟨by decide, by decide⟩ rfl rfl (Nat.le_of_ble_eq_true rfl) rfl rfl ⟨Nat.le_of_ble_eq_true rfl, Nat.le_of_ble_eq_true rfl⟩ hC (fun v τ hq => ?_)
  subst hq
  refine pz_ws (ws' := wp G adM LM (cellsE G adX LX τ LX.1 0) [outC G ow f] σM) rfl ?_
  refine pz_kn 140 3622 rfl rfl ?_
  refine pz_aload_n dL_law_1483 rfl ?_
  refine pz_rV1 (mi' := mX11_digest) (As := []) (q := (RX11, TX11, 33)) dL_law_1484 lk_RL_176 mk_X11_digest mi_X11_digest me_X11_digest ⟨by decide, by decide⟩ rfl rfl (Nat.le_of_ble_eq_true rfl) rfl rfl ⟨Nat.le_of_ble_eq_true rfl, Nat.le_of_ble_eq_true rfl⟩ (hM τ) (fun v ρ hq => ?_)
  subst hq
  refine pz_kn 140 3622 rfl rfl ?_
  refine pz_lcmp dL_law_1487 ?_
  refine pz_if_eq 1493 dL_law_1488 (by decide) (fun _ => ?_) (fun c_ => absurd (lg_cmp_self _) c_)
  exact pz_lk [(0, .ref b), (4, .int 0)] ⟨rfl, rfl, trivial⟩ (lw_end (Nat.le_of_ble_eq_true rfl) (Nat.le_of_ble_eq_true rfl))
end LW
