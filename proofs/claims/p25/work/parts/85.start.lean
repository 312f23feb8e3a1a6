/-! the law on scripts of at most 2048 ints -/
theorem li_new : LI sX0 sM0 := by
  refine ⟨0, 0, 0, 0, al0 8, sM0.2.2.1 2, sM0.2.2.1 3, ⟨⟨rfl, by decide, fun j hj => absurd hj (Nat.not_lt_zero j)⟩, ⟨?_, ⟨rfl, fun i hi => absurd hi (Nat.not_lt_zero i)⟩, fun v hv => ⟨?_, ?_⟩, fun v hv => ?_, fun v hv => ?_⟩, ⟨rfl, by decide, ?_, fun k hk => absurd hk (Nat.not_lt_zero k)⟩, Or.inl rfl, Or.inl rfl⟩, RfQ.of rfl rfl rfl rfl rfl rfl⟩
  · exact wf0 (σ := sM0) rfl
  · exact (al0_v v hv).1.symm
  · exact ((by decide : ∀ v, v < 8 → hundred v = 100) v hv).trans (al0_v v hv).2.1.symm
  · exact (al0_v v hv).2.2.symm
  · rw [(al0_v v hv).1, (al0_v v hv).2.1]; decide
  · exact ⟨by decide, fun i j hi hj h => (by decide : ∀ i, i < 4 → ∀ j, j < 4 → sX0.2.2.2.2 25 i = sX0.2.2.2.2 25 j → i = j) i hi j hj h⟩
theorem law_loop {l : Launch} {G : cxG} {b L sz : Nat} {xs : Nat → Int32} {adX adM : Nat → Nat} {ow : Nat} (hl : l.stackTraces = false) (hL : L ≤ 2048) : ∀ (r c : Nat), c + r = 513 → ∀ (k n : Nat) (σX σM : St) (f : Nat → Int64), 4 * c ≤ L + 3 → k ≤ 140 + 1100 * c → n ≤ 3622 + 14000 * c → LI σX σM →
    PZ (XL b L xs) QL l G mL_law [] sz 23 [(0, .ref b), (1, .ref (adX 0)), (2, .ref (adM 0)), (3, .ref ow), (4, .int (nI (4 * c)))] [] k n (wp G adX LX [] (rtM G adM σM ow f) σX) := by
  intro r
  induction r with
  | zero => intro c hc k n σX σM f h1; omega
  | succ r ih =>
    intro c hc k n σX σM f h1 hk hn h
    have b1 : ∀ k', k' ≤ k + 1100 → k' ≤ 140 + 1100 * (c + 1) := fun k' q => by rw [Nat.mul_add, Nat.mul_one, ← Nat.add_assoc]; exact Nat.le_trans q (Nat.add_le_add_right hk _)
    have b2 : ∀ n', n' ≤ n + 14000 → n' ≤ 3622 + 14000 * (c + 1) := fun n' q => by rw [Nat.mul_add, Nat.mul_one, ← Nat.add_assoc]; exact Nat.le_trans q (Nat.add_le_add_right hn _)
    refine pz_iload dL_law_23 rfl ?_
    refine pz_aload_n dL_law_25 rfl ?_
    refine pz_slen dL_law_26 ?_
    refine pz_iconst (v := 4) dL_law_27 rfl ?_
    refine pz_isub dL_law_28 ?_
    have eL : (Int32.ofNat L - 4).toInt = (L : Int) - 4 := by
      rw [Int32.toInt_sub, show Int32.ofNat L = nI L from rfl, nI_toInt (by omega), show (4 : Int32).toInt = 4 from rfl]
      apply Int.bmod_eq_of_le <;> omega
    have eC : (nI (4 * c)).toInt = ((4 * c : Nat) : Int) := nI_toInt (by omega)
    by_cases hlt : L < 4 * c + 4
    · refine pz_icmp_gt 1025 dL_law_29 (by decide) (fun _ => ?_) (fun q => absurd (Int32.lt_iff_toInt_lt.mpr (by rw [eL, eC]; omega)) q)
      refine pz_iconst (v := 1) dL_law_1025 rfl ?_
      exact pz_lawret dL_law_1026 (by omega) (by omega)
    · refine pz_icmp_gt 1025 dL_law_29 (by decide) (fun q => absurd (Int32.lt_iff_toInt_lt.mp q) (by rw [eL, eC]; omega)) (fun _ => ?_)
      have hcL : 4 * c + 4 ≤ L := by omega
      have hk2 : k + 1100 ≤ 601024 := by omega
      have hn2 : n + 14000 ≤ 7293034 := by omega
      have kk : GoOn l G b L sz c k n xs adX adM ow := by
        intro τ ρ g k' n' a1 a2 hli
        refine pz_iinc dL_law_1019 rfl (by decide) ?_
        refine pz_goto (tgt := 23) dL_law_1022 (by decide) ?_
        exact pz_lk [(0, .ref b), (1, .ref (adX 0)), (2, .ref (adM 0)), (3, .ref ow), (4, .int (nI (4 * (c + 1))))] ⟨rfl, rfl, rfl, rfl, congrArg (fun x => some (Value.int x)) (ix1 (c := c) (d := 4) (by omega)), trivial⟩ (ih (c + 1) (by omega) k' n' τ ρ g (by omega) (b1 k' a1) (b2 n' a2) hli)
      refine pz_aload_n dL_law_32 rfl ?_
      refine pz_iload dL_law_33 rfl ?_
      refine pz_sld dL_law_35 (vp_in_nI (by omega) (by omega)) ?_
      refine pz_top (xs (4 * c)) (congrArg xs (nI_clamp (by omega))) ?_
      refine pz_bipush (v := 31) dL_law_36 rfl ?_
      refine pz_iand dL_law_38 ?_
      obtain ⟨j, hj, ej⟩ := and31 (xs (4 * c))
      refine pz_top (nI j) ej ?_
      by_cases h26 : j < 26
      · rcases (show j = 0 ∨ j = 1 ∨ j = 2 ∨ j = 3 ∨ j = 4 ∨ j = 5 ∨ j = 6 ∨ j = 7 ∨ j = 8 ∨ j = 9 ∨ j = 10 ∨ j = 11 ∨ j = 12 ∨ j = 13 ∨ j = 14 ∨ j = 15 ∨ j = 16 ∨ j = 17 ∨ j = 18 ∨ j = 19 ∨ j = 20 ∨ j = 21 ∨ j = 22 ∨ j = 23 ∨ j = 24 ∨ j = 25 by omega) with rfl | rfl | rfl | rfl | rfl | rfl | rfl | rfl | rfl | rfl | rfl | rfl | rfl | rfl | rfl | rfl | rfl | rfl | rfl | rfl | rfl | rfl | rfl | rfl | rfl | rfl
        · exact pz_tableIn (off := 117) 156 dL_law_39 (by decide) (by decide) rfl (by decide) (lc_append hl hcL hL hk2 hn2 kk h)
        · exact pz_tableIn (off := 145) 184 dL_law_39 (by decide) (by decide) rfl (by decide) (lc_clearText hl hcL hL hk2 hn2 kk h)
        · exact pz_tableIn (off := 158) 197 dL_law_39 (by decide) (by decide) rfl (by decide) (lc_parse hl hcL hL hk2 hn2 kk h)
        · exact pz_tableIn (off := 171) 210 dL_law_39 (by decide) (by decide) rfl (by decide) (lc_setRange hl hcL hL hk2 hn2 kk h)
        · exact pz_tableIn (off := 223) 262 dL_law_39 (by decide) (by decide) rfl (by decide) (lc_setInput hl hcL hL hk2 hn2 kk h)
        · exact pz_tableIn (off := 263) 302 dL_law_39 (by decide) (by decide) rfl (by decide) (lc_input hl hcL hL hk2 hn2 kk h)
        · exact pz_tableIn (off := 303) 342 dL_law_39 (by decide) (by decide) rfl (by decide) (lc_remove hl hcL hL hk2 hn2 kk h)
        · exact pz_tableIn (off := 331) 370 dL_law_39 (by decide) (by decide) rfl (by decide) (lc_instructions hl hcL hL hk2 hn2 kk h)
        · exact pz_tableIn (off := 344) 383 dL_law_39 (by decide) (by decide) rfl (by decide) (lc_instruction hl hcL hL hk2 hn2 kk h)
        · exact pz_tableIn (off := 384) 423 dL_law_39 (by decide) (by decide) rfl (by decide) (lc_operand hl hcL hL hk2 hn2 kk h)
        · exact pz_tableIn (off := 440) 479 dL_law_39 (by decide) (by decide) rfl (by decide) (lc_state hl hcL hL hk2 hn2 kk h)
        · exact pz_tableIn (off := 468) 507 dL_law_39 (by decide) (by decide) rfl (by decide) (lc_states hl hcL hL hk2 hn2 kk h)
        · exact pz_tableIn (off := 496) 535 dL_law_39 (by decide) (by decide) rfl (by decide) (lc_coveredBy hl hcL hL hk2 hn2 kk h)
        · exact pz_tableIn (off := 524) 563 dL_law_39 (by decide) (by decide) rfl (by decide) (lc_range hl hcL hL hk2 hn2 kk h)
        · exact pz_tableIn (off := 580) 619 dL_law_39 (by decide) (by decide) rfl (by decide) (lc_finalRange hl hcL hL hk2 hn2 kk h)
        · exact pz_tableIn (off := 636) 675 dL_law_39 (by decide) (by decide) rfl (by decide) (lc_completes hl hcL hL hk2 hn2 kk h)
        · exact pz_tableIn (off := 649) 688 dL_law_39 (by decide) (by decide) rfl (by decide) (lc_failure hl hcL hL hk2 hn2 kk h)
        · exact pz_tableIn (off := 690) 729 dL_law_39 (by decide) (by decide) rfl (by decide) (lc_result hl hcL hL hk2 hn2 kk h)
        · exact pz_tableIn (off := 746) 785 dL_law_39 (by decide) (by decide) rfl (by decide) (lc_checks hl hcL hL hk2 hn2 kk h)
        · exact pz_tableIn (off := 787) 826 dL_law_39 (by decide) (by decide) rfl (by decide) (lc_executed hl hcL hL hk2 hn2 kk h)
        · exact pz_tableIn (off := 800) 839 dL_law_39 (by decide) (by decide) rfl (by decide) (lc_saving hl hcL hL hk2 hn2 kk h)
        · exact pz_tableIn (off := 815) 854 dL_law_39 (by decide) (by decide) rfl (by decide) (lc_openWith hl hcL hL hk2 hn2 kk h)
        · exact pz_tableIn (off := 867) 906 dL_law_39 (by decide) (by decide) rfl (by decide) (lc_safePower hl hcL hL hk2 hn2 kk h)
        · exact pz_tableIn (off := 895) 934 dL_law_39 (by decide) (by decide) rfl (by decide) (lc_failingInput hl hcL hL hk2 hn2 kk h)
        · exact pz_tableIn (off := 951) 990 dL_law_39 (by decide) (by decide) rfl (by decide) (lc_undo hl hcL hL hk2 hn2 kk h)
        · exact pz_tableIn (off := 967) 1006 dL_law_39 (by decide) (by decide) rfl (by decide) (lc_digest hl hcL hL hk2 hn2 kk h)
      · refine pz_tableOut 1019 dL_law_39 (Or.inr ?_) (by decide) ?_
        · rw [nI_toInt (by omega)]; omega
        · exact kk σX σM f k n (by omega) (by omega) h
theorem whole_start {p : Program} {e : Env} {s : State} {m : MethodId} {below : List Frame} {meth : Method} {c : Code} (l : Launch) (hflags : l.flags = flags0) {b L : Nat} {xs : Nat → Int32} (hL : L ≤ 2048) (C0 : lw_At p s m meth c b L xs) : W p l e room_1 s m #[Value.ref b] below meth c s.heap [] 0 0 (lw_Z below #[Value.ref b] s) (entryFrame m ([Value.ref b] : List Value).toArray 9) :=
  law_enter C0 (fun G sz => law_begin (fun adX adM ow => law_loop (no_traces hflags) hL 513 0 rfl 140 3622 sX0 sM0 _ (by omega) (by omega) (by omega) li_new))
set_option maxHeartbeats 4000000 in
theorem lw_walk (l : Launch) (hflags : l.flags = flags0) (b : Addr) (xs : List Int32) : MetFree l x (headSpec (Jvm.Cond.code x code maxLocals ret :: tables_1) room_1) (lw_P b xs) (fun _ _ _ _ _ => True) lw_Q := by
  refine MetFree.of_bodyS (code := code) (maxLocals := maxLocals) (ret := ret) (by decide) ?_ ?_
  · intro args s m h hn
    obtain ⟨meth, c, h1, h2, h3, h4, h5, h6, -, -⟩ := Cond.code_spec hn (atoms_spec (ws := Jvm.Cond.code x code maxLocals ret :: tables_1) h _ List.mem_cons_self)
    exact ⟨meth, c, h1, h2, h3, h4, h5, h6⟩
  · intro p e s m args below meth c s₁ B hml0 hP _
    obtain ⟨rfl, hx, hbd, hgv⟩ := hP
    obtain ⟨scr, harrAt, hlist, hof, hsmall⟩ := hx
    obtain ⟨hcb, hkn, -, -⟩ := State.arrayAt?_spec harrAt
    have hown : s.vm.findClass R_law = some m.cls := findClass_of_methodNamed B.named
    have hts0 : ∀ c ∈ (Jvm.Cond.code x code maxLocals ret :: tables_1), c.before #[Value.ref b] s = true := atoms_spec (ws := Jvm.Cond.code x code maxLocals ret :: tables_1) B.pre
    have hts : ∀ w ∈ lw_tbl, w.before #[Value.ref b] s = true := k2_hts_sels lw_privs (fun w hw => hts0 w (List.mem_cons_of_mem _ hw)) lw_privs_ok
    have hml : c.maxLocals = 9 := B.maxLocals_eq (hts0 _ List.mem_cons_self)
    have X₀ : Stand p l e room_1 s m #[Value.ref b] below meth c s₁ [] 0 0 := Stand.of_body B
    have hh0 : s₁.heap = s.heap := by rw [B.state]; rfl
    have hsz : scr.slots.size = xs.length := by rw [← Array.length_toList, hlist, List.length_map]
    have hval : ∀ j : Nat, j < xs.length → scr.slots[j]? = some (.int (xs.getD j 0)) := fun j hj => by
      rw [← Array.getElem?_toList, hlist]
      simp [hj]
    have hbl : b < s.heap.size := (Array.getElem?_eq_some_iff.mp hcb).1
    have hX : va_X b xs.length (fun j => xs.getD j 0) s s.heap := ⟨scr, hcb, hof, hkn, hsz, hval⟩
    have K : W p l e room_1 s m #[Value.ref b] below meth c s₁.heap [] 0 0 (lw_Z below #[Value.ref b] s) (entryFrame m ([Value.ref b] : List Value).toArray 9) := by
      rw [hh0]
      exact whole_start l hflags hbd ⟨B.exec, B.bytes, B.returns, hml, hown, hts, hX, hbl, B.notSynchronized, hgv⟩
    obtain ⟨t, a1, o, b1, b2, b3⟩ := K s₁ rfl X₀
    exact ⟨t, o, a1, b1, b2, b3⟩
theorem lw_pre_spec {args : Array Value} {s : State} (h : (Jvm.Cond.and given_1 narrow_1).before args s = true) (hr : rest_1_c.before args s = true) : ∃ (b : Addr) (xs : List Int32), lw_P b xs args s := by
  have hs := flat_of_before _ h
  have hq := flat_of_before _ hr
  have hc : (Cond.count 1).before args s = true := hs _ (by decide +kernel)
  have harr : (Cond.arrayOf (.arg 0) .int).before args s = true := hs _ (by decide +kernel)
  have hle : (Cond.le (.length (.arg 0)) (.int 2048)).before args s = true := hs _ (by decide +kernel)
  have hlen : (Cond.isInt (.length (.arg 0))).before args s = true := hq _ (by decide +kernel)
  have hall : (Cond.all (.arg 0) (.isInt (.elem (.arg 0) (.index 0)))).before args s = true := hq _ (by decide +kernel)
  obtain ⟨b, xs, hb, hx⟩ := State.ints_of_pre rfl harr hlen hall
  have hsm : xs.length < 2 ^ 31 := hx.choose_spec.2.2.2
  have hev : (Term.length (.arg 0)).eval args s none [] s = some (.int xs.length.toInt32) := hx.length_eval hb
  have hv := Cond.le_ints hev (show (Term.int 2048).eval args s none [] s = some (.int 2048) from rfl)
  have hd : xs.length.toInt32 ≤ 2048 := by
    simpa [Cond.before, Cond.holds, hv] using hle
  have hN : xs.length ≤ 2048 := (Int32.ofNat_le_ofNat hsm (by decide)).mp (show Int32.ofNat xs.length ≤ Int32.ofNat 2048 from hd)
  exact ⟨b, xs, Cond.one_arg hc (show args[0]? = some (.ref b) from hb), hx, hN, h⟩
theorem lw_comes (l : Launch) (hflags : l.flags = flags0) : Comes l x (Jvm.Cond.code x code maxLocals ret :: tables_1) room_1 (fun tb e args s => Calls_1 tb e args s ∧ rest_1 tb e args s ∧ Pre_1 tb e args s)
    (fun _ _ args s o t => lw_Q args s o t) := by
  intro p e ha hc hk s m args below hf hfit hheap happ hpre
  obtain ⟨b, xs, hP⟩ := lw_pre_spec hpre.2.2 hpre.2.1
  obtain ⟨k, o, h1, h2, h3, hQ⟩ := lw_walk l hflags b xs p e ha hc hk s m args below hf ((Spec.applies_iff_loose hf).mp happ).1 hP trivial
  exact ⟨k, o, h1, h2, h3, hQ⟩
theorem lw_frame {s t : State} {o : Outcome} {args : Array Value} (h : State.butDraws s t lw_cs (fun t1 => Framed s o t1 [] 601024 7293034)) :
    State.butDraws s t [Jvm.Choice.named "NaN.bits"] (fun t1 => Framed s o t1 (fieldLocs frame_1_writes args s ++ arrayLocs frame_1_arrays args s ++ staticLocs frame_1_statics s) 601024 7293034) := h
theorem lw_limb (L : Cond) (hL : ∀ (args : Array Value) (s t : State), L.after args s (.returned (some (.int 1))) t = true) :
    ArmFor flags0 classFile x code maxLocals ret World_1 tables_1 room_1 Calls_1 rest_1 Pre_1
      (fun tb e a s o t => postC L tb e a s o t ∧ State.butDraws s t [Jvm.Choice.named "NaN.bits"] (fun t1 => Framed s o t1 (fieldLocs frame_1_writes a s ++ arrayLocs frame_1_arrays a s ++ staticLocs frame_1_statics s) 601024 7293034)) := by
  intro l hflags _ _ p e ha hc hk s m args below hf hfit hheap happ hpre
  obtain ⟨k, o, h1, h2, h3, rfl, hF⟩ := lw_comes l hflags p e ha hc hk s m args below hf hfit hheap happ hpre
  exact ⟨k, _, h1, h2, h3, hL args s _, lw_frame hF⟩
theorem i_vc : Claimed_1_1 ∧ Claimed_1_2 := ⟨lw_limb limb_1_1 (fun args s t => by simp [limb_1_1, Cond.after, Cond.holds, Cond.value]), lw_limb limb_1_2 (fun args s t => Cond.after_iff.mpr (by
  first | (rw [show limb_1_2 = Cond.eq .result (.int 1) from rfl, Cond.eq_ints (x := 1) (y := 1) rfl rfl]; simp; done) | (simp [limb_1_2, Cond.value, Term.eval]; done)))⟩
