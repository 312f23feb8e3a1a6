/-! the law's entry -/
theorem and31 (x : Int32) : ∃ j, j < 32 ∧ x &&& 31 = nI j := by
  refine ⟨(x.toBitVec &&& 31#32).toNat, ?_, ?_⟩
  · rw [BitVec.toNat_and]
    exact Nat.lt_of_le_of_lt Nat.and_le_right (by decide)
  · apply Int32.toBitVec_inj.mp
    show x.toBitVec &&& 31#32 = (Int32.ofNat (x.toBitVec &&& 31#32).toNat).toBitVec
    rw [Int32.toBitVec_ofNat', BitVec.ofNat_toNat, BitVec.setWidth_eq]
theorem str_ref {own tx : String} {k : Nat} {A : Array Value} {U : State} (h : (Cond.stringRef own k tx).before A U = true) : ∃ a, vk_R own k tx a U := by
  have h0 : (Cond.stringRef own k tx).before #[] U = true := h
  have h2 := h
  simp only [Cond.before, Cond.holds, Cond.value] at h2
  cases hc : U.vm.findClass own with
  | none => simp [hc] at h2
  | some cur =>
    rw [hc] at h2
    cases hr : U.resolvedAt? own k with
    | none => simp [hr] at h2
    | some r =>
      cases r with
      | string a =>
        refine ⟨a, h0, ?_⟩
        unfold State.resolvedAt? at hr
        rw [hc] at hr
        cases hk : U.vm.classes[cur]? with
        | none => simp [hk] at hr
        | some kl =>
          simp [hk] at hr
          exact Term.string_of_entry hc hk (by
            cases hq : kl.resolved[k]? with
            | none => simp [hq] at hr
            | some q => simp [hq] at hr; rw [hr])
      | _ => simp [hr] at h2
theorem fl_SUPPRESSED_SENTINEL : Cond.isRef (.static Bundle.tN "SUPPRESSED_SENTINEL" Bundle.listD) ∈ flatC (Jvm.Cond.and given_1 narrow_1) := by decide +kernel
theorem fl_UNASSIGNED_STACK : Cond.isRef (.static Bundle.tN "UNASSIGNED_STACK" Bundle.steD) ∈ flatC (Jvm.Cond.and given_1 narrow_1) := by decide +kernel
theorem fl_21 : Cond.not (.castable "java/lang/IndexOutOfBoundsException" "java/lang/IllegalStateException") ∈ flatC (Jvm.Cond.and given_1 narrow_1) := by decide +kernel
theorem fl_20 : Cond.not (.castable "java/lang/IndexOutOfBoundsException" "java/lang/IllegalArgumentException") ∈ flatC (Jvm.Cond.and given_1 narrow_1) := by decide +kernel
theorem fl_12 : Cond.not (.castable "java/lang/IllegalStateException" "java/lang/IndexOutOfBoundsException") ∈ flatC (Jvm.Cond.and given_1 narrow_1) := by decide +kernel
theorem fl_10 : Cond.not (.castable "java/lang/IllegalStateException" "java/lang/IllegalArgumentException") ∈ flatC (Jvm.Cond.and given_1 narrow_1) := by decide +kernel
theorem fl_02 : Cond.not (.castable "java/lang/IllegalArgumentException" "java/lang/IndexOutOfBoundsException") ∈ flatC (Jvm.Cond.and given_1 narrow_1) := by decide +kernel
theorem fl_01 : Cond.not (.castable "java/lang/IllegalArgumentException" "java/lang/IllegalStateException") ∈ flatC (Jvm.Cond.and given_1 narrow_1) := by decide +kernel
theorem entry_K {s : State} {args : Array Value} (hts : ∀ w ∈ lw_tbl, w.before args s = true) : ∃ G : cxG, va_K G.1 vwCl (tysG G) s := by
  have htw : ∀ w ∈ TW, w.before args s = true := fun w hw => hts w (List.mem_filter.mp hw).1
  obtain ⟨c0, i0, k0⟩ := u_known (C := RX0) (T := TX0) (N := 13) (n := 13) htw inW0 (hts (Cond.instantiable RX0 13) (List.mem_of_getElem? (i := 285) (by decide +kernel)))
  obtain ⟨c1, i1, k1⟩ := u_known (C := RX1) (T := TX1) (N := 2) (n := 2) htw inW1 (hts (Cond.instantiable RX1 2) (List.mem_of_getElem? (i := 291) (by decide +kernel)))
  obtain ⟨c2, i2, k2⟩ := u_known (C := RX2) (T := TX2) (N := 2) (n := 2) htw inW2 (hts (Cond.instantiable RX2 2) (List.mem_of_getElem? (i := 268) (by decide +kernel)))
  obtain ⟨c3, i3, k3⟩ := u_known (C := RX3) (T := TX3) (N := 3) (n := 3) htw inW3 (hts (Cond.instantiable RX3 3) (List.mem_of_getElem? (i := 237) (by decide +kernel)))
  obtain ⟨c4, i4, k4⟩ := u_known (C := RX4) (T := TX4) (N := 6) (n := 6) htw inW4 (hts (Cond.instantiable RX4 6) (List.mem_of_getElem? (i := 204) (by decide +kernel)))
  obtain ⟨c5, i5, k5⟩ := u_known (C := RX5) (T := TX5) (N := 3) (n := 3) htw inW5 (hts (Cond.instantiable RX5 3) (List.mem_of_getElem? (i := 354) (by decide +kernel)))
  obtain ⟨c6, i6, k6⟩ := u_known (C := RX6) (T := TX6) (N := 7) (n := 7) htw inW6 (hts (Cond.instantiable RX6 7) (List.mem_of_getElem? (i := 146) (by decide +kernel)))
  obtain ⟨c7, i7, k7⟩ := u_known (C := RX7) (T := TX7) (N := 6) (n := 6) htw inW7 (hts (Cond.instantiable RX7 6) (List.mem_of_getElem? (i := 373) (by decide +kernel)))
  obtain ⟨c8, i8, k8⟩ := u_known (C := RX8) (T := TX8) (N := 2) (n := 2) htw inW8 (hts (Cond.instantiable RX8 2) (List.mem_of_getElem? (i := 229) (by decide +kernel)))
  obtain ⟨c9, i9, k9⟩ := u_known (C := RX9) (T := TX9) (N := 2) (n := 2) htw inW9 (hts (Cond.instantiable RX9 2) (List.mem_of_getElem? (i := 130) (by decide +kernel)))
  obtain ⟨c10, i10, k10⟩ := u_known (C := RX10) (T := TX10) (N := 14) (n := 14) htw inW10 (hts (Cond.instantiable RX10 14) (List.mem_of_getElem? (i := 122) (by decide +kernel)))
  obtain ⟨c11, i11, k11⟩ := u_known (C := RX11) (T := TX11) (N := 33) (n := 33) htw inW11 (hts (Cond.instantiable RX11 33) (List.mem_of_getElem? (i := 1035) (by decide +kernel)))
  obtain ⟨cI, kkI, mI, fI1, fI2, fI3⟩ := Cond.arrayClass_spec (hts (Cond.arrayClass .int) (List.mem_of_getElem? (i := 144) (by decide +kernel)))
  obtain ⟨cL, kkL, mL, fL1, fL2, fL3⟩ := Cond.arrayClass_spec (hts (Cond.arrayClass .long) (List.mem_of_getElem? (i := 351) (by decide +kernel)))
  obtain ⟨cZ, kkZ, mZ, fZ1, fZ2, fZ3⟩ := Cond.arrayClass_spec (hts (Cond.arrayClass .boolean) (List.mem_of_getElem? (i := 352) (by decide +kernel)))
  obtain ⟨mS, cS, kkS, fS1, fS2, fS3, fS4, fS5⟩ := Cond.arrayOver_spec (hts (Cond.arrayOver (.object RX8)) (List.mem_of_getElem? (i := 274) (by decide +kernel)))
  refine ⟨((fun k => [c0, c1, c2, c3, c4, c5, c6, c7, c8, c9, c10, c11].getD k c0, fun k => [i0, i1, i2, i3, i4, i5, i6, i7, i8, i9, i10, i11].getD k i0), cI, cL, cZ, cS), ?_, ?_⟩
  · intro c q hq
    match c, hq with
    | 0, hq => cases hq; exact k0
    | 1, hq => cases hq; exact k1
    | 2, hq => cases hq; exact k2
    | 3, hq => cases hq; exact k3
    | 4, hq => cases hq; exact k4
    | 5, hq => cases hq; exact k5
    | 6, hq => cases hq; exact k6
    | 7, hq => cases hq; exact k7
    | 8, hq => cases hq; exact k8
    | 9, hq => cases hq; exact k9
    | 10, hq => cases hq; exact k10
    | 11, hq => cases hq; exact k11
    | k + 12, hq => simp [vwCl] at hq
  · intro k q hq
    match k, hq with
    | 0, hq => cases hq; exact ⟨fun N z => ⟨fun k h => (by cases h), kkI, fI2, mI, fI3⟩, fI1⟩
    | 1, hq => cases hq; exact ⟨fun N z => ⟨fun k h => (by cases h), kkL, fL2, mL, fL3⟩, fL1⟩
    | 2, hq => cases hq; exact ⟨fun N z => ⟨fun k h => (by cases h), kkZ, fZ2, mZ, fZ3⟩, fZ1⟩
    | 3, hq => cases hq; exact ⟨fun N z => ⟨fun k h => (by cases h), kkS, fS3, mS, fS4⟩, kkS, mS, fS3, fS4, fS1, fS5⟩
    | k + 4, hq => simp [tysG] at hq
theorem entry_E {s : State} {args : Array Value} {sz : Nat} (hz : s.heap.size = sz) (hts : ∀ w ∈ lw_tbl, w.before args s = true) (hgv : (Jvm.Cond.and given_1 narrow_1).before args s = true) : Ev (va_A [] sz) s s.heap := by
  have hfl := flat_of_before _ hgv
  have hA : ∀ a : Nat, a < s.heap.size → ¬ va_A [] sz a := by
    intro a ha h
    rcases h with ⟨j, e, h⟩ | h
    · simp at h
    · omega
  refine ⟨⟨fun w hw => tw_warm (List.mem_filter.mp hw).2 (State.WarmedH.refl s) (hts w (List.mem_filter.mp hw).1), ?_, ?_⟩, ?_, ?_, ?_⟩
  · exact va_AO.of (hts (Cond.arrayOver (.object RX8)) (List.mem_of_getElem? (i := 274) (by decide +kernel)))
  · intro C hC T hT hne
    unfold exL at hC hT
    simp only [List.mem_cons, List.not_mem_nil, or_false] at hC hT
    rcases hC with rfl | rfl | rfl <;> rcases hT with rfl | rfl | rfl
    · exact absurd rfl hne
    · exact va_Nc.of (hfl _ fl_01)
    · exact va_Nc.of (hfl _ fl_02)
    · exact va_Nc.of (hfl _ fl_10)
    · exact absurd rfl hne
    · exact va_Nc.of (hfl _ fl_12)
    · exact va_Nc.of (hfl _ fl_20)
    · exact va_Nc.of (hfl _ fl_21)
    · exact absurd rfl hne
  · intro q hq
    unfold strL at hq
    simp only [List.mem_cons, List.not_mem_nil, or_false] at hq
    rcases hq with rfl | rfl | rfl | rfl | rfl | rfl | rfl | rfl | rfl | rfl | rfl
    · exact str_ref (hts (Cond.stringRef "OverflowGuards" 92 "the byte is not 0 to 127") (List.mem_of_getElem? (i := 803) (by decide +kernel)))
    · exact str_ref (hts (Cond.stringRef "OverflowGuards" 103 "the text has 200 bytes") (List.mem_of_getElem? (i := 839) (by decide +kernel)))
    · exact str_ref (hts (Cond.stringRef "OverflowGuards" 148 "the input is not in its input range") (List.mem_of_getElem? (i := 892) (by decide +kernel)))
    · exact str_ref (hts (Cond.stringRef "OverflowGuards" 153 "what is not 0 to 2") (List.mem_of_getElem? (i := 900) (by decide +kernel)))
    · exact str_ref (hts (Cond.stringRef "OverflowGuards" 176 "what is not 0 to 3") (List.mem_of_getElem? (i := 930) (by decide +kernel)))
    · exact str_ref (hts (Cond.stringRef "OverflowGuards" 190 "the state is not 0 to 4") (List.mem_of_getElem? (i := 952) (by decide +kernel)))
    · exact str_ref (hts (Cond.stringRef "OverflowGuards" 260 "there is no saved state") (List.mem_of_getElem? (i := 1029) (by decide +kernel)))
    · exact str_ref (hts (Cond.stringRef "OverflowGuards" 289 "there is no such variable") (List.mem_of_getElem? (i := 870) (by decide +kernel)))
    · exact str_ref (hts (Cond.stringRef "OverflowGuards" 292 "the low end is greater than the high end") (List.mem_of_getElem? (i := 880) (by decide +kernel)))
    · exact str_ref (hts (Cond.stringRef "OverflowGuards" 294 "there is no such instruction") (List.mem_of_getElem? (i := 912) (by decide +kernel)))
    · exact str_ref (hts (Cond.stringRef "OverflowGuards" 300 "it is a loop begin or a loop end") (List.mem_of_getElem? (i := 918) (by decide +kernel)))
  · exact vx_Zqof (hts (Cond.laysStatic Bundle.tN "UNASSIGNED_STACK" Bundle.steD) (List.mem_of_getElem? (i := 789) (by decide +kernel))) (hts (Cond.initialized Bundle.tN) (List.mem_of_getElem? (i := 113) (by decide +kernel))) (hfl (Cond.isRef (.static Bundle.tN "UNASSIGNED_STACK" Bundle.steD)) fl_UNASSIGNED_STACK) hA
  · exact vx_Zqof (hts (Cond.laysStatic Bundle.tN "SUPPRESSED_SENTINEL" Bundle.listD) (List.mem_of_getElem? (i := 791) (by decide +kernel))) (hts (Cond.initialized Bundle.tN) (List.mem_of_getElem? (i := 113) (by decide +kernel))) (hfl (Cond.isRef (.static Bundle.tN "SUPPRESSED_SENTINEL" Bundle.listD)) fl_SUPPRESSED_SENTINEL) hA
theorem law_begin {l : Launch} {G : cxG} {b L sz : Nat} {xs : Nat → Int32}
    (kk : ∀ (adX adM : Nat → Nat) (ow : Nat), PZ (XL b L xs) QL l G mL_law [] sz 23 [(0, .ref b), (1, .ref (adX 0)), (2, .ref (adM 0)), (3, .ref ow), (4, .int 0)] [] 140 3622 (wp G adX LX [] (rtM G adM sM0 ow (fun _ => 0)) sX0)) :
    PZ (XL b L xs) QL l G mL_law [] sz 0 [(0, .ref b)] [] 0 0 [] := by
  refine pz_new (ci := 10) (C := RX10) (T := TX10) (N := 14) (fs := [.null, .null, .null, .null, .null, .null, .null, .null, .null, .int 0, .int 0, .null, .null, .null]) tyX10 tyX10_ok dL_law_0 rfl inW10 (tw_in 121 (by decide +kernel) (by decide +kernel)) (tw_in 122 (by decide +kernel) (by decide +kernel)) (tw_in 101 (by decide +kernel) (by decide +kernel)) (fun j hj => by rcases (show j = 0 ∨ j = 1 ∨ j = 2 ∨ j = 3 ∨ j = 4 ∨ j = 5 ∨ j = 6 ∨ j = 7 ∨ j = 8 ∨ j = 9 ∨ j = 10 ∨ j = 11 ∨ j = 12 ∨ j = 13 by omega) with rfl | rfl | rfl | rfl | rfl | rfl | rfl | rfl | rfl | rfl | rfl | rfl | rfl | rfl <;> rfl) (Nat.le_of_ble_eq_true rfl) (Nat.le_of_ble_eq_true rfl) (fun oX => ?_)
  refine pz_dup dL_law_3 rfl ?_
  refine pz_callI (mi' := mX10_init) (As := []) (b := oX) dL_law_4 lk_RL_72 mk_X10_init mi_X10_init rfl rfl ⟨by decide, by decide⟩ rfl rfl (Nat.le_of_ble_eq_true rfl) (x_init10 (L := []) oX) ⟨Nat.le_of_ble_eq_true rfl, Nat.le_of_ble_eq_true rfl⟩ (fun v ws' h => ?_) (fun E ws' h => by obtain ⟨adr, -, h⟩ := h; cases h)
  obtain ⟨adX, hX0, h⟩ := h
  cases h
  refine pz_kn 117 2127 rfl rfl ?_
  refine pz_astore_n dL_law_7 (by decide) ?_
  refine pz_new (ci := 11) (C := RX11) (T := TX11) (N := 33) (fs := [.null, .null, .int 0, .int 0, .null, .int 0, .int 0, .null, .int 0, .int 0, .null, .null, .null, .int 0, .int 0, .null, .null, .null, .null, .null, .null, .null, .null, .null, .int 0, .null, .null, .null, .null, .null, .int 0, .int 0, .int 0]) tyX11 tyX11_ok dL_law_8 rfl inW11 (tw_in 1034 (by decide +kernel) (by decide +kernel)) (tw_in 1035 (by decide +kernel) (by decide +kernel)) (tw_in 112 (by decide +kernel) (by decide +kernel)) (fun j hj => by rcases (show j = 0 ∨ j = 1 ∨ j = 2 ∨ j = 3 ∨ j = 4 ∨ j = 5 ∨ j = 6 ∨ j = 7 ∨ j = 8 ∨ j = 9 ∨ j = 10 ∨ j = 11 ∨ j = 12 ∨ j = 13 ∨ j = 14 ∨ j = 15 ∨ j = 16 ∨ j = 17 ∨ j = 18 ∨ j = 19 ∨ j = 20 ∨ j = 21 ∨ j = 22 ∨ j = 23 ∨ j = 24 ∨ j = 25 ∨ j = 26 ∨ j = 27 ∨ j = 28 ∨ j = 29 ∨ j = 30 ∨ j = 31 ∨ j = 32 by omega) with rfl | rfl | rfl | rfl | rfl | rfl | rfl | rfl | rfl | rfl | rfl | rfl | rfl | rfl | rfl | rfl | rfl | rfl | rfl | rfl | rfl | rfl | rfl | rfl | rfl | rfl | rfl | rfl | rfl | rfl | rfl | rfl | rfl <;> rfl) (Nat.le_of_ble_eq_true rfl) (Nat.le_of_ble_eq_true rfl) (fun oM => ?_)
  refine pz_dup dL_law_11 rfl ?_
  refine pz_callI (mi' := mX11_init) (As := []) (b := oM) dL_law_12 lk_RL_75 mk_X11_init mi_X11_init rfl rfl ⟨by decide, by decide⟩ rfl rfl (Nat.le_of_ble_eq_true rfl) (r_init (L := wp G adX LX [] [] sX0) oM) ⟨Nat.le_of_ble_eq_true rfl, Nat.le_of_ble_eq_true rfl⟩ (fun v ws' h => ?_) (fun E ws' h => by obtain ⟨adr, -, h⟩ := h; cases h)
  obtain ⟨adM, hM0, h⟩ := h
  cases h
  refine pz_kn 139 3621 rfl rfl ?_
  refine pz_astore_n dL_law_15 (by decide) ?_
  refine pz_iconst (v := 1) dL_law_16 rfl ?_
  refine pz_newL 1 dL_law_17 (tw_in 351 (by decide +kernel) (by decide +kernel)) (by decide) (by decide) (Nat.le_of_ble_eq_true rfl) (Nat.le_of_ble_eq_true rfl) (Nat.le_of_ble_eq_true rfl) (fun ow => ?_)
  refine pz_kn 140 3622 rfl rfl ?_
  refine pz_astore_n dL_law_19 (by decide) ?_
  refine pz_iconst (v := 0) dL_law_20 rfl ?_
  refine pz_istore dL_law_21 (by decide) ?_
  refine pz_ws (ws' := wp G adX LX [] (rtM G adM sM0 ow (fun _ => 0)) sX0) (by simp [wp, List.append_assoc, sM0]) ?_
  rw [← hX0, ← hM0]
  exact pz_lk [(0, .ref b), (1, .ref (adX 0)), (2, .ref (adM 0)), (3, .ref ow), (4, .int 0)] ⟨rfl, rfl, rfl, rfl, rfl, trivial⟩ (kk adX adM ow)
theorem law_enter {p : Program} {e : Env} {s : State} {m : MethodId} {below : List Frame} {meth : Method} {c : Code} {l : Launch} {b L : Nat} {xs : Nat → Int32} (C0 : lw_At p s m meth c b L xs)
    (kk : ∀ (G : cxG) (sz : Nat), PZ (XL b L xs) QL l G mL_law [] sz 0 [(0, .ref b)] [] 0 0 []) : W p l e room_1 s m #[Value.ref b] below meth c s.heap [] 0 0 (lw_Z below #[Value.ref b] s) (entryFrame m ([Value.ref b] : List Value).toArray 9) := by
  obtain ⟨hx, hb, hr, hml, hown, hts, hX, hbl, hlocks, hgv⟩ := C0
  obtain ⟨G, hK⟩ := entry_K hts
  have hE := entry_E (sz := s.heap.size) rfl hts hgv
  rw [lg_entry_eq]
  exact kk G s.heap.size p e s m #[Value.ref b] below meth c s.heap [] _ ⟨hx, hb, hml, hr, hlocks, hown, trivial, hK, hE⟩ ⟨hX, hbl⟩ rfl (fun k q h => by simp at h) ⟨fun i j p q h => by simp at h, fun k q h => by simp at h⟩ va_S.rf (lv_entry ([.ref b]) (n := 9) (Nat.le_of_ble_eq_true rfl))
theorem no_traces {l : Launch} (h : l.flags = flags0) : l.stackTraces = false := by
  unfold Launch.stackTraces
  rw [h]
  decide +kernel
