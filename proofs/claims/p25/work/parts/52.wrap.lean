/-! the law's own static methods, which call the class and catch -/
theorem cle_13 : Cond.classLink RL 13 "java/lang/IllegalArgumentException" ∈ TW := tw_in 756 (by decide +kernel) (by decide +kernel)
theorem cle_15 : Cond.classLink RL 15 "java/lang/IllegalStateException" ∈ TW := tw_in 757 (by decide +kernel) (by decide +kernel)
theorem cse_IAE : Cond.castable "java/lang/IllegalArgumentException" "java/lang/IllegalArgumentException" ∈ TW := tw_in 764 (by decide +kernel) (by decide +kernel)
theorem cse_ISE : Cond.castable "java/lang/IllegalStateException" "java/lang/IllegalStateException" ∈ TW := tw_in 832 (by decide +kernel) (by decide +kernel)
theorem cle_21 : Cond.classLink RL 21 "java/lang/IndexOutOfBoundsException" ∈ TW := tw_in 853 (by decide +kernel) (by decide +kernel)
theorem cse_IOB : Cond.castable "java/lang/IndexOutOfBoundsException" "java/lang/IndexOutOfBoundsException" ∈ TW := tw_in 863 (by decide +kernel) (by decide +kernel)
theorem wp_rt {G : cxG} {adr : Nat → Nat} {Λ : Lay} {Lf Rt : va_W} {σ : St} {p : Nat} {c : Nat × va_E} (h : Rt[p]? = some c) : (wp G adr Λ Lf Rt σ)[Lf.length + (Λ.1.length + p)]? = some c := by
  unfold wp
  rw [List.getElem?_append_right (by omega), Nat.add_sub_cancel_left, List.getElem?_append_right (by rw [cellsE_len]; omega), cellsE_len, Nat.add_sub_cancel_left]
  exact h
theorem wp_rs {G : cxG} {adr : Nat → Nat} {Λ : Lay} {Lf Rt : va_W} {σ : St} {p : Nat} {c : Nat × va_E} : (wp G adr Λ Lf Rt σ).set (Lf.length + (Λ.1.length + p)) c = wp G adr Λ Lf (Rt.set p c) σ := by
  unfold wp
  rw [List.set_append_right _ _ (by omega), Nat.add_sub_cancel_left, List.set_append_right _ _ (by rw [cellsE_len]; omega), cellsE_len, Nat.add_sub_cancel_left]
section WR
variable {l : Launch} {G : cxG} {adr : Nat → Nat} {Rt : va_W} {σ : St} {p ow : Nat} {f : Nat → Int64}
abbrev hhL_append : List (Nat × Nat × Nat × Nat) := [(0, 9, 12, 13), (0, 9, 15, 15)]
theorem mw_append : MKW mL_append hhL_append 3 := ⟨tw_in 755 (by decide +kernel) (by decide +kernel), tw_in 100 (by decide +kernel) (by decide +kernel), by decide, by decide, by decide +kernel, tw_in 754 (by decide +kernel) (by decide +kernel)⟩
theorem wo_append (hout : Rt[p]? = some (ow, .inl (G.2.2.1, 1, .inr (.inl f)))) (p0 : Int32) {r : Int32} {Qs : St → Prop} (h : SpR1 l G mX10_append [.ref (adr 0), .int p0] adr LX [] Rt σ (fun v τ => v = .int r ∧ Qs τ)) : SpecW l G mL_append hhL_append [.ref (adr 0), .int p0, .ref ow] (wp G adr LX [] Rt σ) (fun o => ∃ τ, o = .inl (some (.int 0), wp G adr LX [] (Rt.set p (ow, .inl (G.2.2.1, 1, .inr (.inl (vp_updL f 0 r.toInt64))))) τ) ∧ Qs τ) := by
  refine specW_of (by decide) (Nat.le_of_ble_eq_true rfl) (fun sz => ?_)
  refine pz_aload_n dL_append_0 rfl ?_
  refine pz_iconst (v := 0) dL_append_1 rfl ?_
  refine pz_aload_n dL_append_2 rfl ?_
  refine pz_iload_n dL_append_3 rfl ?_
  refine pz_callV (mi' := mX10_append) (As := [.int p0]) (r := (RX10, TX10, 14)) (st := [.int 0, .ref ow]) dL_append_4 lk_RL_7 mk_X10_append mi_X10_append me_X10_append ⟨by decide, by decide⟩ rfl rfl (Nat.le_of_ble_eq_true rfl) (([] : va_W).length + 0) (wp_at (x := .inl 10) rfl) rfl h ⟨Nat.le_of_ble_eq_true rfl, Nat.le_of_ble_eq_true rfl⟩ (fun v ws1 hv => ?_) (fun E ws1 hv => by obtain ⟨v, τ, hv, -⟩ := hv; cases hv)
  obtain ⟨v1, τ, hv, hr, hQ⟩ := hv
  cases hv
  subst hr
  refine pz_i2l dL_append_7 ?_
  refine pz_last dL_append_8 (([] : va_W).length + (LX.1.length + p)) (wp_rt hout) (vp_in_nI (n := 0) (by decide) (by decide)) ?_
  refine pz_ws wp_rs ?_
  refine pz_goto (tgt := 18) dL_append_9 (by decide) ?_
  refine pz_iconst (v := 0) dL_append_18 rfl ?_
  exact pz_iret rfl rfl dL_append_19 (Nat.le_of_ble_eq_true rfl) (Nat.le_of_ble_eq_true rfl) ⟨τ, rfl, hQ⟩
theorem wt1_append (p0 : Int32) (h : SpecT l G mX10_append [.ref (adr 0), .int p0] (wp G adr LX [] Rt σ) "java/lang/IllegalArgumentException" (wp G adr LX [] Rt σ)) : SpecW l G mL_append hhL_append [.ref (adr 0), .int p0, .ref ow] (wp G adr LX [] Rt σ) (fun o => o = .inl (some (.int 1), wp G adr LX [] Rt σ)) := by
  refine specW_of (by decide) (Nat.le_of_ble_eq_true rfl) (fun sz => ?_)
  refine pz_aload_n dL_append_0 rfl ?_
  refine pz_iconst (v := 0) dL_append_1 rfl ?_
  refine pz_aload_n dL_append_2 rfl ?_
  refine pz_iload_n dL_append_3 rfl ?_
  refine pz_callV (mi' := mX10_append) (As := [.int p0]) (r := (RX10, TX10, 14)) (st := [.int 0, .ref ow]) dL_append_4 lk_RL_7 mk_X10_append mi_X10_append me_X10_append ⟨by decide, by decide⟩ rfl rfl (Nat.le_of_ble_eq_true rfl) (([] : va_W).length + 0) (wp_at (x := .inl 10) rfl) rfl h ⟨Nat.le_of_ble_eq_true rfl, Nat.le_of_ble_eq_true rfl⟩ (fun v ws1 hv => by cases hv) (fun E ws1 hv => ?_)
  cases hv
  refine pz_catch [] ⟨0, 9, 12, 13⟩ [⟨0, 9, 15, 15⟩] rfl (fun z hz => absurd hz List.not_mem_nil) (by decide) (by decide) cle_13 cse_IAE (fun q => ?_)
  refine pz_astore_n dL_append_12 (by decide) ?_
  refine pz_iconst (v := 1) dL_append_13 rfl ?_
  exact pz_iret rfl rfl dL_append_14 (Nat.le_of_ble_eq_true rfl) (Nat.le_of_ble_eq_true rfl) rfl
theorem wt2_append (p0 : Int32) (h : SpecT l G mX10_append [.ref (adr 0), .int p0] (wp G adr LX [] Rt σ) "java/lang/IllegalStateException" (wp G adr LX [] Rt σ)) : SpecW l G mL_append hhL_append [.ref (adr 0), .int p0, .ref ow] (wp G adr LX [] Rt σ) (fun o => o = .inl (some (.int 2), wp G adr LX [] Rt σ)) := by
  refine specW_of (by decide) (Nat.le_of_ble_eq_true rfl) (fun sz => ?_)
  refine pz_aload_n dL_append_0 rfl ?_
  refine pz_iconst (v := 0) dL_append_1 rfl ?_
  refine pz_aload_n dL_append_2 rfl ?_
  refine pz_iload_n dL_append_3 rfl ?_
  refine pz_callV (mi' := mX10_append) (As := [.int p0]) (r := (RX10, TX10, 14)) (st := [.int 0, .ref ow]) dL_append_4 lk_RL_7 mk_X10_append mi_X10_append me_X10_append ⟨by decide, by decide⟩ rfl rfl (Nat.le_of_ble_eq_true rfl) (([] : va_W).length + 0) (wp_at (x := .inl 10) rfl) rfl h ⟨Nat.le_of_ble_eq_true rfl, Nat.le_of_ble_eq_true rfl⟩ (fun v ws1 hv => by cases hv) (fun E ws1 hv => ?_)
  cases hv
  refine pz_catch [⟨0, 9, 12, 13⟩] ⟨0, 9, 15, 15⟩ [] rfl (fun z hz => by rw [List.mem_singleton.mp hz]; exact Or.inr ⟨by decide, "java/lang/IllegalArgumentException", cle_13, by decide, by decide, by decide⟩) (by decide) (by decide) cle_15 cse_ISE (fun q => ?_)
  refine pz_astore_n dL_append_15 (by decide) ?_
  refine pz_iconst (v := 2) dL_append_16 rfl ?_
  exact pz_iret rfl rfl dL_append_17 (Nat.le_of_ble_eq_true rfl) (Nat.le_of_ble_eq_true rfl) rfl
abbrev hhL_setRange : List (Nat × Nat × Nat × Nat) := [(0, 12, 15, 21), (0, 12, 19, 13)]
theorem mw_setRange : MKW mL_setRange hhL_setRange 5 := ⟨tw_in 852 (by decide +kernel) (by decide +kernel), tw_in 100 (by decide +kernel) (by decide +kernel), by decide, by decide, by decide +kernel, tw_in 851 (by decide +kernel) (by decide +kernel)⟩
theorem wo_setRange (hout : Rt[p]? = some (ow, .inl (G.2.2.1, 1, .inr (.inl f)))) (p0 : Int32) (p1 : Int32) (p2 : Int32) {r : Int32} {Qs : St → Prop} (h : SpR1 l G mX10_setRange [.ref (adr 0), .int p0, .int p1, .int p2] adr LX [] Rt σ (fun v τ => v = .int r ∧ Qs τ)) : SpecW l G mL_setRange hhL_setRange [.ref (adr 0), .int p0, .int p1, .int p2, .ref ow] (wp G adr LX [] Rt σ) (fun o => ∃ τ, o = .inl (some (.int 0), wp G adr LX [] (Rt.set p (ow, .inl (G.2.2.1, 1, .inr (.inl (vp_updL f 0 r.toInt64))))) τ) ∧ Qs τ) := by
  refine specW_of (by decide) (Nat.le_of_ble_eq_true rfl) (fun sz => ?_)
  refine pz_aload dL_setRange_0 rfl ?_
  refine pz_iconst (v := 0) dL_setRange_2 rfl ?_
  refine pz_aload_n dL_setRange_3 rfl ?_
  refine pz_iload_n dL_setRange_4 rfl ?_
  refine pz_iload_n dL_setRange_5 rfl ?_
  refine pz_iload_n dL_setRange_6 rfl ?_
  refine pz_callV (mi' := mX10_setRange) (As := [.int p0, .int p1, .int p2]) (r := (RX10, TX10, 14)) (st := [.int 0, .ref ow]) dL_setRange_7 lk_RL_17 mk_X10_setRange mi_X10_setRange me_X10_setRange ⟨by decide, by decide⟩ rfl rfl (Nat.le_of_ble_eq_true rfl) (([] : va_W).length + 0) (wp_at (x := .inl 10) rfl) rfl h ⟨Nat.le_of_ble_eq_true rfl, Nat.le_of_ble_eq_true rfl⟩ (fun v ws1 hv => ?_) (fun E ws1 hv => by obtain ⟨v, τ, hv, -⟩ := hv; cases hv)
  obtain ⟨v1, τ, hv, hr, hQ⟩ := hv
  cases hv
  subst hr
  refine pz_i2l dL_setRange_10 ?_
  refine pz_last dL_setRange_11 (([] : va_W).length + (LX.1.length + p)) (wp_rt hout) (vp_in_nI (n := 0) (by decide) (by decide)) ?_
  refine pz_ws wp_rs ?_
  refine pz_goto (tgt := 23) dL_setRange_12 (by decide) ?_
  refine pz_iconst (v := 0) dL_setRange_23 rfl ?_
  exact pz_iret rfl rfl dL_setRange_24 (Nat.le_of_ble_eq_true rfl) (Nat.le_of_ble_eq_true rfl) ⟨τ, rfl, hQ⟩
theorem wt1_setRange (p0 : Int32) (p1 : Int32) (p2 : Int32) (h : SpecT l G mX10_setRange [.ref (adr 0), .int p0, .int p1, .int p2] (wp G adr LX [] Rt σ) "java/lang/IndexOutOfBoundsException" (wp G adr LX [] Rt σ)) : SpecW l G mL_setRange hhL_setRange [.ref (adr 0), .int p0, .int p1, .int p2, .ref ow] (wp G adr LX [] Rt σ) (fun o => o = .inl (some (.int 1), wp G adr LX [] Rt σ)) := by
  refine specW_of (by decide) (Nat.le_of_ble_eq_true rfl) (fun sz => ?_)
  refine pz_aload dL_setRange_0 rfl ?_
  refine pz_iconst (v := 0) dL_setRange_2 rfl ?_
  refine pz_aload_n dL_setRange_3 rfl ?_
  refine pz_iload_n dL_setRange_4 rfl ?_
  refine pz_iload_n dL_setRange_5 rfl ?_
  refine pz_iload_n dL_setRange_6 rfl ?_
  refine pz_callV (mi' := mX10_setRange) (As := [.int p0, .int p1, .int p2]) (r := (RX10, TX10, 14)) (st := [.int 0, .ref ow]) dL_setRange_7 lk_RL_17 mk_X10_setRange mi_X10_setRange me_X10_setRange ⟨by decide, by decide⟩ rfl rfl (Nat.le_of_ble_eq_true rfl) (([] : va_W).length + 0) (wp_at (x := .inl 10) rfl) rfl h ⟨Nat.le_of_ble_eq_true rfl, Nat.le_of_ble_eq_true rfl⟩ (fun v ws1 hv => by cases hv) (fun E ws1 hv => ?_)
  cases hv
  refine pz_catch [] ⟨0, 12, 15, 21⟩ [⟨0, 12, 19, 13⟩] rfl (fun z hz => absurd hz List.not_mem_nil) (by decide) (by decide) cle_21 cse_IOB (fun q => ?_)
  refine pz_astore dL_setRange_15 (by decide) ?_
  refine pz_iconst (v := 1) dL_setRange_17 rfl ?_
  exact pz_iret rfl rfl dL_setRange_18 (Nat.le_of_ble_eq_true rfl) (Nat.le_of_ble_eq_true rfl) rfl
theorem wt2_setRange (p0 : Int32) (p1 : Int32) (p2 : Int32) (h : SpecT l G mX10_setRange [.ref (adr 0), .int p0, .int p1, .int p2] (wp G adr LX [] Rt σ) "java/lang/IllegalArgumentException" (wp G adr LX [] Rt σ)) : SpecW l G mL_setRange hhL_setRange [.ref (adr 0), .int p0, .int p1, .int p2, .ref ow] (wp G adr LX [] Rt σ) (fun o => o = .inl (some (.int 2), wp G adr LX [] Rt σ)) := by
  refine specW_of (by decide) (Nat.le_of_ble_eq_true rfl) (fun sz => ?_)
  refine pz_aload dL_setRange_0 rfl ?_
  refine pz_iconst (v := 0) dL_setRange_2 rfl ?_
  refine pz_aload_n dL_setRange_3 rfl ?_
  refine pz_iload_n dL_setRange_4 rfl ?_
  refine pz_iload_n dL_setRange_5 rfl ?_
  refine pz_iload_n dL_setRange_6 rfl ?_
  refine pz_callV (mi' := mX10_setRange) (As := [.int p0, .int p1, .int p2]) (r := (RX10, TX10, 14)) (st := [.int 0, .ref ow]) dL_setRange_7 lk_RL_17 mk_X10_setRange mi_X10_setRange me_X10_setRange ⟨by decide, by decide⟩ rfl rfl (Nat.le_of_ble_eq_true rfl) (([] : va_W).length + 0) (wp_at (x := .inl 10) rfl) rfl h ⟨Nat.le_of_ble_eq_true rfl, Nat.le_of_ble_eq_true rfl⟩ (fun v ws1 hv => by cases hv) (fun E ws1 hv => ?_)
  cases hv
  refine pz_catch [⟨0, 12, 15, 21⟩] ⟨0, 12, 19, 13⟩ [] rfl (fun z hz => by rw [List.mem_singleton.mp hz]; exact Or.inr ⟨by decide, "java/lang/IndexOutOfBoundsException", cle_21, by decide, by decide, by decide⟩) (by decide) (by decide) cle_13 cse_IAE (fun q => ?_)
  refine pz_astore dL_setRange_19 (by decide) ?_
  refine pz_iconst (v := 2) dL_setRange_21 rfl ?_
  exact pz_iret rfl rfl dL_setRange_22 (Nat.le_of_ble_eq_true rfl) (Nat.le_of_ble_eq_true rfl) rfl
abbrev hhL_setInput : List (Nat × Nat × Nat × Nat) := [(0, 10, 13, 21), (0, 10, 17, 13)]
theorem mw_setInput : MKW mL_setInput hhL_setInput 4 := ⟨tw_in 887 (by decide +kernel) (by decide +kernel), tw_in 100 (by decide +kernel) (by decide +kernel), by decide, by decide, by decide +kernel, tw_in 886 (by decide +kernel) (by decide +kernel)⟩
theorem wo_setInput (hout : Rt[p]? = some (ow, .inl (G.2.2.1, 1, .inr (.inl f)))) (p0 : Int32) (p1 : Int32) {r : Int32} {Qs : St → Prop} (h : SpR1 l G mX10_setInput [.ref (adr 0), .int p0, .int p1] adr LX [] Rt σ (fun v τ => v = .int r ∧ Qs τ)) : SpecW l G mL_setInput hhL_setInput [.ref (adr 0), .int p0, .int p1, .ref ow] (wp G adr LX [] Rt σ) (fun o => ∃ τ, o = .inl (some (.int 0), wp G adr LX [] (Rt.set p (ow, .inl (G.2.2.1, 1, .inr (.inl (vp_updL f 0 r.toInt64))))) τ) ∧ Qs τ) := by
  refine specW_of (by decide) (Nat.le_of_ble_eq_true rfl) (fun sz => ?_)
  refine pz_aload_n dL_setInput_0 rfl ?_
  refine pz_iconst (v := 0) dL_setInput_1 rfl ?_
  refine pz_aload_n dL_setInput_2 rfl ?_
  refine pz_iload_n dL_setInput_3 rfl ?_
  refine pz_iload_n dL_setInput_4 rfl ?_
  refine pz_callV (mi' := mX10_setInput) (As := [.int p0, .int p1]) (r := (RX10, TX10, 14)) (st := [.int 0, .ref ow]) dL_setInput_5 lk_RL_23 mk_X10_setInput mi_X10_setInput me_X10_setInput ⟨by decide, by decide⟩ rfl rfl (Nat.le_of_ble_eq_true rfl) (([] : va_W).length + 0) (wp_at (x := .inl 10) rfl) rfl h ⟨Nat.le_of_ble_eq_true rfl, Nat.le_of_ble_eq_true rfl⟩ (fun v ws1 hv => ?_) (fun E ws1 hv => by obtain ⟨v, τ, hv, -⟩ := hv; cases hv)
  obtain ⟨v1, τ, hv, hr, hQ⟩ := hv
  cases hv
  subst hr
  refine pz_i2l dL_setInput_8 ?_
  refine pz_last dL_setInput_9 (([] : va_W).length + (LX.1.length + p)) (wp_rt hout) (vp_in_nI (n := 0) (by decide) (by decide)) ?_
  refine pz_ws wp_rs ?_
  refine pz_goto (tgt := 21) dL_setInput_10 (by decide) ?_
  refine pz_iconst (v := 0) dL_setInput_21 rfl ?_
  exact pz_iret rfl rfl dL_setInput_22 (Nat.le_of_ble_eq_true rfl) (Nat.le_of_ble_eq_true rfl) ⟨τ, rfl, hQ⟩
theorem wt1_setInput (p0 : Int32) (p1 : Int32) (h : SpecT l G mX10_setInput [.ref (adr 0), .int p0, .int p1] (wp G adr LX [] Rt σ) "java/lang/IndexOutOfBoundsException" (wp G adr LX [] Rt σ)) : SpecW l G mL_setInput hhL_setInput [.ref (adr 0), .int p0, .int p1, .ref ow] (wp G adr LX [] Rt σ) (fun o => o = .inl (some (.int 1), wp G adr LX [] Rt σ)) := by
  refine specW_of (by decide) (Nat.le_of_ble_eq_true rfl) (fun sz => ?_)
  refine pz_aload_n dL_setInput_0 rfl ?_
  refine pz_iconst (v := 0) dL_setInput_1 rfl ?_
  refine pz_aload_n dL_setInput_2 rfl ?_
  refine pz_iload_n dL_setInput_3 rfl ?_
  refine pz_iload_n dL_setInput_4 rfl ?_
  refine pz_callV (mi' := mX10_setInput) (As := [.int p0, .int p1]) (r := (RX10, TX10, 14)) (st := [.int 0, .ref ow]) dL_setInput_5 lk_RL_23 mk_X10_setInput mi_X10_setInput me_X10_setInput ⟨by decide, by decide⟩ rfl rfl (Nat.le_of_ble_eq_true rfl) (([] : va_W).length + 0) (wp_at (x := .inl 10) rfl) rfl h ⟨Nat.le_of_ble_eq_true rfl, Nat.le_of_ble_eq_true rfl⟩ (fun v ws1 hv => by cases hv) (fun E ws1 hv => ?_)
  cases hv
  refine pz_catch [] ⟨0, 10, 13, 21⟩ [⟨0, 10, 17, 13⟩] rfl (fun z hz => absurd hz List.not_mem_nil) (by decide) (by decide) cle_21 cse_IOB (fun q => ?_)
  refine pz_astore dL_setInput_13 (by decide) ?_
  refine pz_iconst (v := 1) dL_setInput_15 rfl ?_
  exact pz_iret rfl rfl dL_setInput_16 (Nat.le_of_ble_eq_true rfl) (Nat.le_of_ble_eq_true rfl) rfl
theorem wt2_setInput (p0 : Int32) (p1 : Int32) (h : SpecT l G mX10_setInput [.ref (adr 0), .int p0, .int p1] (wp G adr LX [] Rt σ) "java/lang/IllegalArgumentException" (wp G adr LX [] Rt σ)) : SpecW l G mL_setInput hhL_setInput [.ref (adr 0), .int p0, .int p1, .ref ow] (wp G adr LX [] Rt σ) (fun o => o = .inl (some (.int 2), wp G adr LX [] Rt σ)) := by
  refine specW_of (by decide) (Nat.le_of_ble_eq_true rfl) (fun sz => ?_)
  refine pz_aload_n dL_setInput_0 rfl ?_
  refine pz_iconst (v := 0) dL_setInput_1 rfl ?_
  refine pz_aload_n dL_setInput_2 rfl ?_
  refine pz_iload_n dL_setInput_3 rfl ?_
  refine pz_iload_n dL_setInput_4 rfl ?_
  refine pz_callV (mi' := mX10_setInput) (As := [.int p0, .int p1]) (r := (RX10, TX10, 14)) (st := [.int 0, .ref ow]) dL_setInput_5 lk_RL_23 mk_X10_setInput mi_X10_setInput me_X10_setInput ⟨by decide, by decide⟩ rfl rfl (Nat.le_of_ble_eq_true rfl) (([] : va_W).length + 0) (wp_at (x := .inl 10) rfl) rfl h ⟨Nat.le_of_ble_eq_true rfl, Nat.le_of_ble_eq_true rfl⟩ (fun v ws1 hv => by cases hv) (fun E ws1 hv => ?_)
  cases hv
  refine pz_catch [⟨0, 10, 13, 21⟩] ⟨0, 10, 17, 13⟩ [] rfl (fun z hz => by rw [List.mem_singleton.mp hz]; exact Or.inr ⟨by decide, "java/lang/IndexOutOfBoundsException", cle_21, by decide, by decide, by decide⟩) (by decide) (by decide) cle_13 cse_IAE (fun q => ?_)
  refine pz_astore dL_setInput_17 (by decide) ?_
  refine pz_iconst (v := 2) dL_setInput_19 rfl ?_
  exact pz_iret rfl rfl dL_setInput_20 (Nat.le_of_ble_eq_true rfl) (Nat.le_of_ble_eq_true rfl) rfl
abbrev hhL_input : List (Nat × Nat × Nat × Nat) := [(0, 10, 13, 21), (0, 10, 17, 13)]
theorem mw_input : MKW mL_input hhL_input 4 := ⟨tw_in 895 (by decide +kernel) (by decide +kernel), tw_in 100 (by decide +kernel) (by decide +kernel), by decide, by decide, by decide +kernel, tw_in 894 (by decide +kernel) (by decide +kernel)⟩
theorem wo_input (hout : Rt[p]? = some (ow, .inl (G.2.2.1, 1, .inr (.inl f)))) (p0 : Int32) (p1 : Int32) {r : Int32} {Qs : St → Prop} (h : SpR1 l G mX10_input [.ref (adr 0), .int p0, .int p1] adr LX [] Rt σ (fun v τ => v = .int r ∧ Qs τ)) : SpecW l G mL_input hhL_input [.ref (adr 0), .int p0, .int p1, .ref ow] (wp G adr LX [] Rt σ) (fun o => ∃ τ, o = .inl (some (.int 0), wp G adr LX [] (Rt.set p (ow, .inl (G.2.2.1, 1, .inr (.inl (vp_updL f 0 r.toInt64))))) τ) ∧ Qs τ) := by
  refine specW_of (by decide) (Nat.le_of_ble_eq_true rfl) (fun sz => ?_)
  refine pz_aload_n dL_input_0 rfl ?_
  refine pz_iconst (v := 0) dL_input_1 rfl ?_
  refine pz_aload_n dL_input_2 rfl ?_
  refine pz_iload_n dL_input_3 rfl ?_
  refine pz_iload_n dL_input_4 rfl ?_
  refine pz_callV (mi' := mX10_input) (As := [.int p0, .int p1]) (r := (RX10, TX10, 14)) (st := [.int 0, .ref ow]) dL_input_5 lk_RL_27 mk_X10_input mi_X10_input me_X10_input ⟨by decide, by decide⟩ rfl rfl (Nat.le_of_ble_eq_true rfl) (([] : va_W).length + 0) (wp_at (x := .inl 10) rfl) rfl h ⟨Nat.le_of_ble_eq_true rfl, Nat.le_of_ble_eq_true rfl⟩ (fun v ws1 hv => ?_) (fun E ws1 hv => by obtain ⟨v, τ, hv, -⟩ := hv; cases hv)
  obtain ⟨v1, τ, hv, hr, hQ⟩ := hv
  cases hv
  subst hr
  refine pz_i2l dL_input_8 ?_
  refine pz_last dL_input_9 (([] : va_W).length + (LX.1.length + p)) (wp_rt hout) (vp_in_nI (n := 0) (by decide) (by decide)) ?_
  refine pz_ws wp_rs ?_
  refine pz_goto (tgt := 21) dL_input_10 (by decide) ?_
  refine pz_iconst (v := 0) dL_input_21 rfl ?_
  exact pz_iret rfl rfl dL_input_22 (Nat.le_of_ble_eq_true rfl) (Nat.le_of_ble_eq_true rfl) ⟨τ, rfl, hQ⟩
theorem wt1_input (p0 : Int32) (p1 : Int32) (h : SpecT l G mX10_input [.ref (adr 0), .int p0, .int p1] (wp G adr LX [] Rt σ) "java/lang/IndexOutOfBoundsException" (wp G adr LX [] Rt σ)) : SpecW l G mL_input hhL_input [.ref (adr 0), .int p0, .int p1, .ref ow] (wp G adr LX [] Rt σ) (fun o => o = .inl (some (.int 1), wp G adr LX [] Rt σ)) := by
  refine specW_of (by decide) (Nat.le_of_ble_eq_true rfl) (fun sz => ?_)
  refine pz_aload_n dL_input_0 rfl ?_
  refine pz_iconst (v := 0) dL_input_1 rfl ?_
  refine pz_aload_n dL_input_2 rfl ?_
  refine pz_iload_n dL_input_3 rfl ?_
  refine pz_iload_n dL_input_4 rfl ?_
  refine pz_callV (mi' := mX10_input) (As := [.int p0, .int p1]) (r := (RX10, TX10, 14)) (st := [.int 0, .ref ow]) dL_input_5 lk_RL_27 mk_X10_input mi_X10_input me_X10_input ⟨by decide, by decide⟩ rfl rfl (Nat.le_of_ble_eq_true rfl) (([] : va_W).length + 0) (wp_at (x := .inl 10) rfl) rfl h ⟨Nat.le_of_ble_eq_true rfl, Nat.le_of_ble_eq_true rfl⟩ (fun v ws1 hv => by cases hv) (fun E ws1 hv => ?_)
  cases hv
  refine pz_catch [] ⟨0, 10, 13, 21⟩ [⟨0, 10, 17, 13⟩] rfl (fun z hz => absurd hz List.not_mem_nil) (by decide) (by decide) cle_21 cse_IOB (fun q => ?_)
  refine pz_astore dL_input_13 (by decide) ?_
  refine pz_iconst (v := 1) dL_input_15 rfl ?_
  exact pz_iret rfl rfl dL_input_16 (Nat.le_of_ble_eq_true rfl) (Nat.le_of_ble_eq_true rfl) rfl
theorem wt2_input (p0 : Int32) (p1 : Int32) (h : SpecT l G mX10_input [.ref (adr 0), .int p0, .int p1] (wp G adr LX [] Rt σ) "java/lang/IllegalArgumentException" (wp G adr LX [] Rt σ)) : SpecW l G mL_input hhL_input [.ref (adr 0), .int p0, .int p1, .ref ow] (wp G adr LX [] Rt σ) (fun o => o = .inl (some (.int 2), wp G adr LX [] Rt σ)) := by
  refine specW_of (by decide) (Nat.le_of_ble_eq_true rfl) (fun sz => ?_)
  refine pz_aload_n dL_input_0 rfl ?_
  refine pz_iconst (v := 0) dL_input_1 rfl ?_
  refine pz_aload_n dL_input_2 rfl ?_
  refine pz_iload_n dL_input_3 rfl ?_
  refine pz_iload_n dL_input_4 rfl ?_
  refine pz_callV (mi' := mX10_input) (As := [.int p0, .int p1]) (r := (RX10, TX10, 14)) (st := [.int 0, .ref ow]) dL_input_5 lk_RL_27 mk_X10_input mi_X10_input me_X10_input ⟨by decide, by decide⟩ rfl rfl (Nat.le_of_ble_eq_true rfl) (([] : va_W).length + 0) (wp_at (x := .inl 10) rfl) rfl h ⟨Nat.le_of_ble_eq_true rfl, Nat.le_of_ble_eq_true rfl⟩ (fun v ws1 hv => by cases hv) (fun E ws1 hv => ?_)
  cases hv
  refine pz_catch [⟨0, 10, 13, 21⟩] ⟨0, 10, 17, 13⟩ [] rfl (fun z hz => by rw [List.mem_singleton.mp hz]; exact Or.inr ⟨by decide, "java/lang/IndexOutOfBoundsException", cle_21, by decide, by decide, by decide⟩) (by decide) (by decide) cle_13 cse_IAE (fun q => ?_)
  refine pz_astore dL_input_17 (by decide) ?_
  refine pz_iconst (v := 2) dL_input_19 rfl ?_
  exact pz_iret rfl rfl dL_input_20 (Nat.le_of_ble_eq_true rfl) (Nat.le_of_ble_eq_true rfl) rfl
abbrev hhL_remove : List (Nat × Nat × Nat × Nat) := [(0, 9, 12, 21), (0, 9, 15, 15)]
theorem mw_remove : MKW mL_remove hhL_remove 3 := ⟨tw_in 903 (by decide +kernel) (by decide +kernel), tw_in 100 (by decide +kernel) (by decide +kernel), by decide, by decide, by decide +kernel, tw_in 902 (by decide +kernel) (by decide +kernel)⟩
theorem wo_remove (hout : Rt[p]? = some (ow, .inl (G.2.2.1, 1, .inr (.inl f)))) (p0 : Int32) {r : Int32} {Qs : St → Prop} (h : SpR1 l G mX10_remove [.ref (adr 0), .int p0] adr LX [] Rt σ (fun v τ => v = .int r ∧ Qs τ)) : SpecW l G mL_remove hhL_remove [.ref (adr 0), .int p0, .ref ow] (wp G adr LX [] Rt σ) (fun o => ∃ τ, o = .inl (some (.int 0), wp G adr LX [] (Rt.set p (ow, .inl (G.2.2.1, 1, .inr (.inl (vp_updL f 0 r.toInt64))))) τ) ∧ Qs τ) := by
  refine specW_of (by decide) (Nat.le_of_ble_eq_true rfl) (fun sz => ?_)
  refine pz_aload_n dL_remove_0 rfl ?_
  refine pz_iconst (v := 0) dL_remove_1 rfl ?_
  refine pz_aload_n dL_remove_2 rfl ?_
  refine pz_iload_n dL_remove_3 rfl ?_
  refine pz_callV (mi' := mX10_remove) (As := [.int p0]) (r := (RX10, TX10, 14)) (st := [.int 0, .ref ow]) dL_remove_4 lk_RL_30 mk_X10_remove mi_X10_remove me_X10_remove ⟨by decide, by decide⟩ rfl rfl (Nat.le_of_ble_eq_true rfl) (([] : va_W).length + 0) (wp_at (x := .inl 10) rfl) rfl h ⟨Nat.le_of_ble_eq_true rfl, Nat.le_of_ble_eq_true rfl⟩ (fun v ws1 hv => ?_) (fun E ws1 hv => by obtain ⟨v, τ, hv, -⟩ := hv; cases hv)
  obtain ⟨v1, τ, hv, hr, hQ⟩ := hv
  cases hv
  subst hr
  refine pz_i2l dL_remove_7 ?_
  refine pz_last dL_remove_8 (([] : va_W).length + (LX.1.length + p)) (wp_rt hout) (vp_in_nI (n := 0) (by decide) (by decide)) ?_
  refine pz_ws wp_rs ?_
  refine pz_goto (tgt := 18) dL_remove_9 (by decide) ?_
  refine pz_iconst (v := 0) dL_remove_18 rfl ?_
  exact pz_iret rfl rfl dL_remove_19 (Nat.le_of_ble_eq_true rfl) (Nat.le_of_ble_eq_true rfl) ⟨τ, rfl, hQ⟩
theorem wt1_remove (p0 : Int32) (h : SpecT l G mX10_remove [.ref (adr 0), .int p0] (wp G adr LX [] Rt σ) "java/lang/IndexOutOfBoundsException" (wp G adr LX [] Rt σ)) : SpecW l G mL_remove hhL_remove [.ref (adr 0), .int p0, .ref ow] (wp G adr LX [] Rt σ) (fun o => o = .inl (some (.int 1), wp G adr LX [] Rt σ)) := by
  refine specW_of (by decide) (Nat.le_of_ble_eq_true rfl) (fun sz => ?_)
  refine pz_aload_n dL_remove_0 rfl ?_
  refine pz_iconst (v := 0) dL_remove_1 rfl ?_
  refine pz_aload_n dL_remove_2 rfl ?_
  refine pz_iload_n dL_remove_3 rfl ?_
  refine pz_callV (mi' := mX10_remove) (As := [.int p0]) (r := (RX10, TX10, 14)) (st := [.int 0, .ref ow]) dL_remove_4 lk_RL_30 mk_X10_remove mi_X10_remove me_X10_remove ⟨by decide, by decide⟩ rfl rfl (Nat.le_of_ble_eq_true rfl) (([] : va_W).length + 0) (wp_at (x := .inl 10) rfl) rfl h ⟨Nat.le_of_ble_eq_true rfl, Nat.le_of_ble_eq_true rfl⟩ (fun v ws1 hv => by cases hv) (fun E ws1 hv => ?_)
  cases hv
  refine pz_catch [] ⟨0, 9, 12, 21⟩ [⟨0, 9, 15, 15⟩] rfl (fun z hz => absurd hz List.not_mem_nil) (by decide) (by decide) cle_21 cse_IOB (fun q => ?_)
  refine pz_astore_n dL_remove_12 (by decide) ?_
  refine pz_iconst (v := 1) dL_remove_13 rfl ?_
  exact pz_iret rfl rfl dL_remove_14 (Nat.le_of_ble_eq_true rfl) (Nat.le_of_ble_eq_true rfl) rfl
theorem wt2_remove (p0 : Int32) (h : SpecT l G mX10_remove [.ref (adr 0), .int p0] (wp G adr LX [] Rt σ) "java/lang/IllegalStateException" (wp G adr LX [] Rt σ)) : SpecW l G mL_remove hhL_remove [.ref (adr 0), .int p0, .ref ow] (wp G adr LX [] Rt σ) (fun o => o = .inl (some (.int 2), wp G adr LX [] Rt σ)) := by
  refine specW_of (by decide) (Nat.le_of_ble_eq_true rfl) (fun sz => ?_)
  refine pz_aload_n dL_remove_0 rfl ?_
  refine pz_iconst (v := 0) dL_remove_1 rfl ?_
  refine pz_aload_n dL_remove_2 rfl ?_
  refine pz_iload_n dL_remove_3 rfl ?_
  refine pz_callV (mi' := mX10_remove) (As := [.int p0]) (r := (RX10, TX10, 14)) (st := [.int 0, .ref ow]) dL_remove_4 lk_RL_30 mk_X10_remove mi_X10_remove me_X10_remove ⟨by decide, by decide⟩ rfl rfl (Nat.le_of_ble_eq_true rfl) (([] : va_W).length + 0) (wp_at (x := .inl 10) rfl) rfl h ⟨Nat.le_of_ble_eq_true rfl, Nat.le_of_ble_eq_true rfl⟩ (fun v ws1 hv => by cases hv) (fun E ws1 hv => ?_)
  cases hv
  refine pz_catch [⟨0, 9, 12, 21⟩] ⟨0, 9, 15, 15⟩ [] rfl (fun z hz => by rw [List.mem_singleton.mp hz]; exact Or.inr ⟨by decide, "java/lang/IndexOutOfBoundsException", cle_21, by decide, by decide, by decide⟩) (by decide) (by decide) cle_15 cse_ISE (fun q => ?_)
  refine pz_astore_n dL_remove_15 (by decide) ?_
  refine pz_iconst (v := 2) dL_remove_16 rfl ?_
  exact pz_iret rfl rfl dL_remove_17 (Nat.le_of_ble_eq_true rfl) (Nat.le_of_ble_eq_true rfl) rfl
abbrev hhL_instruction : List (Nat × Nat × Nat × Nat) := [(0, 10, 13, 21), (0, 10, 17, 13)]
theorem mw_instruction : MKW mL_instruction hhL_instruction 4 := ⟨tw_in 925 (by decide +kernel) (by decide +kernel), tw_in 100 (by decide +kernel) (by decide +kernel), by decide, by decide, by decide +kernel, tw_in 924 (by decide +kernel) (by decide +kernel)⟩
theorem wo_instruction (hout : Rt[p]? = some (ow, .inl (G.2.2.1, 1, .inr (.inl f)))) (p0 : Int32) (p1 : Int32) {r : Int32} {Qs : St → Prop} (h : SpR1 l G mX10_instruction [.ref (adr 0), .int p0, .int p1] adr LX [] Rt σ (fun v τ => v = .int r ∧ Qs τ)) : SpecW l G mL_instruction hhL_instruction [.ref (adr 0), .int p0, .int p1, .ref ow] (wp G adr LX [] Rt σ) (fun o => ∃ τ, o = .inl (some (.int 0), wp G adr LX [] (Rt.set p (ow, .inl (G.2.2.1, 1, .inr (.inl (vp_updL f 0 r.toInt64))))) τ) ∧ Qs τ) := by
  refine specW_of (by decide) (Nat.le_of_ble_eq_true rfl) (fun sz => ?_)
  refine pz_aload_n dL_instruction_0 rfl ?_
  refine pz_iconst (v := 0) dL_instruction_1 rfl ?_
  refine pz_aload_n dL_instruction_2 rfl ?_
  refine pz_iload_n dL_instruction_3 rfl ?_
  refine pz_iload_n dL_instruction_4 rfl ?_
  refine pz_callV (mi' := mX10_instruction) (As := [.int p0, .int p1]) (r := (RX10, TX10, 14)) (st := [.int 0, .ref ow]) dL_instruction_5 lk_RL_33 mk_X10_instruction mi_X10_instruction me_X10_instruction ⟨by decide, by decide⟩ rfl rfl (Nat.le_of_ble_eq_true rfl) (([] : va_W).length + 0) (wp_at (x := .inl 10) rfl) rfl h ⟨Nat.le_of_ble_eq_true rfl, Nat.le_of_ble_eq_true rfl⟩ (fun v ws1 hv => ?_) (fun E ws1 hv => by obtain ⟨v, τ, hv, -⟩ := hv; cases hv)
  obtain ⟨v1, τ, hv, hr, hQ⟩ := hv
  cases hv
  subst hr
  refine pz_i2l dL_instruction_8 ?_
  refine pz_last dL_instruction_9 (([] : va_W).length + (LX.1.length + p)) (wp_rt hout) (vp_in_nI (n := 0) (by decide) (by decide)) ?_
  refine pz_ws wp_rs ?_
  refine pz_goto (tgt := 21) dL_instruction_10 (by decide) ?_
  refine pz_iconst (v := 0) dL_instruction_21 rfl ?_
  exact pz_iret rfl rfl dL_instruction_22 (Nat.le_of_ble_eq_true rfl) (Nat.le_of_ble_eq_true rfl) ⟨τ, rfl, hQ⟩
theorem wt1_instruction (p0 : Int32) (p1 : Int32) (h : SpecT l G mX10_instruction [.ref (adr 0), .int p0, .int p1] (wp G adr LX [] Rt σ) "java/lang/IndexOutOfBoundsException" (wp G adr LX [] Rt σ)) : SpecW l G mL_instruction hhL_instruction [.ref (adr 0), .int p0, .int p1, .ref ow] (wp G adr LX [] Rt σ) (fun o => o = .inl (some (.int 1), wp G adr LX [] Rt σ)) := by
  refine specW_of (by decide) (Nat.le_of_ble_eq_true rfl) (fun sz => ?_)
  refine pz_aload_n dL_instruction_0 rfl ?_
  refine pz_iconst (v := 0) dL_instruction_1 rfl ?_
  refine pz_aload_n dL_instruction_2 rfl ?_
  refine pz_iload_n dL_instruction_3 rfl ?_
  refine pz_iload_n dL_instruction_4 rfl ?_
  refine pz_callV (mi' := mX10_instruction) (As := [.int p0, .int p1]) (r := (RX10, TX10, 14)) (st := [.int 0, .ref ow]) dL_instruction_5 lk_RL_33 mk_X10_instruction mi_X10_instruction me_X10_instruction ⟨by decide, by decide⟩ rfl rfl (Nat.le_of_ble_eq_true rfl) (([] : va_W).length + 0) (wp_at (x := .inl 10) rfl) rfl h ⟨Nat.le_of_ble_eq_true rfl, Nat.le_of_ble_eq_true rfl⟩ (fun v ws1 hv => by cases hv) (fun E ws1 hv => ?_)
  cases hv
  refine pz_catch [] ⟨0, 10, 13, 21⟩ [⟨0, 10, 17, 13⟩] rfl (fun z hz => absurd hz List.not_mem_nil) (by decide) (by decide) cle_21 cse_IOB (fun q => ?_)
  refine pz_astore dL_instruction_13 (by decide) ?_
  refine pz_iconst (v := 1) dL_instruction_15 rfl ?_
  exact pz_iret rfl rfl dL_instruction_16 (Nat.le_of_ble_eq_true rfl) (Nat.le_of_ble_eq_true rfl) rfl
theorem wt2_instruction (p0 : Int32) (p1 : Int32) (h : SpecT l G mX10_instruction [.ref (adr 0), .int p0, .int p1] (wp G adr LX [] Rt σ) "java/lang/IllegalArgumentException" (wp G adr LX [] Rt σ)) : SpecW l G mL_instruction hhL_instruction [.ref (adr 0), .int p0, .int p1, .ref ow] (wp G adr LX [] Rt σ) (fun o => o = .inl (some (.int 2), wp G adr LX [] Rt σ)) := by
  refine specW_of (by decide) (Nat.le_of_ble_eq_true rfl) (fun sz => ?_)
  refine pz_aload_n dL_instruction_0 rfl ?_
  refine pz_iconst (v := 0) dL_instruction_1 rfl ?_
  refine pz_aload_n dL_instruction_2 rfl ?_
  refine pz_iload_n dL_instruction_3 rfl ?_
  refine pz_iload_n dL_instruction_4 rfl ?_
  refine pz_callV (mi' := mX10_instruction) (As := [.int p0, .int p1]) (r := (RX10, TX10, 14)) (st := [.int 0, .ref ow]) dL_instruction_5 lk_RL_33 mk_X10_instruction mi_X10_instruction me_X10_instruction ⟨by decide, by decide⟩ rfl rfl (Nat.le_of_ble_eq_true rfl) (([] : va_W).length + 0) (wp_at (x := .inl 10) rfl) rfl h ⟨Nat.le_of_ble_eq_true rfl, Nat.le_of_ble_eq_true rfl⟩ (fun v ws1 hv => by cases hv) (fun E ws1 hv => ?_)
  cases hv
  refine pz_catch [⟨0, 10, 13, 21⟩] ⟨0, 10, 17, 13⟩ [] rfl (fun z hz => by rw [List.mem_singleton.mp hz]; exact Or.inr ⟨by decide, "java/lang/IndexOutOfBoundsException", cle_21, by decide, by decide, by decide⟩) (by decide) (by decide) cle_13 cse_IAE (fun q => ?_)
  refine pz_astore dL_instruction_17 (by decide) ?_
  refine pz_iconst (v := 2) dL_instruction_19 rfl ?_
  exact pz_iret rfl rfl dL_instruction_20 (Nat.le_of_ble_eq_true rfl) (Nat.le_of_ble_eq_true rfl) rfl
abbrev hhL_operand : List (Nat × Nat × Nat × Nat) := [(0, 10, 13, 21)]
theorem mw_operand : MKW mL_operand hhL_operand 4 := ⟨tw_in 933 (by decide +kernel) (by decide +kernel), tw_in 100 (by decide +kernel) (by decide +kernel), by decide, by decide, by decide +kernel, tw_in 932 (by decide +kernel) (by decide +kernel)⟩
theorem wo_operand (hout : Rt[p]? = some (ow, .inl (G.2.2.1, 1, .inr (.inl f)))) (p0 : Int32) (p1 : Int32) {r : Int32} {Qs : St → Prop} (h : SpR1 l G mX10_operand [.ref (adr 0), .int p0, .int p1] adr LX [] Rt σ (fun v τ => v = .int r ∧ Qs τ)) : SpecW l G mL_operand hhL_operand [.ref (adr 0), .int p0, .int p1, .ref ow] (wp G adr LX [] Rt σ) (fun o => ∃ τ, o = .inl (some (.int 0), wp G adr LX [] (Rt.set p (ow, .inl (G.2.2.1, 1, .inr (.inl (vp_updL f 0 r.toInt64))))) τ) ∧ Qs τ) := by
  refine specW_of (by decide) (Nat.le_of_ble_eq_true rfl) (fun sz => ?_)
  refine pz_aload_n dL_operand_0 rfl ?_
  refine pz_iconst (v := 0) dL_operand_1 rfl ?_
  refine pz_aload_n dL_operand_2 rfl ?_
  refine pz_iload_n dL_operand_3 rfl ?_
  refine pz_iload_n dL_operand_4 rfl ?_
  refine pz_callV (mi' := mX10_operand) (As := [.int p0, .int p1]) (r := (RX10, TX10, 14)) (st := [.int 0, .ref ow]) dL_operand_5 lk_RL_36 mk_X10_operand mi_X10_operand me_X10_operand ⟨by decide, by decide⟩ rfl rfl (Nat.le_of_ble_eq_true rfl) (([] : va_W).length + 0) (wp_at (x := .inl 10) rfl) rfl h ⟨Nat.le_of_ble_eq_true rfl, Nat.le_of_ble_eq_true rfl⟩ (fun v ws1 hv => ?_) (fun E ws1 hv => by obtain ⟨v, τ, hv, -⟩ := hv; cases hv)
  obtain ⟨v1, τ, hv, hr, hQ⟩ := hv
  cases hv
  subst hr
  refine pz_i2l dL_operand_8 ?_
  refine pz_last dL_operand_9 (([] : va_W).length + (LX.1.length + p)) (wp_rt hout) (vp_in_nI (n := 0) (by decide) (by decide)) ?_
  refine pz_ws wp_rs ?_
  refine pz_goto (tgt := 17) dL_operand_10 (by decide) ?_
  refine pz_iconst (v := 0) dL_operand_17 rfl ?_
  exact pz_iret rfl rfl dL_operand_18 (Nat.le_of_ble_eq_true rfl) (Nat.le_of_ble_eq_true rfl) ⟨τ, rfl, hQ⟩
theorem wt1_operand (p0 : Int32) (p1 : Int32) (h : SpecT l G mX10_operand [.ref (adr 0), .int p0, .int p1] (wp G adr LX [] Rt σ) "java/lang/IndexOutOfBoundsException" (wp G adr LX [] Rt σ)) : SpecW l G mL_operand hhL_operand [.ref (adr 0), .int p0, .int p1, .ref ow] (wp G adr LX [] Rt σ) (fun o => o = .inl (some (.int 1), wp G adr LX [] Rt σ)) := by
  refine specW_of (by decide) (Nat.le_of_ble_eq_true rfl) (fun sz => ?_)
  refine pz_aload_n dL_operand_0 rfl ?_
  refine pz_iconst (v := 0) dL_operand_1 rfl ?_
  refine pz_aload_n dL_operand_2 rfl ?_
  refine pz_iload_n dL_operand_3 rfl ?_
  refine pz_iload_n dL_operand_4 rfl ?_
  refine pz_callV (mi' := mX10_operand) (As := [.int p0, .int p1]) (r := (RX10, TX10, 14)) (st := [.int 0, .ref ow]) dL_operand_5 lk_RL_36 mk_X10_operand mi_X10_operand me_X10_operand ⟨by decide, by decide⟩ rfl rfl (Nat.le_of_ble_eq_true rfl) (([] : va_W).length + 0) (wp_at (x := .inl 10) rfl) rfl h ⟨Nat.le_of_ble_eq_true rfl, Nat.le_of_ble_eq_true rfl⟩ (fun v ws1 hv => by cases hv) (fun E ws1 hv => ?_)
  cases hv
  refine pz_catch [] ⟨0, 10, 13, 21⟩ [] rfl (fun z hz => absurd hz List.not_mem_nil) (by decide) (by decide) cle_21 cse_IOB (fun q => ?_)
  refine pz_astore dL_operand_13 (by decide) ?_
  refine pz_iconst (v := 1) dL_operand_15 rfl ?_
  exact pz_iret rfl rfl dL_operand_16 (Nat.le_of_ble_eq_true rfl) (Nat.le_of_ble_eq_true rfl) rfl
abbrev hhL_state : List (Nat × Nat × Nat × Nat) := [(0, 9, 12, 21)]
theorem mw_state : MKW mL_state hhL_state 3 := ⟨tw_in 940 (by decide +kernel) (by decide +kernel), tw_in 100 (by decide +kernel) (by decide +kernel), by decide, by decide, by decide +kernel, tw_in 939 (by decide +kernel) (by decide +kernel)⟩
theorem wo_state (hout : Rt[p]? = some (ow, .inl (G.2.2.1, 1, .inr (.inl f)))) (p0 : Int32) {r : Int32} {Qs : St → Prop} (h : SpR1 l G mX10_state [.ref (adr 0), .int p0] adr LX [] Rt σ (fun v τ => v = .int r ∧ Qs τ)) : SpecW l G mL_state hhL_state [.ref (adr 0), .int p0, .ref ow] (wp G adr LX [] Rt σ) (fun o => ∃ τ, o = .inl (some (.int 0), wp G adr LX [] (Rt.set p (ow, .inl (G.2.2.1, 1, .inr (.inl (vp_updL f 0 r.toInt64))))) τ) ∧ Qs τ) := by
  refine specW_of (by decide) (Nat.le_of_ble_eq_true rfl) (fun sz => ?_)
  refine pz_aload_n dL_state_0 rfl ?_
  refine pz_iconst (v := 0) dL_state_1 rfl ?_
  refine pz_aload_n dL_state_2 rfl ?_
  refine pz_iload_n dL_state_3 rfl ?_
  refine pz_callV (mi' := mX10_state) (As := [.int p0]) (r := (RX10, TX10, 14)) (st := [.int 0, .ref ow]) dL_state_4 lk_RL_40 mk_X10_state mi_X10_state me_X10_state ⟨by decide, by decide⟩ rfl rfl (Nat.le_of_ble_eq_true rfl) (([] : va_W).length + 0) (wp_at (x := .inl 10) rfl) rfl h ⟨Nat.le_of_ble_eq_true rfl, Nat.le_of_ble_eq_true rfl⟩ (fun v ws1 hv => ?_) (fun E ws1 hv => by obtain ⟨v, τ, hv, -⟩ := hv; cases hv)
  obtain ⟨v1, τ, hv, hr, hQ⟩ := hv
  cases hv
  subst hr
  refine pz_i2l dL_state_7 ?_
  refine pz_last dL_state_8 (([] : va_W).length + (LX.1.length + p)) (wp_rt hout) (vp_in_nI (n := 0) (by decide) (by decide)) ?_
  refine pz_ws wp_rs ?_
  refine pz_goto (tgt := 15) dL_state_9 (by decide) ?_
  refine pz_iconst (v := 0) dL_state_15 rfl ?_
  exact pz_iret rfl rfl dL_state_16 (Nat.le_of_ble_eq_true rfl) (Nat.le_of_ble_eq_true rfl) ⟨τ, rfl, hQ⟩
theorem wt1_state (p0 : Int32) (h : SpecT l G mX10_state [.ref (adr 0), .int p0] (wp G adr LX [] Rt σ) "java/lang/IndexOutOfBoundsException" (wp G adr LX [] Rt σ)) : SpecW l G mL_state hhL_state [.ref (adr 0), .int p0, .ref ow] (wp G adr LX [] Rt σ) (fun o => o = .inl (some (.int 1), wp G adr LX [] Rt σ)) := by
  refine specW_of (by decide) (Nat.le_of_ble_eq_true rfl) (fun sz => ?_)
  refine pz_aload_n dL_state_0 rfl ?_
  refine pz_iconst (v := 0) dL_state_1 rfl ?_
  refine pz_aload_n dL_state_2 rfl ?_
  refine pz_iload_n dL_state_3 rfl ?_
  refine pz_callV (mi' := mX10_state) (As := [.int p0]) (r := (RX10, TX10, 14)) (st := [.int 0, .ref ow]) dL_state_4 lk_RL_40 mk_X10_state mi_X10_state me_X10_state ⟨by decide, by decide⟩ rfl rfl (Nat.le_of_ble_eq_true rfl) (([] : va_W).length + 0) (wp_at (x := .inl 10) rfl) rfl h ⟨Nat.le_of_ble_eq_true rfl, Nat.le_of_ble_eq_true rfl⟩ (fun v ws1 hv => by cases hv) (fun E ws1 hv => ?_)
  cases hv
  refine pz_catch [] ⟨0, 9, 12, 21⟩ [] rfl (fun z hz => absurd hz List.not_mem_nil) (by decide) (by decide) cle_21 cse_IOB (fun q => ?_)
  refine pz_astore_n dL_state_12 (by decide) ?_
  refine pz_iconst (v := 1) dL_state_13 rfl ?_
  exact pz_iret rfl rfl dL_state_14 (Nat.le_of_ble_eq_true rfl) (Nat.le_of_ble_eq_true rfl) rfl
abbrev hhL_states : List (Nat × Nat × Nat × Nat) := [(0, 9, 12, 13)]
theorem mw_states : MKW mL_states hhL_states 3 := ⟨tw_in 947 (by decide +kernel) (by decide +kernel), tw_in 100 (by decide +kernel) (by decide +kernel), by decide, by decide, by decide +kernel, tw_in 946 (by decide +kernel) (by decide +kernel)⟩
theorem wo_states (hout : Rt[p]? = some (ow, .inl (G.2.2.1, 1, .inr (.inl f)))) (p0 : Int32) {r : Int32} {Qs : St → Prop} (h : SpR1 l G mX10_states [.ref (adr 0), .int p0] adr LX [] Rt σ (fun v τ => v = .int r ∧ Qs τ)) : SpecW l G mL_states hhL_states [.ref (adr 0), .int p0, .ref ow] (wp G adr LX [] Rt σ) (fun o => ∃ τ, o = .inl (some (.int 0), wp G adr LX [] (Rt.set p (ow, .inl (G.2.2.1, 1, .inr (.inl (vp_updL f 0 r.toInt64))))) τ) ∧ Qs τ) := by
  refine specW_of (by decide) (Nat.le_of_ble_eq_true rfl) (fun sz => ?_)
  refine pz_aload_n dL_states_0 rfl ?_
  refine pz_iconst (v := 0) dL_states_1 rfl ?_
  refine pz_aload_n dL_states_2 rfl ?_
  refine pz_iload_n dL_states_3 rfl ?_
  refine pz_callV (mi' := mX10_states) (As := [.int p0]) (r := (RX10, TX10, 14)) (st := [.int 0, .ref ow]) dL_states_4 lk_RL_43 mk_X10_states mi_X10_states me_X10_states ⟨by decide, by decide⟩ rfl rfl (Nat.le_of_ble_eq_true rfl) (([] : va_W).length + 0) (wp_at (x := .inl 10) rfl) rfl h ⟨Nat.le_of_ble_eq_true rfl, Nat.le_of_ble_eq_true rfl⟩ (fun v ws1 hv => ?_) (fun E ws1 hv => by obtain ⟨v, τ, hv, -⟩ := hv; cases hv)
  obtain ⟨v1, τ, hv, hr, hQ⟩ := hv
  cases hv
  subst hr
  refine pz_i2l dL_states_7 ?_
  refine pz_last dL_states_8 (([] : va_W).length + (LX.1.length + p)) (wp_rt hout) (vp_in_nI (n := 0) (by decide) (by decide)) ?_
  refine pz_ws wp_rs ?_
  refine pz_goto (tgt := 15) dL_states_9 (by decide) ?_
  refine pz_iconst (v := 0) dL_states_15 rfl ?_
  exact pz_iret rfl rfl dL_states_16 (Nat.le_of_ble_eq_true rfl) (Nat.le_of_ble_eq_true rfl) ⟨τ, rfl, hQ⟩
theorem wt1_states (p0 : Int32) (h : SpecT l G mX10_states [.ref (adr 0), .int p0] (wp G adr LX [] Rt σ) "java/lang/IllegalArgumentException" (wp G adr LX [] Rt σ)) : SpecW l G mL_states hhL_states [.ref (adr 0), .int p0, .ref ow] (wp G adr LX [] Rt σ) (fun o => o = .inl (some (.int 1), wp G adr LX [] Rt σ)) := by
  refine specW_of (by decide) (Nat.le_of_ble_eq_true rfl) (fun sz => ?_)
  refine pz_aload_n dL_states_0 rfl ?_
  refine pz_iconst (v := 0) dL_states_1 rfl ?_
  refine pz_aload_n dL_states_2 rfl ?_
  refine pz_iload_n dL_states_3 rfl ?_
  refine pz_callV (mi' := mX10_states) (As := [.int p0]) (r := (RX10, TX10, 14)) (st := [.int 0, .ref ow]) dL_states_4 lk_RL_43 mk_X10_states mi_X10_states me_X10_states ⟨by decide, by decide⟩ rfl rfl (Nat.le_of_ble_eq_true rfl) (([] : va_W).length + 0) (wp_at (x := .inl 10) rfl) rfl h ⟨Nat.le_of_ble_eq_true rfl, Nat.le_of_ble_eq_true rfl⟩ (fun v ws1 hv => by cases hv) (fun E ws1 hv => ?_)
  cases hv
  refine pz_catch [] ⟨0, 9, 12, 13⟩ [] rfl (fun z hz => absurd hz List.not_mem_nil) (by decide) (by decide) cle_13 cse_IAE (fun q => ?_)
  refine pz_astore_n dL_states_12 (by decide) ?_
  refine pz_iconst (v := 1) dL_states_13 rfl ?_
  exact pz_iret rfl rfl dL_states_14 (Nat.le_of_ble_eq_true rfl) (Nat.le_of_ble_eq_true rfl) rfl
abbrev hhL_coveredBy : List (Nat × Nat × Nat × Nat) := [(0, 9, 12, 21)]
theorem mw_coveredBy : MKW mL_coveredBy hhL_coveredBy 3 := ⟨tw_in 955 (by decide +kernel) (by decide +kernel), tw_in 100 (by decide +kernel) (by decide +kernel), by decide, by decide, by decide +kernel, tw_in 954 (by decide +kernel) (by decide +kernel)⟩
theorem wo_coveredBy (hout : Rt[p]? = some (ow, .inl (G.2.2.1, 1, .inr (.inl f)))) (p0 : Int32) {r : Int32} {Qs : St → Prop} (h : SpR1 l G mX10_coveredBy [.ref (adr 0), .int p0] adr LX [] Rt σ (fun v τ => v = .int r ∧ Qs τ)) : SpecW l G mL_coveredBy hhL_coveredBy [.ref (adr 0), .int p0, .ref ow] (wp G adr LX [] Rt σ) (fun o => ∃ τ, o = .inl (some (.int 0), wp G adr LX [] (Rt.set p (ow, .inl (G.2.2.1, 1, .inr (.inl (vp_updL f 0 r.toInt64))))) τ) ∧ Qs τ) := by
  refine specW_of (by decide) (Nat.le_of_ble_eq_true rfl) (fun sz => ?_)
  refine pz_aload_n dL_coveredBy_0 rfl ?_
  refine pz_iconst (v := 0) dL_coveredBy_1 rfl ?_
  refine pz_aload_n dL_coveredBy_2 rfl ?_
  refine pz_iload_n dL_coveredBy_3 rfl ?_
  refine pz_callV (mi' := mX10_coveredBy) (As := [.int p0]) (r := (RX10, TX10, 14)) (st := [.int 0, .ref ow]) dL_coveredBy_4 lk_RL_46 mk_X10_coveredBy mi_X10_coveredBy me_X10_coveredBy ⟨by decide, by decide⟩ rfl rfl (Nat.le_of_ble_eq_true rfl) (([] : va_W).length + 0) (wp_at (x := .inl 10) rfl) rfl h ⟨Nat.le_of_ble_eq_true rfl, Nat.le_of_ble_eq_true rfl⟩ (fun v ws1 hv => ?_) (fun E ws1 hv => by obtain ⟨v, τ, hv, -⟩ := hv; cases hv)
  obtain ⟨v1, τ, hv, hr, hQ⟩ := hv
  cases hv
  subst hr
  refine pz_i2l dL_coveredBy_7 ?_
  refine pz_last dL_coveredBy_8 (([] : va_W).length + (LX.1.length + p)) (wp_rt hout) (vp_in_nI (n := 0) (by decide) (by decide)) ?_
  refine pz_ws wp_rs ?_
  refine pz_goto (tgt := 15) dL_coveredBy_9 (by decide) ?_
  refine pz_iconst (v := 0) dL_coveredBy_15 rfl ?_
  exact pz_iret rfl rfl dL_coveredBy_16 (Nat.le_of_ble_eq_true rfl) (Nat.le_of_ble_eq_true rfl) ⟨τ, rfl, hQ⟩
theorem wt1_coveredBy (p0 : Int32) (h : SpecT l G mX10_coveredBy [.ref (adr 0), .int p0] (wp G adr LX [] Rt σ) "java/lang/IndexOutOfBoundsException" (wp G adr LX [] Rt σ)) : SpecW l G mL_coveredBy hhL_coveredBy [.ref (adr 0), .int p0, .ref ow] (wp G adr LX [] Rt σ) (fun o => o = .inl (some (.int 1), wp G adr LX [] Rt σ)) := by
  refine specW_of (by decide) (Nat.le_of_ble_eq_true rfl) (fun sz => ?_)
  refine pz_aload_n dL_coveredBy_0 rfl ?_
  refine pz_iconst (v := 0) dL_coveredBy_1 rfl ?_
  refine pz_aload_n dL_coveredBy_2 rfl ?_
  refine pz_iload_n dL_coveredBy_3 rfl ?_
  refine pz_callV (mi' := mX10_coveredBy) (As := [.int p0]) (r := (RX10, TX10, 14)) (st := [.int 0, .ref ow]) dL_coveredBy_4 lk_RL_46 mk_X10_coveredBy mi_X10_coveredBy me_X10_coveredBy ⟨by decide, by decide⟩ rfl rfl (Nat.le_of_ble_eq_true rfl) (([] : va_W).length + 0) (wp_at (x := .inl 10) rfl) rfl h ⟨Nat.le_of_ble_eq_true rfl, Nat.le_of_ble_eq_true rfl⟩ (fun v ws1 hv => by cases hv) (fun E ws1 hv => ?_)
  cases hv
  refine pz_catch [] ⟨0, 9, 12, 21⟩ [] rfl (fun z hz => absurd hz List.not_mem_nil) (by decide) (by decide) cle_21 cse_IOB (fun q => ?_)
  refine pz_astore_n dL_coveredBy_12 (by decide) ?_
  refine pz_iconst (v := 1) dL_coveredBy_13 rfl ?_
  exact pz_iret rfl rfl dL_coveredBy_14 (Nat.le_of_ble_eq_true rfl) (Nat.le_of_ble_eq_true rfl) rfl
abbrev hhL_range : List (Nat × Nat × Nat × Nat) := [(0, 9, 12, 21), (0, 9, 16, 15)]
theorem mw_range : MKW mL_range hhL_range 4 := ⟨tw_in 962 (by decide +kernel) (by decide +kernel), tw_in 100 (by decide +kernel) (by decide +kernel), by decide, by decide, by decide +kernel, tw_in 961 (by decide +kernel) (by decide +kernel)⟩
theorem wo_range (hout : Rt[p]? = some (ow, .inl (G.2.2.1, 1, .inr (.inl f)))) (p0 : Int32) (p1 : Int32) {r : Int64} {Qs : St → Prop} (h : SpR1 l G mX10_range [.ref (adr 0), .int p0, .int p1] adr LX [] Rt σ (fun v τ => v = .long r ∧ Qs τ)) : SpecW l G mL_range hhL_range [.ref (adr 0), .int p0, .int p1, .ref ow] (wp G adr LX [] Rt σ) (fun o => ∃ τ, o = .inl (some (.int 0), wp G adr LX [] (Rt.set p (ow, .inl (G.2.2.1, 1, .inr (.inl (vp_updL f 0 r))))) τ) ∧ Qs τ) := by
  refine specW_of (by decide) (Nat.le_of_ble_eq_true rfl) (fun sz => ?_)
  refine pz_aload_n dL_range_0 rfl ?_
  refine pz_iconst (v := 0) dL_range_1 rfl ?_
  refine pz_aload_n dL_range_2 rfl ?_
  refine pz_iload_n dL_range_3 rfl ?_
  refine pz_iload_n dL_range_4 rfl ?_
  refine pz_callV (mi' := mX10_range) (As := [.int p0, .int p1]) (r := (RX10, TX10, 14)) (st := [.int 0, .ref ow]) dL_range_5 lk_RL_49 mk_X10_range mi_X10_range me_X10_range ⟨by decide, by decide⟩ rfl rfl (Nat.le_of_ble_eq_true rfl) (([] : va_W).length + 0) (wp_at (x := .inl 10) rfl) rfl h ⟨Nat.le_of_ble_eq_true rfl, Nat.le_of_ble_eq_true rfl⟩ (fun v ws1 hv => ?_) (fun E ws1 hv => by obtain ⟨v, τ, hv, -⟩ := hv; cases hv)
  obtain ⟨v1, τ, hv, hr, hQ⟩ := hv
  cases hv
  subst hr
  refine pz_last dL_range_8 (([] : va_W).length + (LX.1.length + p)) (wp_rt hout) (vp_in_nI (n := 0) (by decide) (by decide)) ?_
  refine pz_ws wp_rs ?_
  refine pz_goto (tgt := 20) dL_range_9 (by decide) ?_
  refine pz_iconst (v := 0) dL_range_20 rfl ?_
  exact pz_iret rfl rfl dL_range_21 (Nat.le_of_ble_eq_true rfl) (Nat.le_of_ble_eq_true rfl) ⟨τ, rfl, hQ⟩
theorem wt1_range (p0 : Int32) (p1 : Int32) (h : SpecT l G mX10_range [.ref (adr 0), .int p0, .int p1] (wp G adr LX [] Rt σ) "java/lang/IndexOutOfBoundsException" (wp G adr LX [] Rt σ)) : SpecW l G mL_range hhL_range [.ref (adr 0), .int p0, .int p1, .ref ow] (wp G adr LX [] Rt σ) (fun o => o = .inl (some (.int 1), wp G adr LX [] Rt σ)) := by
  refine specW_of (by decide) (Nat.le_of_ble_eq_true rfl) (fun sz => ?_)
  refine pz_aload_n dL_range_0 rfl ?_
  refine pz_iconst (v := 0) dL_range_1 rfl ?_
  refine pz_aload_n dL_range_2 rfl ?_
  refine pz_iload_n dL_range_3 rfl ?_
  refine pz_iload_n dL_range_4 rfl ?_
  refine pz_callV (mi' := mX10_range) (As := [.int p0, .int p1]) (r := (RX10, TX10, 14)) (st := [.int 0, .ref ow]) dL_range_5 lk_RL_49 mk_X10_range mi_X10_range me_X10_range ⟨by decide, by decide⟩ rfl rfl (Nat.le_of_ble_eq_true rfl) (([] : va_W).length + 0) (wp_at (x := .inl 10) rfl) rfl h ⟨Nat.le_of_ble_eq_true rfl, Nat.le_of_ble_eq_true rfl⟩ (fun v ws1 hv => by cases hv) (fun E ws1 hv => ?_)
  cases hv
  refine pz_catch [] ⟨0, 9, 12, 21⟩ [⟨0, 9, 16, 15⟩] rfl (fun z hz => absurd hz List.not_mem_nil) (by decide) (by decide) cle_21 cse_IOB (fun q => ?_)
  refine pz_astore dL_range_12 (by decide) ?_
  refine pz_iconst (v := 1) dL_range_14 rfl ?_
  exact pz_iret rfl rfl dL_range_15 (Nat.le_of_ble_eq_true rfl) (Nat.le_of_ble_eq_true rfl) rfl
theorem wt2_range (p0 : Int32) (p1 : Int32) (h : SpecT l G mX10_range [.ref (adr 0), .int p0, .int p1] (wp G adr LX [] Rt σ) "java/lang/IllegalStateException" (wp G adr LX [] Rt σ)) : SpecW l G mL_range hhL_range [.ref (adr 0), .int p0, .int p1, .ref ow] (wp G adr LX [] Rt σ) (fun o => o = .inl (some (.int 2), wp G adr LX [] Rt σ)) := by
  refine specW_of (by decide) (Nat.le_of_ble_eq_true rfl) (fun sz => ?_)
  refine pz_aload_n dL_range_0 rfl ?_
  refine pz_iconst (v := 0) dL_range_1 rfl ?_
  refine pz_aload_n dL_range_2 rfl ?_
  refine pz_iload_n dL_range_3 rfl ?_
  refine pz_iload_n dL_range_4 rfl ?_
  refine pz_callV (mi' := mX10_range) (As := [.int p0, .int p1]) (r := (RX10, TX10, 14)) (st := [.int 0, .ref ow]) dL_range_5 lk_RL_49 mk_X10_range mi_X10_range me_X10_range ⟨by decide, by decide⟩ rfl rfl (Nat.le_of_ble_eq_true rfl) (([] : va_W).length + 0) (wp_at (x := .inl 10) rfl) rfl h ⟨Nat.le_of_ble_eq_true rfl, Nat.le_of_ble_eq_true rfl⟩ (fun v ws1 hv => by cases hv) (fun E ws1 hv => ?_)
  cases hv
  refine pz_catch [⟨0, 9, 12, 21⟩] ⟨0, 9, 16, 15⟩ [] rfl (fun z hz => by rw [List.mem_singleton.mp hz]; exact Or.inr ⟨by decide, "java/lang/IndexOutOfBoundsException", cle_21, by decide, by decide, by decide⟩) (by decide) (by decide) cle_15 cse_ISE (fun q => ?_)
  refine pz_astore dL_range_16 (by decide) ?_
  refine pz_iconst (v := 2) dL_range_18 rfl ?_
  exact pz_iret rfl rfl dL_range_19 (Nat.le_of_ble_eq_true rfl) (Nat.le_of_ble_eq_true rfl) rfl
abbrev hhL_finalRange : List (Nat × Nat × Nat × Nat) := [(0, 10, 13, 21)]
theorem mw_finalRange : MKW mL_finalRange hhL_finalRange 4 := ⟨tw_in 969 (by decide +kernel) (by decide +kernel), tw_in 100 (by decide +kernel) (by decide +kernel), by decide, by decide, by decide +kernel, tw_in 968 (by decide +kernel) (by decide +kernel)⟩
theorem wo_finalRange (hout : Rt[p]? = some (ow, .inl (G.2.2.1, 1, .inr (.inl f)))) (p0 : Int32) (p1 : Int32) {r : Int32} {Qs : St → Prop} (h : SpR1 l G mX10_finalRange [.ref (adr 0), .int p0, .int p1] adr LX [] Rt σ (fun v τ => v = .int r ∧ Qs τ)) : SpecW l G mL_finalRange hhL_finalRange [.ref (adr 0), .int p0, .int p1, .ref ow] (wp G adr LX [] Rt σ) (fun o => ∃ τ, o = .inl (some (.int 0), wp G adr LX [] (Rt.set p (ow, .inl (G.2.2.1, 1, .inr (.inl (vp_updL f 0 r.toInt64))))) τ) ∧ Qs τ) := by
  refine specW_of (by decide) (Nat.le_of_ble_eq_true rfl) (fun sz => ?_)
  refine pz_aload_n dL_finalRange_0 rfl ?_
  refine pz_iconst (v := 0) dL_finalRange_1 rfl ?_
  refine pz_aload_n dL_finalRange_2 rfl ?_
  refine pz_iload_n dL_finalRange_3 rfl ?_
  refine pz_iload_n dL_finalRange_4 rfl ?_
  refine pz_callV (mi' := mX10_finalRange) (As := [.int p0, .int p1]) (r := (RX10, TX10, 14)) (st := [.int 0, .ref ow]) dL_finalRange_5 lk_RL_53 mk_X10_finalRange mi_X10_finalRange me_X10_finalRange ⟨by decide, by decide⟩ rfl rfl (Nat.le_of_ble_eq_true rfl) (([] : va_W).length + 0) (wp_at (x := .inl 10) rfl) rfl h ⟨Nat.le_of_ble_eq_true rfl, Nat.le_of_ble_eq_true rfl⟩ (fun v ws1 hv => ?_) (fun E ws1 hv => by obtain ⟨v, τ, hv, -⟩ := hv; cases hv)
  obtain ⟨v1, τ, hv, hr, hQ⟩ := hv
  cases hv
  subst hr
  refine pz_i2l dL_finalRange_8 ?_
  refine pz_last dL_finalRange_9 (([] : va_W).length + (LX.1.length + p)) (wp_rt hout) (vp_in_nI (n := 0) (by decide) (by decide)) ?_
  refine pz_ws wp_rs ?_
  refine pz_goto (tgt := 17) dL_finalRange_10 (by decide) ?_
  refine pz_iconst (v := 0) dL_finalRange_17 rfl ?_
  exact pz_iret rfl rfl dL_finalRange_18 (Nat.le_of_ble_eq_true rfl) (Nat.le_of_ble_eq_true rfl) ⟨τ, rfl, hQ⟩
theorem wt1_finalRange (p0 : Int32) (p1 : Int32) (h : SpecT l G mX10_finalRange [.ref (adr 0), .int p0, .int p1] (wp G adr LX [] Rt σ) "java/lang/IndexOutOfBoundsException" (wp G adr LX [] Rt σ)) : SpecW l G mL_finalRange hhL_finalRange [.ref (adr 0), .int p0, .int p1, .ref ow] (wp G adr LX [] Rt σ) (fun o => o = .inl (some (.int 1), wp G adr LX [] Rt σ)) := by
  refine specW_of (by decide) (Nat.le_of_ble_eq_true rfl) (fun sz => ?_)
  refine pz_aload_n dL_finalRange_0 rfl ?_
  refine pz_iconst (v := 0) dL_finalRange_1 rfl ?_
  refine pz_aload_n dL_finalRange_2 rfl ?_
  refine pz_iload_n dL_finalRange_3 rfl ?_
  refine pz_iload_n dL_finalRange_4 rfl ?_
  refine pz_callV (mi' := mX10_finalRange) (As := [.int p0, .int p1]) (r := (RX10, TX10, 14)) (st := [.int 0, .ref ow]) dL_finalRange_5 lk_RL_53 mk_X10_finalRange mi_X10_finalRange me_X10_finalRange ⟨by decide, by decide⟩ rfl rfl (Nat.le_of_ble_eq_true rfl) (([] : va_W).length + 0) (wp_at (x := .inl 10) rfl) rfl h ⟨Nat.le_of_ble_eq_true rfl, Nat.le_of_ble_eq_true rfl⟩ (fun v ws1 hv => by cases hv) (fun E ws1 hv => ?_)
  cases hv
  refine pz_catch [] ⟨0, 10, 13, 21⟩ [] rfl (fun z hz => absurd hz List.not_mem_nil) (by decide) (by decide) cle_21 cse_IOB (fun q => ?_)
  refine pz_astore dL_finalRange_13 (by decide) ?_
  refine pz_iconst (v := 1) dL_finalRange_15 rfl ?_
  exact pz_iret rfl rfl dL_finalRange_16 (Nat.le_of_ble_eq_true rfl) (Nat.le_of_ble_eq_true rfl) rfl
abbrev hhL_result : List (Nat × Nat × Nat × Nat) := [(0, 10, 13, 21)]
theorem mw_result : MKW mL_result hhL_result 4 := ⟨tw_in 976 (by decide +kernel) (by decide +kernel), tw_in 100 (by decide +kernel) (by decide +kernel), by decide, by decide, by decide +kernel, tw_in 975 (by decide +kernel) (by decide +kernel)⟩
theorem wo_result (hout : Rt[p]? = some (ow, .inl (G.2.2.1, 1, .inr (.inl f)))) (p0 : Int32) (p1 : Int32) {r : Int32} {Qs : St → Prop} (h : SpR1 l G mX10_result [.ref (adr 0), .int p0, .int p1] adr LX [] Rt σ (fun v τ => v = .int r ∧ Qs τ)) : SpecW l G mL_result hhL_result [.ref (adr 0), .int p0, .int p1, .ref ow] (wp G adr LX [] Rt σ) (fun o => ∃ τ, o = .inl (some (.int 0), wp G adr LX [] (Rt.set p (ow, .inl (G.2.2.1, 1, .inr (.inl (vp_updL f 0 r.toInt64))))) τ) ∧ Qs τ) := by
  refine specW_of (by decide) (Nat.le_of_ble_eq_true rfl) (fun sz => ?_)
  refine pz_aload_n dL_result_0 rfl ?_
  refine pz_iconst (v := 0) dL_result_1 rfl ?_
  refine pz_aload_n dL_result_2 rfl ?_
  refine pz_iload_n dL_result_3 rfl ?_
  refine pz_iload_n dL_result_4 rfl ?_
  refine pz_callV (mi' := mX10_result) (As := [.int p0, .int p1]) (r := (RX10, TX10, 14)) (st := [.int 0, .ref ow]) dL_result_5 lk_RL_56 mk_X10_result mi_X10_result me_X10_result ⟨by decide, by decide⟩ rfl rfl (Nat.le_of_ble_eq_true rfl) (([] : va_W).length + 0) (wp_at (x := .inl 10) rfl) rfl h ⟨Nat.le_of_ble_eq_true rfl, Nat.le_of_ble_eq_true rfl⟩ (fun v ws1 hv => ?_) (fun E ws1 hv => by obtain ⟨v, τ, hv, -⟩ := hv; cases hv)
  obtain ⟨v1, τ, hv, hr, hQ⟩ := hv
  cases hv
  subst hr
  refine pz_i2l dL_result_8 ?_
  refine pz_last dL_result_9 (([] : va_W).length + (LX.1.length + p)) (wp_rt hout) (vp_in_nI (n := 0) (by decide) (by decide)) ?_
  refine pz_ws wp_rs ?_
  refine pz_goto (tgt := 17) dL_result_10 (by decide) ?_
  refine pz_iconst (v := 0) dL_result_17 rfl ?_
  exact pz_iret rfl rfl dL_result_18 (Nat.le_of_ble_eq_true rfl) (Nat.le_of_ble_eq_true rfl) ⟨τ, rfl, hQ⟩
theorem wt1_result (p0 : Int32) (p1 : Int32) (h : SpecT l G mX10_result [.ref (adr 0), .int p0, .int p1] (wp G adr LX [] Rt σ) "java/lang/IndexOutOfBoundsException" (wp G adr LX [] Rt σ)) : SpecW l G mL_result hhL_result [.ref (adr 0), .int p0, .int p1, .ref ow] (wp G adr LX [] Rt σ) (fun o => o = .inl (some (.int 1), wp G adr LX [] Rt σ)) := by
  refine specW_of (by decide) (Nat.le_of_ble_eq_true rfl) (fun sz => ?_)
  refine pz_aload_n dL_result_0 rfl ?_
  refine pz_iconst (v := 0) dL_result_1 rfl ?_
  refine pz_aload_n dL_result_2 rfl ?_
  refine pz_iload_n dL_result_3 rfl ?_
  refine pz_iload_n dL_result_4 rfl ?_
  refine pz_callV (mi' := mX10_result) (As := [.int p0, .int p1]) (r := (RX10, TX10, 14)) (st := [.int 0, .ref ow]) dL_result_5 lk_RL_56 mk_X10_result mi_X10_result me_X10_result ⟨by decide, by decide⟩ rfl rfl (Nat.le_of_ble_eq_true rfl) (([] : va_W).length + 0) (wp_at (x := .inl 10) rfl) rfl h ⟨Nat.le_of_ble_eq_true rfl, Nat.le_of_ble_eq_true rfl⟩ (fun v ws1 hv => by cases hv) (fun E ws1 hv => ?_)
  cases hv
  refine pz_catch [] ⟨0, 10, 13, 21⟩ [] rfl (fun z hz => absurd hz List.not_mem_nil) (by decide) (by decide) cle_21 cse_IOB (fun q => ?_)
  refine pz_astore dL_result_13 (by decide) ?_
  refine pz_iconst (v := 1) dL_result_15 rfl ?_
  exact pz_iret rfl rfl dL_result_16 (Nat.le_of_ble_eq_true rfl) (Nat.le_of_ble_eq_true rfl) rfl
abbrev hhL_openWith : List (Nat × Nat × Nat × Nat) := [(0, 12, 15, 21), (0, 12, 19, 13)]
theorem mw_openWith : MKW mL_openWith hhL_openWith 5 := ⟨tw_in 983 (by decide +kernel) (by decide +kernel), tw_in 100 (by decide +kernel) (by decide +kernel), by decide, by decide, by decide +kernel, tw_in 982 (by decide +kernel) (by decide +kernel)⟩
theorem wo_openWith (hout : Rt[p]? = some (ow, .inl (G.2.2.1, 1, .inr (.inl f)))) (p0 : Int32) (p1 : Int32) (p2 : Int32) {r : Int32} {Qs : St → Prop} (h : SpR1 l G mX10_openWith [.ref (adr 0), .int p0, .int p1, .int p2] adr LX [] Rt σ (fun v τ => v = .int r ∧ Qs τ)) : SpecW l G mL_openWith hhL_openWith [.ref (adr 0), .int p0, .int p1, .int p2, .ref ow] (wp G adr LX [] Rt σ) (fun o => ∃ τ, o = .inl (some (.int 0), wp G adr LX [] (Rt.set p (ow, .inl (G.2.2.1, 1, .inr (.inl (vp_updL f 0 r.toInt64))))) τ) ∧ Qs τ) := by
  refine specW_of (by decide) (Nat.le_of_ble_eq_true rfl) (fun sz => ?_)
  refine pz_aload dL_openWith_0 rfl ?_
  refine pz_iconst (v := 0) dL_openWith_2 rfl ?_
  refine pz_aload_n dL_openWith_3 rfl ?_
  refine pz_iload_n dL_openWith_4 rfl ?_
  refine pz_iload_n dL_openWith_5 rfl ?_
  refine pz_iload_n dL_openWith_6 rfl ?_
  refine pz_callV (mi' := mX10_openWith) (As := [.int p0, .int p1, .int p2]) (r := (RX10, TX10, 14)) (st := [.int 0, .ref ow]) dL_openWith_7 lk_RL_59 mk_X10_openWith mi_X10_openWith me_X10_openWith ⟨by decide, by decide⟩ rfl rfl (Nat.le_of_ble_eq_true rfl) (([] : va_W).length + 0) (wp_at (x := .inl 10) rfl) rfl h ⟨Nat.le_of_ble_eq_true rfl, Nat.le_of_ble_eq_true rfl⟩ (fun v ws1 hv => ?_) (fun E ws1 hv => by obtain ⟨v, τ, hv, -⟩ := hv; cases hv)
  obtain ⟨v1, τ, hv, hr, hQ⟩ := hv
  cases hv
  subst hr
  refine pz_i2l dL_openWith_10 ?_
  refine pz_last dL_openWith_11 (([] : va_W).length + (LX.1.length + p)) (wp_rt hout) (vp_in_nI (n := 0) (by decide) (by decide)) ?_
  refine pz_ws wp_rs ?_
  refine pz_goto (tgt := 23) dL_openWith_12 (by decide) ?_
  refine pz_iconst (v := 0) dL_openWith_23 rfl ?_
  exact pz_iret rfl rfl dL_openWith_24 (Nat.le_of_ble_eq_true rfl) (Nat.le_of_ble_eq_true rfl) ⟨τ, rfl, hQ⟩
theorem wt1_openWith (p0 : Int32) (p1 : Int32) (p2 : Int32) (h : SpecT l G mX10_openWith [.ref (adr 0), .int p0, .int p1, .int p2] (wp G adr LX [] Rt σ) "java/lang/IndexOutOfBoundsException" (wp G adr LX [] Rt σ)) : SpecW l G mL_openWith hhL_openWith [.ref (adr 0), .int p0, .int p1, .int p2, .ref ow] (wp G adr LX [] Rt σ) (fun o => o = .inl (some (.int 1), wp G adr LX [] Rt σ)) := by
  refine specW_of (by decide) (Nat.le_of_ble_eq_true rfl) (fun sz => ?_)
  refine pz_aload dL_openWith_0 rfl ?_
  refine pz_iconst (v := 0) dL_openWith_2 rfl ?_
  refine pz_aload_n dL_openWith_3 rfl ?_
  refine pz_iload_n dL_openWith_4 rfl ?_
  refine pz_iload_n dL_openWith_5 rfl ?_
  refine pz_iload_n dL_openWith_6 rfl ?_
  refine pz_callV (mi' := mX10_openWith) (As := [.int p0, .int p1, .int p2]) (r := (RX10, TX10, 14)) (st := [.int 0, .ref ow]) dL_openWith_7 lk_RL_59 mk_X10_openWith mi_X10_openWith me_X10_openWith ⟨by decide, by decide⟩ rfl rfl (Nat.le_of_ble_eq_true rfl) (([] : va_W).length + 0) (wp_at (x := .inl 10) rfl) rfl h ⟨Nat.le_of_ble_eq_true rfl, Nat.le_of_ble_eq_true rfl⟩ (fun v ws1 hv => by cases hv) (fun E ws1 hv => ?_)
  cases hv
  refine pz_catch [] ⟨0, 12, 15, 21⟩ [⟨0, 12, 19, 13⟩] rfl (fun z hz => absurd hz List.not_mem_nil) (by decide) (by decide) cle_21 cse_IOB (fun q => ?_)
  refine pz_astore dL_openWith_15 (by decide) ?_
  refine pz_iconst (v := 1) dL_openWith_17 rfl ?_
  exact pz_iret rfl rfl dL_openWith_18 (Nat.le_of_ble_eq_true rfl) (Nat.le_of_ble_eq_true rfl) rfl
theorem wt2_openWith (p0 : Int32) (p1 : Int32) (p2 : Int32) (h : SpecT l G mX10_openWith [.ref (adr 0), .int p0, .int p1, .int p2] (wp G adr LX [] Rt σ) "java/lang/IllegalArgumentException" (wp G adr LX [] Rt σ)) : SpecW l G mL_openWith hhL_openWith [.ref (adr 0), .int p0, .int p1, .int p2, .ref ow] (wp G adr LX [] Rt σ) (fun o => o = .inl (some (.int 2), wp G adr LX [] Rt σ)) := by
  refine specW_of (by decide) (Nat.le_of_ble_eq_true rfl) (fun sz => ?_)
  refine pz_aload dL_openWith_0 rfl ?_
  refine pz_iconst (v := 0) dL_openWith_2 rfl ?_
  refine pz_aload_n dL_openWith_3 rfl ?_
  refine pz_iload_n dL_openWith_4 rfl ?_
  refine pz_iload_n dL_openWith_5 rfl ?_
  refine pz_iload_n dL_openWith_6 rfl ?_
  refine pz_callV (mi' := mX10_openWith) (As := [.int p0, .int p1, .int p2]) (r := (RX10, TX10, 14)) (st := [.int 0, .ref ow]) dL_openWith_7 lk_RL_59 mk_X10_openWith mi_X10_openWith me_X10_openWith ⟨by decide, by decide⟩ rfl rfl (Nat.le_of_ble_eq_true rfl) (([] : va_W).length + 0) (wp_at (x := .inl 10) rfl) rfl h ⟨Nat.le_of_ble_eq_true rfl, Nat.le_of_ble_eq_true rfl⟩ (fun v ws1 hv => by cases hv) (fun E ws1 hv => ?_)
  cases hv
  refine pz_catch [⟨0, 12, 15, 21⟩] ⟨0, 12, 19, 13⟩ [] rfl (fun z hz => by rw [List.mem_singleton.mp hz]; exact Or.inr ⟨by decide, "java/lang/IndexOutOfBoundsException", cle_21, by decide, by decide, by decide⟩) (by decide) (by decide) cle_13 cse_IAE (fun q => ?_)
  refine pz_astore dL_openWith_19 (by decide) ?_
  refine pz_iconst (v := 2) dL_openWith_21 rfl ?_
  exact pz_iret rfl rfl dL_openWith_22 (Nat.le_of_ble_eq_true rfl) (Nat.le_of_ble_eq_true rfl) rfl
abbrev hhL_safePower : List (Nat × Nat × Nat × Nat) := [(0, 9, 12, 21)]
theorem mw_safePower : MKW mL_safePower hhL_safePower 3 := ⟨tw_in 995 (by decide +kernel) (by decide +kernel), tw_in 100 (by decide +kernel) (by decide +kernel), by decide, by decide, by decide +kernel, tw_in 994 (by decide +kernel) (by decide +kernel)⟩
theorem wo_safePower (hout : Rt[p]? = some (ow, .inl (G.2.2.1, 1, .inr (.inl f)))) (p0 : Int32) {r : Int32} {Qs : St → Prop} (h : SpR1 l G mX10_safePower [.ref (adr 0), .int p0] adr LX [] Rt σ (fun v τ => v = .int r ∧ Qs τ)) : SpecW l G mL_safePower hhL_safePower [.ref (adr 0), .int p0, .ref ow] (wp G adr LX [] Rt σ) (fun o => ∃ τ, o = .inl (some (.int 0), wp G adr LX [] (Rt.set p (ow, .inl (G.2.2.1, 1, .inr (.inl (vp_updL f 0 r.toInt64))))) τ) ∧ Qs τ) := by
  refine specW_of (by decide) (Nat.le_of_ble_eq_true rfl) (fun sz => ?_)
  refine pz_aload_n dL_safePower_0 rfl ?_
  refine pz_iconst (v := 0) dL_safePower_1 rfl ?_
  refine pz_aload_n dL_safePower_2 rfl ?_
  refine pz_iload_n dL_safePower_3 rfl ?_
  refine pz_callV (mi' := mX10_safePower) (As := [.int p0]) (r := (RX10, TX10, 14)) (st := [.int 0, .ref ow]) dL_safePower_4 lk_RL_62 mk_X10_safePower mi_X10_safePower me_X10_safePower ⟨by decide, by decide⟩ rfl rfl (Nat.le_of_ble_eq_true rfl) (([] : va_W).length + 0) (wp_at (x := .inl 10) rfl) rfl h ⟨Nat.le_of_ble_eq_true rfl, Nat.le_of_ble_eq_true rfl⟩ (fun v ws1 hv => ?_) (fun E ws1 hv => by obtain ⟨v, τ, hv, -⟩ := hv; cases hv)
  obtain ⟨v1, τ, hv, hr, hQ⟩ := hv
  cases hv
  subst hr
  refine pz_i2l dL_safePower_7 ?_
  refine pz_last dL_safePower_8 (([] : va_W).length + (LX.1.length + p)) (wp_rt hout) (vp_in_nI (n := 0) (by decide) (by decide)) ?_
  refine pz_ws wp_rs ?_
  refine pz_goto (tgt := 15) dL_safePower_9 (by decide) ?_
  refine pz_iconst (v := 0) dL_safePower_15 rfl ?_
  exact pz_iret rfl rfl dL_safePower_16 (Nat.le_of_ble_eq_true rfl) (Nat.le_of_ble_eq_true rfl) ⟨τ, rfl, hQ⟩
theorem wt1_safePower (p0 : Int32) (h : SpecT l G mX10_safePower [.ref (adr 0), .int p0] (wp G adr LX [] Rt σ) "java/lang/IndexOutOfBoundsException" (wp G adr LX [] Rt σ)) : SpecW l G mL_safePower hhL_safePower [.ref (adr 0), .int p0, .ref ow] (wp G adr LX [] Rt σ) (fun o => o = .inl (some (.int 1), wp G adr LX [] Rt σ)) := by
  refine specW_of (by decide) (Nat.le_of_ble_eq_true rfl) (fun sz => ?_)
  refine pz_aload_n dL_safePower_0 rfl ?_
  refine pz_iconst (v := 0) dL_safePower_1 rfl ?_
  refine pz_aload_n dL_safePower_2 rfl ?_
  refine pz_iload_n dL_safePower_3 rfl ?_
  refine pz_callV (mi' := mX10_safePower) (As := [.int p0]) (r := (RX10, TX10, 14)) (st := [.int 0, .ref ow]) dL_safePower_4 lk_RL_62 mk_X10_safePower mi_X10_safePower me_X10_safePower ⟨by decide, by decide⟩ rfl rfl (Nat.le_of_ble_eq_true rfl) (([] : va_W).length + 0) (wp_at (x := .inl 10) rfl) rfl h ⟨Nat.le_of_ble_eq_true rfl, Nat.le_of_ble_eq_true rfl⟩ (fun v ws1 hv => by cases hv) (fun E ws1 hv => ?_)
  cases hv
  refine pz_catch [] ⟨0, 9, 12, 21⟩ [] rfl (fun z hz => absurd hz List.not_mem_nil) (by decide) (by decide) cle_21 cse_IOB (fun q => ?_)
  refine pz_astore_n dL_safePower_12 (by decide) ?_
  refine pz_iconst (v := 1) dL_safePower_13 rfl ?_
  exact pz_iret rfl rfl dL_safePower_14 (Nat.le_of_ble_eq_true rfl) (Nat.le_of_ble_eq_true rfl) rfl
abbrev hhL_failingInput : List (Nat × Nat × Nat × Nat) := [(0, 9, 12, 21)]
theorem mw_failingInput : MKW mL_failingInput hhL_failingInput 3 := ⟨tw_in 1002 (by decide +kernel) (by decide +kernel), tw_in 100 (by decide +kernel) (by decide +kernel), by decide, by decide, by decide +kernel, tw_in 1001 (by decide +kernel) (by decide +kernel)⟩
theorem wo_failingInput (hout : Rt[p]? = some (ow, .inl (G.2.2.1, 1, .inr (.inl f)))) (p0 : Int32) {r : Int32} {Qs : St → Prop} (h : SpR1 l G mX10_failingInput [.ref (adr 0), .int p0] adr LX [] Rt σ (fun v τ => v = .int r ∧ Qs τ)) : SpecW l G mL_failingInput hhL_failingInput [.ref (adr 0), .int p0, .ref ow] (wp G adr LX [] Rt σ) (fun o => ∃ τ, o = .inl (some (.int 0), wp G adr LX [] (Rt.set p (ow, .inl (G.2.2.1, 1, .inr (.inl (vp_updL f 0 r.toInt64))))) τ) ∧ Qs τ) := by
  refine specW_of (by decide) (Nat.le_of_ble_eq_true rfl) (fun sz => ?_)
  refine pz_aload_n dL_failingInput_0 rfl ?_
  refine pz_iconst (v := 0) dL_failingInput_1 rfl ?_
  refine pz_aload_n dL_failingInput_2 rfl ?_
  refine pz_iload_n dL_failingInput_3 rfl ?_
  refine pz_callV (mi' := mX10_failingInput) (As := [.int p0]) (r := (RX10, TX10, 14)) (st := [.int 0, .ref ow]) dL_failingInput_4 lk_RL_65 mk_X10_failingInput mi_X10_failingInput me_X10_failingInput ⟨by decide, by decide⟩ rfl rfl (Nat.le_of_ble_eq_true rfl) (([] : va_W).length + 0) (wp_at (x := .inl 10) rfl) rfl h ⟨Nat.le_of_ble_eq_true rfl, Nat.le_of_ble_eq_true rfl⟩ (fun v ws1 hv => ?_) (fun E ws1 hv => by obtain ⟨v, τ, hv, -⟩ := hv; cases hv)
  obtain ⟨v1, τ, hv, hr, hQ⟩ := hv
  cases hv
  subst hr
  refine pz_i2l dL_failingInput_7 ?_
  refine pz_last dL_failingInput_8 (([] : va_W).length + (LX.1.length + p)) (wp_rt hout) (vp_in_nI (n := 0) (by decide) (by decide)) ?_
  refine pz_ws wp_rs ?_
  refine pz_goto (tgt := 15) dL_failingInput_9 (by decide) ?_
  refine pz_iconst (v := 0) dL_failingInput_15 rfl ?_
  exact pz_iret rfl rfl dL_failingInput_16 (Nat.le_of_ble_eq_true rfl) (Nat.le_of_ble_eq_true rfl) ⟨τ, rfl, hQ⟩
theorem wt1_failingInput (p0 : Int32) (h : SpecT l G mX10_failingInput [.ref (adr 0), .int p0] (wp G adr LX [] Rt σ) "java/lang/IndexOutOfBoundsException" (wp G adr LX [] Rt σ)) : SpecW l G mL_failingInput hhL_failingInput [.ref (adr 0), .int p0, .ref ow] (wp G adr LX [] Rt σ) (fun o => o = .inl (some (.int 1), wp G adr LX [] Rt σ)) := by
  refine specW_of (by decide) (Nat.le_of_ble_eq_true rfl) (fun sz => ?_)
  refine pz_aload_n dL_failingInput_0 rfl ?_
  refine pz_iconst (v := 0) dL_failingInput_1 rfl ?_
  refine pz_aload_n dL_failingInput_2 rfl ?_
  refine pz_iload_n dL_failingInput_3 rfl ?_
  refine pz_callV (mi' := mX10_failingInput) (As := [.int p0]) (r := (RX10, TX10, 14)) (st := [.int 0, .ref ow]) dL_failingInput_4 lk_RL_65 mk_X10_failingInput mi_X10_failingInput me_X10_failingInput ⟨by decide, by decide⟩ rfl rfl (Nat.le_of_ble_eq_true rfl) (([] : va_W).length + 0) (wp_at (x := .inl 10) rfl) rfl h ⟨Nat.le_of_ble_eq_true rfl, Nat.le_of_ble_eq_true rfl⟩ (fun v ws1 hv => by cases hv) (fun E ws1 hv => ?_)
  cases hv
  refine pz_catch [] ⟨0, 9, 12, 21⟩ [] rfl (fun z hz => absurd hz List.not_mem_nil) (by decide) (by decide) cle_21 cse_IOB (fun q => ?_)
  refine pz_astore_n dL_failingInput_12 (by decide) ?_
  refine pz_iconst (v := 1) dL_failingInput_13 rfl ?_
  exact pz_iret rfl rfl dL_failingInput_14 (Nat.le_of_ble_eq_true rfl) (Nat.le_of_ble_eq_true rfl) rfl
abbrev hhL_undo : List (Nat × Nat × Nat × Nat) := [(0, 8, 11, 15)]
theorem mw_undo : MKW mL_undo hhL_undo 2 := ⟨tw_in 1024 (by decide +kernel) (by decide +kernel), tw_in 100 (by decide +kernel) (by decide +kernel), by decide, by decide, by decide +kernel, tw_in 1023 (by decide +kernel) (by decide +kernel)⟩
theorem wo_undo (hout : Rt[p]? = some (ow, .inl (G.2.2.1, 1, .inr (.inl f)))) {r : Int32} {Qs : St → Prop} (h : SpR1 l G mX10_undo [.ref (adr 0)] adr LX [] Rt σ (fun v τ => v = .int r ∧ Qs τ)) : SpecW l G mL_undo hhL_undo [.ref (adr 0), .ref ow] (wp G adr LX [] Rt σ) (fun o => ∃ τ, o = .inl (some (.int 0), wp G adr LX [] (Rt.set p (ow, .inl (G.2.2.1, 1, .inr (.inl (vp_updL f 0 r.toInt64))))) τ) ∧ Qs τ) := by
  refine specW_of (by decide) (Nat.le_of_ble_eq_true rfl) (fun sz => ?_)
  refine pz_aload_n dL_undo_0 rfl ?_
  refine pz_iconst (v := 0) dL_undo_1 rfl ?_
  refine pz_aload_n dL_undo_2 rfl ?_
  refine pz_callV (mi' := mX10_undo) (As := []) (r := (RX10, TX10, 14)) (st := [.int 0, .ref ow]) dL_undo_3 lk_RL_68 mk_X10_undo mi_X10_undo me_X10_undo ⟨by decide, by decide⟩ rfl rfl (Nat.le_of_ble_eq_true rfl) (([] : va_W).length + 0) (wp_at (x := .inl 10) rfl) rfl h ⟨Nat.le_of_ble_eq_true rfl, Nat.le_of_ble_eq_true rfl⟩ (fun v ws1 hv => ?_) (fun E ws1 hv => by obtain ⟨v, τ, hv, -⟩ := hv; cases hv)
  obtain ⟨v1, τ, hv, hr, hQ⟩ := hv
  cases hv
  subst hr
  refine pz_i2l dL_undo_6 ?_
  refine pz_last dL_undo_7 (([] : va_W).length + (LX.1.length + p)) (wp_rt hout) (vp_in_nI (n := 0) (by decide) (by decide)) ?_
  refine pz_ws wp_rs ?_
  refine pz_goto (tgt := 14) dL_undo_8 (by decide) ?_
  refine pz_iconst (v := 0) dL_undo_14 rfl ?_
  exact pz_iret rfl rfl dL_undo_15 (Nat.le_of_ble_eq_true rfl) (Nat.le_of_ble_eq_true rfl) ⟨τ, rfl, hQ⟩
theorem wt1_undo (h : SpecT l G mX10_undo [.ref (adr 0)] (wp G adr LX [] Rt σ) "java/lang/IllegalStateException" (wp G adr LX [] Rt σ)) : SpecW l G mL_undo hhL_undo [.ref (adr 0), .ref ow] (wp G adr LX [] Rt σ) (fun o => o = .inl (some (.int 1), wp G adr LX [] Rt σ)) := by
  refine specW_of (by decide) (Nat.le_of_ble_eq_true rfl) (fun sz => ?_)
  refine pz_aload_n dL_undo_0 rfl ?_
  refine pz_iconst (v := 0) dL_undo_1 rfl ?_
  refine pz_aload_n dL_undo_2 rfl ?_
  refine pz_callV (mi' := mX10_undo) (As := []) (r := (RX10, TX10, 14)) (st := [.int 0, .ref ow]) dL_undo_3 lk_RL_68 mk_X10_undo mi_X10_undo me_X10_undo ⟨by decide, by decide⟩ rfl rfl (Nat.le_of_ble_eq_true rfl) (([] : va_W).length + 0) (wp_at (x := .inl 10) rfl) rfl h ⟨Nat.le_of_ble_eq_true rfl, Nat.le_of_ble_eq_true rfl⟩ (fun v ws1 hv => by cases hv) (fun E ws1 hv => ?_)
  cases hv
  refine pz_catch [] ⟨0, 8, 11, 15⟩ [] rfl (fun z hz => absurd hz List.not_mem_nil) (by decide) (by decide) cle_15 cse_ISE (fun q => ?_)
  refine pz_astore_n dL_undo_11 (by decide) ?_
  refine pz_iconst (v := 1) dL_undo_12 rfl ?_
  exact pz_iret rfl rfl dL_undo_13 (Nat.le_of_ble_eq_true rfl) (Nat.le_of_ble_eq_true rfl) rfl
end WR
