/-! THE CLASS: what is known between two calls; the calls that change inputs; undo -/
def TxR (σ : St) (tl : Nat) (tx : Nat → Int32) : Prop := σ.1 1 1 = nI tl ∧ tl ≤ 200 ∧ ∀ j, j < tl → σ.2.2.1 2 j = tx j
theorem TxR.fr {lo hi tl : Nat} {σ τ : St} {tx : Nat → Int32} (h : TxR σ tl tx) (hF : Fr lo hi σ τ) (hd : 3 ≤ lo ∨ hi ≤ 1) : TxR τ tl tx := ⟨(congrFun (hF 1 (by omega)).1 1).trans h.1, h.2.1, fun j hj => (congrFun (hF 2 (by omega)).2.2.1 j).trans (h.2.2 j hj)⟩
/-- the whole of it -/
def XI (σ : St) (m tl N : Nat) (al sv tx : Nat → Int32) : Prop := TxR σ tl tx ∧ PI σ al N ∧ HiR σ m sv ∧ FrA σ al N ∧ FrR σ al N
theorem XI.af {σ τ : St} {m tl N : Nat} {al sv tx : Nat → Int32} (h : XI σ m tl N al sv tx) (hA : AfA σ τ al N) : XI τ m tl N al sv tx := by
  obtain ⟨h1, h2, h3, h4, h5⟩ := h
  refine ⟨?_, hA.1.pi h2, ?_, hA.2.1, hA.2.2⟩
  · have a := hA.1.at (i := 1) (by decide) (by decide)
    have b := hA.1.at (i := 2) (by decide) (by decide)
    exact ⟨(congrFun a.1 1).trans h1.1, h1.2.1, fun j hj => (congrFun b.2.1 j).trans (h1.2.2 j hj)⟩
  · obtain ⟨ρ, f1, f2⟩ := hA.1
    have hρ := h3.fr f1 (by omega)
    rcases f2 with rfl | rfl
    · exact hρ.fr Fr.I0 (by omega)
    · exact (hρ.fr Fr.I0 (by omega)).fr Fr.I0 (by omega)
theorem XI.trial {σ τ : St} {m tl N : Nat} {al sv tx : Nat → Int32} (h : XI σ m tl N al sv tx) (hF : Fr 98 117 σ τ) : XI τ m tl N al sv tx := by
  obtain ⟨h1, h2, h3, h4, h5⟩ := h
  have e9 : τ.1 0 9 = σ.1 0 9 := congrFun (hF 0 (by omega)).1 9
  have e10 : τ.1 0 10 = σ.1 0 10 := congrFun (hF 0 (by omega)).1 10
  refine ⟨h1.fr hF (by omega), h2.fr hF (by omega), h3.fr hF (by omega), ?_, ?_⟩
  · rcases h4 with h | ⟨h, q⟩
    · exact Or.inl (e9.trans h)
    · exact Or.inr ⟨e9.trans h, q.fr hF (by omega)⟩
  · rcases h5 with h | ⟨h, q, q2, q3⟩
    · exact Or.inl (e10.trans h)
    · exact Or.inr ⟨e10.trans h, e9.trans q, q2.fr hF (by omega), q3.fr hF (by omega)⟩
theorem alR_v {al : Nat → Int32} {v : Nat} {lo hi : Int32} (j : Nat) : alRange al v lo hi (121 + 3 * j) = (if j = v then lo else al (121 + 3 * j)) ∧ alRange al v lo hi (121 + 3 * j + 1) = (if j = v then hi else al (121 + 3 * j + 1)) ∧ alRange al v lo hi (121 + 3 * j + 2) = (if j = v then (if lo ≤ al (121 + 3 * v + 2) ∧ al (121 + 3 * v + 2) ≤ hi then al (121 + 3 * v + 2) else lo) else al (121 + 3 * j + 2)) := by
  unfold alRange upd
  by_cases h : j = v
  · subst h
    refine ⟨?_, ?_, ?_⟩
    · rw [if_neg (by omega), if_neg (by omega), if_pos rfl, if_pos rfl]
    · rw [if_neg (by omega), if_pos rfl, if_pos rfl]
    · rw [if_pos rfl, if_pos rfl]
  · refine ⟨?_, ?_, ?_⟩
    · rw [if_neg (by omega), if_neg (by omega), if_neg (by omega), if_neg h]
    · rw [if_neg (by omega), if_neg (by omega), if_neg (by omega), if_neg h]
    · rw [if_neg (by omega), if_neg (by omega), if_neg (by omega), if_neg h]
theorem alR_lt {al : Nat → Int32} {v : Nat} {lo hi : Int32} : ∀ k, k < 121 → al k = alRange al v lo hi k := by
  intro k hk
  unfold alRange upd
  rw [if_neg (by omega), if_neg (by omega), if_neg (by omega)]
theorem alI_lt {al : Nat → Int32} {v : Nat} {x : Int32} : ∀ k, k < 121 → al k = upd al (121 + 3 * v + 2) x k := by
  intro k hk
  unfold upd
  rw [if_neg (by omega)]
section XT
variable {l : Launch} {G : cxG} {adr : Nat → Nat} {Lf Rt : va_W} {σ : St} {al sv tx : Nat → Int32} {N m tl : Nat}
theorem x_saveU (hP : PI σ al N) (hH : HiR σ m sv) : SpR0 l G mX10_saveForUndo [.ref (adr 0)] adr LX Lf Rt σ (fun τ => ∃ ρ, Fr 24 74 σ ρ ∧ HiR ρ (mSaveM m + 1) (mSaveF al sv m) ∧ τ = sI (sI ρ 0 9 0) 0 10 0) := by
  refine spec_of (by decide) (Nat.le_of_ble_eq_true rfl) (fun sz => ?_)
  refine pw_aload_n dX10_saveForUndo_0 rfl ?_
  refine lp_getr 24 dX10_saveForUndo_1 fp_RX10_42.FL rfl rfl rfl ?_
  refine pw_aload_n dX10_saveForUndo_4 rfl ?_
  refine lp_getr 12 dX10_saveForUndo_5 fp_RX10_35.FL rfl rfl rfl ?_
  refine lp_rV0 (mi' := mX2_save) (As := [_]) (q := (RX2, TX2, 2)) dX10_saveForUndo_8 lk_RX10_302 mk_X2_save mi_X2_save me_X2_save ⟨by decide, by decide⟩ rfl rfl (Nat.le_of_ble_eq_true rfl) rfl rfl ⟨rfl, rfl⟩ ⟨Nat.zero_le _, Nat.zero_le _⟩ (x_saveG hP hH) (fun τ hQ => ?_)
  refine pw_aload_n dX10_saveForUndo_11 rfl ?_
  refine lp_cV0 (mi' := mX10_forgetAnswers) (As := []) (q := (RX10, TX10, 14)) dX10_saveForUndo_12 lk_RX10_266 mk_X10_forgetAnswers mi_X10_forgetAnswers me_X10_forgetAnswers ⟨by decide, by decide⟩ rfl rfl (Nat.le_of_ble_eq_true rfl) rfl rfl ⟨rfl, rfl⟩ ⟨Nat.zero_le _, Nat.zero_le _⟩ x_forget ?_
  exact pw_vret rfl dX10_saveForUndo_15 (Nat.zero_le _) (Nat.zero_le _) ⟨_, rfl, τ, hQ.1, hQ.2, rfl⟩
/-- behind saving, with the flags off: only the present situation is new -/
theorem xi_new {ρ τ : St} {al' : Nat → Int32} {N' : Nat} (h : XI σ m tl N al sv tx) (hF : Fr 24 74 σ ρ) (hH : HiR ρ (mSaveM m + 1) (mSaveF al sv m)) (hτ : Fr 13 24 (sI (sI ρ 0 9 0) 0 10 0) τ) (hP : PI τ al' N') : XI τ (mSaveM m + 1) tl N' al' (mSaveF al sv m) tx := by
  have g9 : τ.1 0 9 = 0 := by rw [congrFun (hτ 0 (by omega)).1 9, gI' (by omega), gI]
  have g10 : τ.1 0 10 = 0 := by rw [congrFun (hτ 0 (by omega)).1 10, gI]
  exact ⟨(((h.1.fr hF (by omega)).fr Fr.I0 (by omega)).fr Fr.I0 (by omega)).fr hτ (by omega), hP, ((hH.fr Fr.I0 (by omega)).fr Fr.I0 (by omega)).fr hτ (by omega), Or.inl g9, Or.inl g10⟩
theorem x_setRangeG (hX : XI σ m tl N al sv tx) (v : Nat) (hv : v < 8) (lo hi : Int32) (hlh : lo ≤ hi) : SpR1 l G mX10_setRange [.ref (adr 0), .int (nI v), .int lo, .int hi] adr LX Lf Rt σ (fun r τ => r = .int (alRange al v lo hi (121 + 3 * v + 2)) ∧ XI τ (mSaveM m + 1) tl N (alRange al v lo hi) (mSaveF al sv m) tx) := by
  refine spec_of (by decide) (Nat.le_of_ble_eq_true rfl) (fun sz => ?_)
  have hX' := hX
  obtain ⟨h1, hP, hH, -, -⟩ := hX'
  have hN := hP.1.1
  have hv1 : (0 : Int32) ≤ nI v ∧ nI v < 8 := ⟨nI_pos' (by omega), nI_lt (b := 8) hv (by decide)⟩
  refine pw_iload_n dX10_setRange_0 rfl ?_
  refine lp_cS0 (mi' := mX10_requireVariable0) (As := [_]) dX10_setRange_1 lk_RX10_127 mk_X10_requireVariable ms_X10_requireVariable ⟨by decide, by decide⟩ rfl rfl (Nat.le_of_ble_eq_true rfl) ⟨rfl, rfl⟩ ⟨Nat.zero_le _, Nat.zero_le _⟩ (x_reqV (nI v) hv1 _) ?_
  refine pw_iload_n dX10_setRange_4 rfl ?_
  refine pw_iload_n dX10_setRange_5 rfl ?_
  refine lp_cS0 (mi' := mX10_requireOrder0) (As := [_, _]) dX10_setRange_6 lk_RX10_130 mk_X10_requireOrder ms_X10_requireOrder ⟨by decide, by decide⟩ rfl rfl (Nat.le_of_ble_eq_true rfl) ⟨rfl, rfl⟩ ⟨Nat.zero_le _, Nat.zero_le _⟩ (x_reqO lo hi hlh _) ?_
  refine pw_aload_n dX10_setRange_9 rfl ?_
  refine lp_rV0 (mi' := mX10_saveForUndo) (As := []) (q := (RX10, TX10, 14)) dX10_setRange_10 lk_RX10_114 mk_X10_saveForUndo mi_X10_saveForUndo me_X10_saveForUndo ⟨by decide, by decide⟩ rfl rfl (Nat.le_of_ble_eq_true rfl) rfl rfl ⟨rfl, rfl⟩ ⟨Nat.zero_le _, Nat.zero_le _⟩ (x_saveU hP hH) (fun τ hR => ?_)
  refine pw_aload_n dX10_setRange_13 rfl ?_
  refine lp_getr 12 dX10_setRange_14 fp_RX10_35.FL rfl rfl rfl ?_
  refine lp_getr 20 dX10_setRange_17 fp_RX10_134.FL rfl rfl rfl ?_
  refine pw_iload_n dX10_setRange_20 rfl ?_
  refine pw_iload_n dX10_setRange_21 rfl ?_
  refine pw_iload_n dX10_setRange_22 rfl ?_
  refine lp_rV1 (mi' := mX3_limit) (As := [_, _, _]) (q := (RX3, TX3, 3)) dX10_setRange_23 lk_RX10_137 mk_X3_limit mi_X3_limit me_X3_limit ⟨by decide, by decide⟩ rfl rfl (Nat.le_of_ble_eq_true rfl) rfl rfl ⟨rfl, rfl⟩ ⟨Nat.zero_le _, Nat.zero_le _⟩ (x_limit (b := 20) rfl v hv lo hi) (fun r τ2 hL => ?_)
  obtain ⟨rfl, l1, l2, l3, l4⟩ := hL
  obtain ⟨ρ, f1, f2, hτ⟩ := hR
  have hPt : PI τ al N := by rw [hτ]; exact ((hP.fr f1 (by omega)).fr Fr.I0 (by omega)).fr Fr.I0 (by omega)
  have ev : limV τ 20 v lo hi = alRange al v lo hi (121 + 3 * v + 2) := by
    rw [(alR_v v).2.2, if_pos rfl]
    unfold limV
    rw [show (20 + 3 : Nat) = 23 from rfl, show τ.2.2.1 23 v = al (121 + 3 * v + 2) from hPt.2.2.2.1 v hv]
    by_cases hc : lo ≤ al (121 + 3 * v + 2) ∧ al (121 + 3 * v + 2) ≤ hi
    · rw [if_pos hc, if_neg (fun z => z.elim (Int32.not_lt.mpr hc.1) (Int32.not_lt.mpr hc.2))]
    · rw [if_neg hc, if_pos]
      by_cases h : lo ≤ al (121 + 3 * v + 2)
      · exact Or.inr (Int32.not_le.mp (fun z => hc ⟨h, z⟩))
      · exact Or.inl (Int32.not_le.mp h)
  rw [ev] at l4
  refine pw_iret rfl rfl dX10_setRange_26 (Nat.zero_le _) (Nat.zero_le _) ⟨_, _, rfl, congrArg Value.int ev, xi_new hX f1 f2 (by rw [← hτ]; exact l1.mono (by omega) (by omega)) ⟨wfP_congr alR_lt hP.1, (hPt.2.1.fr l1 (by omega)).congr alR_lt hN, fun j hj => ?_, fun j hj => ?_, fun j hj => ?_⟩⟩
  · obtain ⟨a1, a2, a3⟩ := alR_v (al := al) (v := v) (lo := lo) (hi := hi) j
    rw [a1, a2]
    rw [show (20 + 1 : Nat) = 21 from rfl] at l2 ⊢
    rw [show (20 + 2 : Nat) = 22 from rfl] at l3 ⊢
    rw [l2, l3]
    unfold upd
    by_cases e : j = v
    · rw [if_pos e, if_pos e, if_pos e, if_pos e]; exact ⟨rfl, rfl⟩
    · rw [if_neg e, if_neg e, if_neg e, if_neg e]; exact hPt.2.2.1 j hj
  · obtain ⟨a1, a2, a3⟩ := alR_v (al := al) (v := v) (lo := lo) (hi := hi) j
    refine (l4 j).trans ?_
    unfold upd
    by_cases e : j = v
    · rw [if_pos e, e]
    · rw [if_neg e, a3, if_neg e]; exact hPt.2.2.2.1 j hj
  · obtain ⟨a1, a2, a3⟩ := alR_v (al := al) (v := v) (lo := lo) (hi := hi) j
    rw [a1, a2]
    by_cases e : j = v
    · rw [if_pos e, if_pos e]; exact hlh
    · rw [if_neg e, if_neg e]; exact hP.2.2.2.2 j hj
theorem x_setInputG (hX : XI σ m tl N al sv tx) (v : Nat) (hv : v < 8) (x : Int32) (hx : al (121 + 3 * v) ≤ x ∧ x ≤ al (121 + 3 * v + 1)) : SpR1 l G mX10_setInput [.ref (adr 0), .int (nI v), .int x] adr LX Lf Rt σ (fun r τ => r = .int (al (121 + 3 * v + 2)) ∧ XI τ (mSaveM m + 1) tl N (upd al (121 + 3 * v + 2) x) (mSaveF al sv m) tx) := by
  refine spec_of (by decide) (Nat.le_of_ble_eq_true rfl) (fun sz => ?_)
  have hX' := hX
  obtain ⟨h1, hP, hH, -, -⟩ := hX'
  have hN := hP.1.1
  have hv1 : (0 : Int32) ≤ nI v ∧ nI v < 8 := ⟨nI_pos' (by omega), nI_lt (b := 8) hv (by decide)⟩
  have hv8 : vp_in (nI v) 8 := vp_in_nI hv (by decide)
  have ev : (nI v).toNatClampNeg = v := nI_clamp (by omega)
  have el : σ.2.2.1 21 (nI v).toNatClampNeg = al (121 + 3 * v) := by rw [ev]; exact (hP.2.2.1 v hv).1
  have eh : σ.2.2.1 22 (nI v).toNatClampNeg = al (121 + 3 * v + 1) := by rw [ev]; exact (hP.2.2.1 v hv).2
  rw [← el, ← eh] at hx
  refine pw_iload_n dX10_setInput_0 rfl ?_
  refine lp_cS0 (mi' := mX10_requireVariable0) (As := [_]) dX10_setInput_1 lk_RX10_127 mk_X10_requireVariable ms_X10_requireVariable ⟨by decide, by decide⟩ rfl rfl (Nat.le_of_ble_eq_true rfl) ⟨rfl, rfl⟩ ⟨Nat.zero_le _, Nat.zero_le _⟩ (x_reqV (nI v) hv1 _) ?_
  refine pw_aload_n dX10_setInput_4 rfl ?_
  refine lp_getr 12 dX10_setInput_5 fp_RX10_35.FL rfl rfl rfl ?_
  refine lp_getr 20 dX10_setInput_8 fp_RX10_134.FL rfl rfl rfl ?_
  refine pw_astore_n dX10_setInput_11 (by decide) ?_
  refine pw_iload_n dX10_setInput_12 rfl ?_
  refine pw_aload_n dX10_setInput_13 rfl ?_
  refine lp_getr 21 dX10_setInput_14 fp_RX10_141.FL rfl rfl rfl ?_
  refine pw_iload_n dX10_setInput_17 rfl ?_
  refine lp_iald dX10_setInput_18 rfl hv8 ?_
  refine pw_icmp_lt 32 dX10_setInput_19 (by decide) (fun c_19 => absurd hx.1 (Int32.not_le.mpr c_19)) (fun c_19 => ?_)
  refine pw_iload_n dX10_setInput_22 rfl ?_
  refine pw_aload_n dX10_setInput_23 rfl ?_
  refine lp_getr 22 dX10_setInput_24 fp_RX10_145.FL rfl rfl rfl ?_
  refine pw_iload_n dX10_setInput_27 rfl ?_
  refine lp_iald dX10_setInput_28 rfl hv8 ?_
  refine pw_icmp_le 42 dX10_setInput_29 (by decide) (fun c_29 => ?_) (fun c_29 => absurd hx.2 c_29)
  refine pw_aload_n dX10_setInput_42 rfl ?_
  refine lp_rV0 (mi' := mX10_saveForUndo) (As := []) (q := (RX10, TX10, 14)) dX10_setInput_43 lk_RX10_114 mk_X10_saveForUndo mi_X10_saveForUndo me_X10_saveForUndo ⟨by decide, by decide⟩ rfl rfl (Nat.le_of_ble_eq_true rfl) rfl rfl ⟨rfl, rfl⟩ ⟨Nat.zero_le _, Nat.zero_le _⟩ (x_saveU hP hH) (fun τ hR => ?_)
  refine pw_aload_n dX10_setInput_46 rfl ?_
  refine lp_getr 23 dX10_setInput_47 fp_RX10_150.FL rfl rfl rfl ?_
  refine pw_iload_n dX10_setInput_50 rfl ?_
  refine lp_iald dX10_setInput_51 rfl (by assumption) ?_
  refine pw_istore dX10_setInput_52 (by decide) ?_
  refine pw_aload_n dX10_setInput_54 rfl ?_
  refine lp_getr 23 dX10_setInput_55 fp_RX10_150.FL rfl rfl rfl ?_
  refine pw_iload_n dX10_setInput_58 rfl ?_
  refine pw_iload_n dX10_setInput_59 rfl ?_
  refine lp_iast dX10_setInput_60 rfl (by assumption) ?_
  refine pw_iload dX10_setInput_61 rfl ?_
  obtain ⟨ρ, f1, f2, hτ⟩ := hR
  have hPt : PI τ al N := by rw [hτ]; exact ((hP.fr f1 (by omega)).fr Fr.I0 (by omega)).fr Fr.I0 (by omega)
  have hF : Fr 13 24 τ (sA τ 23 (upd (τ.2.2.1 23) (nI v).toNatClampNeg x)) := Fr.A Fr.rf (by omega) (by omega)
  have hF2 : Fr 23 24 τ (sA τ 23 (upd (τ.2.2.1 23) (nI v).toNatClampNeg x)) := Fr.A Fr.rf (by omega) (by omega)
  refine pw_iret rfl rfl dX10_setInput_63 (Nat.zero_le _) (Nat.zero_le _) ⟨_, _, rfl, congrArg Value.int (by rw [ev]; exact hPt.2.2.2.1 v hv), xi_new hX f1 f2 (by rw [← hτ]; exact hF) ⟨wfP_congr alI_lt hP.1, (hPt.2.1.fr hF2 (by omega)).congr alI_lt hN, fun j hj => ?_, fun j hj => ?_, fun j hj => ?_⟩⟩
  · have e1 : upd al (121 + 3 * v + 2) x (121 + 3 * j) = al (121 + 3 * j) := upd_n (by omega)
    have e2 : upd al (121 + 3 * v + 2) x (121 + 3 * j + 1) = al (121 + 3 * j + 1) := upd_n (by omega)
    rw [e1, e2, gA' (by omega), gA' (by omega)]
    exact hPt.2.2.1 j hj
  · rw [show (20 + 3 : Nat) = 23 from rfl, gA, ev]
    unfold upd
    by_cases e : j = v
    · rw [if_pos e, if_pos (by omega)]
    · rw [if_neg e, if_neg (by omega)]; exact hPt.2.2.2.1 j hj
  · have e1 : upd al (121 + 3 * v + 2) x (121 + 3 * j) = al (121 + 3 * j) := upd_n (by omega)
    have e2 : upd al (121 + 3 * v + 2) x (121 + 3 * j + 1) = al (121 + 3 * j + 1) := upd_n (by omega)
    rw [e1, e2]; exact hP.2.2.2.2 j hj
theorem x_restore {s : Nat} (hm : m < 4) (h1 : σ.1 24 0 = nI (m + 1)) (hs : σ.2.2.2.2 25 m = s) (hS : SlO (σ.2.2.2.2 25)) {al' : Nat → Int32} {N' : Nat} (hW : wfP al' N') (hR : PgR σ (s + 1) al' N') : SpR0 l G mX2_restore [.ref (adr 24), .ref (adr 12)] adr LX Lf Rt σ (fun τ => Fr 12 24 (sI σ 24 0 (nI m)) τ ∧ PEq σ (s + 1) τ 13 N' ∧ IEq σ (s + 8) τ 20) := by
  refine spec_of (by decide) (Nat.le_of_ble_eq_true rfl) (fun sz => ?_)
  have em : (nI m).toNatClampNeg = m := nI_clamp (by omega)
  have hk := hS.k hm
  have hg := hS.ge hm
  rw [hs] at hk hg
  have e1 : nI (m + 1) - 1 = nI m := nI_pred m
  have hs2 : (sI σ 24 0 (nI m)).2.2.2.2 25 (nI m).toNatClampNeg = s := by rw [em]; exact hs
  refine pw_aload_n dX2_restore_0 rfl ?_
  refine lp_geti dX2_restore_1 fp_RX2_9.FL rfl rfl ?_
  refine pw_top (nI (m + 1)) h1 ?_
  refine pw_if_le 30 dX2_restore_4 (by decide) (fun c_4 => absurd c_4 (nI_nle (by omega) (by omega))) (fun c_4 => ?_)
  refine pw_aload_n dX2_restore_7 rfl ?_
  refine pw_dup dX2_restore_8 rfl ?_
  refine lp_geti dX2_restore_9 fp_RX2_9.FL rfl rfl ?_
  refine pw_top (nI (m + 1)) h1 ?_
  refine pw_iconst (v := 1) dX2_restore_12 rfl ?_
  refine pw_isub dX2_restore_13 ?_
  refine pw_top (nI m) e1 ?_
  refine lp_puti dX2_restore_14 fp_RX2_9 rfl rfl rfl rfl ?_
  refine pw_aload_n dX2_restore_17 rfl ?_
  refine pw_aload_n dX2_restore_18 rfl ?_
  refine lp_getr 25 dX2_restore_19 fp_RX2_17.FL rfl rfl rfl ?_
  refine pw_aload_n dX2_restore_22 rfl ?_
  refine lp_geti dX2_restore_23 fp_RX2_9.FL rfl rfl ?_
  refine pw_top (nI m) gI ?_
  refine lp_aald dX2_restore_26 rfl (vp_in_nI hm (by decide)) ?_
  rw [hs2]
  refine lp_rV0 (mi' := mX8_copyFrom) (As := [_]) (q := (RX8, TX8, 2)) dX2_restore_27 lk_RX2_25 mk_X8_copyFrom mi_X8_copyFrom me_X8_copyFrom ⟨by decide, by decide⟩ rfl rfl (Nat.le_of_ble_eq_true rfl) rfl rfl ⟨rfl, rfl⟩ ⟨Nat.zero_le _, Nat.zero_le _⟩ (x_Scopy (σ := sI σ 24 0 (nI m)) (a := s) (b := 12) (n := N') hk rfl (by omega) hW.1 (by rw [gI' (by omega)]; exact hR.1)) (fun τ hQ => ?_)
  exact pw_vret rfl dX2_restore_30 (Nat.zero_le _) (Nat.zero_le _) ⟨τ, rfl, hQ.1, ⟨hQ.2.1.1.trans (gI' (by omega)), hQ.2.1.2⟩, hQ.2.2⟩
theorem x_undoG (hX : XI σ (m + 1) tl N al sv tx) : SpR1 l G mX10_undo [.ref (adr 0)] adr LX Lf Rt σ (fun r τ => r = .int (nI m) ∧ ∃ N', XI τ m tl N' (fun k => if k < 145 then sv (145 * m + k) else al k) sv tx) := by
  refine spec_of (by decide) (Nat.le_of_ble_eq_true rfl) (fun sz => ?_)
  obtain ⟨h1, hP, ⟨i1, i2, i3, i4⟩, -, -⟩ := hX
  obtain ⟨N', j1, j2, j3, j4, j5⟩ := i4 m (by omega)
  have hg := i3.ge (show m < 4 by omega)
  refine pw_aload_n dX10_undo_0 rfl ?_
  refine lp_getr 24 dX10_undo_1 fp_RX10_42.FL rfl rfl rfl ?_
  refine lp_geti dX10_undo_4 fp_RX10_257.FL rfl rfl ?_
  refine pw_top (nI (m + 1)) i1 ?_
  refine pw_if_ne 21 dX10_undo_7 (by decide) (fun c_7 => ?_) (fun c_7 => absurd c_7 (nI_ne0 (by omega) (by omega)))
  refine pw_aload_n dX10_undo_21 rfl ?_
  refine lp_getr 24 dX10_undo_22 fp_RX10_42.FL rfl rfl rfl ?_
  refine pw_aload_n dX10_undo_25 rfl ?_
  refine lp_getr 12 dX10_undo_26 fp_RX10_35.FL rfl rfl rfl ?_
  refine lp_rV0 (mi' := mX2_restore) (As := [_]) (q := (RX2, TX2, 2)) dX10_undo_29 lk_RX10_262 mk_X2_restore mi_X2_restore me_X2_restore ⟨by decide, by decide⟩ rfl rfl (Nat.le_of_ble_eq_true rfl) rfl rfl ⟨rfl, rfl⟩ ⟨Nat.zero_le _, Nat.zero_le _⟩ (x_restore (s := σ.2.2.2.2 25 m) (by omega) i1 rfl i3 j1 j2) (fun τ hQ => ?_)
  refine pw_aload_n dX10_undo_32 rfl ?_
  refine lp_cV0 (mi' := mX10_forgetAnswers) (As := []) (q := (RX10, TX10, 14)) dX10_undo_33 lk_RX10_266 mk_X10_forgetAnswers mi_X10_forgetAnswers me_X10_forgetAnswers ⟨by decide, by decide⟩ rfl rfl (Nat.le_of_ble_eq_true rfl) rfl rfl ⟨rfl, rfl⟩ ⟨Nat.zero_le _, Nat.zero_le _⟩ x_forget ?_
  refine pw_aload_n dX10_undo_36 rfl ?_
  refine lp_getr 24 dX10_undo_37 fp_RX10_42.FL rfl rfl rfl ?_
  refine lp_geti dX10_undo_40 fp_RX10_257.FL rfl rfl ?_
  obtain ⟨q1, q2, q3⟩ := hQ
  have e24 : τ.1 24 0 = nI m := by rw [congrFun (q1 24 (by omega)).1 0, gI]
  refine pw_iret rfl rfl dX10_undo_43 (Nat.zero_le _) (Nat.zero_le _) ⟨_, _, rfl, congrArg Value.int ?_, N', ?_⟩
  · rw [gI' (by omega), gI' (by omega)]; exact e24
  · obtain ⟨c1, c2, c3⟩ := SvR.copy (b := 12) j1 j2 j3 j4 j5 q2 q3
    have he : ∀ k, k < 145 → sv (145 * m + k) = (fun k => if k < 145 then sv (145 * m + k) else al k) k := fun k hk => (if_pos hk).symm
    have hsv : SvR τ 12 (fun k => if k < 145 then sv (145 * m + k) else al k) := SvR.congr ⟨N', j1, c1, c2, c3, j5⟩ he
    have hP1 : PI τ (fun k => if k < 145 then sv (145 * m + k) else al k) N' := ⟨wfP_congr (fun k hk => he k (by omega)) j1, c1.congr (fun k hk => he k (by omega)) j1.1, fun v hv => ⟨(c2 v hv).1.trans (he _ (by omega)), (c2 v hv).2.trans (he _ (by omega))⟩, fun v hv => (c3 v hv).trans (he _ (by omega)), fun v hv => by rw [← he _ (by omega), ← he _ (by omega)]; exact j5 v hv⟩
    have hF : Fr 24 25 σ (sI σ 24 0 (nI m)) := Fr.I Fr.rf (by omega) (by omega)
    have e25 : τ.2.2.2.2 25 = σ.2.2.2.2 25 := (q1 25 (by omega)).2.2.2.2
    have hH1 : HiR τ m sv := ⟨e24, by omega, by rw [e25]; exact i3, fun k hk => by
      rw [e25]
      have hg2 := i3.ge (show k < 4 by omega)
      exact ((i4 k (by omega)).fr hF (by omega)).fr q1 (by omega)⟩
    exact ⟨(((h1.fr hF (by omega)).fr q1 (by omega)).fr Fr.I0 (by omega)).fr Fr.I0 (by omega), (hP1.fr Fr.I0 (by omega)).fr Fr.I0 (by omega), (hH1.fr Fr.I0 (by omega)).fr Fr.I0 (by omega), Or.inl (by rw [gI' (by omega), gI]), Or.inl gI⟩
end XT
