/-! class and reference side by side: what each call does to both -/
theorem xvar_of {x : Int32} (h : 0 ≤ x ∧ x < 8) : ∃ v, v < 8 ∧ x = nI v := by
  obtain ⟨j, h1, h2⟩ := nI_of2 (x := x) (M := 7) (n := 7) (by decide) (Int32.not_lt.mpr h.1) (by
    have := Int32.lt_iff_toInt_lt.mp h.2
    rw [Int32.le_iff_toInt_le]
    have e8 : (8 : Int32).toInt = 8 := by decide
    have e7 : (7 : Int32).toInt = 7 := by decide
    omega)
  exact ⟨j, by omega, h2⟩
theorem xlt8_7 {x : Int32} : (0 ≤ x ∧ x < 8) ↔ (0 ≤ x ∧ x ≤ 7) := by
  have e8 : (8 : Int32).toInt = 8 := by decide
  have e7 : (7 : Int32).toInt = 7 := by decide
  rw [Int32.lt_iff_toInt_lt, Int32.le_iff_toInt_le, Int32.le_iff_toInt_le, e8, e7]
  omega
theorem xno_of {x : Int32} {N : Nat} (hN : N ≤ 30) (h : 0 ≤ x ∧ x < nI N) : ∃ i, i < N ∧ x = nI i := by
  have h0 := Int32.le_iff_toInt_le.mp h.1
  have h1 := Int32.lt_iff_toInt_lt.mp h.2
  rw [nI_toInt (by omega)] at h1
  have e0 : (0 : Int32).toInt = 0 := by decide
  refine ⟨x.toInt.toNat, by omega, ?_⟩
  apply Int32.toInt_inj.mp
  rw [nI_toInt (by omega)]
  omega
theorem xno_m {x : Int32} {N : Nat} (hN : N ≤ 30) (h : ¬ (0 ≤ x ∧ x < nI N)) : ¬ ((0 : Int32) ≤ x ∧ x ≤ nI N - 1) := by
  intro q
  refine h ⟨q.1, ?_⟩
  have h1 := Int32.le_iff_toInt_le.mp q.2
  have e1 : (1 : Int32).toInt = 1 := by decide
  have e : (nI N - 1).toInt = N - 1 := by
    rw [Int32.toInt_sub, nI_toInt (by omega), e1]
    apply Int.bmod_eq_of_le <;> omega
  rw [e] at h1
  rw [Int32.lt_iff_toInt_lt, nI_toInt (by omega)]
  omega
def RfQ (ρ : St) (t : Int32) (m tl : Nat) (al sv tx : Nat → Int32) : Prop := pers ρ = (nI m, t, nI tl, al, sv, tx)
theorem RfQ.p {ρ : St} {t : Int32} {m tl : Nat} {al sv tx : Nat → Int32} (h : RfQ ρ t m tl al sv tx) : ρ.1 0 2 = nI m ∧ ρ.1 0 3 = t ∧ ρ.1 0 5 = nI tl ∧ ρ.2.2.1 1 = al ∧ ρ.2.2.1 2 = sv ∧ ρ.2.2.1 3 = tx := by
  unfold RfQ pers at h
  simp only [Prod.mk.injEq] at h
  exact h
theorem RfQ.of {ρ : St} {t : Int32} {m tl : Nat} {al sv tx : Nat → Int32} (h1 : ρ.1 0 2 = nI m) (h2 : ρ.1 0 3 = t) (h3 : ρ.1 0 5 = nI tl) (h4 : ρ.2.2.1 1 = al) (h5 : ρ.2.2.1 2 = sv) (h6 : ρ.2.2.1 3 = tx) : RfQ ρ t m tl al sv tx := by
  unfold RfQ pers
  rw [h1, h2, h3, h4, h5, h6]
theorem RfQ.t {ρ : St} {t : Int32} {m tl : Nat} {al sv tx : Nat → Int32} (t' : Int32) (h : RfQ ρ t m tl al sv tx) : RfQ (sI ρ 0 3 t') t' m tl al sv tx := by
  obtain ⟨h1, h2, h3, h4, h5, h6⟩ := h.p
  exact RfQ.of h1 rfl h3 h4 h5 h6
theorem RfQ.q {ρ ρ' : St} {t t' : Int32} {m tl : Nat} {al sv tx : Nat → Int32} (h : RfQ ρ t m tl al sv tx) (e : pers ρ' = pers (sI ρ 0 3 t')) : RfQ ρ' t' m tl al sv tx := by
  have := h.t t'
  unfold RfQ at this ⊢
  rw [e]; exact this
def LI (σX σM : St) : Prop := ∃ (t : Int32) (m tl N : Nat) (al sv tx : Nat → Int32), XI σX m tl N al sv tx ∧ RfQ σM t m tl al sv tx
def SemOk (l : Launch) (G : cxG) (adX adM : Nat → Nat) (σX σM : St) (mc mm : MI) (Ac Am : List Value) (VX VM : Value → Prop) : Prop :=
  ∃ KX KM : St → Prop, (∀ τ ρ, KX τ → KM ρ → LI τ ρ) ∧ (∀ Rt, SpR1 l G mc Ac adX LX [] Rt σX (fun v τ => VX v ∧ KX τ)) ∧ (∀ Lf Rt, SpR1 l G mm Am adM LM Lf Rt σM (fun v ρ => VM v ∧ ρ.1 0 3 = 0 ∧ KM ρ))
def SemTh (l : Launch) (G : cxG) (adX adM : Nat → Nat) (σX σM : St) (mc mm : MI) (Ac Am : List Value) (VM : Value → Prop) (E : String) (k : Int32) : Prop :=
  (∀ Rt, SpecT l G mc Ac (wp G adX LX [] Rt σX) E (wp G adX LX [] Rt σX)) ∧ (∀ Lf Rt, SpR1 l G mm Am adM LM Lf Rt σM (fun v ρ => VM v ∧ ρ.1 0 3 = k ∧ LI σX ρ))
abbrev VI : Value → Prop := fun v => ∃ r : Int32, v = .int r
abbrev VJ : Value → Prop := fun v => ∃ r : Int64, v = .long r
abbrev VD : Value → Prop := fun v => ∃ r : UInt64, v = .double r
theorem SemOk.mono {l : Launch} {G : cxG} {adX adM : Nat → Nat} {σX σM : St} {mc mm : MI} {Ac Am : List Value} {VX VM VX' VM' : Value → Prop} (h : SemOk l G adX adM σX σM mc mm Ac Am VX VM) (h1 : ∀ v, VX v → VX' v) (h2 : ∀ v, VM v → VM' v) : SemOk l G adX adM σX σM mc mm Ac Am VX' VM' := by
  obtain ⟨KX, KM, a, b, c⟩ := h
  exact ⟨KX, KM, a, fun Rt => r1_mono (b Rt) (fun v τ q => ⟨h1 v q.1, q.2⟩), fun Lf Rt => r1_mono (c Lf Rt) (fun v τ q => ⟨h2 v q.1, q.2⟩)⟩
/-- both answer, the same int -/
def SE (l : Launch) (G : cxG) (adX adM : Nat → Nat) (σX σM : St) (mc mm : MI) (Ac Am : List Value) : Prop := ∃ r : Int32, SemOk l G adX adM σX σM mc mm Ac Am (· = .int r) (· = .int r)
def SEJ (l : Launch) (G : cxG) (adX adM : Nat → Nat) (σX σM : St) (mc mm : MI) (Ac Am : List Value) : Prop := ∃ r : Int64, SemOk l G adX adM σX σM mc mm Ac Am (· = .long r) (· = .long r)
def SU (l : Launch) (G : cxG) (adX adM : Nat → Nat) (σX σM : St) (mc mm : MI) (Ac Am : List Value) : Prop := SemOk l G adX adM σX σM mc mm Ac Am VI VI
def SUJ (l : Launch) (G : cxG) (adX adM : Nat → Nat) (σX σM : St) (mc mm : MI) (Ac Am : List Value) : Prop := SemOk l G adX adM σX σM mc mm Ac Am VJ VJ
def SUD (l : Launch) (G : cxG) (adX adM : Nat → Nat) (σX σM : St) (mc mm : MI) (Ac Am : List Value) : Prop := SemOk l G adX adM σX σM mc mm Ac Am VD VD
theorem SE.u {l : Launch} {G : cxG} {adX adM : Nat → Nat} {σX σM : St} {mc mm : MI} {Ac Am : List Value} (h : SE l G adX adM σX σM mc mm Ac Am) : SU l G adX adM σX σM mc mm Ac Am := by
  obtain ⟨r, h⟩ := h
  exact h.mono (fun v q => ⟨r, q⟩) (fun v q => ⟨r, q⟩)
theorem SEJ.u {l : Launch} {G : cxG} {adX adM : Nat → Nat} {σX σM : St} {mc mm : MI} {Ac Am : List Value} (h : SEJ l G adX adM σX σM mc mm Ac Am) : SUJ l G adX adM σX σM mc mm Ac Am := by
  obtain ⟨r, h⟩ := h
  exact h.mono (fun v q => ⟨r, q⟩) (fun v q => ⟨r, q⟩)
section SM
variable {l : Launch} {G : cxG} {adX adM : Nat → Nat} {σX σM : St}
/-- the state stays, but for the thrown mark -/
theorem th_of {mc mm : MI} {As : List Value} {VM : Value → Prop} {E : String} {k : Int32} {v : Value} {t : Int32} {m tl N : Nat} {al sv tx : Nat → Int32} (hX : XI σX m tl N al sv tx) (hM : RfQ σM t m tl al sv tx) (hv : VM v)
    (h1 : ∀ Rt, SpecT l G mc (Value.ref (adX 0) :: As) (wp G adX LX [] Rt σX) E (wp G adX LX [] Rt σX)) (h2 : ∀ Lf Rt, SpecD l G mm (Value.ref (adM 0) :: As) (wp G adM LM Lf Rt σM) (some v) (wp G adM LM Lf Rt (sI σM 0 3 k))) : SemTh l G adX adM σX σM mc mm (Value.ref (adX 0) :: As) (Value.ref (adM 0) :: As) VM E k :=
  ⟨h1, fun Lf Rt => specD_r1 (h2 Lf Rt) ⟨hv, rfl, k, m, tl, N, al, sv, tx, hX, hM.t k⟩⟩
/-- class and reference keep the state -/
theorem ok_of {mc mm : MI} {As : List Value} {VX VM : Value → Prop} {t : Int32} {m tl N : Nat} {al sv tx : Nat → Int32} (hM : RfQ σM t m tl al sv tx)
    (h1 : ∀ Rt, SpR1 l G mc (Value.ref (adX 0) :: As) adX LX [] Rt σX (fun v τ => VX v ∧ XI τ m tl N al sv tx)) (h2 : ∀ Lf Rt, SpR1 l G mm (Value.ref (adM 0) :: As) adM LM Lf Rt σM (fun v ρ => VM v ∧ pers ρ = pers (sI σM 0 3 0))) : SemOk l G adX adM σX σM mc mm (Value.ref (adX 0) :: As) (Value.ref (adM 0) :: As) VX VM :=
  ⟨fun τ => XI τ m tl N al sv tx, fun ρ => RfQ ρ 0 m tl al sv tx, fun τ ρ a b => ⟨0, m, tl, N, al, sv, tx, a, b⟩, h1, fun Lf Rt => r1_mono (h2 Lf Rt) (fun v ρ q => ⟨q.1, (hM.q q.2).p.2.1, hM.q q.2⟩)⟩
/-- class and reference go to a new state -/
theorem ok_to {mc mm : MI} {As : List Value} {VX VM : Value → Prop} {m tl : Nat} {al sv tx : Nat → Int32}
    (h1 : ∀ Rt, SpR1 l G mc (Value.ref (adX 0) :: As) adX LX [] Rt σX (fun v τ => VX v ∧ ∃ N, XI τ m tl N al sv tx)) (h2 : ∀ Lf Rt, SpR1 l G mm (Value.ref (adM 0) :: As) adM LM Lf Rt σM (fun v ρ => VM v ∧ RfQ ρ 0 m tl al sv tx)) : SemOk l G adX adM σX σM mc mm (Value.ref (adX 0) :: As) (Value.ref (adM 0) :: As) VX VM :=
  ⟨fun τ => ∃ N, XI τ m tl N al sv tx, fun ρ => RfQ ρ 0 m tl al sv tx, fun τ ρ ⟨N, a⟩ b => ⟨0, m, tl, N, al, sv, tx, a, b⟩, h1, fun Lf Rt => r1_mono (h2 Lf Rt) (fun v ρ q => ⟨q.1, q.2.p.2.1, q.2⟩)⟩
theorem xi_text {τ : St} {m tl tl' N : Nat} {al sv tx tx' : Nat → Int32} (h : XI σX m tl N al sv tx) (hF : Fr 1 3 σX τ) (hT : TxR τ tl' tx') : XI τ m tl' N al sv tx' := by
  obtain ⟨-, h2, h3, h4, h5⟩ := h
  refine ⟨hT, h2.fr hF (by omega), h3.fr hF (by omega), ?_, ?_⟩
  · rcases h4 with q | ⟨q1, q2⟩
    · exact Or.inl ((congrFun (hF 0 (by omega)).1 9).trans q)
    · exact Or.inr ⟨(congrFun (hF 0 (by omega)).1 9).trans q1, q2.fr hF (by omega)⟩
  · rcases h5 with q | ⟨q1, q2, q3, q4⟩
    · exact Or.inl ((congrFun (hF 0 (by omega)).1 10).trans q)
    · exact Or.inr ⟨(congrFun (hF 0 (by omega)).1 10).trans q1, (congrFun (hF 0 (by omega)).1 9).trans q2, q3.fr hF (by omega), q4.fr hF (by omega)⟩
theorem sm_append (hl : l.stackTraces = false) (h : LI σX σM) (x : Int32) : SE l G adX adM σX σM mX10_append mX11_append [.ref (adX 0), .int x] [.ref (adM 0), .int x] ∨ SemTh l G adX adM σX σM mX10_append mX11_append [.ref (adX 0), .int x] [.ref (adM 0), .int x] VI sIAE 1 ∨ SemTh l G adX adM σX σM mX10_append mX11_append [.ref (adX 0), .int x] [.ref (adM 0), .int x] VI sISE 2 := by
  obtain ⟨t, m, tl, N, al, sv, tx, hX, hM⟩ := h
  obtain ⟨p1, p2, p3, p4, p5, p6⟩ := hM.p
  obtain ⟨t1, t2, t3⟩ := hX.1
  by_cases hv : 0 ≤ x ∧ x ≤ 127
  · by_cases ht : tl < 200
    · refine Or.inl ⟨nI (tl + 1), ok_to (m := m) (tl := tl + 1) (al := al) (sv := sv) (tx := upd tx tl x) (fun Rt => specD_r1 (x_append x tl hv ht t1) ⟨rfl, N, ?_⟩) (fun Lf Rt => specD_r1 (r_append_ok x tl hv ht p3) ⟨rfl, ?_⟩)⟩
      · refine xi_text hX (Fr.I (Fr.A Fr.rf (by omega) (by omega)) (by omega) (by omega)) ⟨rfl, by omega, fun j hj => ?_⟩
        show upd (σX.2.2.1 2) tl x j = upd tx tl x j
        unfold upd
        by_cases e : j = tl
        · rw [if_pos e, if_pos e]
        · rw [if_neg e, if_neg e]; exact t3 j (by omega)
      · refine RfQ.of p1 rfl rfl p4 p5 ?_
        show upd (σM.2.2.1 3) tl x = _
        rw [p6]
    · have e : tl = 200 := by omega
      refine Or.inr (Or.inr (th_of hX hM ⟨_, rfl⟩ (fun Rt => x_append_t2 hl x hv ?_) (fun Lf Rt => r_append_no2 x hv ?_)))
      · rw [t1, e]; decide
      · rw [p3, e]; decide
  · exact Or.inr (Or.inl (th_of hX hM ⟨_, rfl⟩ (fun Rt => x_append_t1 hl x hv) (fun Lf Rt => r_append_no1 x hv)))
theorem sm_clearText (h : LI σX σM) : SE l G adX adM σX σM mX10_clearText mX11_clearText [.ref (adX 0)] [.ref (adM 0)] := by
  obtain ⟨t, m, tl, N, al, sv, tx, hX, hM⟩ := h
  obtain ⟨p1, p2, p3, p4, p5, p6⟩ := hM.p
  obtain ⟨t1, t2, t3⟩ := hX.1
  refine ⟨nI tl, ok_to (m := m) (tl := 0) (al := al) (sv := sv) (tx := tx) (fun Rt => specD_r1 x_clearText ⟨by rw [t1], N, ?_⟩) (fun Lf Rt => specD_r1 r_clearText ⟨by rw [p3], ?_⟩)⟩
  · exact xi_text hX (Fr.I Fr.rf (by omega) (by omega)) ⟨rfl, by omega, fun j hj => absurd hj (Nat.not_lt_zero j)⟩
  · exact RfQ.of p1 rfl rfl p4 p5 p6
theorem sm_parse (h : LI σX σM) : SE l G adX adM σX σM mX10_parse mX11_parse [.ref (adX 0)] [.ref (adM 0)] := by
  obtain ⟨t, m, tl, N, al, sv, tx, hX, hM⟩ := h
  obtain ⟨p1, p2, p3, p4, p5, p6⟩ := hM.p
  have hc := fun Rt => x_parseG (l := l) (G := G) (adr := adX) (Lf := []) (Rt := Rt) hX
  have hm := fun Lf Rt => r_parse (l := l) (G := G) (adr := adM) (Lf := Lf) (Rt := Rt) (σ := σM) (tl := tl) (m := m) hX.1.2.1 hX.2.2.1.2.1 p3 p1
  rw [p6] at hm
  generalize rdAll tx tl (tl + 1) 0 [] 0 = R at hc hm
  refine ⟨parseRes R, ?_⟩
  cases R with
  | inl e => exact ok_to (m := m) (tl := tl) (al := al) (sv := sv) (tx := tx) (fun Rt => r1_mono (hc Rt) (fun v τ q => ⟨q.1, N, q.2⟩)) (fun Lf Rt => r1_mono (hm Lf Rt) (fun v ρ q => ⟨q.1, hM.q q.2⟩))
  | inr L => exact ok_to (m := mSaveM m + 1) (tl := tl) (al := alParse al L) (sv := mSaveF al sv m) (tx := tx) (fun Rt => r1_mono (hc Rt) (fun v τ q => ⟨q.1, _, q.2⟩)) (fun Lf Rt => r1_mono (hm Lf Rt) (fun v ρ q => ⟨q.1, by
      have e := q.2
      unfold RfQ
      rw [e]
      show (nI (mSaveM m + 1), (0 : Int32), σM.1 0 5, alParse (σM.2.2.1 1) L, mSaveF (σM.2.2.1 1) (σM.2.2.1 2) m, σM.2.2.1 3) = _
      rw [p3, p4, p5, p6]⟩))
theorem sm_setRange (hl : l.stackTraces = false) (h : LI σX σM) (x lo hi : Int32) : SE l G adX adM σX σM mX10_setRange mX11_setRange [.ref (adX 0), .int x, .int lo, .int hi] [.ref (adM 0), .int x, .int lo, .int hi] ∨ SemTh l G adX adM σX σM mX10_setRange mX11_setRange [.ref (adX 0), .int x, .int lo, .int hi] [.ref (adM 0), .int x, .int lo, .int hi] VI sIOB 1 ∨ SemTh l G adX adM σX σM mX10_setRange mX11_setRange [.ref (adX 0), .int x, .int lo, .int hi] [.ref (adM 0), .int x, .int lo, .int hi] VI sIAE 2 := by
  obtain ⟨t, m, tl, N, al, sv, tx, hX, hM⟩ := h
  obtain ⟨p1, p2, p3, p4, p5, p6⟩ := hM.p
  have hm4 := hX.2.2.1.2.1
  by_cases hv : 0 ≤ x ∧ x < 8
  · by_cases hlh : lo ≤ hi
    · obtain ⟨v, h1, rfl⟩ := xvar_of hv
      refine Or.inl ⟨_, ok_to (m := mSaveM m + 1) (tl := tl) (al := alRange al v lo hi) (sv := mSaveF al sv m) (tx := tx) (fun Rt => r1_mono (x_setRangeG hX v h1 lo hi hlh) (fun w τ q => ⟨q.1, N, q.2⟩)) (fun Lf Rt => specD_r1 (r_setRange_ok v m lo hi h1 hlh hm4 p1) ⟨by rw [p4], ?_⟩)⟩
      unfold RfQ
      show (nI (mSaveM m + 1), (0 : Int32), σM.1 0 5, alRange (σM.2.2.1 1) v lo hi, mSaveF (σM.2.2.1 1) (σM.2.2.1 2) m, σM.2.2.1 3) = _
      rw [p3, p4, p5, p6]
    · refine Or.inr (Or.inr (th_of (v := .int 0) hX hM ⟨0, rfl⟩ (fun Rt => x_setRange_t2 hl x lo hi hv hlh) (fun Lf Rt => ?_)))
      have := r_setRange_no (l := l) (G := G) (adr := adM) (Lf := Lf) (Rt := Rt) (σ := σM) x lo hi (fun q => hlh q.2)
      rw [decide_eq_true (xlt8_7.mp hv), decide_eq_false hlh] at this
      exact this
  · refine Or.inr (Or.inl (th_of (v := .int 0) hX hM ⟨0, rfl⟩ (fun Rt => x_setRange_t1 hl x lo hi hv) (fun Lf Rt => ?_)))
    have := r_setRange_no (l := l) (G := G) (adr := adM) (Lf := Lf) (Rt := Rt) (σ := σM) x lo hi (fun q => hv (xlt8_7.mpr q.1))
    rw [decide_eq_false (fun q => hv (xlt8_7.mpr q))] at this
    exact this
theorem sm_setInput (hl : l.stackTraces = false) (h : LI σX σM) (x y : Int32) : SE l G adX adM σX σM mX10_setInput mX11_setInput [.ref (adX 0), .int x, .int y] [.ref (adM 0), .int x, .int y] ∨ SemTh l G adX adM σX σM mX10_setInput mX11_setInput [.ref (adX 0), .int x, .int y] [.ref (adM 0), .int x, .int y] VI sIOB 1 ∨ SemTh l G adX adM σX σM mX10_setInput mX11_setInput [.ref (adX 0), .int x, .int y] [.ref (adM 0), .int x, .int y] VI sIAE 2 := by
  obtain ⟨t, m, tl, N, al, sv, tx, hX, hM⟩ := h
  obtain ⟨p1, p2, p3, p4, p5, p6⟩ := hM.p
  have hm4 := hX.2.2.1.2.1
  by_cases hv : 0 ≤ x ∧ x < 8
  · obtain ⟨v, h1, rfl⟩ := xvar_of hv
    by_cases hx : al (121 + 3 * v) ≤ y ∧ y ≤ al (121 + 3 * v + 1)
    · refine Or.inl ⟨_, ok_to (m := mSaveM m + 1) (tl := tl) (al := upd al (121 + 3 * v + 2) y) (sv := mSaveF al sv m) (tx := tx) (fun Rt => r1_mono (x_setInputG hX v h1 y hx) (fun w τ q => ⟨q.1, N, q.2⟩)) (fun Lf Rt => specD_r1 (r_setInput_ok v m y h1 hm4 p1 (by rw [p4]; exact hx)) ⟨by rw [p4], ?_⟩)⟩
      unfold RfQ
      show (nI (mSaveM m + 1), (0 : Int32), σM.1 0 5, upd (σM.2.2.1 1) (121 + 3 * v + 2) y, mSaveF (σM.2.2.1 1) (σM.2.2.1 2) m, σM.2.2.1 3) = _
      rw [p3, p4, p5, p6]
    · refine Or.inr (Or.inr (th_of hX hM ⟨_, rfl⟩ (fun Rt => x_setInput_t2 hl v h1 y ?_) (fun Lf Rt => r_setInput_no2 v y h1 (by rw [p4]; exact hx))))
      rw [(hX.2.1.2.2.1 v h1).1, (hX.2.1.2.2.1 v h1).2]; exact hx
  · exact Or.inr (Or.inl (th_of hX hM ⟨_, rfl⟩ (fun Rt => x_setInput_t1 hl x y hv) (fun Lf Rt => r_setInput_no1 x y (fun q => hv (xlt8_7.mpr q)))))
theorem sm_undo (hl : l.stackTraces = false) (h : LI σX σM) : SE l G adX adM σX σM mX10_undo mX11_undo [.ref (adX 0)] [.ref (adM 0)] ∨ SemTh l G adX adM σX σM mX10_undo mX11_undo [.ref (adX 0)] [.ref (adM 0)] VI sISE 1 := by
  obtain ⟨t, m, tl, N, al, sv, tx, hX, hM⟩ := h
  obtain ⟨p1, p2, p3, p4, p5, p6⟩ := hM.p
  have hm4 := hX.2.2.1.2.1
  cases m with
  | zero =>
    refine Or.inr (th_of hX hM ⟨_, rfl⟩ (fun Rt => x_undo_t1 hl ?_) (fun Lf Rt => r_undo_no ?_))
    · exact hX.2.2.1.1
    · rw [p1]; decide
  | succ m =>
    refine Or.inl ⟨nI m, ok_to (m := m) (tl := tl) (al := fun k => if k < 145 then sv (145 * m + k) else al k) (sv := sv) (tx := tx) (fun Rt => x_undoG hX) (fun Lf Rt => specD_r1 (r_undo_ok m (by omega) p1) ⟨rfl, ?_⟩)⟩
    unfold RfQ
    show (nI m, (0 : Int32), σM.1 0 5, (fun k => if k < 145 then σM.2.2.1 2 (145 * m + k) else σM.2.2.1 1 k), σM.2.2.1 2, σM.2.2.1 3) = _
    rw [p3, p4, p5, p6]
theorem sm_remove (hl : l.stackTraces = false) (h : LI σX σM) (x : Int32) : SE l G adX adM σX σM mX10_remove mX11_remove [.ref (adX 0), .int x] [.ref (adM 0), .int x] ∨ SemTh l G adX adM σX σM mX10_remove mX11_remove [.ref (adX 0), .int x] [.ref (adM 0), .int x] VI sIOB 1 ∨ SemTh l G adX adM σX σM mX10_remove mX11_remove [.ref (adX 0), .int x] [.ref (adM 0), .int x] VI sISE 2 := by
  obtain ⟨t, m, tl, N, al, sv, tx, hX, hM⟩ := h
  obtain ⟨p1, p2, p3, p4, p5, p6⟩ := hM.p
  have hm4 := hX.2.2.1.2.1
  have hN := hX.2.1.1.1
  have e13 : σX.1 13 0 = nI N := hX.2.1.2.1.1
  have e10 : σM.2.2.1 1 0 = nI N := by rw [p4]; exact hX.2.1.1.2.1
  by_cases hv : 0 ≤ x ∧ x < nI N
  · obtain ⟨i, h1, rfl⟩ := xno_of hN hv
    by_cases h4 : 4 ≤ kdA al i
    · exact Or.inr (Or.inr (th_of hX hM ⟨_, rfl⟩ (fun Rt => x_remove_t2 hl hX.2.1 i h1 h4) (fun Lf Rt => r_remove_no2 i N e10 h1 hN (by rw [p4]; exact h4))))
    · refine Or.inl ⟨nI (N - 1), ok_to (m := mSaveM m + 1) (tl := tl) (al := alR al i N) (sv := mSaveF al sv m) (tx := tx) (fun Rt => r1_mono (x_removeG hX i h1 h4) (fun w τ q => ⟨q.1, _, q.2⟩)) (fun Lf Rt => specD_r1 (r_remove_ok i N m e10 h1 hN (by rw [p4]; exact h4) hm4 p1) ⟨rfl, ?_⟩)⟩
      unfold RfQ
      show (nI (mSaveM m + 1), (0 : Int32), σM.1 0 5, alR (σM.2.2.1 1) i N, mSaveF (σM.2.2.1 1) (σM.2.2.1 2) m, σM.2.2.1 3) = _
      rw [p3, p4, p5, p6]
  · exact Or.inr (Or.inl (th_of hX hM ⟨_, rfl⟩ (fun Rt => x_remove_t1 hl x (by rw [e13]; exact hv)) (fun Lf Rt => r_remove_no1 x (by rw [e10]; exact xno_m hN hv))))
theorem xno_p {x : Int32} {N : Nat} (hN : N ≤ 30) (h : 0 ≤ x ∧ x < nI N) : ((0 : Int32) ≤ x ∧ x ≤ nI N - 1) := by
  refine ⟨h.1, ?_⟩
  have h0 := Int32.le_iff_toInt_le.mp h.1
  have h1 := Int32.lt_iff_toInt_lt.mp h.2
  have e0 : (0 : Int32).toInt = 0 := by decide
  have e1 : (1 : Int32).toInt = 1 := by decide
  rw [nI_toInt (by omega)] at h1
  rw [Int32.le_iff_toInt_le, Int32.toInt_sub, nI_toInt (by omega), e1, Int.bmod_eq_of_le (by omega) (by omega)]
  omega
theorem sm_input (hl : l.stackTraces = false) (h : LI σX σM) (x : Int32) (c : Int32) : SE l G adX adM σX σM mX10_input mX11_input [.ref (adX 0), .int x, .int c] [.ref (adM 0), .int x, .int c] ∨ SemTh l G adX adM σX σM mX10_input mX11_input [.ref (adX 0), .int x, .int c] [.ref (adM 0), .int x, .int c] VI sIOB 1 ∨ SemTh l G adX adM σX σM mX10_input mX11_input [.ref (adX 0), .int x, .int c] [.ref (adM 0), .int x, .int c] VI sIAE 2 := by
  obtain ⟨t, m, tl, N, al, sv, tx, hX, hM⟩ := h
  obtain ⟨p1, p2, p3, p4, p5, p6⟩ := hM.p
  have hm4 := hX.2.2.1.2.1
  have hN := hX.2.1.1.1
  have e13 : σX.1 13 0 = nI N := hX.2.1.2.1.1
  have e10 : σM.2.2.1 1 0 = nI N := by rw [p4]; exact hX.2.1.1.2.1
  have hw : wfP (σM.2.2.1 1) N := by rw [p4]; exact hX.2.1.1
  have hPI := hX.2.1
  have hA := hX.2.2.2.1
  have hR := hX.2.2.2.2
  by_cases hv : 0 ≤ x ∧ x < 8
  · by_cases hc : 0 ≤ c ∧ c ≤ 2
    · obtain ⟨v, h1, rfl⟩ := xvar_of hv
      obtain ⟨w, h2, rfl⟩ := nI_of2 (x := c) (M := 2) (n := 2) (by decide) (Int32.not_lt.mpr hc.1) hc.2
      refine Or.inl ⟨al (121 + 3 * v + w), ok_of hM (fun Rt => specD_r1 (x_input v w h1 (by omega)) ⟨?_, hX⟩) (fun Lf Rt => specD_r1 (r_input_ok v w h1 (by omega)) ⟨by rw [p4], rfl⟩)⟩
      rcases (show w = 0 ∨ w = 1 ∨ w = 2 by omega) with rfl | rfl | rfl
      · exact congrArg Value.int (hPI.2.2.1 v h1).1
      · exact congrArg Value.int (hPI.2.2.1 v h1).2
      · exact congrArg Value.int (hPI.2.2.2.1 v h1)
    · refine Or.inr (Or.inr (th_of (v := .int 0) hX hM ⟨0, rfl⟩ (fun Rt => x_input_t2 hl x c hv ?_) (fun Lf Rt => ?_)))
      · have e2 : (2 : Int32).toInt = 2 := by decide
        have e0 : (0 : Int32).toInt = 0 := by decide
        rw [Int32.le_iff_toInt_le, Int32.le_iff_toInt_le, e2, e0] at hc
        omega
      · have := r_input_no (l := l) (G := G) (adr := adM) (Lf := Lf) (Rt := Rt) (σ := σM) x c (fun q => hc q.2)
        rw [decide_eq_true (xlt8_7.mp hv), decide_eq_false hc] at this
        exact this
  · refine Or.inr (Or.inl (th_of (v := .int 0) hX hM ⟨0, rfl⟩ (fun Rt => x_input_t1 hl x c hv) (fun Lf Rt => ?_)))
    have := r_input_no (l := l) (G := G) (adr := adM) (Lf := Lf) (Rt := Rt) (σ := σM) x c (fun q => hv (xlt8_7.mpr q.1))
    rw [decide_eq_false (fun q => hv (xlt8_7.mpr q))] at this
    exact this
theorem sm_instructions (h : LI σX σM) : SE l G adX adM σX σM mX10_instructions mX11_instructions [.ref (adX 0)] [.ref (adM 0)] := by
  obtain ⟨t, m, tl, N, al, sv, tx, hX, hM⟩ := h
  obtain ⟨p1, p2, p3, p4, p5, p6⟩ := hM.p
  have hm4 := hX.2.2.1.2.1
  have hN := hX.2.1.1.1
  have e13 : σX.1 13 0 = nI N := hX.2.1.2.1.1
  have e10 : σM.2.2.1 1 0 = nI N := by rw [p4]; exact hX.2.1.1.2.1
  have hw : wfP (σM.2.2.1 1) N := by rw [p4]; exact hX.2.1.1
  have hPI := hX.2.1
  have hA := hX.2.2.2.1
  have hR := hX.2.2.2.2
  exact ⟨nI N, ok_of hM (fun Rt => specD_r1 x_instructions ⟨by rw [e13], hX⟩) (fun Lf Rt => specD_r1 r_instructions ⟨by rw [e10], rfl⟩)⟩
theorem sm_instruction (hl : l.stackTraces = false) (h : LI σX σM) (x : Int32) (c : Int32) : SE l G adX adM σX σM mX10_instruction mX11_instruction [.ref (adX 0), .int x, .int c] [.ref (adM 0), .int x, .int c] ∨ SemTh l G adX adM σX σM mX10_instruction mX11_instruction [.ref (adX 0), .int x, .int c] [.ref (adM 0), .int x, .int c] VI sIOB 1 ∨ SemTh l G adX adM σX σM mX10_instruction mX11_instruction [.ref (adX 0), .int x, .int c] [.ref (adM 0), .int x, .int c] VI sIAE 2 := by
  obtain ⟨t, m, tl, N, al, sv, tx, hX, hM⟩ := h
  obtain ⟨p1, p2, p3, p4, p5, p6⟩ := hM.p
  have hm4 := hX.2.2.1.2.1
  have hN := hX.2.1.1.1
  have e13 : σX.1 13 0 = nI N := hX.2.1.2.1.1
  have e10 : σM.2.2.1 1 0 = nI N := by rw [p4]; exact hX.2.1.1.2.1
  have hw : wfP (σM.2.2.1 1) N := by rw [p4]; exact hX.2.1.1
  have hPI := hX.2.1
  have hA := hX.2.2.2.1
  have hR := hX.2.2.2.2
  by_cases hv : 0 ≤ x ∧ x < nI N
  · obtain ⟨i, h1, rfl⟩ := xno_of hN hv
    by_cases hc : 0 ≤ c ∧ c ≤ 3
    · obtain ⟨w, h2, rfl⟩ := nI_of2 (x := c) (M := 3) (n := 3) (by decide) (Int32.not_lt.mpr hc.1) hc.2
      refine Or.inl ⟨_, ok_of hM (fun Rt => specD_r1 (x_instruction hPI i w h1 (by omega)) ⟨rfl, hX⟩) (fun Lf Rt => specD_r1 (r_instruction_ok i w N hw h1 (by omega)) ⟨?_, rfl⟩)⟩
      rw [p4]
      refine congrArg Value.int ?_
      rcases (show w = 0 ∨ w = 1 ∨ w = 2 ∨ w = 3 by omega) with rfl | rfl | rfl | rfl
      · rfl
      · rfl
      · rfl
      · exact lpt_any hPI.1.2.2.1 hN _ _ N (Nat.le_refl _) i h1
    · refine Or.inr (Or.inr (th_of (v := .int 0) hX hM ⟨0, rfl⟩ (fun Rt => x_instruction_t2 hl hPI i h1 c ?_) (fun Lf Rt => ?_)))
      · have e2 : (3 : Int32).toInt = 3 := by decide
        have e0 : (0 : Int32).toInt = 0 := by decide
        rw [Int32.le_iff_toInt_le, Int32.le_iff_toInt_le, e2, e0] at hc
        omega
      · have := r_instruction_no (l := l) (G := G) (adr := adM) (Lf := Lf) (Rt := Rt) (σ := σM) (nI i) c (fun q => hc q.2)
        rw [e10, decide_eq_true (xno_p hN hv), decide_eq_false hc] at this
        exact this
  · refine Or.inr (Or.inl (th_of (v := .int 0) hX hM ⟨0, rfl⟩ (fun Rt => x_instruction_t1 hl x c (by rw [e13]; exact hv)) (fun Lf Rt => ?_)))
    have := r_instruction_no (l := l) (G := G) (adr := adM) (Lf := Lf) (Rt := Rt) (σ := σM) x c (fun q => xno_m hN hv (by rw [← e10]; exact q.1))
    rw [e10, decide_eq_false (xno_m hN hv)] at this
    exact this
theorem sm_operand (hl : l.stackTraces = false) (h : LI σX σM) (x : Int32) (z : Bool) : SE l G adX adM σX σM mX10_operand mX11_operand [.ref (adX 0), .int x, .int (bI z)] [.ref (adM 0), .int x, .int (bI z)] ∨ SemTh l G adX adM σX σM mX10_operand mX11_operand [.ref (adX 0), .int x, .int (bI z)] [.ref (adM 0), .int x, .int (bI z)] VI sIOB 1 := by
  obtain ⟨t, m, tl, N, al, sv, tx, hX, hM⟩ := h
  obtain ⟨p1, p2, p3, p4, p5, p6⟩ := hM.p
  have hm4 := hX.2.2.1.2.1
  have hN := hX.2.1.1.1
  have e13 : σX.1 13 0 = nI N := hX.2.1.2.1.1
  have e10 : σM.2.2.1 1 0 = nI N := by rw [p4]; exact hX.2.1.1.2.1
  have hw : wfP (σM.2.2.1 1) N := by rw [p4]; exact hX.2.1.1
  have hPI := hX.2.1
  have hA := hX.2.2.2.1
  have hR := hX.2.2.2.2
  by_cases hv : 0 ≤ x ∧ x < nI N
  · obtain ⟨i, h1, rfl⟩ := xno_of hN hv
    exact Or.inl ⟨_, ok_of hM (fun Rt => specD_r1 (x_operand hPI i h1 z) ⟨rfl, hX⟩) (fun Lf Rt => specD_r1 (r_operand_ok i N z e10 h1 hN) ⟨by rw [p4], rfl⟩)⟩
  · exact Or.inr (th_of hX hM ⟨_, rfl⟩ (fun Rt => x_operand_t1 hl x _ (by rw [e13]; exact hv)) (fun Lf Rt => r_operand_no x z (by rw [e10]; exact xno_m hN hv)))
theorem sm_state (hl : l.stackTraces = false) (h : LI σX σM) (x : Int32) : SU l G adX adM σX σM mX10_state mX11_state [.ref (adX 0), .int x] [.ref (adM 0), .int x] ∨ SemTh l G adX adM σX σM mX10_state mX11_state [.ref (adX 0), .int x] [.ref (adM 0), .int x] VI sIOB 1 := by
  obtain ⟨t, m, tl, N, al, sv, tx, hX, hM⟩ := h
  obtain ⟨p1, p2, p3, p4, p5, p6⟩ := hM.p
  have hm4 := hX.2.2.1.2.1
  have hN := hX.2.1.1.1
  have e13 : σX.1 13 0 = nI N := hX.2.1.2.1.1
  have e10 : σM.2.2.1 1 0 = nI N := by rw [p4]; exact hX.2.1.1.2.1
  have hw : wfP (σM.2.2.1 1) N := by rw [p4]; exact hX.2.1.1
  have hPI := hX.2.1
  have hA := hX.2.2.2.1
  have hR := hX.2.2.2.2
  by_cases hv : 0 ≤ x ∧ x < nI N
  · obtain ⟨i, h1, rfl⟩ := xno_of hN hv
    exact Or.inl (ok_of hM (fun Rt => r1_mono (x_state hPI hA hR i h1) (fun w τ q => ⟨q.1, hX.af q.2⟩)) (fun Lf Rt => specD_r1 (r_state_ok i N hw h1) ⟨⟨_, rfl⟩, rfl⟩))
  · exact Or.inr (th_of hX hM ⟨_, rfl⟩ (fun Rt => x_state_t1 hl x (by rw [e13]; exact hv)) (fun Lf Rt => r_state_no x (by rw [e10]; exact xno_m hN hv)))
theorem sm_coveredBy (hl : l.stackTraces = false) (h : LI σX σM) (x : Int32) : SU l G adX adM σX σM mX10_coveredBy mX11_coveredBy [.ref (adX 0), .int x] [.ref (adM 0), .int x] ∨ SemTh l G adX adM σX σM mX10_coveredBy mX11_coveredBy [.ref (adX 0), .int x] [.ref (adM 0), .int x] VI sIOB 1 := by
  obtain ⟨t, m, tl, N, al, sv, tx, hX, hM⟩ := h
  obtain ⟨p1, p2, p3, p4, p5, p6⟩ := hM.p
  have hm4 := hX.2.2.1.2.1
  have hN := hX.2.1.1.1
  have e13 : σX.1 13 0 = nI N := hX.2.1.2.1.1
  have e10 : σM.2.2.1 1 0 = nI N := by rw [p4]; exact hX.2.1.1.2.1
  have hw : wfP (σM.2.2.1 1) N := by rw [p4]; exact hX.2.1.1
  have hPI := hX.2.1
  have hA := hX.2.2.2.1
  have hR := hX.2.2.2.2
  by_cases hv : 0 ≤ x ∧ x < nI N
  · obtain ⟨i, h1, rfl⟩ := xno_of hN hv
    exact Or.inl (ok_of hM (fun Rt => r1_mono (x_coveredBy hPI hA hR i h1) (fun w τ q => ⟨q.1, hX.af q.2⟩)) (fun Lf Rt => specD_r1 (r_coveredBy_ok i N hw h1) ⟨⟨_, rfl⟩, rfl⟩))
  · exact Or.inr (th_of hX hM ⟨_, rfl⟩ (fun Rt => x_coveredBy_t1 hl x (by rw [e13]; exact hv)) (fun Lf Rt => r_coveredBy_no x (by rw [e10]; exact xno_m hN hv)))
theorem sm_states (hl : l.stackTraces = false) (h : LI σX σM) (x : Int32) : SU l G adX adM σX σM mX10_states mX11_states [.ref (adX 0), .int x] [.ref (adM 0), .int x] ∨ SemTh l G adX adM σX σM mX10_states mX11_states [.ref (adX 0), .int x] [.ref (adM 0), .int x] VI sIAE 1 := by
  obtain ⟨t, m, tl, N, al, sv, tx, hX, hM⟩ := h
  obtain ⟨p1, p2, p3, p4, p5, p6⟩ := hM.p
  have hm4 := hX.2.2.1.2.1
  have hN := hX.2.1.1.1
  have e13 : σX.1 13 0 = nI N := hX.2.1.2.1.1
  have e10 : σM.2.2.1 1 0 = nI N := by rw [p4]; exact hX.2.1.1.2.1
  have hw : wfP (σM.2.2.1 1) N := by rw [p4]; exact hX.2.1.1
  have hPI := hX.2.1
  have hA := hX.2.2.2.1
  have hR := hX.2.2.2.2
  by_cases hv : 0 ≤ x ∧ x ≤ 4
  · exact Or.inl (ok_of hM (fun Rt => r1_mono (x_states hPI hA hR x hv) (fun w τ q => ⟨q.1, hX.af q.2⟩)) (fun Lf Rt => specD_r1 (r_states_ok x N hw hv) ⟨⟨_, rfl⟩, rfl⟩))
  · exact Or.inr (th_of hX hM ⟨_, rfl⟩ (fun Rt => x_states_t1 hl x hv) (fun Lf Rt => r_states_no x hv))
theorem sm_range (hl : l.stackTraces = false) (h : LI σX σM) (x : Int32) (z : Bool) : SEJ l G adX adM σX σM mX10_range mX11_range [.ref (adX 0), .int x, .int (bI z)] [.ref (adM 0), .int x, .int (bI z)] ∨ SemTh l G adX adM σX σM mX10_range mX11_range [.ref (adX 0), .int x, .int (bI z)] [.ref (adM 0), .int x, .int (bI z)] VJ sIOB 1 ∨ SemTh l G adX adM σX σM mX10_range mX11_range [.ref (adX 0), .int x, .int (bI z)] [.ref (adM 0), .int x, .int (bI z)] VJ sISE 2 := by
  obtain ⟨t, m, tl, N, al, sv, tx, hX, hM⟩ := h
  obtain ⟨p1, p2, p3, p4, p5, p6⟩ := hM.p
  have hm4 := hX.2.2.1.2.1
  have hN := hX.2.1.1.1
  have e13 : σX.1 13 0 = nI N := hX.2.1.2.1.1
  have e10 : σM.2.2.1 1 0 = nI N := by rw [p4]; exact hX.2.1.1.2.1
  have hw : wfP (σM.2.2.1 1) N := by rw [p4]; exact hX.2.1.1
  have hPI := hX.2.1
  have hA := hX.2.2.2.1
  have hR := hX.2.2.2.2
  by_cases hv : 0 ≤ x ∧ x < nI N
  · obtain ⟨i, h1, rfl⟩ := xno_of hN hv
    by_cases h4 : 4 ≤ kdA al i
    · exact Or.inr (Or.inr (th_of hX hM ⟨_, rfl⟩ (fun Rt => x_range_t2 hl hPI i h1 h4 _) (fun Lf Rt => r_range_no2 i N z e10 h1 hN (by rw [p4]; exact h4))))
    · refine Or.inl ⟨_, ok_of hM (fun Rt => r1_mono (x_range hPI hA hR i h1 h4 z) (fun w τ q => ⟨q.1, hX.af q.2⟩)) (fun Lf Rt => specD_r1 (r_range_ok i N z hw h1 (by rw [p4]; exact h4)) ⟨congrArg Value.long ?_, rfl⟩)⟩
      have hr := aFin_c (σ := sI σM 0 3 0) hw
      rw [show (sI σM 0 3 0).2.2.1 1 = al from p4] at hr
      have q1 := hr.2.2.2.1 i (by omega)
      by_cases h0 : (aFin (sI σM 0 3 0) N).2.2.2.1 i = 0
      · rw [if_pos h0, if_pos (q1.symm.trans h0)]
      · obtain ⟨-, -, q2, q3⟩ := hr.2.2.2.2.2.1 i (by omega) h0
        rw [if_neg h0, if_neg (fun q => h0 (q1.trans q)), q2, q3]
  · exact Or.inr (Or.inl (th_of hX hM ⟨_, rfl⟩ (fun Rt => x_range_t1 hl x _ (by rw [e13]; exact hv)) (fun Lf Rt => r_range_no1 x z (by rw [e10]; exact xno_m hN hv))))
theorem sm_finalRange (hl : l.stackTraces = false) (h : LI σX σM) (x : Int32) (z : Bool) : SE l G adX adM σX σM mX10_finalRange mX11_finalRange [.ref (adX 0), .int x, .int (bI z)] [.ref (adM 0), .int x, .int (bI z)] ∨ SemTh l G adX adM σX σM mX10_finalRange mX11_finalRange [.ref (adX 0), .int x, .int (bI z)] [.ref (adM 0), .int x, .int (bI z)] VI sIOB 1 := by
  obtain ⟨t, m, tl, N, al, sv, tx, hX, hM⟩ := h
  obtain ⟨p1, p2, p3, p4, p5, p6⟩ := hM.p
  have hm4 := hX.2.2.1.2.1
  have hN := hX.2.1.1.1
  have e13 : σX.1 13 0 = nI N := hX.2.1.2.1.1
  have e10 : σM.2.2.1 1 0 = nI N := by rw [p4]; exact hX.2.1.1.2.1
  have hw : wfP (σM.2.2.1 1) N := by rw [p4]; exact hX.2.1.1
  have hPI := hX.2.1
  have hA := hX.2.2.2.1
  have hR := hX.2.2.2.2
  by_cases hv : 0 ≤ x ∧ x < 8
  · obtain ⟨v, h1, rfl⟩ := xvar_of hv
    refine Or.inl ⟨_, ok_of hM (fun Rt => r1_mono (x_finalRange hPI hA hR v h1 z) (fun w τ q => ⟨q.1, hX.af q.2⟩)) (fun Lf Rt => specD_r1 (r_finalRange_ok v N h1 z hw) ⟨congrArg Value.int ?_, rfl⟩)⟩
    have hr := aFin_c (σ := sI σM 0 3 0) hw
    rw [show (sI σM 0 3 0).2.2.1 1 = al from p4] at hr
    rw [hr.2.1 v h1, hr.2.2.1 v h1, hr.2.2.2.2.2.2.1]
  · exact Or.inr (th_of hX hM ⟨_, rfl⟩ (fun Rt => x_finalRange_t1 hl x _ hv) (fun Lf Rt => r_finalRange_no x z (fun q => hv (xlt8_7.mpr q))))
theorem sm_completes (h : LI σX σM) : SE l G adX adM σX σM mX10_completes mX11_completes [.ref (adX 0)] [.ref (adM 0)] := by
  obtain ⟨t, m, tl, N, al, sv, tx, hX, hM⟩ := h
  obtain ⟨p1, p2, p3, p4, p5, p6⟩ := hM.p
  have hm4 := hX.2.2.1.2.1
  have hN := hX.2.1.1.1
  have e13 : σX.1 13 0 = nI N := hX.2.1.2.1.1
  have e10 : σM.2.2.1 1 0 = nI N := by rw [p4]; exact hX.2.1.1.2.1
  have hw : wfP (σM.2.2.1 1) N := by rw [p4]; exact hX.2.1.1
  have hPI := hX.2.1
  have hA := hX.2.2.2.1
  have hR := hX.2.2.2.2
  refine ⟨_, ok_of hM (fun Rt => r1_mono (x_completes hPI hA hR) (fun w τ q => ⟨q.1, hX.af q.2⟩)) (fun Lf Rt => specD_r1 (r_completes N hw) ⟨congrArg Value.int ?_, rfl⟩)⟩
  have hr := aFin_c (σ := sI σM 0 3 0) hw
  rw [show (sI σM 0 3 0).2.2.1 1 = al from p4] at hr
  exact hr.2.2.2.2.2.2.1
theorem sm_failure (h : LI σX σM) (z : Bool) : SU l G adX adM σX σM mX10_failure mX11_failure [.ref (adX 0), .int (bI z)] [.ref (adM 0), .int (bI z)] := by
  obtain ⟨t, m, tl, N, al, sv, tx, hX, hM⟩ := h
  obtain ⟨p1, p2, p3, p4, p5, p6⟩ := hM.p
  have hm4 := hX.2.2.1.2.1
  have hN := hX.2.1.1.1
  have e13 : σX.1 13 0 = nI N := hX.2.1.2.1.1
  have e10 : σM.2.2.1 1 0 = nI N := by rw [p4]; exact hX.2.1.1.2.1
  have hw : wfP (σM.2.2.1 1) N := by rw [p4]; exact hX.2.1.1
  have hPI := hX.2.1
  have hA := hX.2.2.2.1
  have hR := hX.2.2.2.2
  exact ok_of hM (fun Rt => r1_mono (x_failure hPI hA hR z) (fun w τ q => ⟨q.1, hX.af q.2⟩)) (fun Lf Rt => specD_r1 (r_failure hw z) ⟨⟨_, rfl⟩, (mOut_pers _ _ _).1⟩)
theorem sm_checks (h : LI σX σM) (z : Bool) : SU l G adX adM σX σM mX10_checks mX11_checks [.ref (adX 0), .int (bI z)] [.ref (adM 0), .int (bI z)] := by
  obtain ⟨t, m, tl, N, al, sv, tx, hX, hM⟩ := h
  obtain ⟨p1, p2, p3, p4, p5, p6⟩ := hM.p
  have hm4 := hX.2.2.1.2.1
  have hN := hX.2.1.1.1
  have e13 : σX.1 13 0 = nI N := hX.2.1.2.1.1
  have e10 : σM.2.2.1 1 0 = nI N := by rw [p4]; exact hX.2.1.1.2.1
  have hw : wfP (σM.2.2.1 1) N := by rw [p4]; exact hX.2.1.1
  have hPI := hX.2.1
  have hA := hX.2.2.2.1
  have hR := hX.2.2.2.2
  exact ok_of hM (fun Rt => r1_mono (x_checks hPI hA hR z) (fun w τ q => ⟨q.1, hX.af q.2⟩)) (fun Lf Rt => specD_r1 (r_checks hw z) ⟨⟨_, rfl⟩, (mOut_pers _ _ _).1⟩)
theorem sm_result (hl : l.stackTraces = false) (h : LI σX σM) (x : Int32) (z : Bool) : SU l G adX adM σX σM mX10_result mX11_result [.ref (adX 0), .int x, .int (bI z)] [.ref (adM 0), .int x, .int (bI z)] ∨ SemTh l G adX adM σX σM mX10_result mX11_result [.ref (adX 0), .int x, .int (bI z)] [.ref (adM 0), .int x, .int (bI z)] VI sIOB 1 := by
  obtain ⟨t, m, tl, N, al, sv, tx, hX, hM⟩ := h
  obtain ⟨p1, p2, p3, p4, p5, p6⟩ := hM.p
  have hm4 := hX.2.2.1.2.1
  have hN := hX.2.1.1.1
  have e13 : σX.1 13 0 = nI N := hX.2.1.2.1.1
  have e10 : σM.2.2.1 1 0 = nI N := by rw [p4]; exact hX.2.1.1.2.1
  have hw : wfP (σM.2.2.1 1) N := by rw [p4]; exact hX.2.1.1
  have hPI := hX.2.1
  have hA := hX.2.2.2.1
  have hR := hX.2.2.2.2
  by_cases hv : 0 ≤ x ∧ x < 8
  · obtain ⟨v, h1, rfl⟩ := xvar_of hv
    exact Or.inl (ok_of hM (fun Rt => r1_mono (x_result hPI hA hR v h1 z) (fun w τ q => ⟨q.1, hX.af q.2⟩)) (fun Lf Rt => specD_r1 (r_result_ok hw v h1 z) ⟨⟨_, rfl⟩, (mOut_pers _ _ _).1⟩))
  · exact Or.inr (th_of hX hM ⟨_, rfl⟩ (fun Rt => x_result_t1 hl x _ hv) (fun Lf Rt => r_result_no x z (fun q => hv (xlt8_7.mpr q))))
theorem sm_executed (h : LI σX σM) : SE l G adX adM σX σM mX10_executed mX11_executed [.ref (adX 0)] [.ref (adM 0)] := by
  obtain ⟨t, m, tl, N, al, sv, tx, hX, hM⟩ := h
  obtain ⟨p1, p2, p3, p4, p5, p6⟩ := hM.p
  have hm4 := hX.2.2.1.2.1
  have hN := hX.2.1.1.1
  have e13 : σX.1 13 0 = nI N := hX.2.1.2.1.1
  have e10 : σM.2.2.1 1 0 = nI N := by rw [p4]; exact hX.2.1.1.2.1
  have hw : wfP (σM.2.2.1 1) N := by rw [p4]; exact hX.2.1.1
  have hPI := hX.2.1
  have hA := hX.2.2.2.1
  have hR := hX.2.2.2.2
  exact ⟨_, ok_of hM (fun Rt => r1_mono (x_executed hPI hA hR) (fun w τ q => ⟨q.1, hX.af q.2⟩)) (fun Lf Rt => specD_r1 (r_executed hw) ⟨by rw [p4], rfl⟩)⟩
theorem sm_saving (h : LI σX σM) : SUD l G adX adM σX σM mX10_saving mX11_saving [.ref (adX 0)] [.ref (adM 0)] := by
  obtain ⟨t, m, tl, N, al, sv, tx, hX, hM⟩ := h
  obtain ⟨p1, p2, p3, p4, p5, p6⟩ := hM.p
  have hm4 := hX.2.2.1.2.1
  have hN := hX.2.1.1.1
  have e13 : σX.1 13 0 = nI N := hX.2.1.2.1.1
  have e10 : σM.2.2.1 1 0 = nI N := by rw [p4]; exact hX.2.1.1.2.1
  have hw : wfP (σM.2.2.1 1) N := by rw [p4]; exact hX.2.1.1
  have hPI := hX.2.1
  have hA := hX.2.2.2.1
  have hR := hX.2.2.2.2
  exact ok_of hM (fun Rt => r1_mono (x_saving hPI hA hR) (fun w τ q => ⟨q.1, hX.af q.2⟩)) (fun Lf Rt => r1_mono (r_saving hw) (fun v ρ q => ⟨⟨_, q.1⟩, q.2⟩))
theorem sm_digest (h : LI σX σM) : SUJ l G adX adM σX σM mX10_digest mX11_digest [.ref (adX 0)] [.ref (adM 0)] := by
  obtain ⟨t, m, tl, N, al, sv, tx, hX, hM⟩ := h
  obtain ⟨p1, p2, p3, p4, p5, p6⟩ := hM.p
  have hm4 := hX.2.2.1.2.1
  have hN := hX.2.1.1.1
  have e13 : σX.1 13 0 = nI N := hX.2.1.2.1.1
  have e10 : σM.2.2.1 1 0 = nI N := by rw [p4]; exact hX.2.1.1.2.1
  have hw : wfP (σM.2.2.1 1) N := by rw [p4]; exact hX.2.1.1
  have hPI := hX.2.1
  have hA := hX.2.2.2.1
  have hR := hX.2.2.2.2
  exact ok_of hM (fun Rt => r1_mono (x_digest hPI hA hR) (fun w τ q => ⟨q.1, hX.af q.2⟩)) (fun Lf Rt => r_digest hw)
theorem sm_openWith (hl : l.stackTraces = false) (h : LI σX σM) (x : Int32) (lo : Int32) (hi : Int32) : SE l G adX adM σX σM mX10_openWith mX11_openWith [.ref (adX 0), .int x, .int lo, .int hi] [.ref (adM 0), .int x, .int lo, .int hi] ∨ SemTh l G adX adM σX σM mX10_openWith mX11_openWith [.ref (adX 0), .int x, .int lo, .int hi] [.ref (adM 0), .int x, .int lo, .int hi] VI sIOB 1 ∨ SemTh l G adX adM σX σM mX10_openWith mX11_openWith [.ref (adX 0), .int x, .int lo, .int hi] [.ref (adM 0), .int x, .int lo, .int hi] VI sIAE 2 := by
  obtain ⟨t, m, tl, N, al, sv, tx, hX, hM⟩ := h
  obtain ⟨p1, p2, p3, p4, p5, p6⟩ := hM.p
  have hm4 := hX.2.2.1.2.1
  have hN := hX.2.1.1.1
  have e13 : σX.1 13 0 = nI N := hX.2.1.2.1.1
  have e10 : σM.2.2.1 1 0 = nI N := by rw [p4]; exact hX.2.1.1.2.1
  have hw : wfP (σM.2.2.1 1) N := by rw [p4]; exact hX.2.1.1
  have hPI := hX.2.1
  have hA := hX.2.2.2.1
  have hR := hX.2.2.2.2
  by_cases hv : 0 ≤ x ∧ x < 8
  · by_cases hlh : lo ≤ hi
    · obtain ⟨v, h1, rfl⟩ := xvar_of hv
      exact Or.inl ⟨_, ok_of hM (fun Rt => r1_mono (x_openWith hPI v h1 lo hi hlh) (fun w τ q => ⟨q.1, hX.trial (q.2.mono (by omega) (by omega))⟩)) (fun Lf Rt => specD_r1 (r_openWith_ok hw v h1 lo hi hlh) ⟨by rw [p4], rfl⟩)⟩
    · refine Or.inr (Or.inr (th_of (v := .int 0) hX hM ⟨0, rfl⟩ (fun Rt => x_openWith_t2 hl x lo hi hv hlh) (fun Lf Rt => ?_)))
      have := r_openWith_no (l := l) (G := G) (adr := adM) (Lf := Lf) (Rt := Rt) (σ := σM) x lo hi (fun q => hlh q.2)
      rw [decide_eq_true (xlt8_7.mp hv), decide_eq_false hlh] at this
      exact this
  · refine Or.inr (Or.inl (th_of (v := .int 0) hX hM ⟨0, rfl⟩ (fun Rt => x_openWith_t1 hl x lo hi hv) (fun Lf Rt => ?_)))
    have := r_openWith_no (l := l) (G := G) (adr := adM) (Lf := Lf) (Rt := Rt) (σ := σM) x lo hi (fun q => hv (xlt8_7.mpr q.1))
    rw [decide_eq_false (fun q => hv (xlt8_7.mpr q))] at this
    exact this
theorem sm_safePower (hl : l.stackTraces = false) (h : LI σX σM) (x : Int32) : SE l G adX adM σX σM mX10_safePower mX11_safePower [.ref (adX 0), .int x] [.ref (adM 0), .int x] ∨ SemTh l G adX adM σX σM mX10_safePower mX11_safePower [.ref (adX 0), .int x] [.ref (adM 0), .int x] VI sIOB 1 := by
  obtain ⟨t, m, tl, N, al, sv, tx, hX, hM⟩ := h
  obtain ⟨p1, p2, p3, p4, p5, p6⟩ := hM.p
  have hm4 := hX.2.2.1.2.1
  have hN := hX.2.1.1.1
  have e13 : σX.1 13 0 = nI N := hX.2.1.2.1.1
  have e10 : σM.2.2.1 1 0 = nI N := by rw [p4]; exact hX.2.1.1.2.1
  have hw : wfP (σM.2.2.1 1) N := by rw [p4]; exact hX.2.1.1
  have hPI := hX.2.1
  have hA := hX.2.2.2.1
  have hR := hX.2.2.2.2
  by_cases hv : 0 ≤ x ∧ x < 8
  · obtain ⟨v, h1, rfl⟩ := xvar_of hv
    have hm := fun Lf Rt => r_safePower_ok (l := l) (G := G) (adr := adM) (Lf := Lf) (Rt := Rt) (σ := σM) hw v h1
    rw [p4] at hm
    exact Or.inl ⟨_, ok_of hM (fun Rt => r1_mono (x_safePower hPI v h1) (fun w τ q => ⟨q.1, hX.trial (q.2.mono (by omega) (by omega))⟩)) hm⟩
  · exact Or.inr (th_of hX hM ⟨_, rfl⟩ (fun Rt => x_safePower_t1 hl x hv) (fun Lf Rt => r_safePower_no x (fun q => hv (xlt8_7.mpr q))))
theorem sm_failingInput (hl : l.stackTraces = false) (h : LI σX σM) (x : Int32) : SU l G adX adM σX σM mX10_failingInput mX11_failingInput [.ref (adX 0), .int x] [.ref (adM 0), .int x] ∨ SemTh l G adX adM σX σM mX10_failingInput mX11_failingInput [.ref (adX 0), .int x] [.ref (adM 0), .int x] VI sIOB 1 := by
  obtain ⟨t, m, tl, N, al, sv, tx, hX, hM⟩ := h
  obtain ⟨p1, p2, p3, p4, p5, p6⟩ := hM.p
  have hm4 := hX.2.2.1.2.1
  have hN := hX.2.1.1.1
  have e13 : σX.1 13 0 = nI N := hX.2.1.2.1.1
  have e10 : σM.2.2.1 1 0 = nI N := by rw [p4]; exact hX.2.1.1.2.1
  have hw : wfP (σM.2.2.1 1) N := by rw [p4]; exact hX.2.1.1
  have hPI := hX.2.1
  have hA := hX.2.2.2.1
  have hR := hX.2.2.2.2
  by_cases hv : 0 ≤ x ∧ x < 8
  · obtain ⟨v, h1, rfl⟩ := xvar_of hv
    exact Or.inl (ok_of hM (fun Rt => r1_mono (x_failG hPI v h1) (fun w τ q => by obtain ⟨r, q1, q2, -⟩ := q; exact ⟨⟨r, q1⟩, hX.trial q2⟩)) (fun Lf Rt => r1_mono (r_failingInput_ok hw v h1) (fun w ρ q => ⟨⟨_, q.1⟩, q.2⟩)))
  · exact Or.inr (th_of hX hM ⟨_, rfl⟩ (fun Rt => x_failingInput_t1 hl x hv) (fun Lf Rt => r_failingInput_no x (fun q => hv (xlt8_7.mpr q))))
end SM
