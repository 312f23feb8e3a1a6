/-! THE CLASS: the plain run -/
/-- the inputs' values at a are al's -/
def InV (σ : St) (a : Nat) (al : Nat → Int32) : Prop := ∀ v, v < 8 → σ.2.2.1 (a + 3) v = al (121 + 3 * v + 2)
def CkR (σ : St) (b : Nat) (al : Nat → Int32) (n : Nat) : Prop := ∀ i, i < n → σ.2.2.1 (b + 4) i = bI (chkB (kdA al i))
theorem rStep_f {al pt inr stt : Nat → Int32} {x : AR} : rStep al pt inr stt false x = (wnext al pt x.1, (rMid al stt false x).2) := by
  unfold rStep rPre
  rw [if_neg (fun z => absurd z.2 (by decide))]
theorem rMid_1 {al stt : Nat → Int32} {opt : Bool} {x : AR} : (rMid al stt opt x).1 = x.1 := by
  unfold rMid
  split
  · rfl
  · split <;> rfl
section XPL
variable {l : Launch} {G : cxG} {adr : Nat → Nat} {Lf Rt : va_W} {σ : St}
theorem gp_1 {sz : Nat} {w0 : va_W} {fin : OC → Prop} {b p a N : Nat} {al : Nat → Int32} (hb : LX.1[b]? = some (.inl 7)) (hp : LX.1[p]? = some (.inl 6)) (hpb : p + 7 ≤ b ∨ b + 5 ≤ p) (hN : N ≤ 30) (hR : PgR σ p al N)
    (kk : ∀ τ, RunI σ b a 8 τ → CkR τ b al N → PW l G mX7_goPlain w0 sz fin 32 [(0, .ref (adr b)), (1, .ref (adr p)), (2, .ref (adr a))] [] 0 0 (wp G adr LX Lf Rt τ)) :
    ∀ (r i : Nat), i + r = N → ∀ τ, RunI σ b a 8 τ → CkR τ b al i → PW l G mX7_goPlain w0 sz fin 7 [(0, .ref (adr b)), (1, .ref (adr p)), (2, .ref (adr a)), (3, .int (nI i))] [] 0 0 (wp G adr LX Lf Rt τ) := by
  intro r
  induction r with
  | zero =>
    intro i hi τ hI hC
    have hi : i = N := by omega
    subst hi
    have ecnt : τ.1 p 0 = nI i := (hR.fr hI.1 (by omega)).1
    refine pw_iload_n dX7_goPlain_7 rfl ?_
    refine pw_aload_n dX7_goPlain_8 rfl ?_
    refine lp_geti dX7_goPlain_9 fp_RX7_40.FL hp rfl ?_
    refine pw_top (nI i) ecnt ?_
    refine pw_icmp_ge 32 dX7_goPlain_12 (by decide) (fun c_12 => ?_) (fun c_12 => absurd (nI_le (Nat.le_refl i) (by omega)) c_12)
    exact pw_lk [(0, .ref (adr b)), (1, .ref (adr p)), (2, .ref (adr a))] ⟨rfl, rfl, rfl, trivial⟩ (kk τ hI hC)
  | succ r ih =>
    intro i hi τ hI hC
    have hR1 := hR.fr hI.1 (by omega : p + 7 ≤ b ∨ b + 5 ≤ p)
    have ecnt : τ.1 p 0 = nI N := hR1.1
    have bi : vp_in (nI i) 30 := vp_in_nI (by omega) (by decide)
    have ei : (nI i).toNatClampNeg = i := nI_clamp (by omega)
    have hck := x_hasCheck (l := l) (G := G) (adr := adr) (Lf := Lf) (Rt := Rt) (σ := τ) hp i (by omega)
    rw [(hR1.2 i (by omega)).1] at hck
    obtain ⟨i1, i2, i3, i4, i5, i6⟩ := hI
    refine pw_iload_n dX7_goPlain_7 rfl ?_
    refine pw_aload_n dX7_goPlain_8 rfl ?_
    refine lp_geti dX7_goPlain_9 fp_RX7_40.FL hp rfl ?_
    refine pw_top (nI N) ecnt ?_
    refine pw_icmp_ge 32 dX7_goPlain_12 (by decide) (fun c_12 => absurd c_12 (nI_ge (by omega) (by omega))) (fun c_12 => ?_)
    refine pw_aload_n dX7_goPlain_15 rfl ?_
    refine lp_getr (b + 4) dX7_goPlain_16 fp_RX7_32.FL hb rfl (rX7_5 hb) ?_
    refine pw_iload_n dX7_goPlain_19 rfl ?_
    refine pw_aload_n dX7_goPlain_20 rfl ?_
    refine pw_iload_n dX7_goPlain_21 rfl ?_
    refine lp_cV1 (mi' := mX6_hasCheck) (As := [_]) (q := (RX6, TX6, 7)) dX7_goPlain_22 lk_RX7_45 mk_X6_hasCheck mi_X6_hasCheck me_X6_hasCheck ⟨by decide, by decide⟩ rfl rfl (Nat.le_of_ble_eq_true rfl) hp rfl ⟨rfl, rfl⟩ ⟨Nat.zero_le _, Nat.zero_le _⟩ hck ?_
    refine lp_zast dX7_goPlain_25 (kX7_5 hb) bi bI_vnar ?_
    rw [ei]
    refine pw_iinc dX7_goPlain_26 rfl (by decide) ?_
    refine pw_goto (tgt := 7) dX7_goPlain_29 (by decide) ?_
    refine pw_lk [(0, .ref (adr b)), (1, .ref (adr p)), (2, .ref (adr a)), (3, .int (nI (i + 1)))] ⟨rfl, rfl, rfl, congrArg (fun x => some (Value.int x)) (nI_1 i), trivial⟩ (ih (i + 1) (by omega) _ ⟨Fr.A i1 (by omega) (by omega), i2, i3, i4, i5, i6⟩ ?_)
    intro j hj
    rw [gA]
    unfold upd
    by_cases e : j = i
    · rw [if_pos e, e]
    · rw [if_neg e]; exact hC j (by omega)
theorem gp_2 {sz : Nat} {w0 : va_W} {fin : OC → Prop} {b p a N : Nat} {al : Nat → Int32} {σ0 : St} (hb : LX.1[b]? = some (.inl 7)) (hp : LX.1[p]? = some (.inl 6)) (hpb : p + 7 ≤ b ∨ b + 5 ≤ p) (hW : wfP al N) (hR : PgR σ0 p al N) :
    ∀ (n : Nat) (x : AR) (c : Nat) (τ : St), WInv al N x.1 → wmu al (cPt al N) N x.1 < n → c + n ≤ 60000 → Fr b (b + 5) σ0 τ → CkR τ b al N → RunR τ b x →
      (∀ ρ, Fr b (b + 5) σ0 ρ → RunR ρ b (rIter al (cPt al N) (fun _ => 0) (fun _ => 0) false N n x) → fin (.inl (none, wp G adr LX Lf Rt ρ))) →
      PW l G mX7_goPlain w0 sz fin 34 [(0, .ref (adr b)), (1, .ref (adr p)), (2, .ref (adr a)), (3, .int (nI c))] [] 0 0 (wp G adr LX Lf Rt τ) := by
  intro n
  induction n with
  | zero => intro x c τ _ h; omega
  | succ n ih =>
    intro x c τ hI hmu hc hF hC hA kk
    have hN := hW.1
    have hxN := hI.1
    have hR1 : PgR τ p al N := hR.fr hF (by omega)
    have e1M : (1000000 : Int32) = nI 1000000 := by decide
    have c10 : ¬ (1000000 : Int32) ≤ nI c := by rw [e1M]; exact nI_ge (by omega) (by decide)
    have eat : τ.1 (b + 1) 0 = nI x.1.1 := hA.1.1
    have hgo := x_isGoingOn (l := l) (G := G) (adr := adr) (Lf := Lf) (Rt := Rt) (σ := τ) hb hp
    have hiff : (τ.1 b 2 = -1 ∧ τ.1 (b + 1) 0 < τ.1 p 0) ↔ (x.1.1 < N ∧ x.2.2.1 = -1) := by
      rw [hA.2.2.1, eat, hR1.1, nI_ltI (by omega) (by omega)]
      exact And.comm
    rw [decide_eq_decide.mpr hiff] at hgo
    unfold rIter at kk
    by_cases hcond : x.1.1 < N ∧ x.2.2.1 = -1
    · rw [if_pos hcond, rStep_f] at kk
      rw [decide_eq_true hcond] at hgo
      obtain ⟨hlt, hfl⟩ := hcond
      have hnx : WInv al N (wnext al (cPt al N) x.1) ∧ wmu al (cPt al N) N (wnext al (cPt al N) x.1) < wmu al (cPt al N) N x.1 := wnext_ok (f0 := fun _ => -1) hW.2.2.1 hN hW.2.2.2.1 hI hlt
      have hed := x_isEdge (l := l) (G := G) (adr := adr) (Lf := Lf) (Rt := Rt) (σ := τ) hp x.1.1 (by omega)
      rw [(hR1.2 x.1.1 hlt).1, kd_edge hW hlt] at hed
      have hadv : ∀ ρ : St, Fr b (b + 5) σ0 ρ → CkR ρ b al N → CuR ρ (b + 1) x.1 → RunR ρ b (rMid al (fun _ => 0) false x) → PW l G mX7_goPlain w0 sz fin 74 [(0, .ref (adr b)), (1, .ref (adr p)), (2, .ref (adr a)), (3, .int (nI c))] [] 0 0 (wp G adr LX Lf Rt ρ) := by
        intro ρ h1 h2 h3 h4
        have hR2 : PgR ρ p al N := hR.fr h1 (by omega)
        obtain ⟨-, d1, d2, d3, d4⟩ := h4
        refine pw_aload_n dX7_goPlain_74 rfl ?_
        refine lp_getr (b + 1) dX7_goPlain_75 fp_RX7_12.FL hb rfl (rX7_0 hb) ?_
        refine pw_aload_n dX7_goPlain_78 rfl ?_
        refine lp_rV0 (mi' := mX1_advance) (As := [_]) (q := (RX1, TX1, 2)) dX7_goPlain_79 lk_RX7_64 mk_X1_advance mi_X1_advance me_X1_advance ⟨by decide, by decide⟩ rfl rfl (Nat.le_of_ble_eq_true rfl) (kX7_0 hb) rfl ⟨rfl, rfl⟩ ⟨Nat.zero_le _, Nat.zero_le _⟩ (x_advance (kX7_0 hb) hp (by omega) hW hR2 x.1 hI hlt h3) (fun ρ2 hQ => ?_)
        refine pw_iinc dX7_goPlain_82 rfl (by decide) ?_
        refine pw_goto (tgt := 34) dX7_goPlain_85 (by decide) ?_
        refine pw_lk [(0, .ref (adr b)), (1, .ref (adr p)), (2, .ref (adr a)), (3, .int (nI (c + 1)))] ⟨rfl, rfl, rfl, congrArg (fun x => some (Value.int x)) (nI_1 c), trivial⟩ (ih (wnext al (cPt al N) x.1, (rMid al (fun _ => 0) false x).2) (c + 1) ρ2 hnx.1 (by have := hnx.2; show wmu _ _ _ (wnext _ _ _) < n; omega) (by omega) (h1.tr (hQ.1.mono (by omega) (by omega))) (fun i hi => (congrFun (hQ.1 (b + 4) (by omega)).2.2.1 i).trans (h2 i hi)) ⟨hQ.2, ?_⟩ kk)
        exact ⟨fun v hv => (congrFun (hQ.1 (b + 3) (by omega)).2.2.2.1 v).trans (d1 v hv), (congrFun (hQ.1 b (by omega)).1 2).trans d2, (congrFun (hQ.1 b (by omega)).1 3).trans d3, (congrFun (hQ.1 b (by omega)).1 4).trans d4⟩
      by_cases hl : 4 ≤ kdA al x.1.1
      · rw [decide_eq_true hl] at hed
        have e1 : rMid al (fun _ => 0) false x = x := by unfold rMid; rw [if_pos hl]
        rw [e1] at hadv
        refine pw_iload_n dX7_goPlain_34 rfl ?_
        refine pw_ldc dX7_goPlain_35 kc_RX7_49 ?_
        refine pw_icmp_ge 88 dX7_goPlain_37 (by decide) (fun c_37 => absurd c_37 c10) (fun c_37 => ?_)
        refine pw_aload_n dX7_goPlain_40 rfl ?_
        refine pw_aload_n dX7_goPlain_41 rfl ?_
        refine lp_cV1 (mi' := mX7_isGoingOn) (As := [_]) (q := (RX7, TX7, 6)) dX7_goPlain_42 lk_RX7_50 mk_X7_isGoingOn mi_X7_isGoingOn me_X7_isGoingOn ⟨by decide, by decide⟩ rfl rfl (Nat.le_of_ble_eq_true rfl) hb rfl ⟨rfl, rfl⟩ ⟨Nat.zero_le _, Nat.zero_le _⟩ hgo ?_
        refine pw_if_eq 88 dX7_goPlain_45 (by decide) (fun c_45 => absurd (show (1 : Int32) = 0 from c_45) (by decide)) (fun c_45 => ?_)
        refine pw_aload_n dX7_goPlain_48 rfl ?_
        refine pw_aload_n dX7_goPlain_49 rfl ?_
        refine lp_getr (b + 1) dX7_goPlain_50 fp_RX7_12.FL hb rfl (rX7_0 hb) ?_
        refine lp_geti dX7_goPlain_53 fp_RX7_54.FL (kX7_0 hb) rfl ?_
        refine pw_top (nI x.1.1) eat ?_
        refine lp_cV1 (mi' := mX6_isLoopEdge) (As := [_]) (q := (RX6, TX6, 7)) dX7_goPlain_56 lk_RX7_57 mk_X6_isLoopEdge mi_X6_isLoopEdge me_X6_isLoopEdge ⟨by decide, by decide⟩ rfl rfl (Nat.le_of_ble_eq_true rfl) hp rfl ⟨rfl, rfl⟩ ⟨Nat.zero_le _, Nat.zero_le _⟩ hed ?_
        refine pw_if_ne 74 dX7_goPlain_59 (by decide) (fun c_59 => ?_) (fun c_59 => absurd c_59 (by decide))
        exact pw_lk [(0, .ref (adr b)), (1, .ref (adr p)), (2, .ref (adr a)), (3, .int (nI c))] ⟨rfl, rfl, rfl, rfl, trivial⟩ (hadv τ hF hC hA.1 hA)
      · rw [decide_eq_false hl] at hed
        obtain ⟨⟨w, hw, hres⟩, -, -⟩ := hW.2.2.2.2.1 x.1.1 hlt hl
        have etw : tN (al (1 + 4 * x.1.1 + 1)) = w := by rw [hres]; exact nI_clamp (by omega)
        obtain ⟨q1, q2, q3, q4, -, -⟩ := hR1.2 x.1.1 hlt
        have hex := x_execR (l := l) (G := G) (adr := adr) (Lf := Lf) (Rt := Rt) (σ := τ) hb hp (by omega) (show x.1.1 < 30 by omega) hw (q2.trans hres)
        rw [q1, q3, q4, exV_cm hW hlt hl hA.2.1] at hex
        have hst := run_step (p := p) hW hlt hl hA (hC x.1.1 hlt) hfl etw
        obtain ⟨f0, f1, f2⟩ := exRS_fr (σ := τ) (b := b) (i := x.1.1) (w := w) (E := exV al x.2.1 x.1.1)
        refine pw_iload_n dX7_goPlain_34 rfl ?_
        refine pw_ldc dX7_goPlain_35 kc_RX7_49 ?_
        refine pw_icmp_ge 88 dX7_goPlain_37 (by decide) (fun c_37 => absurd c_37 c10) (fun c_37 => ?_)
        refine pw_aload_n dX7_goPlain_40 rfl ?_
        refine pw_aload_n dX7_goPlain_41 rfl ?_
        refine lp_cV1 (mi' := mX7_isGoingOn) (As := [_]) (q := (RX7, TX7, 6)) dX7_goPlain_42 lk_RX7_50 mk_X7_isGoingOn mi_X7_isGoingOn me_X7_isGoingOn ⟨by decide, by decide⟩ rfl rfl (Nat.le_of_ble_eq_true rfl) hb rfl ⟨rfl, rfl⟩ ⟨Nat.zero_le _, Nat.zero_le _⟩ hgo ?_
        refine pw_if_eq 88 dX7_goPlain_45 (by decide) (fun c_45 => absurd (show (1 : Int32) = 0 from c_45) (by decide)) (fun c_45 => ?_)
        refine pw_aload_n dX7_goPlain_48 rfl ?_
        refine pw_aload_n dX7_goPlain_49 rfl ?_
        refine lp_getr (b + 1) dX7_goPlain_50 fp_RX7_12.FL hb rfl (rX7_0 hb) ?_
        refine lp_geti dX7_goPlain_53 fp_RX7_54.FL (kX7_0 hb) rfl ?_
        refine pw_top (nI x.1.1) eat ?_
        refine lp_cV1 (mi' := mX6_isLoopEdge) (As := [_]) (q := (RX6, TX6, 7)) dX7_goPlain_56 lk_RX7_57 mk_X6_isLoopEdge mi_X6_isLoopEdge me_X6_isLoopEdge ⟨by decide, by decide⟩ rfl rfl (Nat.le_of_ble_eq_true rfl) hp rfl ⟨rfl, rfl⟩ ⟨Nat.zero_le _, Nat.zero_le _⟩ hed ?_
        refine pw_if_ne 74 dX7_goPlain_59 (by decide) (fun c_59 => absurd c_59 (fun z => z rfl)) (fun c_59 => ?_)
        refine pw_aload_n dX7_goPlain_62 rfl ?_
        refine pw_aload_n dX7_goPlain_63 rfl ?_
        refine pw_aload_n dX7_goPlain_64 rfl ?_
        refine lp_getr (b + 1) dX7_goPlain_65 fp_RX7_12.FL hb rfl (rX7_0 hb) ?_
        refine lp_geti dX7_goPlain_68 fp_RX7_54.FL (kX7_0 hb) rfl ?_
        refine pw_top (nI x.1.1) eat ?_
        refine lp_cV0 (mi' := mX7_execute) (As := [_, _]) (q := (RX7, TX7, 6)) dX7_goPlain_71 lk_RX7_60 mk_X7_execute mi_X7_execute me_X7_execute ⟨by decide, by decide⟩ rfl rfl (Nat.le_of_ble_eq_true rfl) hb rfl ⟨rfl, rfl⟩ ⟨Nat.zero_le _, Nat.zero_le _⟩ hex ?_
        exact pw_lk [(0, .ref (adr b)), (1, .ref (adr p)), (2, .ref (adr a)), (3, .int (nI c))] ⟨rfl, rfl, rfl, rfl, trivial⟩ (hadv _ (hF.tr f0) (fun i hi => (congrFun (congrFun f2 (b + 4)) i).trans (hC i hi)) hst.1 hst.2)
    · rw [if_neg hcond] at kk
      rw [decide_eq_false hcond] at hgo
      refine pw_iload_n dX7_goPlain_34 rfl ?_
      refine pw_ldc dX7_goPlain_35 kc_RX7_49 ?_
      refine pw_icmp_ge 88 dX7_goPlain_37 (by decide) (fun c_37 => absurd c_37 c10) (fun c_37 => ?_)
      refine pw_aload_n dX7_goPlain_40 rfl ?_
      refine pw_aload_n dX7_goPlain_41 rfl ?_
      refine lp_cV1 (mi' := mX7_isGoingOn) (As := [_]) (q := (RX7, TX7, 6)) dX7_goPlain_42 lk_RX7_50 mk_X7_isGoingOn mi_X7_isGoingOn me_X7_isGoingOn ⟨by decide, by decide⟩ rfl rfl (Nat.le_of_ble_eq_true rfl) hb rfl ⟨rfl, rfl⟩ ⟨Nat.zero_le _, Nat.zero_le _⟩ hgo ?_
      refine pw_if_eq 88 dX7_goPlain_45 (by decide) (fun c_45 => ?_) (fun c_45 => absurd rfl c_45)
      exact pw_vret rfl dX7_goPlain_88 (Nat.zero_le _) (Nat.zero_le _) (kk τ hF hA)
theorem x_goPlain {b p a N : Nat} {al : Nat → Int32} (hb : LX.1[b]? = some (.inl 7)) (hp : LX.1[p]? = some (.inl 6)) (ha : LX.1[a]? = some (.inl 3)) (hpb : p + 7 ≤ b ∨ b + 5 ≤ p) (hab : a + 4 ≤ b ∨ b + 5 ≤ a) (hW : wfP al N) (hR : PgR σ p al N) (hV : InV σ a al) : SpR0 l G mX7_goPlain [.ref (adr b), .ref (adr p), .ref (adr a)] adr LX Lf Rt σ (fun τ => Fr b (b + 5) σ τ ∧ RunR τ b (cRun al N)) := by
  refine spec_of (by decide) (Nat.le_of_ble_eq_true rfl) (fun sz => ?_)
  have hN := hW.1
  refine pw_aload_n dX7_goPlain_0 rfl ?_
  refine pw_aload_n dX7_goPlain_1 rfl ?_
  refine lp_rV0 (mi' := mX7_begin) (As := [_]) (q := (RX7, TX7, 6)) dX7_goPlain_2 lk_RX7_36 mk_X7_begin mi_X7_begin me_X7_begin ⟨by decide, by decide⟩ rfl rfl (Nat.le_of_ble_eq_true rfl) hb rfl ⟨rfl, rfl⟩ ⟨Nat.zero_le _, Nat.zero_le _⟩ (x_beginR hb ha hab) (fun τ hQ => ?_)
  refine pw_iconst (v := 0) dX7_goPlain_5 rfl ?_
  refine pw_istore_n dX7_goPlain_6 (by decide) ?_
  refine pw_lk [(0, .ref (adr b)), (1, .ref (adr p)), (2, .ref (adr a)), (3, .int (nI 0))] ⟨rfl, rfl, rfl, rfl, trivial⟩ (gp_1 (σ := σ) (al := al) hb hp hpb hN hR ?_ N 0 (by omega) τ hQ (fun i hi => absurd hi (Nat.not_lt_zero i)))
  intro ρ hI hC
  refine pw_iconst (v := 0) dX7_goPlain_32 rfl ?_
  refine pw_istore_n dX7_goPlain_33 (by decide) ?_
  refine pw_lk [(0, .ref (adr b)), (1, .ref (adr p)), (2, .ref (adr a)), (3, .int (nI 0))] ⟨rfl, rfl, rfl, rfl, trivial⟩ (gp_2 (σ0 := σ) hb hp hpb hW hR (1600 * N + 1) ((0, 0, fun _ => 0), inV al, -1, 0, 0, fun _ => 0) 0 ρ ⟨Nat.zero_le _, rfl, fun q => absurd q (Nat.lt_irrefl 0), fun q => absurd q (show ¬ (0 : Nat) = 2 by decide)⟩ wmu0 (by omega) hI.1 hC ⟨⟨hI.2.1, fun j hj => absurd hj (Nat.not_lt_zero j)⟩, ?_, hI.2.2.1, hI.2.2.2.1, hI.2.2.2.2.1⟩ (fun ρ2 h1 h2 => ⟨ρ2, rfl, h1, h2⟩))
  intro v hv
  rw [hI.2.2.2.2.2 v hv, hV v hv]
  rfl
end XPL
