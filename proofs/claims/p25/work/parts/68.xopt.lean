/-! THE CLASS: Run.goOptimized returns; freshening; what reads them -/
section XO
variable {l : Launch} {G : cxG} {adr : Nat → Nat} {Lf Rt : va_W} {σ : St}
theorem go_1 {sz : Nat} {w0 : va_W} {fin : OC → Prop} {b p a q N : Nat} {al : Nat → Int32} (hb : LX.1[b]? = some (.inl 7)) (hp : LX.1[p]? = some (.inl 6)) (hq : LX.1[q]? = some (.inl 5)) (hpb : p + 7 ≤ b ∨ b + 5 ≤ p) (hN : N ≤ 30) (hR : PgR σ p al N)
    (kk : ∀ τ, RunI σ b a 8 τ → PW l G mX7_goOptimized w0 sz fin 46 [(0, .ref (adr b)), (1, .ref (adr p)), (2, .ref (adr a)), (3, .ref (adr q))] [] 0 0 (wp G adr LX Lf Rt τ)) :
    ∀ (r i : Nat), i + r = N → ∀ τ, RunI σ b a 8 τ → PW l G mX7_goOptimized w0 sz fin 8 [(0, .ref (adr b)), (1, .ref (adr p)), (2, .ref (adr a)), (3, .ref (adr q)), (4, .int (nI i))] [] 0 0 (wp G adr LX Lf Rt τ) := by
  intro r
  induction r with
  | zero =>
    intro i hi τ hI
    have hi : i = N := by omega
    subst hi
    have ecnt : τ.1 p 0 = nI i := (hR.fr hI.1 (by omega)).1
    refine pw_iload dX7_goOptimized_8 rfl ?_
    refine pw_aload_n dX7_goOptimized_10 rfl ?_
    refine lp_geti dX7_goOptimized_11 fp_RX7_40.FL hp rfl ?_
    refine pw_top (nI i) ecnt ?_
    refine pw_icmp_ge 46 dX7_goOptimized_14 (by decide) (fun c_14 => ?_) (fun c_14 => absurd (nI_le (Nat.le_refl i) (by omega)) c_14)
    exact pw_lk [(0, .ref (adr b)), (1, .ref (adr p)), (2, .ref (adr a)), (3, .ref (adr q))] ⟨rfl, rfl, rfl, rfl, trivial⟩ (kk τ hI)
  | succ r ih =>
    intro i hi τ hI
    have ecnt : τ.1 p 0 = nI N := (hR.fr hI.1 (by omega)).1
    have bi : vp_in (nI i) 30 := vp_in_nI (by omega) (by decide)
    obtain ⟨i1, i2, i3, i4, i5, i6⟩ := hI
    refine pw_iload dX7_goOptimized_8 rfl ?_
    refine pw_aload_n dX7_goOptimized_10 rfl ?_
    refine lp_geti dX7_goOptimized_11 fp_RX7_40.FL hp rfl ?_
    refine pw_top (nI N) ecnt ?_
    refine pw_icmp_ge 46 dX7_goOptimized_14 (by decide) (fun c_14 => absurd c_14 (nI_ge (by omega) (by omega))) (fun c_14 => ?_)
    refine pw_aload_n dX7_goOptimized_17 rfl ?_
    refine lp_getr (b + 4) dX7_goOptimized_18 fp_RX7_32.FL hb rfl (rX7_5 hb) ?_
    refine pw_iload dX7_goOptimized_21 rfl ?_
    refine pw_aload_n dX7_goOptimized_23 rfl ?_
    refine lp_getr (q + 1) dX7_goOptimized_24 fp_RX7_68.FL hq rfl (rX5_0 hq) ?_
    refine pw_iload dX7_goOptimized_27 rfl ?_
    refine lp_iald dX7_goOptimized_29 (kX5_0 hq) bi ?_
    refine pw_iconst (v := 4) dX7_goOptimized_30 rfl ?_
    refine pw_icmp_ne 38 dX7_goOptimized_31 (by decide) (fun c_31 => ?_) (fun c_31 => ?_)
    · refine pw_iconst (v := 0) dX7_goOptimized_38 rfl ?_
      refine lp_zast dX7_goOptimized_39 (kX7_5 hb) bi rfl ?_
      refine pw_iinc dX7_goOptimized_40 rfl (by decide) ?_
      refine pw_goto (tgt := 8) dX7_goOptimized_43 (by decide) ?_
      exact pw_lk [(0, .ref (adr b)), (1, .ref (adr p)), (2, .ref (adr a)), (3, .ref (adr q)), (4, .int (nI (i + 1)))] ⟨rfl, rfl, rfl, rfl, congrArg (fun x => some (Value.int x)) (nI_1 i), trivial⟩ (ih (i + 1) (by omega) _ ⟨Fr.A i1 (by omega) (by omega), i2, i3, i4, i5, i6⟩)
    · refine pw_iconst (v := 1) dX7_goOptimized_34 rfl ?_
      refine pw_goto (tgt := 39) dX7_goOptimized_35 (by decide) ?_
      refine lp_zast dX7_goOptimized_39 (kX7_5 hb) bi rfl ?_
      refine pw_iinc dX7_goOptimized_40 rfl (by decide) ?_
      refine pw_goto (tgt := 8) dX7_goOptimized_43 (by decide) ?_
      exact pw_lk [(0, .ref (adr b)), (1, .ref (adr p)), (2, .ref (adr a)), (3, .ref (adr q)), (4, .int (nI (i + 1)))] ⟨rfl, rfl, rfl, rfl, congrArg (fun x => some (Value.int x)) (nI_1 i), trivial⟩ (ih (i + 1) (by omega) _ ⟨Fr.A i1 (by omega) (by omega), i2, i3, i4, i5, i6⟩)
theorem go_2 {sz : Nat} {w0 : va_W} {fin : OC → Prop} {b p a q N : Nat} {al : Nat → Int32} {σ0 : St} (hb : LX.1[b]? = some (.inl 7)) (hp : LX.1[p]? = some (.inl 6)) (hq : LX.1[q]? = some (.inl 5)) (hpb : p + 7 ≤ b ∨ b + 5 ≤ p) (hqb : q + 4 ≤ b ∨ b + 5 ≤ q) (hW : wfP al N) (hR : PgR σ0 p al N) (hL : PlR σ0 q al N) (kk : ∀ ρ, Fr b (b + 5) σ0 ρ → fin (.inl (none, wp G adr LX Lf Rt ρ))) :
    ∀ (n : Nat) (s : WS) (c : Nat) (τ : St), WInv al N s → wmu al (cPt al N) N s < n → c + n ≤ 60000 → Fr b (b + 5) σ0 τ → CuR τ (b + 1) s →
      PW l G mX7_goOptimized w0 sz fin 49 [(0, .ref (adr b)), (1, .ref (adr p)), (2, .ref (adr a)), (3, .ref (adr q)), (4, .int (nI c))] [] 0 0 (wp G adr LX Lf Rt τ) := by
  intro n
  induction n with
  | zero => intro s c τ _ h; omega
  | succ n ih =>
    intro s c τ hI hmu hc hF hA
    have hN := hW.1
    have hxN := hI.1
    have hR1 : PgR τ p al N := hR.fr hF (by omega)
    have hL1 : PlR τ q al N := hL.fr hF (by omega)
    have e1M : (1000000 : Int32) = nI 1000000 := by decide
    have c10 : ¬ (1000000 : Int32) ≤ nI c := by rw [e1M]; exact nI_ge (by omega) (by decide)
    have eat : τ.1 (b + 1) 0 = nI s.1 := hA.1
    have hgo := x_isGoingOn (l := l) (G := G) (adr := adr) (Lf := Lf) (Rt := Rt) (σ := τ) hb hp
    by_cases hcond : τ.1 b 2 = -1 ∧ τ.1 (b + 1) 0 < τ.1 p 0
    · rw [decide_eq_true hcond] at hgo
      have hlt : s.1 < N := by
        have h := hcond.2
        rw [eat, hR1.1] at h
        exact (nI_ltI (by omega) (by omega)).mp h
      have hnx : WInv al N (wnext al (cPt al N) s) ∧ wmu al (cPt al N) N (wnext al (cPt al N) s) < wmu al (cPt al N) N s := wnext_ok (f0 := fun _ => -1) hW.2.2.1 hN hW.2.2.2.1 hI hlt
      obtain ⟨q1, q2, q3, q4, -, -⟩ := hR1.2 s.1 hlt
      have bs : vp_in (nI s.1) 30 := vp_in_nI (by omega) (by decide)
      have es : (nI s.1).toNatClampNeg = s.1 := nI_clamp (by omega)
      have hadv : ∀ ρ : St, Fr b (b + 5) σ0 ρ → CuR ρ (b + 1) s → PW l G mX7_goOptimized w0 sz fin 124 [(0, .ref (adr b)), (1, .ref (adr p)), (2, .ref (adr a)), (3, .ref (adr q)), (4, .int (nI c))] [] 0 0 (wp G adr LX Lf Rt ρ) := by
        intro ρ h1 h3
        have hR2 : PgR ρ p al N := hR.fr h1 (by omega)
        refine pw_aload_n dX7_goOptimized_124 rfl ?_
        refine lp_getr (b + 1) dX7_goOptimized_125 fp_RX7_12.FL hb rfl (rX7_0 hb) ?_
        refine pw_aload_n dX7_goOptimized_128 rfl ?_
        refine lp_rV0 (mi' := mX1_advance) (As := [_]) (q := (RX1, TX1, 2)) dX7_goOptimized_129 lk_RX7_64 mk_X1_advance mi_X1_advance me_X1_advance ⟨by decide, by decide⟩ rfl rfl (Nat.le_of_ble_eq_true rfl) (kX7_0 hb) rfl ⟨rfl, rfl⟩ ⟨Nat.zero_le _, Nat.zero_le _⟩ (x_advance (kX7_0 hb) hp (by omega) hW hR2 s hI hlt h3) (fun ρ2 hQ => ?_)
        refine pw_iinc dX7_goOptimized_132 rfl (by decide) ?_
        refine pw_goto (tgt := 49) dX7_goOptimized_135 (by decide) ?_
        exact pw_lk [(0, .ref (adr b)), (1, .ref (adr p)), (2, .ref (adr a)), (3, .ref (adr q)), (4, .int (nI (c + 1)))] ⟨rfl, rfl, rfl, rfl, congrArg (fun x => some (Value.int x)) (nI_1 c), trivial⟩ (ih (wnext al (cPt al N) s) (c + 1) ρ2 hnx.1 (by have := hnx.2; omega) (by omega) (h1.tr (hQ.1.mono (by omega) (by omega))) hQ.2)
      by_cases k4 : kdA al s.1 = 4
      · have hca := x_checkAhead (l := l) (G := G) (adr := adr) (Lf := Lf) (Rt := Rt) (σ := τ) hb hp hq hpb hqb hW hR1 hL1 hlt k4
        refine pw_iload dX7_goOptimized_49 rfl ?_
        refine pw_ldc dX7_goOptimized_51 kc_RX7_49 ?_
        refine pw_icmp_ge 138 dX7_goOptimized_53 (by decide) (fun c_53 => absurd c_53 c10) (fun c_53 => ?_)
        refine pw_aload_n dX7_goOptimized_56 rfl ?_
        refine pw_aload_n dX7_goOptimized_57 rfl ?_
        refine lp_cV1 (mi' := mX7_isGoingOn) (As := [_]) (q := (RX7, TX7, 6)) dX7_goOptimized_58 lk_RX7_50 mk_X7_isGoingOn mi_X7_isGoingOn me_X7_isGoingOn ⟨by decide, by decide⟩ rfl rfl (Nat.le_of_ble_eq_true rfl) hb rfl ⟨rfl, rfl⟩ ⟨Nat.zero_le _, Nat.zero_le _⟩ hgo ?_
        refine pw_if_eq 138 dX7_goOptimized_61 (by decide) (fun c_61 => absurd (show (1 : Int32) = 0 from c_61) (by decide)) (fun c_61 => ?_)
        refine pw_aload_n dX7_goOptimized_64 rfl ?_
        refine lp_getr (p + 1) dX7_goOptimized_65 fp_RX7_74.FL hp rfl (rX6_1 hp) ?_
        refine pw_aload_n dX7_goOptimized_68 rfl ?_
        refine lp_getr (b + 1) dX7_goOptimized_69 fp_RX7_12.FL hb rfl (rX7_0 hb) ?_
        refine lp_geti dX7_goOptimized_72 fp_RX7_54.FL (kX7_0 hb) rfl ?_
        refine pw_top (nI s.1) eat ?_
        refine lp_iald dX7_goOptimized_75 (kX6_1 hp) bs ?_
        refine pw_top 4 (by rw [es, q1]; exact k4) ?_
        refine pw_iconst (v := 4) dX7_goOptimized_76 rfl ?_
        refine pw_icmp_ne 96 dX7_goOptimized_77 (by decide) (fun c_77 => absurd c_77 (fun z => z rfl)) (fun c_77 => ?_)
        refine pw_aload_n dX7_goOptimized_80 rfl ?_
        refine pw_aload_n dX7_goOptimized_81 rfl ?_
        refine pw_aload_n dX7_goOptimized_82 rfl ?_
        refine pw_aload_n dX7_goOptimized_83 rfl ?_
        refine lp_getr (b + 1) dX7_goOptimized_84 fp_RX7_12.FL hb rfl (rX7_0 hb) ?_
        refine lp_geti dX7_goOptimized_87 fp_RX7_54.FL (kX7_0 hb) rfl ?_
        refine pw_top (nI s.1) eat ?_
        refine lp_rV0 (mi' := mX7_checkAhead) (As := [_, _, _]) (q := (RX7, TX7, 6)) dX7_goOptimized_90 lk_RX7_77 mk_X7_checkAhead mi_X7_checkAhead me_X7_checkAhead ⟨by decide, by decide⟩ rfl rfl (Nat.le_of_ble_eq_true rfl) hb rfl ⟨rfl, rfl⟩ ⟨Nat.zero_le _, Nat.zero_le _⟩ hca (fun ρ hE => ?_)
        refine pw_goto (tgt := 124) dX7_goOptimized_93 (by decide) ?_
        exact pw_lk [(0, .ref (adr b)), (1, .ref (adr p)), (2, .ref (adr a)), (3, .ref (adr q)), (4, .int (nI c))] ⟨rfl, rfl, rfl, rfl, rfl, trivial⟩ (hadv ρ (hF.tr hE.1) ⟨(congrFun hE.2.1 0).trans hA.1, fun j hj => (congrFun hE.2.2 j).trans (hA.2 j hj)⟩)
      · by_cases k5 : kdA al s.1 = 5
        · refine pw_iload dX7_goOptimized_49 rfl ?_
          refine pw_ldc dX7_goOptimized_51 kc_RX7_49 ?_
          refine pw_icmp_ge 138 dX7_goOptimized_53 (by decide) (fun c_53 => absurd c_53 c10) (fun c_53 => ?_)
          refine pw_aload_n dX7_goOptimized_56 rfl ?_
          refine pw_aload_n dX7_goOptimized_57 rfl ?_
          refine lp_cV1 (mi' := mX7_isGoingOn) (As := [_]) (q := (RX7, TX7, 6)) dX7_goOptimized_58 lk_RX7_50 mk_X7_isGoingOn mi_X7_isGoingOn me_X7_isGoingOn ⟨by decide, by decide⟩ rfl rfl (Nat.le_of_ble_eq_true rfl) hb rfl ⟨rfl, rfl⟩ ⟨Nat.zero_le _, Nat.zero_le _⟩ hgo ?_
          refine pw_if_eq 138 dX7_goOptimized_61 (by decide) (fun c_61 => absurd (show (1 : Int32) = 0 from c_61) (by decide)) (fun c_61 => ?_)
          refine pw_aload_n dX7_goOptimized_64 rfl ?_
          refine lp_getr (p + 1) dX7_goOptimized_65 fp_RX7_74.FL hp rfl (rX6_1 hp) ?_
          refine pw_aload_n dX7_goOptimized_68 rfl ?_
          refine lp_getr (b + 1) dX7_goOptimized_69 fp_RX7_12.FL hb rfl (rX7_0 hb) ?_
          refine lp_geti dX7_goOptimized_72 fp_RX7_54.FL (kX7_0 hb) rfl ?_
          refine pw_top (nI s.1) eat ?_
          refine lp_iald dX7_goOptimized_75 (kX6_1 hp) bs ?_
          refine pw_top (kdA al s.1) (by rw [es, q1]) ?_
          refine pw_iconst (v := 4) dX7_goOptimized_76 rfl ?_
          refine pw_icmp_ne 96 dX7_goOptimized_77 (by decide) (fun c_77 => ?_) (fun c_77 => absurd c_77 k4)
          refine pw_aload_n dX7_goOptimized_96 rfl ?_
          refine lp_getr (p + 1) dX7_goOptimized_97 fp_RX7_74.FL hp rfl (rX6_1 hp) ?_
          refine pw_aload_n dX7_goOptimized_100 rfl ?_
          refine lp_getr (b + 1) dX7_goOptimized_101 fp_RX7_12.FL hb rfl (rX7_0 hb) ?_
          refine lp_geti dX7_goOptimized_104 fp_RX7_54.FL (kX7_0 hb) rfl ?_
          refine pw_top (nI s.1) eat ?_
          refine lp_iald dX7_goOptimized_107 (kX6_1 hp) bs ?_
          refine pw_top (kdA al s.1) (by rw [es, q1]) ?_
          refine pw_iconst (v := 5) dX7_goOptimized_108 rfl ?_
          refine pw_icmp_eq 124 dX7_goOptimized_109 (by decide) (fun c_109 => ?_) (fun c_109 => absurd k5 c_109)
          exact pw_lk [(0, .ref (adr b)), (1, .ref (adr p)), (2, .ref (adr a)), (3, .ref (adr q)), (4, .int (nI c))] ⟨rfl, rfl, rfl, rfl, rfl, trivial⟩ (hadv τ hF hA)
        · have hl : ¬ 4 ≤ kdA al s.1 := fun h => ((kd_loop hW hlt).mp h).elim k4 k5
          obtain ⟨⟨w, hw, hres⟩, -, -⟩ := hW.2.2.2.2.1 s.1 hlt hl
          have hex := x_execR (l := l) (G := G) (adr := adr) (Lf := Lf) (Rt := Rt) (σ := τ) hb hp (by omega) (show s.1 < 30 by omega) hw (q2.trans hres)
          obtain ⟨f0, f1, f2⟩ := exRS_fr (σ := τ) (b := b) (i := s.1) (w := w) (E := cmV (τ.2.2.1 (p + 1) s.1) (vG (τ.2.2.2.1 (b + 3)) (τ.2.2.1 (p + 3) s.1)) (vG (τ.2.2.2.1 (b + 3)) (τ.2.2.1 (p + 4) s.1)))
          generalize exRS τ b s.1 w (cmV (τ.2.2.1 (p + 1) s.1) (vG (τ.2.2.2.1 (b + 3)) (τ.2.2.1 (p + 3) s.1)) (vG (τ.2.2.2.1 (b + 3)) (τ.2.2.1 (p + 4) s.1))) = ρ at hex f0 f1 f2
          refine pw_iload dX7_goOptimized_49 rfl ?_
          refine pw_ldc dX7_goOptimized_51 kc_RX7_49 ?_
          refine pw_icmp_ge 138 dX7_goOptimized_53 (by decide) (fun c_53 => absurd c_53 c10) (fun c_53 => ?_)
          refine pw_aload_n dX7_goOptimized_56 rfl ?_
          refine pw_aload_n dX7_goOptimized_57 rfl ?_
          refine lp_cV1 (mi' := mX7_isGoingOn) (As := [_]) (q := (RX7, TX7, 6)) dX7_goOptimized_58 lk_RX7_50 mk_X7_isGoingOn mi_X7_isGoingOn me_X7_isGoingOn ⟨by decide, by decide⟩ rfl rfl (Nat.le_of_ble_eq_true rfl) hb rfl ⟨rfl, rfl⟩ ⟨Nat.zero_le _, Nat.zero_le _⟩ hgo ?_
          refine pw_if_eq 138 dX7_goOptimized_61 (by decide) (fun c_61 => absurd (show (1 : Int32) = 0 from c_61) (by decide)) (fun c_61 => ?_)
          refine pw_aload_n dX7_goOptimized_64 rfl ?_
          refine lp_getr (p + 1) dX7_goOptimized_65 fp_RX7_74.FL hp rfl (rX6_1 hp) ?_
          refine pw_aload_n dX7_goOptimized_68 rfl ?_
          refine lp_getr (b + 1) dX7_goOptimized_69 fp_RX7_12.FL hb rfl (rX7_0 hb) ?_
          refine lp_geti dX7_goOptimized_72 fp_RX7_54.FL (kX7_0 hb) rfl ?_
          refine pw_top (nI s.1) eat ?_
          refine lp_iald dX7_goOptimized_75 (kX6_1 hp) bs ?_
          refine pw_top (kdA al s.1) (by rw [es, q1]) ?_
          refine pw_iconst (v := 4) dX7_goOptimized_76 rfl ?_
          refine pw_icmp_ne 96 dX7_goOptimized_77 (by decide) (fun c_77 => ?_) (fun c_77 => absurd c_77 k4)
          refine pw_aload_n dX7_goOptimized_96 rfl ?_
          refine lp_getr (p + 1) dX7_goOptimized_97 fp_RX7_74.FL hp rfl (rX6_1 hp) ?_
          refine pw_aload_n dX7_goOptimized_100 rfl ?_
          refine lp_getr (b + 1) dX7_goOptimized_101 fp_RX7_12.FL hb rfl (rX7_0 hb) ?_
          refine lp_geti dX7_goOptimized_104 fp_RX7_54.FL (kX7_0 hb) rfl ?_
          refine pw_top (nI s.1) eat ?_
          refine lp_iald dX7_goOptimized_107 (kX6_1 hp) bs ?_
          refine pw_top (kdA al s.1) (by rw [es, q1]) ?_
          refine pw_iconst (v := 5) dX7_goOptimized_108 rfl ?_
          refine pw_icmp_eq 124 dX7_goOptimized_109 (by decide) (fun c_109 => absurd c_109 k5) (fun c_109 => ?_)
          refine pw_aload_n dX7_goOptimized_112 rfl ?_
          refine pw_aload_n dX7_goOptimized_113 rfl ?_
          refine pw_aload_n dX7_goOptimized_114 rfl ?_
          refine lp_getr (b + 1) dX7_goOptimized_115 fp_RX7_12.FL hb rfl (rX7_0 hb) ?_
          refine lp_geti dX7_goOptimized_118 fp_RX7_54.FL (kX7_0 hb) rfl ?_
          refine pw_top (nI s.1) eat ?_
          refine lp_cV0 (mi' := mX7_execute) (As := [_, _]) (q := (RX7, TX7, 6)) dX7_goOptimized_121 lk_RX7_60 mk_X7_execute mi_X7_execute me_X7_execute ⟨by decide, by decide⟩ rfl rfl (Nat.le_of_ble_eq_true rfl) hb rfl ⟨rfl, rfl⟩ ⟨Nat.zero_le _, Nat.zero_le _⟩ hex ?_
          exact pw_lk [(0, .ref (adr b)), (1, .ref (adr p)), (2, .ref (adr a)), (3, .ref (adr q)), (4, .int (nI c))] ⟨rfl, rfl, rfl, rfl, rfl, trivial⟩ (hadv ρ (hF.tr f0) ⟨(congrFun f1 0).trans hA.1, fun j hj => (congrFun (congrFun f2 (b + 1 + 1)) j).trans (hA.2 j hj)⟩)
    · rw [decide_eq_false hcond] at hgo
      refine pw_iload dX7_goOptimized_49 rfl ?_
      refine pw_ldc dX7_goOptimized_51 kc_RX7_49 ?_
      refine pw_icmp_ge 138 dX7_goOptimized_53 (by decide) (fun c_53 => absurd c_53 c10) (fun c_53 => ?_)
      refine pw_aload_n dX7_goOptimized_56 rfl ?_
      refine pw_aload_n dX7_goOptimized_57 rfl ?_
      refine lp_cV1 (mi' := mX7_isGoingOn) (As := [_]) (q := (RX7, TX7, 6)) dX7_goOptimized_58 lk_RX7_50 mk_X7_isGoingOn mi_X7_isGoingOn me_X7_isGoingOn ⟨by decide, by decide⟩ rfl rfl (Nat.le_of_ble_eq_true rfl) hb rfl ⟨rfl, rfl⟩ ⟨Nat.zero_le _, Nat.zero_le _⟩ hgo ?_
      refine pw_if_eq 138 dX7_goOptimized_61 (by decide) (fun c_61 => ?_) (fun c_61 => absurd rfl c_61)
      exact pw_vret rfl dX7_goOptimized_138 (Nat.zero_le _) (Nat.zero_le _) (kk τ hF)
theorem x_goOpt {b p a q N : Nat} {al : Nat → Int32} (hb : LX.1[b]? = some (.inl 7)) (hp : LX.1[p]? = some (.inl 6)) (ha : LX.1[a]? = some (.inl 3)) (hq : LX.1[q]? = some (.inl 5)) (hpb : p + 7 ≤ b ∨ b + 5 ≤ p) (hab : a + 4 ≤ b ∨ b + 5 ≤ a) (hqb : q + 4 ≤ b ∨ b + 5 ≤ q) (hW : wfP al N) (hR : PgR σ p al N) (hL : PlR σ q al N) : SpR0 l G mX7_goOptimized [.ref (adr b), .ref (adr p), .ref (adr a), .ref (adr q)] adr LX Lf Rt σ (fun τ => Fr b (b + 5) σ τ) := by
  refine spec_of (by decide) (Nat.le_of_ble_eq_true rfl) (fun sz => ?_)
  have hN := hW.1
  refine pw_aload_n dX7_goOptimized_0 rfl ?_
  refine pw_aload_n dX7_goOptimized_1 rfl ?_
  refine lp_rV0 (mi' := mX7_begin) (As := [_]) (q := (RX7, TX7, 6)) dX7_goOptimized_2 lk_RX7_36 mk_X7_begin mi_X7_begin me_X7_begin ⟨by decide, by decide⟩ rfl rfl (Nat.le_of_ble_eq_true rfl) hb rfl ⟨rfl, rfl⟩ ⟨Nat.zero_le _, Nat.zero_le _⟩ (x_beginR hb ha hab) (fun τ hQ => ?_)
  refine pw_iconst (v := 0) dX7_goOptimized_5 rfl ?_
  refine pw_istore dX7_goOptimized_6 (by decide) ?_
  refine pw_lk [(0, .ref (adr b)), (1, .ref (adr p)), (2, .ref (adr a)), (3, .ref (adr q)), (4, .int (nI 0))] ⟨rfl, rfl, rfl, rfl, rfl, trivial⟩ (go_1 (σ := σ) (al := al) hb hp hq hpb hN hR ?_ N 0 (by omega) τ hQ)
  intro ρ hI
  refine pw_iconst (v := 0) dX7_goOptimized_46 rfl ?_
  refine pw_istore dX7_goOptimized_47 (by decide) ?_
  exact pw_lk [(0, .ref (adr b)), (1, .ref (adr p)), (2, .ref (adr a)), (3, .ref (adr q)), (4, .int (nI 0))] ⟨rfl, rfl, rfl, rfl, rfl, trivial⟩ (go_2 (σ0 := σ) hb hp hq hpb hqb hW hR hL (fun ρ2 h => ⟨ρ2, rfl, h⟩) (1600 * N + 1) (0, 0, fun _ => 0) 0 ρ ⟨Nat.zero_le _, rfl, fun q => absurd q (Nat.lt_irrefl 0), fun q => absurd q (show ¬ (0 : Nat) = 2 by decide)⟩ wmu0 (by omega) hI.1 ⟨hI.2.1, fun j hj => absurd hj (Nat.not_lt_zero j)⟩)
end XO
