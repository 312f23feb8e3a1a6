/-! THE CLASS: runs -/
def vG (v : Nat → Int64) (x : Int32) : Int64 := if 0 ≤ x ∧ x < 8 then v (tN x) else (x - 20000).toInt64
def cmV (k : Int32) (p q : Int64) : Int64 := if k = 1 then p + q else if k = 2 then p - q else if k = 3 then p * q else p
theorem vG_ok {v v' : Nat → Int64} {x : Int32} (h : ∀ j, j < 8 → v j = v' j) (hx : okOp x) : vG v x = vOf v' x := by
  unfold vG vOf
  by_cases h8 : x < 8
  · obtain ⟨h1, h2⟩ := (okVar hx).1 h8
    rw [if_pos h1, if_pos h8]
    rcases hx with ⟨w, w1, w2⟩ | h2
    · rw [w2, show tN (nI w) = w from nI_clamp (by omega)]; exact h w w1
    · exact absurd h8 h2
  · rw [if_neg ((okVar hx).2 h8), if_neg h8]
theorem exV_cm {al : Nat → Int32} {N i : Nat} {v v' : Nat → Int64} (hW : wfP al N) (hi : i < N) (hl : ¬ 4 ≤ kdA al i) (h : ∀ j, j < 8 → v j = v' j) : cmV (kdA al i) (vG v (al (1 + 4 * i + 2))) (vG v (al (1 + 4 * i + 3))) = exV al v' i := by
  obtain ⟨-, g2, g3⟩ := hW.2.2.2.2.1 i hi hl
  rw [vG_ok h g2]
  unfold exV cmV
  rcases kd03 hW hi hl with k | k | k | k
  · rw [k]; simp +decide only [if_true, if_false, Int64.add_zero]
  · rw [vG_ok h (g3 (by rw [k]; decide)), k]; simp +decide only [if_true, if_false]
  · rw [vG_ok h (g3 (by rw [k]; decide)), k]; simp +decide only [if_true, if_false]
  · rw [vG_ok h (g3 (by rw [k]; decide)), k]; simp +decide only [if_true, if_false]
/-- what a step of a run does with the object at b -/
def exRS (σ : St) (b i w : Nat) (E : Int64) : St :=
  if σ.2.2.1 (b + 4) i = 0 then sI (sL σ (b + 3) (vp_updL (σ.2.2.2.1 (b + 3)) w E)) b 4 (σ.1 b 4 + 1)
  else if isI E = true then sI (sL (sI σ b 3 (σ.1 b 3 + 1)) (b + 3) (vp_updL (σ.2.2.2.1 (b + 3)) w E)) b 4 (σ.1 b 4 + 1)
  else sI (sI σ b 3 (σ.1 b 3 + 1)) b 2 (nI i)
theorem exRS_fr {σ : St} {b i w : Nat} {E : Int64} : Fr b (b + 5) σ (exRS σ b i w E) ∧ (exRS σ b i w E).1 (b + 1) = σ.1 (b + 1) ∧ (exRS σ b i w E).2.2.1 = σ.2.2.1 := by
  unfold exRS
  split
  · refine ⟨?_, ?_, rfl⟩
    · refine Fr.I (Fr.L Fr.rf ?_ ?_) ?_ ?_ <;> omega
    · funext q; rw [gI' (by omega)]; rfl
  · split
    · refine ⟨?_, ?_, rfl⟩
      · refine Fr.I (Fr.L (Fr.I Fr.rf ?_ ?_) ?_ ?_) ?_ ?_ <;> omega
      · funext q; rw [gI' (by omega)]; simp only [L1]; rw [gI' (by omega)]
    · refine ⟨?_, ?_, rfl⟩
      · refine Fr.I (Fr.I Fr.rf ?_ ?_) ?_ ?_ <;> omega
      · funext q; rw [gI' (by omega), gI' (by omega)]
section XR
variable {l : Launch} {G : cxG} {adr : Nat → Nat} {Lf Rt : va_W} {σ : St}
theorem var_vp {x : Int32} (h : 0 ≤ x ∧ x < 8) : vp_in x 8 := by
  obtain ⟨j, h1, h2⟩ := nI_of2 (x := x) (M := 7) (n := 7) (by decide) (Int32.not_lt.mpr h.1) (by
    have := Int32.lt_iff_toInt_lt.mp h.2
    rw [Int32.le_iff_toInt_le]
    have e8 : (8 : Int32).toInt = 8 := by decide
    have e7 : (7 : Int32).toInt = 7 := by decide
    omega)
  rw [h2]; exact vp_in_nI (by omega) (by decide)
theorem x_valueOf {b : Nat} (hb : LX.1[b]? = some (.inl 7)) (x : Int32) : SpecD l G mX7_valueOf [.ref (adr b), .int x] (wp G adr LX Lf Rt σ) (some (.long (vG (σ.2.2.2.1 (b + 3)) x))) (wp G adr LX Lf Rt σ) := by
  refine spec_of (by decide) (Nat.le_of_ble_eq_true rfl) (fun sz => ?_)
  unfold vG
  by_cases h : 0 ≤ x ∧ x < 8
  · rw [if_pos h]
    have h2 := var_vp h
    refine pw_iload_n dX7_valueOf_0 rfl ?_
    refine lp_cS1 (mi' := mX10_isVariable) (As := [_]) dX7_valueOf_1 lk_RX7_117 mk_X10_isVariable ms_X10_isVariable ⟨by decide, by decide⟩ rfl rfl (Nat.le_of_ble_eq_true rfl) ⟨rfl, rfl⟩ ⟨Nat.zero_le _, Nat.zero_le _⟩ (x_isVar x _) ?_
    rw [decide_eq_true h]
    refine pw_if_eq 16 dX7_valueOf_4 (by decide) (fun c_4 => absurd (show (1 : Int32) = 0 from c_4) (by decide)) (fun c_4 => ?_)
    refine pw_aload_n dX7_valueOf_7 rfl ?_
    refine lp_getr (b + 3) dX7_valueOf_8 fp_RX7_18.FL hb rfl (rX7_1 hb) ?_
    refine pw_iload_n dX7_valueOf_11 rfl ?_
    refine lp_lald dX7_valueOf_12 (kX7_1 hb) h2 ?_
    refine pw_goto (tgt := 22) dX7_valueOf_13 (by decide) ?_
    exact pw_lret rfl dX7_valueOf_22 (Nat.zero_le _) (Nat.zero_le _) rfl
  · rw [if_neg h]
    refine pw_iload_n dX7_valueOf_0 rfl ?_
    refine lp_cS1 (mi' := mX10_isVariable) (As := [_]) dX7_valueOf_1 lk_RX7_117 mk_X10_isVariable ms_X10_isVariable ⟨by decide, by decide⟩ rfl rfl (Nat.le_of_ble_eq_true rfl) ⟨rfl, rfl⟩ ⟨Nat.zero_le _, Nat.zero_le _⟩ (x_isVar x _) ?_
    rw [decide_eq_false h]
    refine pw_if_eq 16 dX7_valueOf_4 (by decide) (fun c_4 => ?_) (fun c_4 => absurd rfl c_4)
    refine pw_iload_n dX7_valueOf_16 rfl ?_
    refine pw_sipush (v := 20000) dX7_valueOf_17 rfl ?_
    refine pw_isub dX7_valueOf_20 ?_
    refine pw_i2l dX7_valueOf_21 ?_
    exact pw_lret rfl dX7_valueOf_22 (Nat.zero_le _) (Nat.zero_le _) rfl
theorem x_computeR {b : Nat} (hb : LX.1[b]? = some (.inl 7)) (k f s : Int32) : SpecD l G mX7_compute [.ref (adr b), .int k, .int f, .int s] (wp G adr LX Lf Rt σ) (some (.long (cmV k (vG (σ.2.2.2.1 (b + 3)) f) (vG (σ.2.2.2.1 (b + 3)) s)))) (wp G adr LX Lf Rt σ) := by
  refine spec_of (by decide) (Nat.le_of_ble_eq_true rfl) (fun sz => ?_)
  unfold cmV
  by_cases k1 : k = 1
  · rw [if_pos k1]
    refine pw_aload_n dX7_compute_0 rfl ?_
    refine pw_iload_n dX7_compute_1 rfl ?_
    refine lp_cV1 (mi' := mX7_valueOf) (As := [_]) (q := (RX7, TX7, 6)) dX7_compute_2 lk_RX7_99 mk_X7_valueOf mi_X7_valueOf me_X7_valueOf ⟨by decide, by decide⟩ rfl rfl (Nat.le_of_ble_eq_true rfl) hb rfl ⟨rfl, rfl⟩ ⟨Nat.zero_le _, Nat.zero_le _⟩ (x_valueOf hb f) ?_
    refine pw_lstore dX7_compute_5 (by decide) ?_
    refine pw_iload_n dX7_compute_7 rfl ?_
    refine pw_iconst (v := 1) dX7_compute_8 rfl ?_
    refine pw_icmp_ne 21 dX7_compute_9 (by decide) (fun c_9 => absurd c_9 (fun z => z k1)) (fun c_9 => ?_)
    refine pw_lload dX7_compute_12 rfl ?_
    refine pw_aload_n dX7_compute_14 rfl ?_
    refine pw_iload_n dX7_compute_15 rfl ?_
    refine lp_cV1 (mi' := mX7_valueOf) (As := [_]) (q := (RX7, TX7, 6)) dX7_compute_16 lk_RX7_99 mk_X7_valueOf mi_X7_valueOf me_X7_valueOf ⟨by decide, by decide⟩ rfl rfl (Nat.le_of_ble_eq_true rfl) hb rfl ⟨rfl, rfl⟩ ⟨Nat.zero_le _, Nat.zero_le _⟩ (x_valueOf hb s) ?_
    refine pw_ladd dX7_compute_19 ?_
    exact pw_lret rfl dX7_compute_20 (Nat.zero_le _) (Nat.zero_le _) rfl
  · rw [if_neg k1]
    by_cases k2 : k = 2
    · rw [if_pos k2]
      refine pw_aload_n dX7_compute_0 rfl ?_
      refine pw_iload_n dX7_compute_1 rfl ?_
      refine lp_cV1 (mi' := mX7_valueOf) (As := [_]) (q := (RX7, TX7, 6)) dX7_compute_2 lk_RX7_99 mk_X7_valueOf mi_X7_valueOf me_X7_valueOf ⟨by decide, by decide⟩ rfl rfl (Nat.le_of_ble_eq_true rfl) hb rfl ⟨rfl, rfl⟩ ⟨Nat.zero_le _, Nat.zero_le _⟩ (x_valueOf hb f) ?_
      refine pw_lstore dX7_compute_5 (by decide) ?_
      refine pw_iload_n dX7_compute_7 rfl ?_
      refine pw_iconst (v := 1) dX7_compute_8 rfl ?_
      refine pw_icmp_ne 21 dX7_compute_9 (by decide) (fun c_9 => ?_) (fun c_9 => absurd c_9 k1)
      refine pw_iload_n dX7_compute_21 rfl ?_
      refine pw_iconst (v := 2) dX7_compute_22 rfl ?_
      refine pw_icmp_ne 35 dX7_compute_23 (by decide) (fun c_23 => absurd c_23 (fun z => z k2)) (fun c_23 => ?_)
      refine pw_lload dX7_compute_26 rfl ?_
      refine pw_aload_n dX7_compute_28 rfl ?_
      refine pw_iload_n dX7_compute_29 rfl ?_
      refine lp_cV1 (mi' := mX7_valueOf) (As := [_]) (q := (RX7, TX7, 6)) dX7_compute_30 lk_RX7_99 mk_X7_valueOf mi_X7_valueOf me_X7_valueOf ⟨by decide, by decide⟩ rfl rfl (Nat.le_of_ble_eq_true rfl) hb rfl ⟨rfl, rfl⟩ ⟨Nat.zero_le _, Nat.zero_le _⟩ (x_valueOf hb s) ?_
      refine pw_lsub dX7_compute_33 ?_
      exact pw_lret rfl dX7_compute_34 (Nat.zero_le _) (Nat.zero_le _) rfl
    · rw [if_neg k2]
      by_cases k3 : k = 3
      · rw [if_pos k3]
        refine pw_aload_n dX7_compute_0 rfl ?_
        refine pw_iload_n dX7_compute_1 rfl ?_
        refine lp_cV1 (mi' := mX7_valueOf) (As := [_]) (q := (RX7, TX7, 6)) dX7_compute_2 lk_RX7_99 mk_X7_valueOf mi_X7_valueOf me_X7_valueOf ⟨by decide, by decide⟩ rfl rfl (Nat.le_of_ble_eq_true rfl) hb rfl ⟨rfl, rfl⟩ ⟨Nat.zero_le _, Nat.zero_le _⟩ (x_valueOf hb f) ?_
        refine pw_lstore dX7_compute_5 (by decide) ?_
        refine pw_iload_n dX7_compute_7 rfl ?_
        refine pw_iconst (v := 1) dX7_compute_8 rfl ?_
        refine pw_icmp_ne 21 dX7_compute_9 (by decide) (fun c_9 => ?_) (fun c_9 => absurd c_9 k1)
        refine pw_iload_n dX7_compute_21 rfl ?_
        refine pw_iconst (v := 2) dX7_compute_22 rfl ?_
        refine pw_icmp_ne 35 dX7_compute_23 (by decide) (fun c_23 => ?_) (fun c_23 => absurd c_23 k2)
        refine pw_iload_n dX7_compute_35 rfl ?_
        refine pw_iconst (v := 3) dX7_compute_36 rfl ?_
        refine pw_icmp_ne 51 dX7_compute_37 (by decide) (fun c_37 => absurd c_37 (fun z => z k3)) (fun c_37 => ?_)
        refine pw_lload dX7_compute_40 rfl ?_
        refine pw_aload_n dX7_compute_42 rfl ?_
        refine pw_iload_n dX7_compute_43 rfl ?_
        refine lp_cV1 (mi' := mX7_valueOf) (As := [_]) (q := (RX7, TX7, 6)) dX7_compute_44 lk_RX7_99 mk_X7_valueOf mi_X7_valueOf me_X7_valueOf ⟨by decide, by decide⟩ rfl rfl (Nat.le_of_ble_eq_true rfl) hb rfl ⟨rfl, rfl⟩ ⟨Nat.zero_le _, Nat.zero_le _⟩ (x_valueOf hb s) ?_
        refine pw_lmul dX7_compute_47 ?_
        refine pw_goto (tgt := 53) dX7_compute_48 (by decide) ?_
        exact pw_lret rfl dX7_compute_53 (Nat.zero_le _) (Nat.zero_le _) rfl
      · rw [if_neg k3]
        refine pw_aload_n dX7_compute_0 rfl ?_
        refine pw_iload_n dX7_compute_1 rfl ?_
        refine lp_cV1 (mi' := mX7_valueOf) (As := [_]) (q := (RX7, TX7, 6)) dX7_compute_2 lk_RX7_99 mk_X7_valueOf mi_X7_valueOf me_X7_valueOf ⟨by decide, by decide⟩ rfl rfl (Nat.le_of_ble_eq_true rfl) hb rfl ⟨rfl, rfl⟩ ⟨Nat.zero_le _, Nat.zero_le _⟩ (x_valueOf hb f) ?_
        refine pw_lstore dX7_compute_5 (by decide) ?_
        refine pw_iload_n dX7_compute_7 rfl ?_
        refine pw_iconst (v := 1) dX7_compute_8 rfl ?_
        refine pw_icmp_ne 21 dX7_compute_9 (by decide) (fun c_9 => ?_) (fun c_9 => absurd c_9 k1)
        refine pw_iload_n dX7_compute_21 rfl ?_
        refine pw_iconst (v := 2) dX7_compute_22 rfl ?_
        refine pw_icmp_ne 35 dX7_compute_23 (by decide) (fun c_23 => ?_) (fun c_23 => absurd c_23 k2)
        refine pw_iload_n dX7_compute_35 rfl ?_
        refine pw_iconst (v := 3) dX7_compute_36 rfl ?_
        refine pw_icmp_ne 51 dX7_compute_37 (by decide) (fun c_37 => ?_) (fun c_37 => absurd c_37 k3)
        refine pw_lload dX7_compute_51 rfl ?_
        exact pw_lret rfl dX7_compute_53 (Nat.zero_le _) (Nat.zero_le _) rfl
theorem x_execR {b p i w : Nat} (hb : LX.1[b]? = some (.inl 7)) (hp : LX.1[p]? = some (.inl 6)) (hpb : p + 7 ≤ b ∨ b + 5 ≤ p) (hi : i < 30) (hw : w < 8) (ht : σ.2.2.1 (p + 2) i = nI w) : SpecD l G mX7_execute [.ref (adr b), .ref (adr p), .int (nI i)] (wp G adr LX Lf Rt σ) none (wp G adr LX Lf Rt (exRS σ b i w (cmV (σ.2.2.1 (p + 1) i) (vG (σ.2.2.2.1 (b + 3)) (σ.2.2.1 (p + 3) i)) (vG (σ.2.2.2.1 (b + 3)) (σ.2.2.1 (p + 4) i))))) := by
  refine spec_of (by decide) (Nat.le_of_ble_eq_true rfl) (fun sz => ?_)
  have bi : vp_in (nI i) 30 := vp_in_nI hi (by decide)
  have bw : vp_in (nI w) 8 := vp_in_nI hw (by decide)
  have ei : (nI i).toNatClampNeg = i := nI_clamp (by omega)
  have ew : (nI w).toNatClampNeg = w := nI_clamp (by omega)
  have hcm := x_computeR (l := l) (G := G) (adr := adr) (Lf := Lf) (Rt := Rt) (σ := σ) hb (σ.2.2.1 (p + 1) i) (σ.2.2.1 (p + 3) i) (σ.2.2.1 (p + 4) i)
  generalize cmV (σ.2.2.1 (p + 1) i) (vG (σ.2.2.2.1 (b + 3)) (σ.2.2.1 (p + 3) i)) (vG (σ.2.2.2.1 (b + 3)) (σ.2.2.1 (p + 4) i)) = E at hcm
  unfold exRS
  by_cases h0 : σ.2.2.1 (b + 4) i = 0
  · rw [if_pos h0]
    refine pw_aload_n dX7_execute_0 rfl ?_
    refine pw_aload_n dX7_execute_1 rfl ?_
    refine lp_getr (p + 1) dX7_execute_2 fp_RX7_74.FL hp rfl (rX6_1 hp) ?_
    refine pw_iload_n dX7_execute_5 rfl ?_
    refine lp_iald dX7_execute_6 (kX6_1 hp) bi ?_
    rw [ei]
    refine pw_aload_n dX7_execute_7 rfl ?_
    refine lp_getr (p + 3) dX7_execute_8 fp_RX7_107.FL hp rfl (rX6_3 hp) ?_
    refine pw_iload_n dX7_execute_11 rfl ?_
    refine lp_iald dX7_execute_12 (kX6_3 hp) bi ?_
    rw [ei]
    refine pw_aload_n dX7_execute_13 rfl ?_
    refine lp_getr (p + 4) dX7_execute_14 fp_RX7_110.FL hp rfl (rX6_4 hp) ?_
    refine pw_iload_n dX7_execute_17 rfl ?_
    refine lp_iald dX7_execute_18 (kX6_4 hp) bi ?_
    rw [ei]
    refine lp_cV1 (mi' := mX7_compute) (As := [_, _, _]) (q := (RX7, TX7, 6)) dX7_execute_19 lk_RX7_113 mk_X7_compute mi_X7_compute me_X7_compute ⟨by decide, by decide⟩ rfl rfl (Nat.le_of_ble_eq_true rfl) hb rfl ⟨rfl, rfl⟩ ⟨Nat.zero_le _, Nat.zero_le _⟩ hcm ?_
    refine pw_lstore_n dX7_execute_22 (by decide) ?_
    refine pw_aload_n dX7_execute_23 rfl ?_
    refine lp_getr (b + 4) dX7_execute_24 fp_RX7_32.FL hb rfl (rX7_5 hb) ?_
    refine pw_iload_n dX7_execute_27 rfl ?_
    refine lp_zald dX7_execute_28 (kX7_5 hb) bi ?_
    rw [ei]
    refine pw_if_eq 55 dX7_execute_29 (by decide) (fun c_29 => ?_) (fun c_29 => absurd h0 c_29)
    refine pw_aload_n dX7_execute_55 rfl ?_
    refine lp_getr (b + 3) dX7_execute_56 fp_RX7_18.FL hb rfl (rX7_1 hb) ?_
    refine pw_aload_n dX7_execute_59 rfl ?_
    refine lp_getr (p + 2) dX7_execute_60 fp_RX7_86.FL hp rfl (rX6_2 hp) ?_
    refine pw_iload_n dX7_execute_63 rfl ?_
    refine lp_iald dX7_execute_64 (kX6_2 hp) bi ?_
    refine pw_top (nI w) (by rw [ei]; exact ht) ?_
    refine pw_lload_n dX7_execute_65 rfl ?_
    refine lp_last dX7_execute_66 (kX7_1 hb) bw ?_
    rw [ew]
    refine pw_aload_n dX7_execute_67 rfl ?_
    refine pw_dup dX7_execute_68 rfl ?_
    refine lp_geti dX7_execute_69 fp_RX7_29.FL hb rfl ?_
    refine pw_iconst (v := 1) dX7_execute_72 rfl ?_
    refine pw_iadd dX7_execute_73 ?_
    refine lp_puti dX7_execute_74 fp_RX7_29 hb rfl rfl rfl ?_
    exact pw_vret rfl dX7_execute_77 (Nat.zero_le _) (Nat.zero_le _) rfl
  · rw [if_neg h0]
    by_cases hE : isI E = true
    · rw [if_pos hE]
      refine pw_aload_n dX7_execute_0 rfl ?_
      refine pw_aload_n dX7_execute_1 rfl ?_
      refine lp_getr (p + 1) dX7_execute_2 fp_RX7_74.FL hp rfl (rX6_1 hp) ?_
      refine pw_iload_n dX7_execute_5 rfl ?_
      refine lp_iald dX7_execute_6 (kX6_1 hp) bi ?_
      rw [ei]
      refine pw_aload_n dX7_execute_7 rfl ?_
      refine lp_getr (p + 3) dX7_execute_8 fp_RX7_107.FL hp rfl (rX6_3 hp) ?_
      refine pw_iload_n dX7_execute_11 rfl ?_
      refine lp_iald dX7_execute_12 (kX6_3 hp) bi ?_
      rw [ei]
      refine pw_aload_n dX7_execute_13 rfl ?_
      refine lp_getr (p + 4) dX7_execute_14 fp_RX7_110.FL hp rfl (rX6_4 hp) ?_
      refine pw_iload_n dX7_execute_17 rfl ?_
      refine lp_iald dX7_execute_18 (kX6_4 hp) bi ?_
      rw [ei]
      refine lp_cV1 (mi' := mX7_compute) (As := [_, _, _]) (q := (RX7, TX7, 6)) dX7_execute_19 lk_RX7_113 mk_X7_compute mi_X7_compute me_X7_compute ⟨by decide, by decide⟩ rfl rfl (Nat.le_of_ble_eq_true rfl) hb rfl ⟨rfl, rfl⟩ ⟨Nat.zero_le _, Nat.zero_le _⟩ hcm ?_
      refine pw_lstore_n dX7_execute_22 (by decide) ?_
      refine pw_aload_n dX7_execute_23 rfl ?_
      refine lp_getr (b + 4) dX7_execute_24 fp_RX7_32.FL hb rfl (rX7_5 hb) ?_
      refine pw_iload_n dX7_execute_27 rfl ?_
      refine lp_zald dX7_execute_28 (kX7_5 hb) bi ?_
      rw [ei]
      refine pw_if_eq 55 dX7_execute_29 (by decide) (fun c_29 => absurd c_29 h0) (fun c_29 => ?_)
      refine pw_aload_n dX7_execute_32 rfl ?_
      refine pw_dup dX7_execute_33 rfl ?_
      refine lp_geti dX7_execute_34 fp_RX7_26.FL hb rfl ?_
      refine pw_iconst (v := 1) dX7_execute_37 rfl ?_
      refine pw_iadd dX7_execute_38 ?_
      refine lp_puti dX7_execute_39 fp_RX7_26 hb rfl rfl rfl ?_
      refine pw_lload_n dX7_execute_42 rfl ?_
      refine lp_cS1 (mi' := mX10_isInt) (As := [_]) dX7_execute_43 lk_RX7_103 mk_X10_isInt ms_X10_isInt ⟨by decide, by decide⟩ rfl rfl (Nat.le_of_ble_eq_true rfl) ⟨rfl, rfl⟩ ⟨Nat.zero_le _, Nat.zero_le _⟩ (x_isInt _ _) ?_
      rw [hE]
      refine pw_if_ne 55 dX7_execute_46 (by decide) (fun c_46 => ?_) (fun c_46 => absurd c_46 (by decide))
      refine pw_aload_n dX7_execute_55 rfl ?_
      refine lp_getr (b + 3) dX7_execute_56 fp_RX7_18.FL hb rfl (rX7_1 hb) ?_
      refine pw_aload_n dX7_execute_59 rfl ?_
      refine lp_getr (p + 2) dX7_execute_60 fp_RX7_86.FL hp rfl (rX6_2 hp) ?_
      refine pw_iload_n dX7_execute_63 rfl ?_
      refine lp_iald dX7_execute_64 (kX6_2 hp) bi ?_
      refine pw_top (nI w) (by rw [ei]; exact ht) ?_
      refine pw_lload_n dX7_execute_65 rfl ?_
      refine lp_last dX7_execute_66 (kX7_1 hb) bw ?_
      rw [ew]
      refine pw_aload_n dX7_execute_67 rfl ?_
      refine pw_dup dX7_execute_68 rfl ?_
      refine lp_geti dX7_execute_69 fp_RX7_29.FL hb rfl ?_
      refine pw_top (σ.1 b 4) (by simp only [L1]; rw [gI' (by omega)]) ?_
      refine pw_iconst (v := 1) dX7_execute_72 rfl ?_
      refine pw_iadd dX7_execute_73 ?_
      refine lp_puti dX7_execute_74 fp_RX7_29 hb rfl rfl rfl ?_
      exact pw_vret rfl dX7_execute_77 (Nat.zero_le _) (Nat.zero_le _) rfl
    · rw [if_neg hE]
      have hE : isI E = false := by
        cases h : isI E
        · rfl
        · exact absurd h hE
      refine pw_aload_n dX7_execute_0 rfl ?_
      refine pw_aload_n dX7_execute_1 rfl ?_
      refine lp_getr (p + 1) dX7_execute_2 fp_RX7_74.FL hp rfl (rX6_1 hp) ?_
      refine pw_iload_n dX7_execute_5 rfl ?_
      refine lp_iald dX7_execute_6 (kX6_1 hp) bi ?_
      rw [ei]
      refine pw_aload_n dX7_execute_7 rfl ?_
      refine lp_getr (p + 3) dX7_execute_8 fp_RX7_107.FL hp rfl (rX6_3 hp) ?_
      refine pw_iload_n dX7_execute_11 rfl ?_
      refine lp_iald dX7_execute_12 (kX6_3 hp) bi ?_
      rw [ei]
      refine pw_aload_n dX7_execute_13 rfl ?_
      refine lp_getr (p + 4) dX7_execute_14 fp_RX7_110.FL hp rfl (rX6_4 hp) ?_
      refine pw_iload_n dX7_execute_17 rfl ?_
      refine lp_iald dX7_execute_18 (kX6_4 hp) bi ?_
      rw [ei]
      refine lp_cV1 (mi' := mX7_compute) (As := [_, _, _]) (q := (RX7, TX7, 6)) dX7_execute_19 lk_RX7_113 mk_X7_compute mi_X7_compute me_X7_compute ⟨by decide, by decide⟩ rfl rfl (Nat.le_of_ble_eq_true rfl) hb rfl ⟨rfl, rfl⟩ ⟨Nat.zero_le _, Nat.zero_le _⟩ hcm ?_
      refine pw_lstore_n dX7_execute_22 (by decide) ?_
      refine pw_aload_n dX7_execute_23 rfl ?_
      refine lp_getr (b + 4) dX7_execute_24 fp_RX7_32.FL hb rfl (rX7_5 hb) ?_
      refine pw_iload_n dX7_execute_27 rfl ?_
      refine lp_zald dX7_execute_28 (kX7_5 hb) bi ?_
      rw [ei]
      refine pw_if_eq 55 dX7_execute_29 (by decide) (fun c_29 => absurd c_29 h0) (fun c_29 => ?_)
      refine pw_aload_n dX7_execute_32 rfl ?_
      refine pw_dup dX7_execute_33 rfl ?_
      refine lp_geti dX7_execute_34 fp_RX7_26.FL hb rfl ?_
      refine pw_iconst (v := 1) dX7_execute_37 rfl ?_
      refine pw_iadd dX7_execute_38 ?_
      refine lp_puti dX7_execute_39 fp_RX7_26 hb rfl rfl rfl ?_
      refine pw_lload_n dX7_execute_42 rfl ?_
      refine lp_cS1 (mi' := mX10_isInt) (As := [_]) dX7_execute_43 lk_RX7_103 mk_X10_isInt ms_X10_isInt ⟨by decide, by decide⟩ rfl rfl (Nat.le_of_ble_eq_true rfl) ⟨rfl, rfl⟩ ⟨Nat.zero_le _, Nat.zero_le _⟩ (x_isInt _ _) ?_
      rw [hE]
      refine pw_if_ne 55 dX7_execute_46 (by decide) (fun c_46 => absurd c_46 (fun z => z rfl)) (fun c_46 => ?_)
      refine pw_aload_n dX7_execute_49 rfl ?_
      refine pw_iload_n dX7_execute_50 rfl ?_
      refine lp_puti dX7_execute_51 fp_RX7_22 hb rfl rfl rfl ?_
      exact pw_vret rfl dX7_execute_54 (Nat.zero_le _) (Nat.zero_le _) rfl
/-- what the run at b holds -/
def RunR (σ : St) (b : Nat) (x : AR) : Prop := CuR σ (b + 1) x.1 ∧ (∀ v, v < 8 → σ.2.2.2.1 (b + 3) v = x.2.1 v) ∧ σ.1 b 2 = x.2.2.1 ∧ σ.1 b 3 = x.2.2.2.1 ∧ σ.1 b 4 = x.2.2.2.2.1
theorem RunR.fr {lo hi b : Nat} {σ τ : St} {x : AR} (h : RunR σ b x) (hF : Fr lo hi σ τ) (hd : b + 5 ≤ lo ∨ hi ≤ b) : RunR τ b x := by
  obtain ⟨h0, h1, h2, h3, h4⟩ := h
  exact ⟨h0.fr hF (by omega), fun v hv => (congrFun (hF (b + 3) (by omega)).2.2.2.1 v).trans (h1 v hv), (congrFun (hF b (by omega)).1 2).trans h2, (congrFun (hF b (by omega)).1 3).trans h3, (congrFun (hF b (by omega)).1 4).trans h4⟩
theorem run_step {al : Nat → Int32} {N b p : Nat} {σ : St} {x : AR} {w : Nat} (hW : wfP al N) (hx : x.1.1 < N) (hl : ¬ 4 ≤ kdA al x.1.1) (hA : RunR σ b x) (hck : σ.2.2.1 (b + 4) x.1.1 = bI (chkB (kdA al x.1.1))) (hfl : x.2.2.1 = -1) (hw : tN (al (1 + 4 * x.1.1 + 1)) = w) : CuR (exRS σ b x.1.1 w (exV al x.2.1 x.1.1)) (b + 1) x.1 ∧ RunR (exRS σ b x.1.1 w (exV al x.2.1 x.1.1)) b (rMid al (fun _ => 0) false x) := by
  obtain ⟨s, v, fl, ck, ex, fr⟩ := x
  obtain ⟨h0, h1, h2, h3, h4⟩ := hA
  obtain ⟨-, f1, f2⟩ := exRS_fr (σ := σ) (b := b) (i := s.1) (w := w) (E := exV al v s.1)
  dsimp only at hx hl hck hfl hw h0 h1 h2 h3 h4 f1 f2 ⊢
  have hc : CuR (exRS σ b s.1 w (exV al v s.1)) (b + 1) s := ⟨(congrFun f1 0).trans h0.1, fun j hj => (congrFun (congrFun f2 (b + 1 + 1)) j).trans (h0.2 j hj)⟩
  refine ⟨hc, ?_⟩
  unfold rMid
  dsimp only
  rw [if_neg hl, chkd_f]
  unfold exRS at hc ⊢
  by_cases k0 : kdA al s.1 = 0
  · have hck : σ.2.2.1 (b + 4) s.1 = 0 := by rw [hck, k0]; rfl
    rw [if_pos hck] at hc ⊢
    rw [decide_eq_true k0, if_neg (fun z => absurd z.1 (by decide)), hw]
    refine ⟨hc, fun u hu => ?_, ?_, ?_, ?_⟩
    · show (sL σ (b + 3) _).2.2.2.1 (b + 3) u = _
      rw [gL]
      dsimp only
      unfold vp_updL
      by_cases e : u = w
      · rw [if_pos e, if_pos e]
      · rw [if_neg e, if_neg e]; exact h1 u hu
    · rw [gI' (by omega)]; exact h2
    · rw [gI' (by omega)]; exact h3.trans (Int32.add_zero _).symm
    · rw [gI, h4]
  · have hck : ¬ σ.2.2.1 (b + 4) s.1 = 0 := by
      rw [hck]
      rcases kd03 hW hx hl with k | k | k | k
      · exact absurd k k0
      · rw [k]; decide
      · rw [k]; decide
      · rw [k]; decide
    rw [if_neg hck] at hc ⊢
    rw [decide_eq_false k0]
    by_cases hE : isI (exV al v s.1) = true
    · rw [if_pos hE] at hc ⊢
      rw [if_neg (fun z => absurd (z.2.symm.trans hE) (by decide)), hw]
      refine ⟨hc, fun u hu => ?_, ?_, ?_, ?_⟩
      · show (sL _ (b + 3) _).2.2.2.1 (b + 3) u = _
        rw [gL]
        dsimp only
        unfold vp_updL
        by_cases e : u = w
        · rw [if_pos e, if_pos e]
        · rw [if_neg e, if_neg e]; exact h1 u hu
      · rw [gI' (by omega)]; simp only [L1]; rw [gI' (by omega)]; exact h2
      · rw [gI' (by omega)]; simp only [L1]; rw [gI, h3]; rfl
      · rw [gI, h4]
    · have hE' : isI (exV al v s.1) = false := by
        cases h : isI (exV al v s.1)
        · rfl
        · exact absurd h hE
      rw [if_neg hE] at hc ⊢
      rw [if_pos ⟨by decide, hE'⟩]
      refine ⟨hc, h1, gI, ?_, ?_⟩
      · rw [gI' (by omega), gI, h3]
      · rw [gI' (by omega), gI' (by omega)]; exact h4
end XR
