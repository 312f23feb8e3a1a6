section H1
variable {l : Launch} {G : cxG} {adr : Nat → Nat} {Lf Rt : va_W} {σ : St}
theorem ho_loop {sz : Nat} {w0 : va_W} {fin : OC → Prop} (i b e : Nat) (hi : i < 30) (hb : b < 30) (he : e < 30) (hin : σ.2.2.1 7 i = nI b) (hpt : σ.2.2.1 5 b = nI e) :
    ∀ (r t : Nat) (z : Bool), (t + r = e ∨ (r = 0 ∧ e ≤ t)) → t < 1000 →
      fin (.inl (some (.int (bI (hoL (σ.2.2.1 1) i r t z))), wp G adr LM Lf Rt σ)) →
      PW l G mX11_isHoisted w0 sz fin 50 [(0, .ref (adr 0)), (1, .int (nI i)), (2, .int (bI z)), (3, .int (nI t))] [] 0 0 (wp G adr LM Lf Rt σ) := by
  have ei : (nI i).toNatClampNeg = i := nI_clamp (by omega)
  have bi : vp_in (nI i) 30 := vp_in_nI hi (by decide)
  have eb : (nI b).toNatClampNeg = b := nI_clamp (by omega)
  have bb : vp_in (nI b) 30 := vp_in_nI hb (by decide)
  intro r
  induction r with
  | zero =>
    intro t z ht ht2 hf
    refine pw_iload_n dX11_isHoisted_50 rfl ?_
    refine pw_aload_n dX11_isHoisted_51 rfl ?_
    refine lp_getr 5 dX11_isHoisted_52 fp_RX11_22.FL rfl rfl rfl ?_
    refine pw_aload_n dX11_isHoisted_55 rfl ?_
    refine lp_getr 7 dX11_isHoisted_56 fp_RX11_28.FL rfl rfl rfl ?_
    refine pw_iload_n dX11_isHoisted_59 rfl ?_
    refine lp_iald dX11_isHoisted_60 rfl bi ?_
    refine pw_top (nI b) (by rw [ei]; exact hin) ?_
    refine lp_iald dX11_isHoisted_61 rfl bb ?_
    refine pw_top (nI e) (by rw [eb]; exact hpt) ?_
    refine pw_icmp_ge 135 dX11_isHoisted_62 (by decide) (fun c_62 => ?_) (fun c_62 => absurd (nI_le (show e ≤ t by omega) (by omega)) c_62)
    refine pw_iload_n dX11_isHoisted_135 rfl ?_
    exact pw_iret rfl bI_nar dX11_isHoisted_136 (Nat.zero_le _) (Nat.zero_le _) hf
  | succ r ih =>
    intro t z ht ht2 hf
    have hte : t < e := by omega
    have ih1 := ih (t + 1) (z && !hoB (σ.2.2.1 1) i t) (by omega) (by omega) hf
    -- the end of the round, with makes in local 4
    have tail : ∀ mk : Bool, hoB (σ.2.2.1 1) i t = mk → PW l G mX11_isHoisted w0 sz fin 114 [(0, .ref (adr 0)), (1, .int (nI i)), (2, .int (bI z)), (3, .int (nI t)), (4, .int (bI mk))] [] 0 0 (wp G adr LM Lf Rt σ) := by
      intro mk hmk
      rw [hmk] at ih1
      cases z
      · refine pw_iload_n dX11_isHoisted_114 rfl ?_
        refine pw_if_eq 127 dX11_isHoisted_115 (by decide) (fun c_115 => ?_) (fun c_115 => absurd rfl c_115)
        refine pw_iconst (v := 0) dX11_isHoisted_127 rfl ?_
        refine pw_istore_n dX11_isHoisted_128 (by decide) ?_
        refine pw_iinc dX11_isHoisted_129 rfl (by decide) ?_
        refine pw_goto (tgt := 50) dX11_isHoisted_132 (by decide) ?_
        refine pw_lk _ ?_ ih1
        exact ⟨rfl, rfl, rfl, congrArg (fun x => some (Value.int x)) (nI_1 t), trivial⟩
      · cases mk
        · refine pw_iload_n dX11_isHoisted_114 rfl ?_
          refine pw_if_eq 127 dX11_isHoisted_115 (by decide) (fun c_115 => absurd (show (1 : Int32) = 0 from c_115) (by decide)) (fun c_115 => ?_)
          refine pw_iload dX11_isHoisted_118 rfl ?_
          refine pw_if_ne 127 dX11_isHoisted_120 (by decide) (fun c_120 => absurd c_120 (fun z => z rfl)) (fun c_120 => ?_)
          refine pw_iconst (v := 1) dX11_isHoisted_123 rfl ?_
          refine pw_goto (tgt := 128) dX11_isHoisted_124 (by decide) ?_
          refine pw_istore_n dX11_isHoisted_128 (by decide) ?_
          refine pw_iinc dX11_isHoisted_129 rfl (by decide) ?_
          refine pw_goto (tgt := 50) dX11_isHoisted_132 (by decide) ?_
          refine pw_lk _ ?_ ih1
          exact ⟨rfl, rfl, rfl, congrArg (fun x => some (Value.int x)) (nI_1 t), trivial⟩
        · refine pw_iload_n dX11_isHoisted_114 rfl ?_
          refine pw_if_eq 127 dX11_isHoisted_115 (by decide) (fun c_115 => absurd (show (1 : Int32) = 0 from c_115) (by decide)) (fun c_115 => ?_)
          refine pw_iload dX11_isHoisted_118 rfl ?_
          refine pw_if_ne 127 dX11_isHoisted_120 (by decide) (fun c_120 => ?_) (fun c_120 => absurd (show (1 : Int32) = 0 from c_120) (by decide))
          refine pw_iconst (v := 0) dX11_isHoisted_127 rfl ?_
          refine pw_istore_n dX11_isHoisted_128 (by decide) ?_
          refine pw_iinc dX11_isHoisted_129 rfl (by decide) ?_
          refine pw_goto (tgt := 50) dX11_isHoisted_132 (by decide) ?_
          refine pw_lk _ ?_ ih1
          exact ⟨rfl, rfl, rfl, congrArg (fun x => some (Value.int x)) (nI_1 t), trivial⟩
    have c62 : ¬ nI e ≤ nI t := nI_ge hte (by omega)
    unfold hoB at tail
    by_cases hti : t = i
    · have kk := tail false (by rw [decide_eq_true hti]; rfl)
      refine pw_iload_n dX11_isHoisted_50 rfl ?_
      refine pw_aload_n dX11_isHoisted_51 rfl ?_
      refine lp_getr 5 dX11_isHoisted_52 fp_RX11_22.FL rfl rfl rfl ?_
      refine pw_aload_n dX11_isHoisted_55 rfl ?_
      refine lp_getr 7 dX11_isHoisted_56 fp_RX11_28.FL rfl rfl rfl ?_
      refine pw_iload_n dX11_isHoisted_59 rfl ?_
      refine lp_iald dX11_isHoisted_60 rfl bi ?_
      refine pw_top (nI b) (by rw [ei]; exact hin) ?_
      refine lp_iald dX11_isHoisted_61 rfl bb ?_
      refine pw_top (nI e) (by rw [eb]; exact hpt) ?_
      refine pw_icmp_ge 135 dX11_isHoisted_62 (by decide) (fun c_62 => absurd c_62 c62) (fun c_62 => ?_)
      refine pw_iload_n dX11_isHoisted_65 rfl ?_
      refine pw_iload_n dX11_isHoisted_66 rfl ?_
      refine pw_icmp_eq 111 dX11_isHoisted_67 (by decide) (fun c_67 => ?_) (fun c_67 => absurd (congrArg nI hti) c_67)
      refine pw_iconst (v := 0) dX11_isHoisted_111 rfl ?_
      refine pw_istore dX11_isHoisted_112 (by decide) ?_
      refine pw_lk _ ?_ kk
      exact ⟨rfl, rfl, rfl, rfl, rfl, trivial⟩
    · have c67 : ¬ nI t = nI i := fun q => hti (nI_inj (by omega) (by omega) q)
      rw [decide_eq_false hti] at tail
      by_cases hl : 4 ≤ kdA (σ.2.2.1 1) t
      · have kk := tail false (by rw [decide_eq_true hl]; rfl)
        refine pw_iload_n dX11_isHoisted_50 rfl ?_
        refine pw_aload_n dX11_isHoisted_51 rfl ?_
        refine lp_getr 5 dX11_isHoisted_52 fp_RX11_22.FL rfl rfl rfl ?_
        refine pw_aload_n dX11_isHoisted_55 rfl ?_
        refine lp_getr 7 dX11_isHoisted_56 fp_RX11_28.FL rfl rfl rfl ?_
        refine pw_iload_n dX11_isHoisted_59 rfl ?_
        refine lp_iald dX11_isHoisted_60 rfl bi ?_
        refine pw_top (nI b) (by rw [ei]; exact hin) ?_
        refine lp_iald dX11_isHoisted_61 rfl bb ?_
        refine pw_top (nI e) (by rw [eb]; exact hpt) ?_
        refine pw_icmp_ge 135 dX11_isHoisted_62 (by decide) (fun c_62 => absurd c_62 c62) (fun c_62 => ?_)
        refine pw_iload_n dX11_isHoisted_65 rfl ?_
        refine pw_iload_n dX11_isHoisted_66 rfl ?_
        refine pw_icmp_eq 111 dX11_isHoisted_67 (by decide) (fun c_67 => absurd c_67 c67) (fun c_67 => ?_)
        refine pw_aload_n dX11_isHoisted_70 rfl ?_
        refine pw_iload_n dX11_isHoisted_71 rfl ?_
        refine lp_cV1 (mi' := mX11_isLoop) (As := [_]) (q := (RX11, TX11, 33)) dX11_isHoisted_72 lk_RX11_163 mk_X11_isLoop mi_X11_isLoop me_X11_isLoop ⟨by decide, by decide⟩ rfl rfl (Nat.le_of_ble_eq_true rfl) rfl rfl ⟨rfl, rfl⟩ ⟨Nat.zero_le _, Nat.zero_le _⟩ (r_isLoop t (by omega)) ?_
        rw [decide_eq_true (show 4 ≤ σ.2.2.1 1 (1 + 4 * t) from hl)]
        refine pw_if_ne 111 dX11_isHoisted_75 (by decide) (fun c_75 => ?_) (fun c_75 => absurd (show (1 : Int32) = 0 from c_75) (by decide))
        refine pw_iconst (v := 0) dX11_isHoisted_111 rfl ?_
        refine pw_istore dX11_isHoisted_112 (by decide) ?_
        refine pw_lk _ ?_ kk
        exact ⟨rfl, rfl, rfl, rfl, rfl, trivial⟩
      · rw [decide_eq_false hl] at tail
        by_cases q1 : σ.2.2.1 1 (1 + 4 * t + 1) = σ.2.2.1 1 (1 + 4 * i + 1)
        · have kk := tail true (by rw [decide_eq_true q1]; rfl)
          refine pw_iload_n dX11_isHoisted_50 rfl ?_
          refine pw_aload_n dX11_isHoisted_51 rfl ?_
          refine lp_getr 5 dX11_isHoisted_52 fp_RX11_22.FL rfl rfl rfl ?_
          refine pw_aload_n dX11_isHoisted_55 rfl ?_
          refine lp_getr 7 dX11_isHoisted_56 fp_RX11_28.FL rfl rfl rfl ?_
          refine pw_iload_n dX11_isHoisted_59 rfl ?_
          refine lp_iald dX11_isHoisted_60 rfl bi ?_
          refine pw_top (nI b) (by rw [ei]; exact hin) ?_
          refine lp_iald dX11_isHoisted_61 rfl bb ?_
          refine pw_top (nI e) (by rw [eb]; exact hpt) ?_
          refine pw_icmp_ge 135 dX11_isHoisted_62 (by decide) (fun c_62 => absurd c_62 c62) (fun c_62 => ?_)
          refine pw_iload_n dX11_isHoisted_65 rfl ?_
          refine pw_iload_n dX11_isHoisted_66 rfl ?_
          refine pw_icmp_eq 111 dX11_isHoisted_67 (by decide) (fun c_67 => absurd c_67 c67) (fun c_67 => ?_)
          refine pw_aload_n dX11_isHoisted_70 rfl ?_
          refine pw_iload_n dX11_isHoisted_71 rfl ?_
          refine lp_cV1 (mi' := mX11_isLoop) (As := [_]) (q := (RX11, TX11, 33)) dX11_isHoisted_72 lk_RX11_163 mk_X11_isLoop mi_X11_isLoop me_X11_isLoop ⟨by decide, by decide⟩ rfl rfl (Nat.le_of_ble_eq_true rfl) rfl rfl ⟨rfl, rfl⟩ ⟨Nat.zero_le _, Nat.zero_le _⟩ (r_isLoop t (by omega)) ?_
          rw [decide_eq_false (show ¬ 4 ≤ σ.2.2.1 1 (1 + 4 * t) from hl)]
          refine pw_if_ne 111 dX11_isHoisted_75 (by decide) (fun c_75 => absurd c_75 (fun z => z rfl)) (fun c_75 => ?_)
          refine pw_aload_n dX11_isHoisted_78 rfl ?_
          refine pw_iload_n dX11_isHoisted_79 rfl ?_
          refine pw_iconst (v := 1) dX11_isHoisted_80 rfl ?_
          refine lp_cV1 (mi' := mX11_of) (As := [_, _]) (q := (RX11, TX11, 33)) dX11_isHoisted_81 lk_RX11_82 mk_X11_of mi_X11_of me_X11_of ⟨by decide, by decide⟩ rfl rfl (Nat.le_of_ble_eq_true rfl) rfl rfl ⟨rfl, rfl⟩ ⟨Nat.zero_le _, Nat.zero_le _⟩ (r_of t 1 (by omega)) ?_
          refine pw_aload_n dX11_isHoisted_84 rfl ?_
          refine pw_iload_n dX11_isHoisted_85 rfl ?_
          refine pw_iconst (v := 1) dX11_isHoisted_86 rfl ?_
          refine lp_cV1 (mi' := mX11_of) (As := [_, _]) (q := (RX11, TX11, 33)) dX11_isHoisted_87 lk_RX11_82 mk_X11_of mi_X11_of me_X11_of ⟨by decide, by decide⟩ rfl rfl (Nat.le_of_ble_eq_true rfl) rfl rfl ⟨rfl, rfl⟩ ⟨Nat.zero_le _, Nat.zero_le _⟩ (r_of i 1 (by omega)) ?_
          refine pw_icmp_eq 107 dX11_isHoisted_90 (by decide) (fun c_90 => ?_) (fun c_90 => absurd q1 c_90)
          refine pw_iconst (v := 1) dX11_isHoisted_107 rfl ?_
          refine pw_goto (tgt := 112) dX11_isHoisted_108 (by decide) ?_
          refine pw_istore dX11_isHoisted_112 (by decide) ?_
          refine pw_lk _ ?_ kk
          exact ⟨rfl, rfl, rfl, rfl, rfl, trivial⟩
        · rw [decide_eq_false q1] at tail
          by_cases q2 : σ.2.2.1 1 (1 + 4 * t + 1) = stepA (σ.2.2.1 1) i
          · have kk := tail true (by rw [decide_eq_true q2]; rfl)
            refine pw_iload_n dX11_isHoisted_50 rfl ?_
            refine pw_aload_n dX11_isHoisted_51 rfl ?_
            refine lp_getr 5 dX11_isHoisted_52 fp_RX11_22.FL rfl rfl rfl ?_
            refine pw_aload_n dX11_isHoisted_55 rfl ?_
            refine lp_getr 7 dX11_isHoisted_56 fp_RX11_28.FL rfl rfl rfl ?_
            refine pw_iload_n dX11_isHoisted_59 rfl ?_
            refine lp_iald dX11_isHoisted_60 rfl bi ?_
            refine pw_top (nI b) (by rw [ei]; exact hin) ?_
            refine lp_iald dX11_isHoisted_61 rfl bb ?_
            refine pw_top (nI e) (by rw [eb]; exact hpt) ?_
            refine pw_icmp_ge 135 dX11_isHoisted_62 (by decide) (fun c_62 => absurd c_62 c62) (fun c_62 => ?_)
            refine pw_iload_n dX11_isHoisted_65 rfl ?_
            refine pw_iload_n dX11_isHoisted_66 rfl ?_
            refine pw_icmp_eq 111 dX11_isHoisted_67 (by decide) (fun c_67 => absurd c_67 c67) (fun c_67 => ?_)
            refine pw_aload_n dX11_isHoisted_70 rfl ?_
            refine pw_iload_n dX11_isHoisted_71 rfl ?_
            refine lp_cV1 (mi' := mX11_isLoop) (As := [_]) (q := (RX11, TX11, 33)) dX11_isHoisted_72 lk_RX11_163 mk_X11_isLoop mi_X11_isLoop me_X11_isLoop ⟨by decide, by decide⟩ rfl rfl (Nat.le_of_ble_eq_true rfl) rfl rfl ⟨rfl, rfl⟩ ⟨Nat.zero_le _, Nat.zero_le _⟩ (r_isLoop t (by omega)) ?_
            rw [decide_eq_false (show ¬ 4 ≤ σ.2.2.1 1 (1 + 4 * t) from hl)]
            refine pw_if_ne 111 dX11_isHoisted_75 (by decide) (fun c_75 => absurd c_75 (fun z => z rfl)) (fun c_75 => ?_)
            refine pw_aload_n dX11_isHoisted_78 rfl ?_
            refine pw_iload_n dX11_isHoisted_79 rfl ?_
            refine pw_iconst (v := 1) dX11_isHoisted_80 rfl ?_
            refine lp_cV1 (mi' := mX11_of) (As := [_, _]) (q := (RX11, TX11, 33)) dX11_isHoisted_81 lk_RX11_82 mk_X11_of mi_X11_of me_X11_of ⟨by decide, by decide⟩ rfl rfl (Nat.le_of_ble_eq_true rfl) rfl rfl ⟨rfl, rfl⟩ ⟨Nat.zero_le _, Nat.zero_le _⟩ (r_of t 1 (by omega)) ?_
            refine pw_aload_n dX11_isHoisted_84 rfl ?_
            refine pw_iload_n dX11_isHoisted_85 rfl ?_
            refine pw_iconst (v := 1) dX11_isHoisted_86 rfl ?_
            refine lp_cV1 (mi' := mX11_of) (As := [_, _]) (q := (RX11, TX11, 33)) dX11_isHoisted_87 lk_RX11_82 mk_X11_of mi_X11_of me_X11_of ⟨by decide, by decide⟩ rfl rfl (Nat.le_of_ble_eq_true rfl) rfl rfl ⟨rfl, rfl⟩ ⟨Nat.zero_le _, Nat.zero_le _⟩ (r_of i 1 (by omega)) ?_
            refine pw_icmp_eq 107 dX11_isHoisted_90 (by decide) (fun c_90 => absurd c_90 q1) (fun c_90 => ?_)
            refine pw_aload_n dX11_isHoisted_93 rfl ?_
            refine pw_iload_n dX11_isHoisted_94 rfl ?_
            refine pw_iconst (v := 1) dX11_isHoisted_95 rfl ?_
            refine lp_cV1 (mi' := mX11_of) (As := [_, _]) (q := (RX11, TX11, 33)) dX11_isHoisted_96 lk_RX11_82 mk_X11_of mi_X11_of me_X11_of ⟨by decide, by decide⟩ rfl rfl (Nat.le_of_ble_eq_true rfl) rfl rfl ⟨rfl, rfl⟩ ⟨Nat.zero_le _, Nat.zero_le _⟩ (r_of t 1 (by omega)) ?_
            refine pw_aload_n dX11_isHoisted_99 rfl ?_
            refine pw_iload_n dX11_isHoisted_100 rfl ?_
            refine lp_cV1 (mi' := mX11_stepOf) (As := [_]) (q := (RX11, TX11, 33)) dX11_isHoisted_101 lk_RX11_224 mk_X11_stepOf mi_X11_stepOf me_X11_stepOf ⟨by decide, by decide⟩ rfl rfl (Nat.le_of_ble_eq_true rfl) rfl rfl ⟨rfl, rfl⟩ ⟨Nat.zero_le _, Nat.zero_le _⟩ (r_stepOf i hi) ?_
            refine pw_icmp_ne 111 dX11_isHoisted_104 (by decide) (fun c_104 => absurd c_104 (fun z => z q2)) (fun c_104 => ?_)
            refine pw_iconst (v := 1) dX11_isHoisted_107 rfl ?_
            refine pw_goto (tgt := 112) dX11_isHoisted_108 (by decide) ?_
            refine pw_istore dX11_isHoisted_112 (by decide) ?_
            refine pw_lk _ ?_ kk
            exact ⟨rfl, rfl, rfl, rfl, rfl, trivial⟩
          · have kk := tail false (by rw [decide_eq_false q2]; rfl)
            refine pw_iload_n dX11_isHoisted_50 rfl ?_
            refine pw_aload_n dX11_isHoisted_51 rfl ?_
            refine lp_getr 5 dX11_isHoisted_52 fp_RX11_22.FL rfl rfl rfl ?_
            refine pw_aload_n dX11_isHoisted_55 rfl ?_
            refine lp_getr 7 dX11_isHoisted_56 fp_RX11_28.FL rfl rfl rfl ?_
            refine pw_iload_n dX11_isHoisted_59 rfl ?_
            refine lp_iald dX11_isHoisted_60 rfl bi ?_
            refine pw_top (nI b) (by rw [ei]; exact hin) ?_
            refine lp_iald dX11_isHoisted_61 rfl bb ?_
            refine pw_top (nI e) (by rw [eb]; exact hpt) ?_
            refine pw_icmp_ge 135 dX11_isHoisted_62 (by decide) (fun c_62 => absurd c_62 c62) (fun c_62 => ?_)
            refine pw_iload_n dX11_isHoisted_65 rfl ?_
            refine pw_iload_n dX11_isHoisted_66 rfl ?_
            refine pw_icmp_eq 111 dX11_isHoisted_67 (by decide) (fun c_67 => absurd c_67 c67) (fun c_67 => ?_)
            refine pw_aload_n dX11_isHoisted_70 rfl ?_
            refine pw_iload_n dX11_isHoisted_71 rfl ?_
            refine lp_cV1 (mi' := mX11_isLoop) (As := [_]) (q := (RX11, TX11, 33)) dX11_isHoisted_72 lk_RX11_163 mk_X11_isLoop mi_X11_isLoop me_X11_isLoop ⟨by decide, by decide⟩ rfl rfl (Nat.le_of_ble_eq_true rfl) rfl rfl ⟨rfl, rfl⟩ ⟨Nat.zero_le _, Nat.zero_le _⟩ (r_isLoop t (by omega)) ?_
            rw [decide_eq_false (show ¬ 4 ≤ σ.2.2.1 1 (1 + 4 * t) from hl)]
            refine pw_if_ne 111 dX11_isHoisted_75 (by decide) (fun c_75 => absurd c_75 (fun z => z rfl)) (fun c_75 => ?_)
            refine pw_aload_n dX11_isHoisted_78 rfl ?_
            refine pw_iload_n dX11_isHoisted_79 rfl ?_
            refine pw_iconst (v := 1) dX11_isHoisted_80 rfl ?_
            refine lp_cV1 (mi' := mX11_of) (As := [_, _]) (q := (RX11, TX11, 33)) dX11_isHoisted_81 lk_RX11_82 mk_X11_of mi_X11_of me_X11_of ⟨by decide, by decide⟩ rfl rfl (Nat.le_of_ble_eq_true rfl) rfl rfl ⟨rfl, rfl⟩ ⟨Nat.zero_le _, Nat.zero_le _⟩ (r_of t 1 (by omega)) ?_
            refine pw_aload_n dX11_isHoisted_84 rfl ?_
            refine pw_iload_n dX11_isHoisted_85 rfl ?_
            refine pw_iconst (v := 1) dX11_isHoisted_86 rfl ?_
            refine lp_cV1 (mi' := mX11_of) (As := [_, _]) (q := (RX11, TX11, 33)) dX11_isHoisted_87 lk_RX11_82 mk_X11_of mi_X11_of me_X11_of ⟨by decide, by decide⟩ rfl rfl (Nat.le_of_ble_eq_true rfl) rfl rfl ⟨rfl, rfl⟩ ⟨Nat.zero_le _, Nat.zero_le _⟩ (r_of i 1 (by omega)) ?_
            refine pw_icmp_eq 107 dX11_isHoisted_90 (by decide) (fun c_90 => absurd c_90 q1) (fun c_90 => ?_)
            refine pw_aload_n dX11_isHoisted_93 rfl ?_
            refine pw_iload_n dX11_isHoisted_94 rfl ?_
            refine pw_iconst (v := 1) dX11_isHoisted_95 rfl ?_
            refine lp_cV1 (mi' := mX11_of) (As := [_, _]) (q := (RX11, TX11, 33)) dX11_isHoisted_96 lk_RX11_82 mk_X11_of mi_X11_of me_X11_of ⟨by decide, by decide⟩ rfl rfl (Nat.le_of_ble_eq_true rfl) rfl rfl ⟨rfl, rfl⟩ ⟨Nat.zero_le _, Nat.zero_le _⟩ (r_of t 1 (by omega)) ?_
            refine pw_aload_n dX11_isHoisted_99 rfl ?_
            refine pw_iload_n dX11_isHoisted_100 rfl ?_
            refine lp_cV1 (mi' := mX11_stepOf) (As := [_]) (q := (RX11, TX11, 33)) dX11_isHoisted_101 lk_RX11_224 mk_X11_stepOf mi_X11_stepOf me_X11_stepOf ⟨by decide, by decide⟩ rfl rfl (Nat.le_of_ble_eq_true rfl) rfl rfl ⟨rfl, rfl⟩ ⟨Nat.zero_le _, Nat.zero_le _⟩ (r_stepOf i hi) ?_
            refine pw_icmp_ne 111 dX11_isHoisted_104 (by decide) (fun c_104 => ?_) (fun c_104 => absurd c_104 q2)
            refine pw_iconst (v := 0) dX11_isHoisted_111 rfl ?_
            refine pw_istore dX11_isHoisted_112 (by decide) ?_
            refine pw_lk _ ?_ kk
            exact ⟨rfl, rfl, rfl, rfl, rfl, trivial⟩
theorem r_isHoisted (i : Nat) (hi : i < 30) (hok : ¬ σ.2.2.1 7 i = -1 → ∃ b e, b < 30 ∧ e < 30 ∧ σ.2.2.1 7 i = nI b ∧ σ.2.2.1 5 b = nI e) : SpecD l G mX11_isHoisted [.ref (adr 0), .int (nI i)] (wp G adr LM Lf Rt σ) (some (.int (bI (hoA (σ.2.2.1 1) (σ.2.2.1 18) (σ.2.2.1 7) (σ.2.2.1 5) i)))) (wp G adr LM Lf Rt σ) := by
  refine spec_of (by decide) (Nat.le_of_ble_eq_true rfl) (fun sz => ?_)
  have ei : (nI i).toNatClampNeg = i := nI_clamp (by omega)
  have bi : vp_in (nI i) 30 := vp_in_nI hi (by decide)
  unfold hoA
  by_cases k1 : kdA (σ.2.2.1 1) i = 1
  · by_cases cs : σ.2.2.1 18 i = 0
    · by_cases n1 : σ.2.2.1 7 i = -1
      · rw [if_pos (Or.inr (Or.inr (Or.inl n1)))]
        refine pw_aload_n dX11_isHoisted_0 rfl ?_
        refine pw_iload_n dX11_isHoisted_1 rfl ?_
        refine lp_cV1 (mi' := mX11_kind) (As := [_]) (q := (RX11, TX11, 33)) dX11_isHoisted_2 lk_RX11_86 mk_X11_kind mi_X11_kind me_X11_kind ⟨by decide, by decide⟩ rfl rfl (Nat.le_of_ble_eq_true rfl) rfl rfl ⟨rfl, rfl⟩ ⟨Nat.zero_le _, Nat.zero_le _⟩ (r_kind i hi) ?_
        refine pw_iconst (v := 1) dX11_isHoisted_5 rfl ?_
        refine pw_icmp_ne 37 dX11_isHoisted_6 (by decide) (fun c_6 => absurd c_6 (fun z => z k1)) (fun c_6 => ?_)
        refine pw_aload_n dX11_isHoisted_9 rfl ?_
        refine lp_getr 18 dX11_isHoisted_10 fp_RX11_63.FL rfl rfl rfl ?_
        refine pw_iload_n dX11_isHoisted_13 rfl ?_
        refine lp_zald dX11_isHoisted_14 rfl bi ?_
        rw [ei]
        refine pw_if_ne 37 dX11_isHoisted_15 (by decide) (fun c_15 => absurd c_15 (fun z => z cs)) (fun c_15 => ?_)
        refine pw_aload_n dX11_isHoisted_18 rfl ?_
        refine lp_getr 7 dX11_isHoisted_19 fp_RX11_28.FL rfl rfl rfl ?_
        refine pw_iload_n dX11_isHoisted_22 rfl ?_
        refine lp_iald dX11_isHoisted_23 rfl bi ?_
        rw [ei]
        refine pw_iconst (v := -1) dX11_isHoisted_24 rfl ?_
        refine pw_icmp_eq 37 dX11_isHoisted_25 (by decide) (fun c_25 => ?_) (fun c_25 => absurd n1 c_25)
        refine pw_iconst (v := 0) dX11_isHoisted_37 rfl ?_
        exact pw_iret rfl rfl dX11_isHoisted_38 (Nat.zero_le _) (Nat.zero_le _) rfl
      · by_cases s1 : stepA (σ.2.2.1 1) i = -1
        · rw [if_pos (Or.inr (Or.inr (Or.inr s1)))]
          refine pw_aload_n dX11_isHoisted_0 rfl ?_
          refine pw_iload_n dX11_isHoisted_1 rfl ?_
          refine lp_cV1 (mi' := mX11_kind) (As := [_]) (q := (RX11, TX11, 33)) dX11_isHoisted_2 lk_RX11_86 mk_X11_kind mi_X11_kind me_X11_kind ⟨by decide, by decide⟩ rfl rfl (Nat.le_of_ble_eq_true rfl) rfl rfl ⟨rfl, rfl⟩ ⟨Nat.zero_le _, Nat.zero_le _⟩ (r_kind i hi) ?_
          refine pw_iconst (v := 1) dX11_isHoisted_5 rfl ?_
          refine pw_icmp_ne 37 dX11_isHoisted_6 (by decide) (fun c_6 => absurd c_6 (fun z => z k1)) (fun c_6 => ?_)
          refine pw_aload_n dX11_isHoisted_9 rfl ?_
          refine lp_getr 18 dX11_isHoisted_10 fp_RX11_63.FL rfl rfl rfl ?_
          refine pw_iload_n dX11_isHoisted_13 rfl ?_
          refine lp_zald dX11_isHoisted_14 rfl bi ?_
          rw [ei]
          refine pw_if_ne 37 dX11_isHoisted_15 (by decide) (fun c_15 => absurd c_15 (fun z => z cs)) (fun c_15 => ?_)
          refine pw_aload_n dX11_isHoisted_18 rfl ?_
          refine lp_getr 7 dX11_isHoisted_19 fp_RX11_28.FL rfl rfl rfl ?_
          refine pw_iload_n dX11_isHoisted_22 rfl ?_
          refine lp_iald dX11_isHoisted_23 rfl bi ?_
          rw [ei]
          refine pw_iconst (v := -1) dX11_isHoisted_24 rfl ?_
          refine pw_icmp_eq 37 dX11_isHoisted_25 (by decide) (fun c_25 => absurd c_25 n1) (fun c_25 => ?_)
          refine pw_aload_n dX11_isHoisted_28 rfl ?_
          refine pw_iload_n dX11_isHoisted_29 rfl ?_
          refine lp_cV1 (mi' := mX11_stepOf) (As := [_]) (q := (RX11, TX11, 33)) dX11_isHoisted_30 lk_RX11_224 mk_X11_stepOf mi_X11_stepOf me_X11_stepOf ⟨by decide, by decide⟩ rfl rfl (Nat.le_of_ble_eq_true rfl) rfl rfl ⟨rfl, rfl⟩ ⟨Nat.zero_le _, Nat.zero_le _⟩ (r_stepOf i hi) ?_
          refine pw_iconst (v := -1) dX11_isHoisted_33 rfl ?_
          refine pw_icmp_ne 39 dX11_isHoisted_34 (by decide) (fun c_34 => absurd c_34 (fun z => z s1)) (fun c_34 => ?_)
          refine pw_iconst (v := 0) dX11_isHoisted_37 rfl ?_
          exact pw_iret rfl rfl dX11_isHoisted_38 (Nat.zero_le _) (Nat.zero_le _) rfl
        · rw [if_neg (by rintro (h | h | h | h); exact h k1; exact h cs; exact n1 h; exact s1 h)]
          obtain ⟨b, e, hb, he, g1, g2⟩ := hok n1
          have e1 : tN (σ.2.2.1 7 i) = b := by rw [g1]; exact nI_clamp (by omega)
          have e2 : tN (σ.2.2.1 5 b) = e := by rw [g2]; exact nI_clamp (by omega)
          rw [e1, e2]
          refine pw_aload_n dX11_isHoisted_0 rfl ?_
          refine pw_iload_n dX11_isHoisted_1 rfl ?_
          refine lp_cV1 (mi' := mX11_kind) (As := [_]) (q := (RX11, TX11, 33)) dX11_isHoisted_2 lk_RX11_86 mk_X11_kind mi_X11_kind me_X11_kind ⟨by decide, by decide⟩ rfl rfl (Nat.le_of_ble_eq_true rfl) rfl rfl ⟨rfl, rfl⟩ ⟨Nat.zero_le _, Nat.zero_le _⟩ (r_kind i hi) ?_
          refine pw_iconst (v := 1) dX11_isHoisted_5 rfl ?_
          refine pw_icmp_ne 37 dX11_isHoisted_6 (by decide) (fun c_6 => absurd c_6 (fun z => z k1)) (fun c_6 => ?_)
          refine pw_aload_n dX11_isHoisted_9 rfl ?_
          refine lp_getr 18 dX11_isHoisted_10 fp_RX11_63.FL rfl rfl rfl ?_
          refine pw_iload_n dX11_isHoisted_13 rfl ?_
          refine lp_zald dX11_isHoisted_14 rfl bi ?_
          rw [ei]
          refine pw_if_ne 37 dX11_isHoisted_15 (by decide) (fun c_15 => absurd c_15 (fun z => z cs)) (fun c_15 => ?_)
          refine pw_aload_n dX11_isHoisted_18 rfl ?_
          refine lp_getr 7 dX11_isHoisted_19 fp_RX11_28.FL rfl rfl rfl ?_
          refine pw_iload_n dX11_isHoisted_22 rfl ?_
          refine lp_iald dX11_isHoisted_23 rfl bi ?_
          rw [ei]
          refine pw_iconst (v := -1) dX11_isHoisted_24 rfl ?_
          refine pw_icmp_eq 37 dX11_isHoisted_25 (by decide) (fun c_25 => absurd c_25 n1) (fun c_25 => ?_)
          refine pw_aload_n dX11_isHoisted_28 rfl ?_
          refine pw_iload_n dX11_isHoisted_29 rfl ?_
          refine lp_cV1 (mi' := mX11_stepOf) (As := [_]) (q := (RX11, TX11, 33)) dX11_isHoisted_30 lk_RX11_224 mk_X11_stepOf mi_X11_stepOf me_X11_stepOf ⟨by decide, by decide⟩ rfl rfl (Nat.le_of_ble_eq_true rfl) rfl rfl ⟨rfl, rfl⟩ ⟨Nat.zero_le _, Nat.zero_le _⟩ (r_stepOf i hi) ?_
          refine pw_iconst (v := -1) dX11_isHoisted_33 rfl ?_
          refine pw_icmp_ne 39 dX11_isHoisted_34 (by decide) (fun c_34 => ?_) (fun c_34 => absurd c_34 s1)
          refine pw_iconst (v := 1) dX11_isHoisted_39 rfl ?_
          refine pw_istore_n dX11_isHoisted_40 (by decide) ?_
          refine pw_aload_n dX11_isHoisted_41 rfl ?_
          refine lp_getr 7 dX11_isHoisted_42 fp_RX11_28.FL rfl rfl rfl ?_
          refine pw_iload_n dX11_isHoisted_45 rfl ?_
          refine lp_iald dX11_isHoisted_46 rfl bi ?_
          refine pw_top (nI b) (by rw [ei]; exact g1) ?_
          refine pw_iconst (v := 1) dX11_isHoisted_47 rfl ?_
          refine pw_iadd dX11_isHoisted_48 ?_
          refine pw_istore_n dX11_isHoisted_49 (by decide) ?_
          exact pw_lk [(0, .ref (adr 0)), (1, .int (nI i)), (2, .int (bI true)), (3, .int (nI (b + 1)))] ⟨rfl, rfl, rfl, congrArg (fun x => some (Value.int x)) (nI_1 b), trivial⟩ (ho_loop i b e hi hb he g1 g2 (e - (b + 1)) (b + 1) true (by omega) (by omega) rfl)
    · rw [if_pos (Or.inr (Or.inl cs))]
      refine pw_aload_n dX11_isHoisted_0 rfl ?_
      refine pw_iload_n dX11_isHoisted_1 rfl ?_
      refine lp_cV1 (mi' := mX11_kind) (As := [_]) (q := (RX11, TX11, 33)) dX11_isHoisted_2 lk_RX11_86 mk_X11_kind mi_X11_kind me_X11_kind ⟨by decide, by decide⟩ rfl rfl (Nat.le_of_ble_eq_true rfl) rfl rfl ⟨rfl, rfl⟩ ⟨Nat.zero_le _, Nat.zero_le _⟩ (r_kind i hi) ?_
      refine pw_iconst (v := 1) dX11_isHoisted_5 rfl ?_
      refine pw_icmp_ne 37 dX11_isHoisted_6 (by decide) (fun c_6 => absurd c_6 (fun z => z k1)) (fun c_6 => ?_)
      refine pw_aload_n dX11_isHoisted_9 rfl ?_
      refine lp_getr 18 dX11_isHoisted_10 fp_RX11_63.FL rfl rfl rfl ?_
      refine pw_iload_n dX11_isHoisted_13 rfl ?_
      refine lp_zald dX11_isHoisted_14 rfl bi ?_
      rw [ei]
      refine pw_if_ne 37 dX11_isHoisted_15 (by decide) (fun c_15 => ?_) (fun c_15 => absurd c_15 cs)
      refine pw_iconst (v := 0) dX11_isHoisted_37 rfl ?_
      exact pw_iret rfl rfl dX11_isHoisted_38 (Nat.zero_le _) (Nat.zero_le _) rfl
  · rw [if_pos (Or.inl k1)]
    refine pw_aload_n dX11_isHoisted_0 rfl ?_
    refine pw_iload_n dX11_isHoisted_1 rfl ?_
    refine lp_cV1 (mi' := mX11_kind) (As := [_]) (q := (RX11, TX11, 33)) dX11_isHoisted_2 lk_RX11_86 mk_X11_kind mi_X11_kind me_X11_kind ⟨by decide, by decide⟩ rfl rfl (Nat.le_of_ble_eq_true rfl) rfl rfl ⟨rfl, rfl⟩ ⟨Nat.zero_le _, Nat.zero_le _⟩ (r_kind i hi) ?_
    refine pw_iconst (v := 1) dX11_isHoisted_5 rfl ?_
    refine pw_icmp_ne 37 dX11_isHoisted_6 (by decide) (fun c_6 => ?_) (fun c_6 => absurd c_6 k1)
    refine pw_iconst (v := 0) dX11_isHoisted_37 rfl ?_
    exact pw_iret rfl rfl dX11_isHoisted_38 (Nat.zero_le _) (Nat.zero_le _) rfl
end H1
