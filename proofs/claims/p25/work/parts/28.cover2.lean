section C2
variable {l : Launch} {G : cxG} {adr : Nat → Nat} {Lf Rt : va_W} {σ : St}
theorem cv_next {sz : Nat} {w0 : va_W} {fin : OC → Prop} (i j : Nat) (hi : i < 30) (hj : j < 30) (rs : Int32)
    (h0 : (σ.2.2.1 1 (1 + 4 * j + 2) = σ.2.2.1 1 (1 + 4 * i + 1) ∨ σ.2.2.1 1 (1 + 4 * j + 3) = σ.2.2.1 1 (1 + 4 * i + 1) ∨ σ.2.2.1 1 (1 + 4 * j + 1) = σ.2.2.1 1 (1 + 4 * i + 1) ∨ σ.2.2.1 1 (1 + 4 * j + 1) = σ.2.2.1 1 (1 + 4 * i + 2) ∨ σ.2.2.1 1 (1 + 4 * j + 1) = σ.2.2.1 1 (1 + 4 * i + 3)) → fin (.inl (some (.int (-1)), wp G adr LM Lf Rt σ)))
    (h1 : ¬ (σ.2.2.1 1 (1 + 4 * j + 2) = σ.2.2.1 1 (1 + 4 * i + 1) ∨ σ.2.2.1 1 (1 + 4 * j + 3) = σ.2.2.1 1 (1 + 4 * i + 1) ∨ σ.2.2.1 1 (1 + 4 * j + 1) = σ.2.2.1 1 (1 + 4 * i + 1) ∨ σ.2.2.1 1 (1 + 4 * j + 1) = σ.2.2.1 1 (1 + 4 * i + 2) ∨ σ.2.2.1 1 (1 + 4 * j + 1) = σ.2.2.1 1 (1 + 4 * i + 3)) → PW l G mX11_coverOf w0 sz fin 52 [(0, .ref (adr 0)), (1, .int (nI i)), (2, .int (σ.2.2.1 1 (1 + 4 * i + 1))), (3, .int (rs ||| (1 <<< (σ.2.2.1 1 (1 + 4 * j + 1) &&& 31)))), (4, .int (nI (j + 1)))] [] 0 0 (wp G adr LM Lf Rt σ)) :
    PW l G mX11_coverOf w0 sz fin 212 [(0, .ref (adr 0)), (1, .int (nI i)), (2, .int (σ.2.2.1 1 (1 + 4 * i + 1))), (3, .int rs), (4, .int (nI j)), (5, .int (bI (decide (σ.2.2.1 1 (1 + 4 * j + 2) = σ.2.2.1 1 (1 + 4 * i + 1))))), (6, .int (bI (decide (σ.2.2.1 1 (1 + 4 * j + 3) = σ.2.2.1 1 (1 + 4 * i + 1)))))] [] 0 0 (wp G adr LM Lf Rt σ) := by
  by_cases z1 : σ.2.2.1 1 (1 + 4 * j + 2) = σ.2.2.1 1 (1 + 4 * i + 1)
  · rw [decide_eq_true z1]
    refine pw_aload_n dX11_coverOf_212 rfl ?_
    refine pw_iload dX11_coverOf_213 rfl ?_
    refine pw_iconst (v := 1) dX11_coverOf_215 rfl ?_
    refine lp_cV1 (mi' := mX11_of) (As := [_, _]) (q := (RX11, TX11, 33)) dX11_coverOf_216 lk_RX11_82 mk_X11_of mi_X11_of me_X11_of ⟨by decide, by decide⟩ rfl rfl (Nat.le_of_ble_eq_true rfl) rfl rfl ⟨rfl, rfl⟩ ⟨Nat.zero_le _, Nat.zero_le _⟩ (r_of j 1 (by omega)) ?_
    refine pw_istore dX11_coverOf_219 (by decide) ?_
    refine pw_iload dX11_coverOf_221 rfl ?_
    refine pw_if_ne 259 dX11_coverOf_223 (by decide) (fun c_223 => ?_) (fun c_223 => absurd (show (1 : Int32) = 0 from c_223) (by decide))
    refine pw_iconst (v := -1) dX11_coverOf_259 rfl ?_
    exact pw_iret rfl rfl dX11_coverOf_260 (Nat.zero_le _) (Nat.zero_le _) (h0 (Or.inl z1))
  · rw [decide_eq_false z1]
    by_cases z2 : σ.2.2.1 1 (1 + 4 * j + 3) = σ.2.2.1 1 (1 + 4 * i + 1)
    · rw [decide_eq_true z2]
      refine pw_aload_n dX11_coverOf_212 rfl ?_
      refine pw_iload dX11_coverOf_213 rfl ?_
      refine pw_iconst (v := 1) dX11_coverOf_215 rfl ?_
      refine lp_cV1 (mi' := mX11_of) (As := [_, _]) (q := (RX11, TX11, 33)) dX11_coverOf_216 lk_RX11_82 mk_X11_of mi_X11_of me_X11_of ⟨by decide, by decide⟩ rfl rfl (Nat.le_of_ble_eq_true rfl) rfl rfl ⟨rfl, rfl⟩ ⟨Nat.zero_le _, Nat.zero_le _⟩ (r_of j 1 (by omega)) ?_
      refine pw_istore dX11_coverOf_219 (by decide) ?_
      refine pw_iload dX11_coverOf_221 rfl ?_
      refine pw_if_ne 259 dX11_coverOf_223 (by decide) (fun c_223 => absurd c_223 (fun z => z rfl)) (fun c_223 => ?_)
      refine pw_iload dX11_coverOf_226 rfl ?_
      refine pw_if_ne 259 dX11_coverOf_228 (by decide) (fun c_228 => ?_) (fun c_228 => absurd (show (1 : Int32) = 0 from c_228) (by decide))
      refine pw_iconst (v := -1) dX11_coverOf_259 rfl ?_
      exact pw_iret rfl rfl dX11_coverOf_260 (Nat.zero_le _) (Nat.zero_le _) (h0 (Or.inr (Or.inl z2)))
    · rw [decide_eq_false z2]
      by_cases z3 : σ.2.2.1 1 (1 + 4 * j + 1) = σ.2.2.1 1 (1 + 4 * i + 1)
      · refine pw_aload_n dX11_coverOf_212 rfl ?_
        refine pw_iload dX11_coverOf_213 rfl ?_
        refine pw_iconst (v := 1) dX11_coverOf_215 rfl ?_
        refine lp_cV1 (mi' := mX11_of) (As := [_, _]) (q := (RX11, TX11, 33)) dX11_coverOf_216 lk_RX11_82 mk_X11_of mi_X11_of me_X11_of ⟨by decide, by decide⟩ rfl rfl (Nat.le_of_ble_eq_true rfl) rfl rfl ⟨rfl, rfl⟩ ⟨Nat.zero_le _, Nat.zero_le _⟩ (r_of j 1 (by omega)) ?_
        refine pw_istore dX11_coverOf_219 (by decide) ?_
        refine pw_iload dX11_coverOf_221 rfl ?_
        refine pw_if_ne 259 dX11_coverOf_223 (by decide) (fun c_223 => absurd c_223 (fun z => z rfl)) (fun c_223 => ?_)
        refine pw_iload dX11_coverOf_226 rfl ?_
        refine pw_if_ne 259 dX11_coverOf_228 (by decide) (fun c_228 => absurd c_228 (fun z => z rfl)) (fun c_228 => ?_)
        refine pw_iload dX11_coverOf_231 rfl ?_
        refine pw_iload_n dX11_coverOf_233 rfl ?_
        refine pw_icmp_eq 259 dX11_coverOf_234 (by decide) (fun c_234 => ?_) (fun c_234 => absurd z3 c_234)
        refine pw_iconst (v := -1) dX11_coverOf_259 rfl ?_
        exact pw_iret rfl rfl dX11_coverOf_260 (Nat.zero_le _) (Nat.zero_le _) (h0 (Or.inr (Or.inr (Or.inl z3))))
      · by_cases z4 : σ.2.2.1 1 (1 + 4 * j + 1) = σ.2.2.1 1 (1 + 4 * i + 2)
        · refine pw_aload_n dX11_coverOf_212 rfl ?_
          refine pw_iload dX11_coverOf_213 rfl ?_
          refine pw_iconst (v := 1) dX11_coverOf_215 rfl ?_
          refine lp_cV1 (mi' := mX11_of) (As := [_, _]) (q := (RX11, TX11, 33)) dX11_coverOf_216 lk_RX11_82 mk_X11_of mi_X11_of me_X11_of ⟨by decide, by decide⟩ rfl rfl (Nat.le_of_ble_eq_true rfl) rfl rfl ⟨rfl, rfl⟩ ⟨Nat.zero_le _, Nat.zero_le _⟩ (r_of j 1 (by omega)) ?_
          refine pw_istore dX11_coverOf_219 (by decide) ?_
          refine pw_iload dX11_coverOf_221 rfl ?_
          refine pw_if_ne 259 dX11_coverOf_223 (by decide) (fun c_223 => absurd c_223 (fun z => z rfl)) (fun c_223 => ?_)
          refine pw_iload dX11_coverOf_226 rfl ?_
          refine pw_if_ne 259 dX11_coverOf_228 (by decide) (fun c_228 => absurd c_228 (fun z => z rfl)) (fun c_228 => ?_)
          refine pw_iload dX11_coverOf_231 rfl ?_
          refine pw_iload_n dX11_coverOf_233 rfl ?_
          refine pw_icmp_eq 259 dX11_coverOf_234 (by decide) (fun c_234 => absurd c_234 z3) (fun c_234 => ?_)
          refine pw_iload dX11_coverOf_237 rfl ?_
          refine pw_aload_n dX11_coverOf_239 rfl ?_
          refine pw_iload_n dX11_coverOf_240 rfl ?_
          refine pw_iconst (v := 2) dX11_coverOf_241 rfl ?_
          refine lp_cV1 (mi' := mX11_of) (As := [_, _]) (q := (RX11, TX11, 33)) dX11_coverOf_242 lk_RX11_82 mk_X11_of mi_X11_of me_X11_of ⟨by decide, by decide⟩ rfl rfl (Nat.le_of_ble_eq_true rfl) rfl rfl ⟨rfl, rfl⟩ ⟨Nat.zero_le _, Nat.zero_le _⟩ (r_of i 2 (by omega)) ?_
          refine pw_icmp_eq 259 dX11_coverOf_245 (by decide) (fun c_245 => ?_) (fun c_245 => absurd z4 c_245)
          refine pw_iconst (v := -1) dX11_coverOf_259 rfl ?_
          exact pw_iret rfl rfl dX11_coverOf_260 (Nat.zero_le _) (Nat.zero_le _) (h0 (Or.inr (Or.inr (Or.inr (Or.inl z4)))))
        · by_cases z5 : σ.2.2.1 1 (1 + 4 * j + 1) = σ.2.2.1 1 (1 + 4 * i + 3)
          · refine pw_aload_n dX11_coverOf_212 rfl ?_
            refine pw_iload dX11_coverOf_213 rfl ?_
            refine pw_iconst (v := 1) dX11_coverOf_215 rfl ?_
            refine lp_cV1 (mi' := mX11_of) (As := [_, _]) (q := (RX11, TX11, 33)) dX11_coverOf_216 lk_RX11_82 mk_X11_of mi_X11_of me_X11_of ⟨by decide, by decide⟩ rfl rfl (Nat.le_of_ble_eq_true rfl) rfl rfl ⟨rfl, rfl⟩ ⟨Nat.zero_le _, Nat.zero_le _⟩ (r_of j 1 (by omega)) ?_
            refine pw_istore dX11_coverOf_219 (by decide) ?_
            refine pw_iload dX11_coverOf_221 rfl ?_
            refine pw_if_ne 259 dX11_coverOf_223 (by decide) (fun c_223 => absurd c_223 (fun z => z rfl)) (fun c_223 => ?_)
            refine pw_iload dX11_coverOf_226 rfl ?_
            refine pw_if_ne 259 dX11_coverOf_228 (by decide) (fun c_228 => absurd c_228 (fun z => z rfl)) (fun c_228 => ?_)
            refine pw_iload dX11_coverOf_231 rfl ?_
            refine pw_iload_n dX11_coverOf_233 rfl ?_
            refine pw_icmp_eq 259 dX11_coverOf_234 (by decide) (fun c_234 => absurd c_234 z3) (fun c_234 => ?_)
            refine pw_iload dX11_coverOf_237 rfl ?_
            refine pw_aload_n dX11_coverOf_239 rfl ?_
            refine pw_iload_n dX11_coverOf_240 rfl ?_
            refine pw_iconst (v := 2) dX11_coverOf_241 rfl ?_
            refine lp_cV1 (mi' := mX11_of) (As := [_, _]) (q := (RX11, TX11, 33)) dX11_coverOf_242 lk_RX11_82 mk_X11_of mi_X11_of me_X11_of ⟨by decide, by decide⟩ rfl rfl (Nat.le_of_ble_eq_true rfl) rfl rfl ⟨rfl, rfl⟩ ⟨Nat.zero_le _, Nat.zero_le _⟩ (r_of i 2 (by omega)) ?_
            refine pw_icmp_eq 259 dX11_coverOf_245 (by decide) (fun c_245 => absurd c_245 z4) (fun c_245 => ?_)
            refine pw_iload dX11_coverOf_248 rfl ?_
            refine pw_aload_n dX11_coverOf_250 rfl ?_
            refine pw_iload_n dX11_coverOf_251 rfl ?_
            refine pw_iconst (v := 3) dX11_coverOf_252 rfl ?_
            refine lp_cV1 (mi' := mX11_of) (As := [_, _]) (q := (RX11, TX11, 33)) dX11_coverOf_253 lk_RX11_82 mk_X11_of mi_X11_of me_X11_of ⟨by decide, by decide⟩ rfl rfl (Nat.le_of_ble_eq_true rfl) rfl rfl ⟨rfl, rfl⟩ ⟨Nat.zero_le _, Nat.zero_le _⟩ (r_of i 3 (by omega)) ?_
            refine pw_icmp_ne 261 dX11_coverOf_256 (by decide) (fun c_256 => absurd c_256 (fun z => z z5)) (fun c_256 => ?_)
            refine pw_iconst (v := -1) dX11_coverOf_259 rfl ?_
            exact pw_iret rfl rfl dX11_coverOf_260 (Nat.zero_le _) (Nat.zero_le _) (h0 (Or.inr (Or.inr (Or.inr (Or.inr z5)))))
          · have kk := h1 (by rintro (h | h | h | h | h); exact z1 h; exact z2 h; exact z3 h; exact z4 h; exact z5 h)
            refine pw_aload_n dX11_coverOf_212 rfl ?_
            refine pw_iload dX11_coverOf_213 rfl ?_
            refine pw_iconst (v := 1) dX11_coverOf_215 rfl ?_
            refine lp_cV1 (mi' := mX11_of) (As := [_, _]) (q := (RX11, TX11, 33)) dX11_coverOf_216 lk_RX11_82 mk_X11_of mi_X11_of me_X11_of ⟨by decide, by decide⟩ rfl rfl (Nat.le_of_ble_eq_true rfl) rfl rfl ⟨rfl, rfl⟩ ⟨Nat.zero_le _, Nat.zero_le _⟩ (r_of j 1 (by omega)) ?_
            refine pw_istore dX11_coverOf_219 (by decide) ?_
            refine pw_iload dX11_coverOf_221 rfl ?_
            refine pw_if_ne 259 dX11_coverOf_223 (by decide) (fun c_223 => absurd c_223 (fun z => z rfl)) (fun c_223 => ?_)
            refine pw_iload dX11_coverOf_226 rfl ?_
            refine pw_if_ne 259 dX11_coverOf_228 (by decide) (fun c_228 => absurd c_228 (fun z => z rfl)) (fun c_228 => ?_)
            refine pw_iload dX11_coverOf_231 rfl ?_
            refine pw_iload_n dX11_coverOf_233 rfl ?_
            refine pw_icmp_eq 259 dX11_coverOf_234 (by decide) (fun c_234 => absurd c_234 z3) (fun c_234 => ?_)
            refine pw_iload dX11_coverOf_237 rfl ?_
            refine pw_aload_n dX11_coverOf_239 rfl ?_
            refine pw_iload_n dX11_coverOf_240 rfl ?_
            refine pw_iconst (v := 2) dX11_coverOf_241 rfl ?_
            refine lp_cV1 (mi' := mX11_of) (As := [_, _]) (q := (RX11, TX11, 33)) dX11_coverOf_242 lk_RX11_82 mk_X11_of mi_X11_of me_X11_of ⟨by decide, by decide⟩ rfl rfl (Nat.le_of_ble_eq_true rfl) rfl rfl ⟨rfl, rfl⟩ ⟨Nat.zero_le _, Nat.zero_le _⟩ (r_of i 2 (by omega)) ?_
            refine pw_icmp_eq 259 dX11_coverOf_245 (by decide) (fun c_245 => absurd c_245 z4) (fun c_245 => ?_)
            refine pw_iload dX11_coverOf_248 rfl ?_
            refine pw_aload_n dX11_coverOf_250 rfl ?_
            refine pw_iload_n dX11_coverOf_251 rfl ?_
            refine pw_iconst (v := 3) dX11_coverOf_252 rfl ?_
            refine lp_cV1 (mi' := mX11_of) (As := [_, _]) (q := (RX11, TX11, 33)) dX11_coverOf_253 lk_RX11_82 mk_X11_of mi_X11_of me_X11_of ⟨by decide, by decide⟩ rfl rfl (Nat.le_of_ble_eq_true rfl) rfl rfl ⟨rfl, rfl⟩ ⟨Nat.zero_le _, Nat.zero_le _⟩ (r_of i 3 (by omega)) ?_
            refine pw_icmp_ne 261 dX11_coverOf_256 (by decide) (fun c_256 => ?_) (fun c_256 => absurd c_256 z5)
            refine pw_iload_n dX11_coverOf_261 rfl ?_
            refine pw_iconst (v := 1) dX11_coverOf_262 rfl ?_
            refine pw_iload dX11_coverOf_263 rfl ?_
            refine pw_ishl dX11_coverOf_265 ?_
            refine pw_ior dX11_coverOf_266 ?_
            refine pw_istore_n dX11_coverOf_267 (by decide) ?_
            refine pw_iinc dX11_coverOf_268 rfl (by decide) ?_
            refine pw_goto (tgt := 52) dX11_coverOf_271 (by decide) ?_
            refine pw_lk _ ?_ kk
            exact ⟨rfl, rfl, rfl, rfl, congrArg (fun x => some (Value.int x)) (nI_1 j), trivial⟩
theorem cv_loop {sz : Nat} {w0 : va_W} {fin : OC → Prop} {N : Nat} (hN : N ≤ 30) (h0 : σ.2.2.1 1 0 = nI N) (i : Nat) (hi : i < 30) :
    ∀ (r j : Nat) (rs : Int32), j + r = N →
      fin (.inl (some (.int (covL (σ.2.2.1 1) (σ.2.2.1 12) (σ.2.2.1 13) (σ.2.2.1 14) i r j rs)), wp G adr LM Lf Rt σ)) →
      PW l G mX11_coverOf w0 sz fin 52 [(0, .ref (adr 0)), (1, .int (nI i)), (2, .int (σ.2.2.1 1 (1 + 4 * i + 1))), (3, .int rs), (4, .int (nI j))] [] 0 0 (wp G adr LM Lf Rt σ) := by
  intro r
  induction r with
  | zero =>
    intro j rs hj hf
    have hj : j = N := by omega
    subst hj
    refine pw_iload dX11_coverOf_52 rfl ?_
    refine pw_aload_n dX11_coverOf_54 rfl ?_
    refine lp_getr 1 dX11_coverOf_55 fp_RX11_7.FL rfl rfl rfl ?_
    refine pw_iconst (v := 0) dX11_coverOf_58 rfl ?_
    refine lp_iald dX11_coverOf_59 rfl (vp_in_nI (n := 0) (by decide) (by decide)) ?_
    refine pw_icmp_ge 274 dX11_coverOf_60 (by decide) (fun c_60 => ?_) (fun c_60 => absurd (by show σ.2.2.1 1 0 ≤ nI j; rw [h0]; exact Int32.le_refl _) c_60)
    refine pw_iconst (v := -1) dX11_coverOf_274 rfl ?_
    exact pw_iret rfl rfl dX11_coverOf_275 (Nat.zero_le _) (Nat.zero_le _) hf
  | succ r ih =>
    intro j rs hj hf
    have hj30 : j < 30 := by omega
    have ej : (nI j).toNatClampNeg = j := nI_clamp (by omega)
    have bj : vp_in (nI j) 30 := vp_in_nI hj30 (by decide)
    have c60 : ¬ σ.2.2.1 1 0 ≤ nI j := by rw [h0]; exact nI_ge (by omega) (by omega)
    unfold covL at hf
    by_cases hl : 4 ≤ kdA (σ.2.2.1 1) j
    · rw [if_pos hl] at hf
      refine pw_iload dX11_coverOf_52 rfl ?_
      refine pw_aload_n dX11_coverOf_54 rfl ?_
      refine lp_getr 1 dX11_coverOf_55 fp_RX11_7.FL rfl rfl rfl ?_
      refine pw_iconst (v := 0) dX11_coverOf_58 rfl ?_
      refine lp_iald dX11_coverOf_59 rfl (vp_in_nI (n := 0) (by decide) (by decide)) ?_
      refine pw_icmp_ge 274 dX11_coverOf_60 (by decide) (fun c_60 => absurd c_60 c60) (fun c_60 => ?_)
      refine pw_aload_n dX11_coverOf_63 rfl ?_
      refine pw_iload dX11_coverOf_64 rfl ?_
      refine lp_cV1 (mi' := mX11_isLoop) (As := [_]) (q := (RX11, TX11, 33)) dX11_coverOf_66 lk_RX11_163 mk_X11_isLoop mi_X11_isLoop me_X11_isLoop ⟨by decide, by decide⟩ rfl rfl (Nat.le_of_ble_eq_true rfl) rfl rfl ⟨rfl, rfl⟩ ⟨Nat.zero_le _, Nat.zero_le _⟩ (r_isLoop j hj30) ?_
      rw [decide_eq_true (show 4 ≤ σ.2.2.1 1 (1 + 4 * j) from hl)]
      refine pw_if_ne 274 dX11_coverOf_69 (by decide) (fun c_69 => ?_) (fun c_69 => absurd (show (1 : Int32) = 0 from c_69) (by decide))
      refine pw_iconst (v := -1) dX11_coverOf_274 rfl ?_
      exact pw_iret rfl rfl dX11_coverOf_275 (Nat.zero_le _) (Nat.zero_le _) hf
    · rw [if_neg hl] at hf
      have mid : PW l G mX11_coverOf w0 sz fin 108 [(0, .ref (adr 0)), (1, .int (nI i)), (2, .int (σ.2.2.1 1 (1 + 4 * i + 1))), (3, .int rs), (4, .int (nI j)), (5, .int (bI (decide (σ.2.2.1 1 (1 + 4 * j + 2) = σ.2.2.1 1 (1 + 4 * i + 1))))), (6, .int (bI (decide (σ.2.2.1 1 (1 + 4 * j + 3) = σ.2.2.1 1 (1 + 4 * i + 1)))))] [] 0 0 (wp G adr LM Lf Rt σ) := by
        by_cases hfa : σ.2.2.1 12 j = 0
        · rw [if_pos hfa] at hf
          have nx := cv_next (l := l) (G := G) (adr := adr) (Lf := Lf) (Rt := Rt) (sz := sz) (w0 := w0) (fin := fin) (σ := σ) i j hi hj30 rs (fun z => by rw [if_pos z] at hf; exact hf) (fun z => by rw [if_neg z] at hf; exact ih (j + 1) _ (by omega) hf)
          refine pw_aload_n dX11_coverOf_108 rfl ?_
          refine lp_getr 12 dX11_coverOf_109 fp_RX11_45.FL rfl rfl rfl ?_
          refine pw_iload dX11_coverOf_112 rfl ?_
          refine lp_zald dX11_coverOf_114 rfl bj ?_
          rw [ej]
          refine pw_if_eq 212 dX11_coverOf_115 (by decide) (fun c_115 => ?_) (fun c_115 => absurd hfa c_115)
          exact nx
        · rw [if_neg hfa] at hf
          have nx := cv_fail (l := l) (G := G) (adr := adr) (Lf := Lf) (Rt := Rt) (sz := sz) (w0 := w0) (fin := fin) (σ := σ) i j hj30 (σ.2.2.1 1 (1 + 4 * i + 1)) rs hf
          refine pw_aload_n dX11_coverOf_108 rfl ?_
          refine lp_getr 12 dX11_coverOf_109 fp_RX11_45.FL rfl rfl rfl ?_
          refine pw_iload dX11_coverOf_112 rfl ?_
          refine lp_zald dX11_coverOf_114 rfl bj ?_
          rw [ej]
          refine pw_if_eq 212 dX11_coverOf_115 (by decide) (fun c_115 => absurd c_115 hfa) (fun c_115 => ?_)
          exact nx
      have s2 : ∀ z1 : Bool, decide (σ.2.2.1 1 (1 + 4 * j + 2) = σ.2.2.1 1 (1 + 4 * i + 1)) = z1 → PW l G mX11_coverOf w0 sz fin 90 [(0, .ref (adr 0)), (1, .int (nI i)), (2, .int (σ.2.2.1 1 (1 + 4 * i + 1))), (3, .int rs), (4, .int (nI j)), (5, .int (bI z1))] [] 0 0 (wp G adr LM Lf Rt σ) := by
        intro z1 hz1
        rw [hz1] at mid
        by_cases z2 : σ.2.2.1 1 (1 + 4 * j + 3) = σ.2.2.1 1 (1 + 4 * i + 1)
        · rw [decide_eq_true z2] at mid
          refine pw_aload_n dX11_coverOf_90 rfl ?_
          refine pw_iload dX11_coverOf_91 rfl ?_
          refine pw_iconst (v := 3) dX11_coverOf_93 rfl ?_
          refine lp_cV1 (mi' := mX11_of) (As := [_, _]) (q := (RX11, TX11, 33)) dX11_coverOf_94 lk_RX11_82 mk_X11_of mi_X11_of me_X11_of ⟨by decide, by decide⟩ rfl rfl (Nat.le_of_ble_eq_true rfl) rfl rfl ⟨rfl, rfl⟩ ⟨Nat.zero_le _, Nat.zero_le _⟩ (r_of j 3 (by omega)) ?_
          refine pw_iload_n dX11_coverOf_97 rfl ?_
          refine pw_icmp_ne 105 dX11_coverOf_98 (by decide) (fun c_98 => absurd c_98 (fun z => z z2)) (fun c_98 => ?_)
          refine pw_iconst (v := 1) dX11_coverOf_101 rfl ?_
          refine pw_goto (tgt := 106) dX11_coverOf_102 (by decide) ?_
          refine pw_istore dX11_coverOf_106 (by decide) ?_
          refine pw_lk _ ?_ mid
          exact ⟨rfl, rfl, rfl, rfl, rfl, rfl, rfl, trivial⟩
        · rw [decide_eq_false z2] at mid
          refine pw_aload_n dX11_coverOf_90 rfl ?_
          refine pw_iload dX11_coverOf_91 rfl ?_
          refine pw_iconst (v := 3) dX11_coverOf_93 rfl ?_
          refine lp_cV1 (mi' := mX11_of) (As := [_, _]) (q := (RX11, TX11, 33)) dX11_coverOf_94 lk_RX11_82 mk_X11_of mi_X11_of me_X11_of ⟨by decide, by decide⟩ rfl rfl (Nat.le_of_ble_eq_true rfl) rfl rfl ⟨rfl, rfl⟩ ⟨Nat.zero_le _, Nat.zero_le _⟩ (r_of j 3 (by omega)) ?_
          refine pw_iload_n dX11_coverOf_97 rfl ?_
          refine pw_icmp_ne 105 dX11_coverOf_98 (by decide) (fun c_98 => ?_) (fun c_98 => absurd c_98 z2)
          refine pw_iconst (v := 0) dX11_coverOf_105 rfl ?_
          refine pw_istore dX11_coverOf_106 (by decide) ?_
          refine pw_lk _ ?_ mid
          exact ⟨rfl, rfl, rfl, rfl, rfl, rfl, rfl, trivial⟩
      by_cases z1 : σ.2.2.1 1 (1 + 4 * j + 2) = σ.2.2.1 1 (1 + 4 * i + 1)
      · have kk := s2 true (decide_eq_true z1)
        refine pw_iload dX11_coverOf_52 rfl ?_
        refine pw_aload_n dX11_coverOf_54 rfl ?_
        refine lp_getr 1 dX11_coverOf_55 fp_RX11_7.FL rfl rfl rfl ?_
        refine pw_iconst (v := 0) dX11_coverOf_58 rfl ?_
        refine lp_iald dX11_coverOf_59 rfl (vp_in_nI (n := 0) (by decide) (by decide)) ?_
        refine pw_icmp_ge 274 dX11_coverOf_60 (by decide) (fun c_60 => absurd c_60 c60) (fun c_60 => ?_)
        refine pw_aload_n dX11_coverOf_63 rfl ?_
        refine pw_iload dX11_coverOf_64 rfl ?_
        refine lp_cV1 (mi' := mX11_isLoop) (As := [_]) (q := (RX11, TX11, 33)) dX11_coverOf_66 lk_RX11_163 mk_X11_isLoop mi_X11_isLoop me_X11_isLoop ⟨by decide, by decide⟩ rfl rfl (Nat.le_of_ble_eq_true rfl) rfl rfl ⟨rfl, rfl⟩ ⟨Nat.zero_le _, Nat.zero_le _⟩ (r_isLoop j hj30) ?_
        rw [decide_eq_false (show ¬ 4 ≤ σ.2.2.1 1 (1 + 4 * j) from hl)]
        refine pw_if_ne 274 dX11_coverOf_69 (by decide) (fun c_69 => absurd c_69 (fun z => z rfl)) (fun c_69 => ?_)
        refine pw_aload_n dX11_coverOf_72 rfl ?_
        refine pw_iload dX11_coverOf_73 rfl ?_
        refine pw_iconst (v := 2) dX11_coverOf_75 rfl ?_
        refine lp_cV1 (mi' := mX11_of) (As := [_, _]) (q := (RX11, TX11, 33)) dX11_coverOf_76 lk_RX11_82 mk_X11_of mi_X11_of me_X11_of ⟨by decide, by decide⟩ rfl rfl (Nat.le_of_ble_eq_true rfl) rfl rfl ⟨rfl, rfl⟩ ⟨Nat.zero_le _, Nat.zero_le _⟩ (r_of j 2 (by omega)) ?_
        refine pw_iload_n dX11_coverOf_79 rfl ?_
        refine pw_icmp_ne 87 dX11_coverOf_80 (by decide) (fun c_80 => absurd c_80 (fun z => z z1)) (fun c_80 => ?_)
        refine pw_iconst (v := 1) dX11_coverOf_83 rfl ?_
        refine pw_goto (tgt := 88) dX11_coverOf_84 (by decide) ?_
        refine pw_istore dX11_coverOf_88 (by decide) ?_
        refine pw_lk _ ?_ kk
        exact ⟨rfl, rfl, rfl, rfl, rfl, rfl, trivial⟩
      · have kk := s2 false (decide_eq_false z1)
        refine pw_iload dX11_coverOf_52 rfl ?_
        refine pw_aload_n dX11_coverOf_54 rfl ?_
        refine lp_getr 1 dX11_coverOf_55 fp_RX11_7.FL rfl rfl rfl ?_
        refine pw_iconst (v := 0) dX11_coverOf_58 rfl ?_
        refine lp_iald dX11_coverOf_59 rfl (vp_in_nI (n := 0) (by decide) (by decide)) ?_
        refine pw_icmp_ge 274 dX11_coverOf_60 (by decide) (fun c_60 => absurd c_60 c60) (fun c_60 => ?_)
        refine pw_aload_n dX11_coverOf_63 rfl ?_
        refine pw_iload dX11_coverOf_64 rfl ?_
        refine lp_cV1 (mi' := mX11_isLoop) (As := [_]) (q := (RX11, TX11, 33)) dX11_coverOf_66 lk_RX11_163 mk_X11_isLoop mi_X11_isLoop me_X11_isLoop ⟨by decide, by decide⟩ rfl rfl (Nat.le_of_ble_eq_true rfl) rfl rfl ⟨rfl, rfl⟩ ⟨Nat.zero_le _, Nat.zero_le _⟩ (r_isLoop j hj30) ?_
        rw [decide_eq_false (show ¬ 4 ≤ σ.2.2.1 1 (1 + 4 * j) from hl)]
        refine pw_if_ne 274 dX11_coverOf_69 (by decide) (fun c_69 => absurd c_69 (fun z => z rfl)) (fun c_69 => ?_)
        refine pw_aload_n dX11_coverOf_72 rfl ?_
        refine pw_iload dX11_coverOf_73 rfl ?_
        refine pw_iconst (v := 2) dX11_coverOf_75 rfl ?_
        refine lp_cV1 (mi' := mX11_of) (As := [_, _]) (q := (RX11, TX11, 33)) dX11_coverOf_76 lk_RX11_82 mk_X11_of mi_X11_of me_X11_of ⟨by decide, by decide⟩ rfl rfl (Nat.le_of_ble_eq_true rfl) rfl rfl ⟨rfl, rfl⟩ ⟨Nat.zero_le _, Nat.zero_le _⟩ (r_of j 2 (by omega)) ?_
        refine pw_iload_n dX11_coverOf_79 rfl ?_
        refine pw_icmp_ne 87 dX11_coverOf_80 (by decide) (fun c_80 => ?_) (fun c_80 => absurd c_80 z1)
        refine pw_iconst (v := 0) dX11_coverOf_87 rfl ?_
        refine pw_istore dX11_coverOf_88 (by decide) ?_
        refine pw_lk _ ?_ kk
        exact ⟨rfl, rfl, rfl, rfl, rfl, rfl, trivial⟩
theorem r_coverOf {N : Nat} (hN : N ≤ 30) (h0 : σ.2.2.1 1 0 = nI N) (i : Nat) (hi : i < N) : SpecD l G mX11_coverOf [.ref (adr 0), .int (nI i)] (wp G adr LM Lf Rt σ) (some (.int (covA (σ.2.2.1 1) (σ.2.2.1 12) (σ.2.2.1 13) (σ.2.2.1 14) N i))) (wp G adr LM Lf Rt σ) := by
  refine spec_of (by decide) (Nat.le_of_ble_eq_true rfl) (fun sz => ?_)
  have hi30 : i < 30 := by omega
  have ei : (nI i).toNatClampNeg = i := nI_clamp (by omega)
  have bi : vp_in (nI i) 30 := vp_in_nI hi30 (by decide)
  unfold covA
  by_cases k1 : kdA (σ.2.2.1 1) i = 1
  · by_cases f0 : σ.2.2.1 12 i = 0
    · rw [if_pos (Or.inr (Or.inl f0))]
      refine pw_aload_n dX11_coverOf_0 rfl ?_
      refine pw_iload_n dX11_coverOf_1 rfl ?_
      refine lp_cV1 (mi' := mX11_kind) (As := [_]) (q := (RX11, TX11, 33)) dX11_coverOf_2 lk_RX11_86 mk_X11_kind mi_X11_kind me_X11_kind ⟨by decide, by decide⟩ rfl rfl (Nat.le_of_ble_eq_true rfl) rfl rfl ⟨rfl, rfl⟩ ⟨Nat.zero_le _, Nat.zero_le _⟩ (r_kind i hi30) ?_
      refine pw_iconst (v := 1) dX11_coverOf_5 rfl ?_
      refine pw_icmp_ne 36 dX11_coverOf_6 (by decide) (fun c_6 => absurd c_6 (fun z => z k1)) (fun c_6 => ?_)
      refine pw_aload_n dX11_coverOf_9 rfl ?_
      refine lp_getr 12 dX11_coverOf_10 fp_RX11_45.FL rfl rfl rfl ?_
      refine pw_iload_n dX11_coverOf_13 rfl ?_
      refine lp_zald dX11_coverOf_14 rfl bi ?_
      rw [ei]
      refine pw_if_eq 36 dX11_coverOf_15 (by decide) (fun c_15 => ?_) (fun c_15 => absurd f0 c_15)
      refine pw_iconst (v := -1) dX11_coverOf_36 rfl ?_
      exact pw_iret rfl rfl dX11_coverOf_37 (Nat.zero_le _) (Nat.zero_le _) rfl
    · by_cases n1 : σ.2.2.1 13 i = 0
      · by_cases n2 : σ.2.2.1 14 i = 0
        · rw [if_neg (by rintro (h | h | h | h); exact h k1; exact f0 h; exact h n1; exact h n2)]
          refine pw_aload_n dX11_coverOf_0 rfl ?_
          refine pw_iload_n dX11_coverOf_1 rfl ?_
          refine lp_cV1 (mi' := mX11_kind) (As := [_]) (q := (RX11, TX11, 33)) dX11_coverOf_2 lk_RX11_86 mk_X11_kind mi_X11_kind me_X11_kind ⟨by decide, by decide⟩ rfl rfl (Nat.le_of_ble_eq_true rfl) rfl rfl ⟨rfl, rfl⟩ ⟨Nat.zero_le _, Nat.zero_le _⟩ (r_kind i hi30) ?_
          refine pw_iconst (v := 1) dX11_coverOf_5 rfl ?_
          refine pw_icmp_ne 36 dX11_coverOf_6 (by decide) (fun c_6 => absurd c_6 (fun z => z k1)) (fun c_6 => ?_)
          refine pw_aload_n dX11_coverOf_9 rfl ?_
          refine lp_getr 12 dX11_coverOf_10 fp_RX11_45.FL rfl rfl rfl ?_
          refine pw_iload_n dX11_coverOf_13 rfl ?_
          refine lp_zald dX11_coverOf_14 rfl bi ?_
          rw [ei]
          refine pw_if_eq 36 dX11_coverOf_15 (by decide) (fun c_15 => absurd c_15 f0) (fun c_15 => ?_)
          refine pw_aload_n dX11_coverOf_18 rfl ?_
          refine lp_getr 13 dX11_coverOf_19 fp_RX11_48.FL rfl rfl rfl ?_
          refine pw_iload_n dX11_coverOf_22 rfl ?_
          refine lp_zald dX11_coverOf_23 rfl bi ?_
          rw [ei]
          refine pw_if_ne 36 dX11_coverOf_24 (by decide) (fun c_24 => absurd c_24 (fun z => z n1)) (fun c_24 => ?_)
          refine pw_aload_n dX11_coverOf_27 rfl ?_
          refine lp_getr 14 dX11_coverOf_28 fp_RX11_51.FL rfl rfl rfl ?_
          refine pw_iload_n dX11_coverOf_31 rfl ?_
          refine lp_zald dX11_coverOf_32 rfl bi ?_
          rw [ei]
          refine pw_if_eq 38 dX11_coverOf_33 (by decide) (fun c_33 => ?_) (fun c_33 => absurd n2 c_33)
          refine pw_aload_n dX11_coverOf_38 rfl ?_
          refine pw_iload_n dX11_coverOf_39 rfl ?_
          refine pw_iconst (v := 1) dX11_coverOf_40 rfl ?_
          refine lp_cV1 (mi' := mX11_of) (As := [_, _]) (q := (RX11, TX11, 33)) dX11_coverOf_41 lk_RX11_82 mk_X11_of mi_X11_of me_X11_of ⟨by decide, by decide⟩ rfl rfl (Nat.le_of_ble_eq_true rfl) rfl rfl ⟨rfl, rfl⟩ ⟨Nat.zero_le _, Nat.zero_le _⟩ (r_of i 1 (by omega)) ?_
          refine pw_istore_n dX11_coverOf_44 (by decide) ?_
          refine pw_iconst (v := 0) dX11_coverOf_45 rfl ?_
          refine pw_istore_n dX11_coverOf_46 (by decide) ?_
          refine pw_iload_n dX11_coverOf_47 rfl ?_
          refine pw_iconst (v := 1) dX11_coverOf_48 rfl ?_
          refine pw_iadd dX11_coverOf_49 ?_
          refine pw_istore dX11_coverOf_50 (by decide) ?_
          refine pw_lk [(0, .ref (adr 0)), (1, .int (nI i)), (2, .int (σ.2.2.1 1 (1 + 4 * i + 1))), (3, .int 0), (4, .int (nI (i + 1)))] ⟨rfl, rfl, rfl, rfl, congrArg (fun x => some (Value.int x)) (nI_1 i), trivial⟩ (cv_loop hN h0 i hi30 (N - (i + 1)) (i + 1) 0 (by omega) rfl)
        · rw [if_pos (Or.inr (Or.inr (Or.inr n2)))]
          refine pw_aload_n dX11_coverOf_0 rfl ?_
          refine pw_iload_n dX11_coverOf_1 rfl ?_
          refine lp_cV1 (mi' := mX11_kind) (As := [_]) (q := (RX11, TX11, 33)) dX11_coverOf_2 lk_RX11_86 mk_X11_kind mi_X11_kind me_X11_kind ⟨by decide, by decide⟩ rfl rfl (Nat.le_of_ble_eq_true rfl) rfl rfl ⟨rfl, rfl⟩ ⟨Nat.zero_le _, Nat.zero_le _⟩ (r_kind i hi30) ?_
          refine pw_iconst (v := 1) dX11_coverOf_5 rfl ?_
          refine pw_icmp_ne 36 dX11_coverOf_6 (by decide) (fun c_6 => absurd c_6 (fun z => z k1)) (fun c_6 => ?_)
          refine pw_aload_n dX11_coverOf_9 rfl ?_
          refine lp_getr 12 dX11_coverOf_10 fp_RX11_45.FL rfl rfl rfl ?_
          refine pw_iload_n dX11_coverOf_13 rfl ?_
          refine lp_zald dX11_coverOf_14 rfl bi ?_
          rw [ei]
          refine pw_if_eq 36 dX11_coverOf_15 (by decide) (fun c_15 => absurd c_15 f0) (fun c_15 => ?_)
          refine pw_aload_n dX11_coverOf_18 rfl ?_
          refine lp_getr 13 dX11_coverOf_19 fp_RX11_48.FL rfl rfl rfl ?_
          refine pw_iload_n dX11_coverOf_22 rfl ?_
          refine lp_zald dX11_coverOf_23 rfl bi ?_
          rw [ei]
          refine pw_if_ne 36 dX11_coverOf_24 (by decide) (fun c_24 => absurd c_24 (fun z => z n1)) (fun c_24 => ?_)
          refine pw_aload_n dX11_coverOf_27 rfl ?_
          refine lp_getr 14 dX11_coverOf_28 fp_RX11_51.FL rfl rfl rfl ?_
          refine pw_iload_n dX11_coverOf_31 rfl ?_
          refine lp_zald dX11_coverOf_32 rfl bi ?_
          rw [ei]
          refine pw_if_eq 38 dX11_coverOf_33 (by decide) (fun c_33 => absurd c_33 n2) (fun c_33 => ?_)
          refine pw_iconst (v := -1) dX11_coverOf_36 rfl ?_
          exact pw_iret rfl rfl dX11_coverOf_37 (Nat.zero_le _) (Nat.zero_le _) rfl
      · rw [if_pos (Or.inr (Or.inr (Or.inl n1)))]
        refine pw_aload_n dX11_coverOf_0 rfl ?_
        refine pw_iload_n dX11_coverOf_1 rfl ?_
        refine lp_cV1 (mi' := mX11_kind) (As := [_]) (q := (RX11, TX11, 33)) dX11_coverOf_2 lk_RX11_86 mk_X11_kind mi_X11_kind me_X11_kind ⟨by decide, by decide⟩ rfl rfl (Nat.le_of_ble_eq_true rfl) rfl rfl ⟨rfl, rfl⟩ ⟨Nat.zero_le _, Nat.zero_le _⟩ (r_kind i hi30) ?_
        refine pw_iconst (v := 1) dX11_coverOf_5 rfl ?_
        refine pw_icmp_ne 36 dX11_coverOf_6 (by decide) (fun c_6 => absurd c_6 (fun z => z k1)) (fun c_6 => ?_)
        refine pw_aload_n dX11_coverOf_9 rfl ?_
        refine lp_getr 12 dX11_coverOf_10 fp_RX11_45.FL rfl rfl rfl ?_
        refine pw_iload_n dX11_coverOf_13 rfl ?_
        refine lp_zald dX11_coverOf_14 rfl bi ?_
        rw [ei]
        refine pw_if_eq 36 dX11_coverOf_15 (by decide) (fun c_15 => absurd c_15 f0) (fun c_15 => ?_)
        refine pw_aload_n dX11_coverOf_18 rfl ?_
        refine lp_getr 13 dX11_coverOf_19 fp_RX11_48.FL rfl rfl rfl ?_
        refine pw_iload_n dX11_coverOf_22 rfl ?_
        refine lp_zald dX11_coverOf_23 rfl bi ?_
        rw [ei]
        refine pw_if_ne 36 dX11_coverOf_24 (by decide) (fun c_24 => ?_) (fun c_24 => absurd c_24 n1)
        refine pw_iconst (v := -1) dX11_coverOf_36 rfl ?_
        exact pw_iret rfl rfl dX11_coverOf_37 (Nat.zero_le _) (Nat.zero_le _) rfl
  · rw [if_pos (Or.inl k1)]
    refine pw_aload_n dX11_coverOf_0 rfl ?_
    refine pw_iload_n dX11_coverOf_1 rfl ?_
    refine lp_cV1 (mi' := mX11_kind) (As := [_]) (q := (RX11, TX11, 33)) dX11_coverOf_2 lk_RX11_86 mk_X11_kind mi_X11_kind me_X11_kind ⟨by decide, by decide⟩ rfl rfl (Nat.le_of_ble_eq_true rfl) rfl rfl ⟨rfl, rfl⟩ ⟨Nat.zero_le _, Nat.zero_le _⟩ (r_kind i hi30) ?_
    refine pw_iconst (v := 1) dX11_coverOf_5 rfl ?_
    refine pw_icmp_ne 36 dX11_coverOf_6 (by decide) (fun c_6 => ?_) (fun c_6 => absurd c_6 k1)
    refine pw_iconst (v := -1) dX11_coverOf_36 rfl ?_
    exact pw_iret rfl rfl dX11_coverOf_37 (Nat.zero_le _) (Nat.zero_le _) rfl
end C2
