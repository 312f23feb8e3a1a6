section N2
variable {l : Launch} {G : cxG} {adr : Nat → Nat} {Lf Rt : va_W} {τ : St}
theorem rg_C {sz : Nat} {w0 : va_W} {fin : OC → Prop} (i : Nat) (hi30 : i < 30) (s : WS) (lo hi : Nat → Int64) (rc fa nf ns : Nat → Int32) (le gr : Nat → Int64) (cp : Int32) (a c f t : Int64)
    (kk : PW l G mX11_ranges w0 sz fin 215 [(0, .ref (adr 0)), (1, .int (nI i)), (2, .long a), (6, .long c), (10, .long f), (12, .long t)] [] 0 0 (wp G adr LM Lf Rt (stN τ (s, lo, hi, rc, fa, nf, ns, vp_updL le i (if rc i = 0 then f else lsr (le i) f), gr, cp)))) :
    PW l G mX11_ranges w0 sz fin 184 [(0, .ref (adr 0)), (1, .int (nI i)), (2, .long a), (6, .long c), (10, .long f), (12, .long t)] [] 0 0 (wp G adr LM Lf Rt (stN τ (s, lo, hi, rc, fa, nf, ns, le, gr, cp))) := by
  have ei : (nI i).toNatClampNeg = i := nI_clamp (by omega)
  have bi : vp_in (nI i) 30 := vp_in_nI hi30 (by decide)
  by_cases hr : rc i = 0
  · rw [if_pos hr] at kk
    refine pw_aload_n dX11_ranges_184 rfl ?_
    refine lp_getr 15 dX11_ranges_185 fp_RX11_54.FL rfl rfl rfl ?_
    refine pw_iload_n dX11_ranges_188 rfl ?_
    refine pw_aload_n dX11_ranges_189 rfl ?_
    refine lp_getr 11 dX11_ranges_190 fp_RX11_41.FL rfl rfl rfl ?_
    refine pw_iload_n dX11_ranges_193 rfl ?_
    refine lp_zald dX11_ranges_194 rfl bi ?_
    rw [ei]
    refine pw_if_eq 212 dX11_ranges_195 (by decide) (fun c_195 => ?_) (fun c_195 => absurd hr c_195)
    refine pw_lload dX11_ranges_212 rfl ?_
    refine lp_last dX11_ranges_214 rfl bi ?_
    rw [ei, stN_15]
    refine pw_lk _ ?_ kk
    exact ⟨rfl, rfl, rfl, rfl, rfl, rfl, trivial⟩
  · rw [if_neg hr] at kk
    refine pw_aload_n dX11_ranges_184 rfl ?_
    refine lp_getr 15 dX11_ranges_185 fp_RX11_54.FL rfl rfl rfl ?_
    refine pw_iload_n dX11_ranges_188 rfl ?_
    refine pw_aload_n dX11_ranges_189 rfl ?_
    refine lp_getr 11 dX11_ranges_190 fp_RX11_41.FL rfl rfl rfl ?_
    refine pw_iload_n dX11_ranges_193 rfl ?_
    refine lp_zald dX11_ranges_194 rfl bi ?_
    rw [ei]
    refine pw_if_eq 212 dX11_ranges_195 (by decide) (fun c_195 => absurd c_195 hr) (fun c_195 => ?_)
    refine pw_aload_n dX11_ranges_198 rfl ?_
    refine lp_getr 15 dX11_ranges_199 fp_RX11_54.FL rfl rfl rfl ?_
    refine pw_iload_n dX11_ranges_202 rfl ?_
    refine lp_lald dX11_ranges_203 rfl bi ?_
    rw [ei]
    refine pw_lload dX11_ranges_204 rfl ?_
    refine lp_cS1 (mi' := mX11_lesser) (As := [_, _]) dX11_ranges_206 lk_RX11_187 mk_X11_lesser ms_X11_lesser ⟨by decide, by decide⟩ rfl rfl (Nat.le_of_ble_eq_true rfl) ⟨rfl, rfl⟩ ⟨Nat.zero_le _, Nat.zero_le _⟩ (r_lesser _ _ _) ?_
    refine pw_goto (tgt := 214) dX11_ranges_209 (by decide) ?_
    refine lp_last dX11_ranges_214 rfl bi ?_
    rw [ei, stN_15]
    refine pw_lk _ ?_ kk
    exact ⟨rfl, rfl, rfl, rfl, rfl, rfl, trivial⟩
theorem rg_D {sz : Nat} {w0 : va_W} {fin : OC → Prop} (i : Nat) (hi30 : i < 30) (s : WS) (lo hi : Nat → Int64) (rc fa nf ns : Nat → Int32) (le gr : Nat → Int64) (cp : Int32) (a c f t : Int64)
    (kk : PW l G mX11_ranges w0 sz fin 246 [(0, .ref (adr 0)), (1, .int (nI i)), (2, .long a), (6, .long c), (10, .long f), (12, .long t)] [] 0 0 (wp G adr LM Lf Rt (stN τ (s, lo, hi, rc, fa, nf, ns, le, vp_updL gr i (if rc i = 0 then t else gtr (gr i) t), cp)))) :
    PW l G mX11_ranges w0 sz fin 215 [(0, .ref (adr 0)), (1, .int (nI i)), (2, .long a), (6, .long c), (10, .long f), (12, .long t)] [] 0 0 (wp G adr LM Lf Rt (stN τ (s, lo, hi, rc, fa, nf, ns, le, gr, cp))) := by
  have ei : (nI i).toNatClampNeg = i := nI_clamp (by omega)
  have bi : vp_in (nI i) 30 := vp_in_nI hi30 (by decide)
  by_cases hr : rc i = 0
  · rw [if_pos hr] at kk
    refine pw_aload_n dX11_ranges_215 rfl ?_
    refine lp_getr 16 dX11_ranges_216 fp_RX11_57.FL rfl rfl rfl ?_
    refine pw_iload_n dX11_ranges_219 rfl ?_
    refine pw_aload_n dX11_ranges_220 rfl ?_
    refine lp_getr 11 dX11_ranges_221 fp_RX11_41.FL rfl rfl rfl ?_
    refine pw_iload_n dX11_ranges_224 rfl ?_
    refine lp_zald dX11_ranges_225 rfl bi ?_
    rw [ei]
    refine pw_if_eq 243 dX11_ranges_226 (by decide) (fun c_226 => ?_) (fun c_226 => absurd hr c_226)
    refine pw_lload dX11_ranges_243 rfl ?_
    refine lp_last dX11_ranges_245 rfl bi ?_
    rw [ei, stN_16]
    refine pw_lk _ ?_ kk
    exact ⟨rfl, rfl, rfl, rfl, rfl, rfl, trivial⟩
  · rw [if_neg hr] at kk
    refine pw_aload_n dX11_ranges_215 rfl ?_
    refine lp_getr 16 dX11_ranges_216 fp_RX11_57.FL rfl rfl rfl ?_
    refine pw_iload_n dX11_ranges_219 rfl ?_
    refine pw_aload_n dX11_ranges_220 rfl ?_
    refine lp_getr 11 dX11_ranges_221 fp_RX11_41.FL rfl rfl rfl ?_
    refine pw_iload_n dX11_ranges_224 rfl ?_
    refine lp_zald dX11_ranges_225 rfl bi ?_
    rw [ei]
    refine pw_if_eq 243 dX11_ranges_226 (by decide) (fun c_226 => absurd c_226 hr) (fun c_226 => ?_)
    refine pw_aload_n dX11_ranges_229 rfl ?_
    refine lp_getr 16 dX11_ranges_230 fp_RX11_57.FL rfl rfl rfl ?_
    refine pw_iload_n dX11_ranges_233 rfl ?_
    refine lp_lald dX11_ranges_234 rfl bi ?_
    rw [ei]
    refine pw_lload dX11_ranges_235 rfl ?_
    refine lp_cS1 (mi' := mX11_greater) (As := [_, _]) dX11_ranges_237 lk_RX11_191 mk_X11_greater ms_X11_greater ⟨by decide, by decide⟩ rfl rfl (Nat.le_of_ble_eq_true rfl) ⟨rfl, rfl⟩ ⟨Nat.zero_le _, Nat.zero_le _⟩ (r_greater _ _ _) ?_
    refine pw_goto (tgt := 245) dX11_ranges_240 (by decide) ?_
    refine lp_last dX11_ranges_245 rfl bi ?_
    rw [ei, stN_16]
    refine pw_lk _ ?_ kk
    exact ⟨rfl, rfl, rfl, rfl, rfl, rfl, trivial⟩
theorem rg_E {sz : Nat} {w0 : va_W} {fin : OC → Prop} (i : Nat) (hi30 : i < 30) (s : WS) (lo hi : Nat → Int64) (rc fa nf ns : Nat → Int32) (le gr : Nat → Int64) (cp : Int32) (a c f t : Int64)
    (kk : PW l G mX11_ranges w0 sz fin 281 [(0, .ref (adr 0)), (1, .int (nI i)), (2, .long a), (6, .long c), (10, .long f), (12, .long t)] [] 0 0 (wp G adr LM Lf Rt (stN τ (s, lo, hi, rc, fa, upd nf i (bI (decide ((¬ rc i = 0 ∧ ¬ nf i = 0) ∨ a < 0))), ns, le, gr, cp)))) :
    PW l G mX11_ranges w0 sz fin 246 [(0, .ref (adr 0)), (1, .int (nI i)), (2, .long a), (6, .long c), (10, .long f), (12, .long t)] [] 0 0 (wp G adr LM Lf Rt (stN τ (s, lo, hi, rc, fa, nf, ns, le, gr, cp))) := by
  have ei : (nI i).toNatClampNeg = i := nI_clamp (by omega)
  have bi : vp_in (nI i) 30 := vp_in_nI hi30 (by decide)
  by_cases hr : rc i = 0
  · by_cases hx : a < 0
    · rw [decide_eq_true (show (¬ rc i = 0 ∧ ¬ nf i = 0) ∨ a < 0 from Or.inr hx)] at kk
      refine pw_aload_n dX11_ranges_246 rfl ?_
      refine lp_getr 13 dX11_ranges_247 fp_RX11_48.FL rfl rfl rfl ?_
      refine pw_iload_n dX11_ranges_250 rfl ?_
      refine pw_aload_n dX11_ranges_251 rfl ?_
      refine lp_getr 11 dX11_ranges_252 fp_RX11_41.FL rfl rfl rfl ?_
      refine pw_iload_n dX11_ranges_255 rfl ?_
      refine lp_zald dX11_ranges_256 rfl bi ?_
      rw [ei]
      refine pw_if_eq 269 dX11_ranges_257 (by decide) (fun c_257 => ?_) (fun c_257 => absurd hr c_257)
      refine pw_lload_n dX11_ranges_269 rfl ?_
      refine pw_lconst (v := 0) dX11_ranges_270 rfl ?_
      refine pw_lcmp dX11_ranges_271 ?_
      refine pw_if_ge 279 dX11_ranges_272 (by decide) (fun c_272 => absurd hx (Int64.not_lt.mpr ((lg_cmp_ge _ _).mp c_272))) (fun c_272 => ?_)
      refine pw_iconst (v := 1) dX11_ranges_275 rfl ?_
      refine pw_goto (tgt := 280) dX11_ranges_276 (by decide) ?_
      refine lp_zast dX11_ranges_280 rfl bi rfl ?_
      rw [ei, stN_13]
      refine pw_lk _ ?_ kk
      exact ⟨rfl, rfl, rfl, rfl, rfl, rfl, trivial⟩
    · rw [decide_eq_false (show ¬ ((¬ rc i = 0 ∧ ¬ nf i = 0) ∨ a < 0) from fun z => z.elim (fun y => y.1 hr) hx)] at kk
      refine pw_aload_n dX11_ranges_246 rfl ?_
      refine lp_getr 13 dX11_ranges_247 fp_RX11_48.FL rfl rfl rfl ?_
      refine pw_iload_n dX11_ranges_250 rfl ?_
      refine pw_aload_n dX11_ranges_251 rfl ?_
      refine lp_getr 11 dX11_ranges_252 fp_RX11_41.FL rfl rfl rfl ?_
      refine pw_iload_n dX11_ranges_255 rfl ?_
      refine lp_zald dX11_ranges_256 rfl bi ?_
      rw [ei]
      refine pw_if_eq 269 dX11_ranges_257 (by decide) (fun c_257 => ?_) (fun c_257 => absurd hr c_257)
      refine pw_lload_n dX11_ranges_269 rfl ?_
      refine pw_lconst (v := 0) dX11_ranges_270 rfl ?_
      refine pw_lcmp dX11_ranges_271 ?_
      refine pw_if_ge 279 dX11_ranges_272 (by decide) (fun c_272 => ?_) (fun c_272 => absurd ((lg_cmp_ge _ _).mpr (Int64.not_lt.mp hx)) c_272)
      refine pw_iconst (v := 0) dX11_ranges_279 rfl ?_
      refine lp_zast dX11_ranges_280 rfl bi rfl ?_
      rw [ei, stN_13]
      refine pw_lk _ ?_ kk
      exact ⟨rfl, rfl, rfl, rfl, rfl, rfl, trivial⟩
  · by_cases hn : nf i = 0
    · by_cases hx : a < 0
      · rw [decide_eq_true (show (¬ rc i = 0 ∧ ¬ nf i = 0) ∨ a < 0 from Or.inr hx)] at kk
        refine pw_aload_n dX11_ranges_246 rfl ?_
        refine lp_getr 13 dX11_ranges_247 fp_RX11_48.FL rfl rfl rfl ?_
        refine pw_iload_n dX11_ranges_250 rfl ?_
        refine pw_aload_n dX11_ranges_251 rfl ?_
        refine lp_getr 11 dX11_ranges_252 fp_RX11_41.FL rfl rfl rfl ?_
        refine pw_iload_n dX11_ranges_255 rfl ?_
        refine lp_zald dX11_ranges_256 rfl bi ?_
        rw [ei]
        refine pw_if_eq 269 dX11_ranges_257 (by decide) (fun c_257 => absurd c_257 hr) (fun c_257 => ?_)
        refine pw_aload_n dX11_ranges_260 rfl ?_
        refine lp_getr 13 dX11_ranges_261 fp_RX11_48.FL rfl rfl rfl ?_
        refine pw_iload_n dX11_ranges_264 rfl ?_
        refine lp_zald dX11_ranges_265 rfl bi ?_
        rw [ei]
        refine pw_if_ne 275 dX11_ranges_266 (by decide) (fun c_266 => absurd c_266 (fun z => z hn)) (fun c_266 => ?_)
        refine pw_lload_n dX11_ranges_269 rfl ?_
        refine pw_lconst (v := 0) dX11_ranges_270 rfl ?_
        refine pw_lcmp dX11_ranges_271 ?_
        refine pw_if_ge 279 dX11_ranges_272 (by decide) (fun c_272 => absurd hx (Int64.not_lt.mpr ((lg_cmp_ge _ _).mp c_272))) (fun c_272 => ?_)
        refine pw_iconst (v := 1) dX11_ranges_275 rfl ?_
        refine pw_goto (tgt := 280) dX11_ranges_276 (by decide) ?_
        refine lp_zast dX11_ranges_280 rfl bi rfl ?_
        rw [ei, stN_13]
        refine pw_lk _ ?_ kk
        exact ⟨rfl, rfl, rfl, rfl, rfl, rfl, trivial⟩
      · rw [decide_eq_false (show ¬ ((¬ rc i = 0 ∧ ¬ nf i = 0) ∨ a < 0) from fun z => z.elim (fun y => y.2 hn) hx)] at kk
        refine pw_aload_n dX11_ranges_246 rfl ?_
        refine lp_getr 13 dX11_ranges_247 fp_RX11_48.FL rfl rfl rfl ?_
        refine pw_iload_n dX11_ranges_250 rfl ?_
        refine pw_aload_n dX11_ranges_251 rfl ?_
        refine lp_getr 11 dX11_ranges_252 fp_RX11_41.FL rfl rfl rfl ?_
        refine pw_iload_n dX11_ranges_255 rfl ?_
        refine lp_zald dX11_ranges_256 rfl bi ?_
        rw [ei]
        refine pw_if_eq 269 dX11_ranges_257 (by decide) (fun c_257 => absurd c_257 hr) (fun c_257 => ?_)
        refine pw_aload_n dX11_ranges_260 rfl ?_
        refine lp_getr 13 dX11_ranges_261 fp_RX11_48.FL rfl rfl rfl ?_
        refine pw_iload_n dX11_ranges_264 rfl ?_
        refine lp_zald dX11_ranges_265 rfl bi ?_
        rw [ei]
        refine pw_if_ne 275 dX11_ranges_266 (by decide) (fun c_266 => absurd c_266 (fun z => z hn)) (fun c_266 => ?_)
        refine pw_lload_n dX11_ranges_269 rfl ?_
        refine pw_lconst (v := 0) dX11_ranges_270 rfl ?_
        refine pw_lcmp dX11_ranges_271 ?_
        refine pw_if_ge 279 dX11_ranges_272 (by decide) (fun c_272 => ?_) (fun c_272 => absurd ((lg_cmp_ge _ _).mpr (Int64.not_lt.mp hx)) c_272)
        refine pw_iconst (v := 0) dX11_ranges_279 rfl ?_
        refine lp_zast dX11_ranges_280 rfl bi rfl ?_
        rw [ei, stN_13]
        refine pw_lk _ ?_ kk
        exact ⟨rfl, rfl, rfl, rfl, rfl, rfl, trivial⟩
    · rw [decide_eq_true (show (¬ rc i = 0 ∧ ¬ nf i = 0) ∨ a < 0 from Or.inl ⟨hr, hn⟩)] at kk
      refine pw_aload_n dX11_ranges_246 rfl ?_
      refine lp_getr 13 dX11_ranges_247 fp_RX11_48.FL rfl rfl rfl ?_
      refine pw_iload_n dX11_ranges_250 rfl ?_
      refine pw_aload_n dX11_ranges_251 rfl ?_
      refine lp_getr 11 dX11_ranges_252 fp_RX11_41.FL rfl rfl rfl ?_
      refine pw_iload_n dX11_ranges_255 rfl ?_
      refine lp_zald dX11_ranges_256 rfl bi ?_
      rw [ei]
      refine pw_if_eq 269 dX11_ranges_257 (by decide) (fun c_257 => absurd c_257 hr) (fun c_257 => ?_)
      refine pw_aload_n dX11_ranges_260 rfl ?_
      refine lp_getr 13 dX11_ranges_261 fp_RX11_48.FL rfl rfl rfl ?_
      refine pw_iload_n dX11_ranges_264 rfl ?_
      refine lp_zald dX11_ranges_265 rfl bi ?_
      rw [ei]
      refine pw_if_ne 275 dX11_ranges_266 (by decide) (fun c_266 => ?_) (fun c_266 => absurd c_266 hn)
      refine pw_iconst (v := 1) dX11_ranges_275 rfl ?_
      refine pw_goto (tgt := 280) dX11_ranges_276 (by decide) ?_
      refine lp_zast dX11_ranges_280 rfl bi rfl ?_
      rw [ei, stN_13]
      refine pw_lk _ ?_ kk
      exact ⟨rfl, rfl, rfl, rfl, rfl, rfl, trivial⟩
theorem rg_F {sz : Nat} {w0 : va_W} {fin : OC → Prop} (i : Nat) (hi30 : i < 30) (s : WS) (lo hi : Nat → Int64) (rc fa nf ns : Nat → Int32) (le gr : Nat → Int64) (cp : Int32) (a c f t : Int64)
    (kk : PW l G mX11_ranges w0 sz fin 317 [(0, .ref (adr 0)), (1, .int (nI i)), (2, .long a), (6, .long c), (10, .long f), (12, .long t)] [] 0 0 (wp G adr LM Lf Rt (stN τ (s, lo, hi, rc, fa, nf, upd ns i (bI (decide ((¬ rc i = 0 ∧ ¬ ns i = 0) ∨ c < 0))), le, gr, cp)))) :
    PW l G mX11_ranges w0 sz fin 281 [(0, .ref (adr 0)), (1, .int (nI i)), (2, .long a), (6, .long c), (10, .long f), (12, .long t)] [] 0 0 (wp G adr LM Lf Rt (stN τ (s, lo, hi, rc, fa, nf, ns, le, gr, cp))) := by
  have ei : (nI i).toNatClampNeg = i := nI_clamp (by omega)
  have bi : vp_in (nI i) 30 := vp_in_nI hi30 (by decide)
  by_cases hr : rc i = 0
  · by_cases hx : c < 0
    · rw [decide_eq_true (show (¬ rc i = 0 ∧ ¬ ns i = 0) ∨ c < 0 from Or.inr hx)] at kk
      refine pw_aload_n dX11_ranges_281 rfl ?_
      refine lp_getr 14 dX11_ranges_282 fp_RX11_51.FL rfl rfl rfl ?_
      refine pw_iload_n dX11_ranges_285 rfl ?_
      refine pw_aload_n dX11_ranges_286 rfl ?_
      refine lp_getr 11 dX11_ranges_287 fp_RX11_41.FL rfl rfl rfl ?_
      refine pw_iload_n dX11_ranges_290 rfl ?_
      refine lp_zald dX11_ranges_291 rfl bi ?_
      rw [ei]
      refine pw_if_eq 304 dX11_ranges_292 (by decide) (fun c_292 => ?_) (fun c_292 => absurd hr c_292)
      refine pw_lload dX11_ranges_304 rfl ?_
      refine pw_lconst (v := 0) dX11_ranges_306 rfl ?_
      refine pw_lcmp dX11_ranges_307 ?_
      refine pw_if_ge 315 dX11_ranges_308 (by decide) (fun c_308 => absurd hx (Int64.not_lt.mpr ((lg_cmp_ge _ _).mp c_308))) (fun c_308 => ?_)
      refine pw_iconst (v := 1) dX11_ranges_311 rfl ?_
      refine pw_goto (tgt := 316) dX11_ranges_312 (by decide) ?_
      refine lp_zast dX11_ranges_316 rfl bi rfl ?_
      rw [ei, stN_14]
      refine pw_lk _ ?_ kk
      exact ⟨rfl, rfl, rfl, rfl, rfl, rfl, trivial⟩
    · rw [decide_eq_false (show ¬ ((¬ rc i = 0 ∧ ¬ ns i = 0) ∨ c < 0) from fun z => z.elim (fun y => y.1 hr) hx)] at kk
      refine pw_aload_n dX11_ranges_281 rfl ?_
      refine lp_getr 14 dX11_ranges_282 fp_RX11_51.FL rfl rfl rfl ?_
      refine pw_iload_n dX11_ranges_285 rfl ?_
      refine pw_aload_n dX11_ranges_286 rfl ?_
      refine lp_getr 11 dX11_ranges_287 fp_RX11_41.FL rfl rfl rfl ?_
      refine pw_iload_n dX11_ranges_290 rfl ?_
      refine lp_zald dX11_ranges_291 rfl bi ?_
      rw [ei]
      refine pw_if_eq 304 dX11_ranges_292 (by decide) (fun c_292 => ?_) (fun c_292 => absurd hr c_292)
      refine pw_lload dX11_ranges_304 rfl ?_
      refine pw_lconst (v := 0) dX11_ranges_306 rfl ?_
      refine pw_lcmp dX11_ranges_307 ?_
      refine pw_if_ge 315 dX11_ranges_308 (by decide) (fun c_308 => ?_) (fun c_308 => absurd ((lg_cmp_ge _ _).mpr (Int64.not_lt.mp hx)) c_308)
      refine pw_iconst (v := 0) dX11_ranges_315 rfl ?_
      refine lp_zast dX11_ranges_316 rfl bi rfl ?_
      rw [ei, stN_14]
      refine pw_lk _ ?_ kk
      exact ⟨rfl, rfl, rfl, rfl, rfl, rfl, trivial⟩
  · by_cases hn : ns i = 0
    · by_cases hx : c < 0
      · rw [decide_eq_true (show (¬ rc i = 0 ∧ ¬ ns i = 0) ∨ c < 0 from Or.inr hx)] at kk
        refine pw_aload_n dX11_ranges_281 rfl ?_
        refine lp_getr 14 dX11_ranges_282 fp_RX11_51.FL rfl rfl rfl ?_
        refine pw_iload_n dX11_ranges_285 rfl ?_
        refine pw_aload_n dX11_ranges_286 rfl ?_
        refine lp_getr 11 dX11_ranges_287 fp_RX11_41.FL rfl rfl rfl ?_
        refine pw_iload_n dX11_ranges_290 rfl ?_
        refine lp_zald dX11_ranges_291 rfl bi ?_
        rw [ei]
        refine pw_if_eq 304 dX11_ranges_292 (by decide) (fun c_292 => absurd c_292 hr) (fun c_292 => ?_)
        refine pw_aload_n dX11_ranges_295 rfl ?_
        refine lp_getr 14 dX11_ranges_296 fp_RX11_51.FL rfl rfl rfl ?_
        refine pw_iload_n dX11_ranges_299 rfl ?_
        refine lp_zald dX11_ranges_300 rfl bi ?_
        rw [ei]
        refine pw_if_ne 311 dX11_ranges_301 (by decide) (fun c_301 => absurd c_301 (fun z => z hn)) (fun c_301 => ?_)
        refine pw_lload dX11_ranges_304 rfl ?_
        refine pw_lconst (v := 0) dX11_ranges_306 rfl ?_
        refine pw_lcmp dX11_ranges_307 ?_
        refine pw_if_ge 315 dX11_ranges_308 (by decide) (fun c_308 => absurd hx (Int64.not_lt.mpr ((lg_cmp_ge _ _).mp c_308))) (fun c_308 => ?_)
        refine pw_iconst (v := 1) dX11_ranges_311 rfl ?_
        refine pw_goto (tgt := 316) dX11_ranges_312 (by decide) ?_
        refine lp_zast dX11_ranges_316 rfl bi rfl ?_
        rw [ei, stN_14]
        refine pw_lk _ ?_ kk
        exact ⟨rfl, rfl, rfl, rfl, rfl, rfl, trivial⟩
      · rw [decide_eq_false (show ¬ ((¬ rc i = 0 ∧ ¬ ns i = 0) ∨ c < 0) from fun z => z.elim (fun y => y.2 hn) hx)] at kk
        refine pw_aload_n dX11_ranges_281 rfl ?_
        refine lp_getr 14 dX11_ranges_282 fp_RX11_51.FL rfl rfl rfl ?_
        refine pw_iload_n dX11_ranges_285 rfl ?_
        refine pw_aload_n dX11_ranges_286 rfl ?_
        refine lp_getr 11 dX11_ranges_287 fp_RX11_41.FL rfl rfl rfl ?_
        refine pw_iload_n dX11_ranges_290 rfl ?_
        refine lp_zald dX11_ranges_291 rfl bi ?_
        rw [ei]
        refine pw_if_eq 304 dX11_ranges_292 (by decide) (fun c_292 => absurd c_292 hr) (fun c_292 => ?_)
        refine pw_aload_n dX11_ranges_295 rfl ?_
        refine lp_getr 14 dX11_ranges_296 fp_RX11_51.FL rfl rfl rfl ?_
        refine pw_iload_n dX11_ranges_299 rfl ?_
        refine lp_zald dX11_ranges_300 rfl bi ?_
        rw [ei]
        refine pw_if_ne 311 dX11_ranges_301 (by decide) (fun c_301 => absurd c_301 (fun z => z hn)) (fun c_301 => ?_)
        refine pw_lload dX11_ranges_304 rfl ?_
        refine pw_lconst (v := 0) dX11_ranges_306 rfl ?_
        refine pw_lcmp dX11_ranges_307 ?_
        refine pw_if_ge 315 dX11_ranges_308 (by decide) (fun c_308 => ?_) (fun c_308 => absurd ((lg_cmp_ge _ _).mpr (Int64.not_lt.mp hx)) c_308)
        refine pw_iconst (v := 0) dX11_ranges_315 rfl ?_
        refine lp_zast dX11_ranges_316 rfl bi rfl ?_
        rw [ei, stN_14]
        refine pw_lk _ ?_ kk
        exact ⟨rfl, rfl, rfl, rfl, rfl, rfl, trivial⟩
    · rw [decide_eq_true (show (¬ rc i = 0 ∧ ¬ ns i = 0) ∨ c < 0 from Or.inl ⟨hr, hn⟩)] at kk
      refine pw_aload_n dX11_ranges_281 rfl ?_
      refine lp_getr 14 dX11_ranges_282 fp_RX11_51.FL rfl rfl rfl ?_
      refine pw_iload_n dX11_ranges_285 rfl ?_
      refine pw_aload_n dX11_ranges_286 rfl ?_
      refine lp_getr 11 dX11_ranges_287 fp_RX11_41.FL rfl rfl rfl ?_
      refine pw_iload_n dX11_ranges_290 rfl ?_
      refine lp_zald dX11_ranges_291 rfl bi ?_
      rw [ei]
      refine pw_if_eq 304 dX11_ranges_292 (by decide) (fun c_292 => absurd c_292 hr) (fun c_292 => ?_)
      refine pw_aload_n dX11_ranges_295 rfl ?_
      refine lp_getr 14 dX11_ranges_296 fp_RX11_51.FL rfl rfl rfl ?_
      refine pw_iload_n dX11_ranges_299 rfl ?_
      refine lp_zald dX11_ranges_300 rfl bi ?_
      rw [ei]
      refine pw_if_ne 311 dX11_ranges_301 (by decide) (fun c_301 => ?_) (fun c_301 => absurd c_301 hn)
      refine pw_iconst (v := 1) dX11_ranges_311 rfl ?_
      refine pw_goto (tgt := 316) dX11_ranges_312 (by decide) ?_
      refine lp_zast dX11_ranges_316 rfl bi rfl ?_
      rw [ei, stN_14]
      refine pw_lk _ ?_ kk
      exact ⟨rfl, rfl, rfl, rfl, rfl, rfl, trivial⟩
theorem rg_G {sz : Nat} {w0 : va_W} {fin : OC → Prop} (i : Nat) (hi30 : i < 30) (s : WS) (lo hi : Nat → Int64) (rc fa nf ns : Nat → Int32) (le gr : Nat → Int64) (cp : Int32) (a c f t : Int64)
    (kk : PW l G mX11_ranges w0 sz fin 364 [(0, .ref (adr 0)), (1, .int (nI i)), (2, .long a), (6, .long c), (10, .long f), (12, .long t)] [] 0 0 (wp G adr LM Lf Rt (stN τ (s, lo, hi, rc, upd fa i (bI (decide ((¬ rc i = 0 ∧ ¬ fa i = 0) ∨ f < -2147483648 ∨ 2147483647 < t))), nf, ns, le, gr, cp)))) :
    PW l G mX11_ranges w0 sz fin 317 [(0, .ref (adr 0)), (1, .int (nI i)), (2, .long a), (6, .long c), (10, .long f), (12, .long t)] [] 0 0 (wp G adr LM Lf Rt (stN τ (s, lo, hi, rc, fa, nf, ns, le, gr, cp))) := by
  have ei : (nI i).toNatClampNeg = i := nI_clamp (by omega)
  have bi : vp_in (nI i) 30 := vp_in_nI hi30 (by decide)
  by_cases hr : rc i = 0
  · by_cases h1 : f < -2147483648
    · rw [decide_eq_true (show (¬ rc i = 0 ∧ ¬ fa i = 0) ∨ f < -2147483648 ∨ 2147483647 < t from Or.inr (Or.inl h1))] at kk
      refine pw_aload_n dX11_ranges_317 rfl ?_
      refine lp_getr 12 dX11_ranges_318 fp_RX11_45.FL rfl rfl rfl ?_
      refine pw_iload_n dX11_ranges_321 rfl ?_
      refine pw_aload_n dX11_ranges_322 rfl ?_
      refine lp_getr 11 dX11_ranges_323 fp_RX11_41.FL rfl rfl rfl ?_
      refine pw_iload_n dX11_ranges_326 rfl ?_
      refine lp_zald dX11_ranges_327 rfl bi ?_
      rw [ei]
      refine pw_if_eq 340 dX11_ranges_328 (by decide) (fun c_328 => ?_) (fun c_328 => absurd hr c_328)
      refine pw_lload dX11_ranges_340 rfl ?_
      refine pw_ldc2 dX11_ranges_342 kc_RX11_194 ?_
      refine pw_lcmp dX11_ranges_345 ?_
      refine pw_if_lt 358 dX11_ranges_346 (by decide) (fun c_346 => ?_) (fun c_346 => absurd ((lg_cmp_lt _ _).mpr h1) c_346)
      refine pw_iconst (v := 1) dX11_ranges_358 rfl ?_
      refine pw_goto (tgt := 363) dX11_ranges_359 (by decide) ?_
      refine lp_zast dX11_ranges_363 rfl bi rfl ?_
      rw [ei, stN_12]
      refine pw_lk _ ?_ kk
      exact ⟨rfl, rfl, rfl, rfl, rfl, rfl, trivial⟩
    · by_cases h2 : 2147483647 < t
      · rw [decide_eq_true (show (¬ rc i = 0 ∧ ¬ fa i = 0) ∨ f < -2147483648 ∨ 2147483647 < t from Or.inr (Or.inr h2))] at kk
        refine pw_aload_n dX11_ranges_317 rfl ?_
        refine lp_getr 12 dX11_ranges_318 fp_RX11_45.FL rfl rfl rfl ?_
        refine pw_iload_n dX11_ranges_321 rfl ?_
        refine pw_aload_n dX11_ranges_322 rfl ?_
        refine lp_getr 11 dX11_ranges_323 fp_RX11_41.FL rfl rfl rfl ?_
        refine pw_iload_n dX11_ranges_326 rfl ?_
        refine lp_zald dX11_ranges_327 rfl bi ?_
        rw [ei]
        refine pw_if_eq 340 dX11_ranges_328 (by decide) (fun c_328 => ?_) (fun c_328 => absurd hr c_328)
        refine pw_lload dX11_ranges_340 rfl ?_
        refine pw_ldc2 dX11_ranges_342 kc_RX11_194 ?_
        refine pw_lcmp dX11_ranges_345 ?_
        refine pw_if_lt 358 dX11_ranges_346 (by decide) (fun c_346 => absurd h1 (fun z => z ((lg_cmp_lt _ _).mp c_346))) (fun c_346 => ?_)
        refine pw_lload dX11_ranges_349 rfl ?_
        refine pw_ldc2 dX11_ranges_351 kc_RX11_196 ?_
        refine pw_lcmp dX11_ranges_354 ?_
        refine pw_if_le 362 dX11_ranges_355 (by decide) (fun c_355 => absurd h2 (Int64.not_lt.mpr ((lg_cmp_le _ _).mp c_355))) (fun c_355 => ?_)
        refine pw_iconst (v := 1) dX11_ranges_358 rfl ?_
        refine pw_goto (tgt := 363) dX11_ranges_359 (by decide) ?_
        refine lp_zast dX11_ranges_363 rfl bi rfl ?_
        rw [ei, stN_12]
        refine pw_lk _ ?_ kk
        exact ⟨rfl, rfl, rfl, rfl, rfl, rfl, trivial⟩
      · rw [decide_eq_false (show ¬ ((¬ rc i = 0 ∧ ¬ fa i = 0) ∨ f < -2147483648 ∨ 2147483647 < t) from fun z => z.elim (fun y => y.1 hr) (fun y => y.elim h1 h2))] at kk
        refine pw_aload_n dX11_ranges_317 rfl ?_
        refine lp_getr 12 dX11_ranges_318 fp_RX11_45.FL rfl rfl rfl ?_
        refine pw_iload_n dX11_ranges_321 rfl ?_
        refine pw_aload_n dX11_ranges_322 rfl ?_
        refine lp_getr 11 dX11_ranges_323 fp_RX11_41.FL rfl rfl rfl ?_
        refine pw_iload_n dX11_ranges_326 rfl ?_
        refine lp_zald dX11_ranges_327 rfl bi ?_
        rw [ei]
        refine pw_if_eq 340 dX11_ranges_328 (by decide) (fun c_328 => ?_) (fun c_328 => absurd hr c_328)
        refine pw_lload dX11_ranges_340 rfl ?_
        refine pw_ldc2 dX11_ranges_342 kc_RX11_194 ?_
        refine pw_lcmp dX11_ranges_345 ?_
        refine pw_if_lt 358 dX11_ranges_346 (by decide) (fun c_346 => absurd h1 (fun z => z ((lg_cmp_lt _ _).mp c_346))) (fun c_346 => ?_)
        refine pw_lload dX11_ranges_349 rfl ?_
        refine pw_ldc2 dX11_ranges_351 kc_RX11_196 ?_
        refine pw_lcmp dX11_ranges_354 ?_
        refine pw_if_le 362 dX11_ranges_355 (by decide) (fun c_355 => ?_) (fun c_355 => absurd ((lg_cmp_le _ _).mpr (Int64.not_lt.mp h2)) c_355)
        refine pw_iconst (v := 0) dX11_ranges_362 rfl ?_
        refine lp_zast dX11_ranges_363 rfl bi rfl ?_
        rw [ei, stN_12]
        refine pw_lk _ ?_ kk
        exact ⟨rfl, rfl, rfl, rfl, rfl, rfl, trivial⟩
  · by_cases hn : fa i = 0
    · by_cases h1 : f < -2147483648
      · rw [decide_eq_true (show (¬ rc i = 0 ∧ ¬ fa i = 0) ∨ f < -2147483648 ∨ 2147483647 < t from Or.inr (Or.inl h1))] at kk
        refine pw_aload_n dX11_ranges_317 rfl ?_
        refine lp_getr 12 dX11_ranges_318 fp_RX11_45.FL rfl rfl rfl ?_
        refine pw_iload_n dX11_ranges_321 rfl ?_
        refine pw_aload_n dX11_ranges_322 rfl ?_
        refine lp_getr 11 dX11_ranges_323 fp_RX11_41.FL rfl rfl rfl ?_
        refine pw_iload_n dX11_ranges_326 rfl ?_
        refine lp_zald dX11_ranges_327 rfl bi ?_
        rw [ei]
        refine pw_if_eq 340 dX11_ranges_328 (by decide) (fun c_328 => absurd c_328 hr) (fun c_328 => ?_)
        refine pw_aload_n dX11_ranges_331 rfl ?_
        refine lp_getr 12 dX11_ranges_332 fp_RX11_45.FL rfl rfl rfl ?_
        refine pw_iload_n dX11_ranges_335 rfl ?_
        refine lp_zald dX11_ranges_336 rfl bi ?_
        rw [ei]
        refine pw_if_ne 358 dX11_ranges_337 (by decide) (fun c_337 => absurd c_337 (fun z => z hn)) (fun c_337 => ?_)
        refine pw_lload dX11_ranges_340 rfl ?_
        refine pw_ldc2 dX11_ranges_342 kc_RX11_194 ?_
        refine pw_lcmp dX11_ranges_345 ?_
        refine pw_if_lt 358 dX11_ranges_346 (by decide) (fun c_346 => ?_) (fun c_346 => absurd ((lg_cmp_lt _ _).mpr h1) c_346)
        refine pw_iconst (v := 1) dX11_ranges_358 rfl ?_
        refine pw_goto (tgt := 363) dX11_ranges_359 (by decide) ?_
        refine lp_zast dX11_ranges_363 rfl bi rfl ?_
        rw [ei, stN_12]
        refine pw_lk _ ?_ kk
        exact ⟨rfl, rfl, rfl, rfl, rfl, rfl, trivial⟩
      · by_cases h2 : 2147483647 < t
        · rw [decide_eq_true (show (¬ rc i = 0 ∧ ¬ fa i = 0) ∨ f < -2147483648 ∨ 2147483647 < t from Or.inr (Or.inr h2))] at kk
          refine pw_aload_n dX11_ranges_317 rfl ?_
          refine lp_getr 12 dX11_ranges_318 fp_RX11_45.FL rfl rfl rfl ?_
          refine pw_iload_n dX11_ranges_321 rfl ?_
          refine pw_aload_n dX11_ranges_322 rfl ?_
          refine lp_getr 11 dX11_ranges_323 fp_RX11_41.FL rfl rfl rfl ?_
          refine pw_iload_n dX11_ranges_326 rfl ?_
          refine lp_zald dX11_ranges_327 rfl bi ?_
          rw [ei]
          refine pw_if_eq 340 dX11_ranges_328 (by decide) (fun c_328 => absurd c_328 hr) (fun c_328 => ?_)
          refine pw_aload_n dX11_ranges_331 rfl ?_
          refine lp_getr 12 dX11_ranges_332 fp_RX11_45.FL rfl rfl rfl ?_
          refine pw_iload_n dX11_ranges_335 rfl ?_
          refine lp_zald dX11_ranges_336 rfl bi ?_
          rw [ei]
          refine pw_if_ne 358 dX11_ranges_337 (by decide) (fun c_337 => absurd c_337 (fun z => z hn)) (fun c_337 => ?_)
          refine pw_lload dX11_ranges_340 rfl ?_
          refine pw_ldc2 dX11_ranges_342 kc_RX11_194 ?_
          refine pw_lcmp dX11_ranges_345 ?_
          refine pw_if_lt 358 dX11_ranges_346 (by decide) (fun c_346 => absurd h1 (fun z => z ((lg_cmp_lt _ _).mp c_346))) (fun c_346 => ?_)
          refine pw_lload dX11_ranges_349 rfl ?_
          refine pw_ldc2 dX11_ranges_351 kc_RX11_196 ?_
          refine pw_lcmp dX11_ranges_354 ?_
          refine pw_if_le 362 dX11_ranges_355 (by decide) (fun c_355 => absurd h2 (Int64.not_lt.mpr ((lg_cmp_le _ _).mp c_355))) (fun c_355 => ?_)
          refine pw_iconst (v := 1) dX11_ranges_358 rfl ?_
          refine pw_goto (tgt := 363) dX11_ranges_359 (by decide) ?_
          refine lp_zast dX11_ranges_363 rfl bi rfl ?_
          rw [ei, stN_12]
          refine pw_lk _ ?_ kk
          exact ⟨rfl, rfl, rfl, rfl, rfl, rfl, trivial⟩
        · rw [decide_eq_false (show ¬ ((¬ rc i = 0 ∧ ¬ fa i = 0) ∨ f < -2147483648 ∨ 2147483647 < t) from fun z => z.elim (fun y => y.2 hn) (fun y => y.elim h1 h2))] at kk
          refine pw_aload_n dX11_ranges_317 rfl ?_
          refine lp_getr 12 dX11_ranges_318 fp_RX11_45.FL rfl rfl rfl ?_
          refine pw_iload_n dX11_ranges_321 rfl ?_
          refine pw_aload_n dX11_ranges_322 rfl ?_
          refine lp_getr 11 dX11_ranges_323 fp_RX11_41.FL rfl rfl rfl ?_
          refine pw_iload_n dX11_ranges_326 rfl ?_
          refine lp_zald dX11_ranges_327 rfl bi ?_
          rw [ei]
          refine pw_if_eq 340 dX11_ranges_328 (by decide) (fun c_328 => absurd c_328 hr) (fun c_328 => ?_)
          refine pw_aload_n dX11_ranges_331 rfl ?_
          refine lp_getr 12 dX11_ranges_332 fp_RX11_45.FL rfl rfl rfl ?_
          refine pw_iload_n dX11_ranges_335 rfl ?_
          refine lp_zald dX11_ranges_336 rfl bi ?_
          rw [ei]
          refine pw_if_ne 358 dX11_ranges_337 (by decide) (fun c_337 => absurd c_337 (fun z => z hn)) (fun c_337 => ?_)
          refine pw_lload dX11_ranges_340 rfl ?_
          refine pw_ldc2 dX11_ranges_342 kc_RX11_194 ?_
          refine pw_lcmp dX11_ranges_345 ?_
          refine pw_if_lt 358 dX11_ranges_346 (by decide) (fun c_346 => absurd h1 (fun z => z ((lg_cmp_lt _ _).mp c_346))) (fun c_346 => ?_)
          refine pw_lload dX11_ranges_349 rfl ?_
          refine pw_ldc2 dX11_ranges_351 kc_RX11_196 ?_
          refine pw_lcmp dX11_ranges_354 ?_
          refine pw_if_le 362 dX11_ranges_355 (by decide) (fun c_355 => ?_) (fun c_355 => absurd ((lg_cmp_le _ _).mpr (Int64.not_lt.mp h2)) c_355)
          refine pw_iconst (v := 0) dX11_ranges_362 rfl ?_
          refine lp_zast dX11_ranges_363 rfl bi rfl ?_
          rw [ei, stN_12]
          refine pw_lk _ ?_ kk
          exact ⟨rfl, rfl, rfl, rfl, rfl, rfl, trivial⟩
    · rw [decide_eq_true (show (¬ rc i = 0 ∧ ¬ fa i = 0) ∨ f < -2147483648 ∨ 2147483647 < t from Or.inl ⟨hr, hn⟩)] at kk
      refine pw_aload_n dX11_ranges_317 rfl ?_
      refine lp_getr 12 dX11_ranges_318 fp_RX11_45.FL rfl rfl rfl ?_
      refine pw_iload_n dX11_ranges_321 rfl ?_
      refine pw_aload_n dX11_ranges_322 rfl ?_
      refine lp_getr 11 dX11_ranges_323 fp_RX11_41.FL rfl rfl rfl ?_
      refine pw_iload_n dX11_ranges_326 rfl ?_
      refine lp_zald dX11_ranges_327 rfl bi ?_
      rw [ei]
      refine pw_if_eq 340 dX11_ranges_328 (by decide) (fun c_328 => absurd c_328 hr) (fun c_328 => ?_)
      refine pw_aload_n dX11_ranges_331 rfl ?_
      refine lp_getr 12 dX11_ranges_332 fp_RX11_45.FL rfl rfl rfl ?_
      refine pw_iload_n dX11_ranges_335 rfl ?_
      refine lp_zald dX11_ranges_336 rfl bi ?_
      rw [ei]
      refine pw_if_ne 358 dX11_ranges_337 (by decide) (fun c_337 => ?_) (fun c_337 => absurd c_337 hn)
      refine pw_iconst (v := 1) dX11_ranges_358 rfl ?_
      refine pw_goto (tgt := 363) dX11_ranges_359 (by decide) ?_
      refine lp_zast dX11_ranges_363 rfl bi rfl ?_
      rw [ei, stN_12]
      refine pw_lk _ ?_ kk
      exact ⟨rfl, rfl, rfl, rfl, rfl, rfl, trivial⟩
theorem rg_H {sz : Nat} {w0 : va_W} {fin : OC → Prop} (i : Nat) (hi30 : i < 30) (w : Nat) (hw : w < 8) (hres : τ.2.2.1 1 (1 + 4 * i + 1) = nI w) (s : WS) (lo hi : Nat → Int64) (rc fa nf ns : Nat → Int32) (le gr : Nat → Int64) (cp : Int32) (a c f t : Int64)
    (h1 : gtr f (-2147483648) ≤ lsr t 2147483647 → fin (.inl (some (.int 1), wp G adr LM Lf Rt (stN τ (s, vp_updL lo w (gtr f (-2147483648)), vp_updL hi w (lsr t 2147483647), upd rc i 1, fa, nf, ns, le, gr, cp)))))
    (h0 : ¬ gtr f (-2147483648) ≤ lsr t 2147483647 → fin (.inl (some (.int 0), wp G adr LM Lf Rt (stN τ (s, lo, hi, upd rc i 1, fa, nf, ns, le, gr, cp))))) :
    PW l G mX11_ranges w0 sz fin 364 [(0, .ref (adr 0)), (1, .int (nI i)), (2, .long a), (6, .long c), (10, .long f), (12, .long t)] [] 0 0 (wp G adr LM Lf Rt (stN τ (s, lo, hi, rc, fa, nf, ns, le, gr, cp))) := by
  have ei : (nI i).toNatClampNeg = i := nI_clamp (by omega)
  have bi : vp_in (nI i) 30 := vp_in_nI hi30 (by decide)
  have ew : (nI w).toNatClampNeg = w := nI_clamp (by omega)
  by_cases hle : gtr f (-2147483648) ≤ lsr t 2147483647
  · refine pw_aload_n dX11_ranges_364 rfl ?_
    refine lp_getr 11 dX11_ranges_365 fp_RX11_41.FL rfl rfl rfl ?_
    refine pw_iload_n dX11_ranges_368 rfl ?_
    refine pw_iconst (v := 1) dX11_ranges_369 rfl ?_
    refine lp_zast dX11_ranges_370 rfl bi rfl ?_
    rw [ei, stN_11]
    refine pw_lload dX11_ranges_371 rfl ?_
    refine pw_ldc2 dX11_ranges_373 kc_RX11_194 ?_
    refine lp_cS1 (mi' := mX11_greater) (As := [_, _]) dX11_ranges_376 lk_RX11_191 mk_X11_greater ms_X11_greater ⟨by decide, by decide⟩ rfl rfl (Nat.le_of_ble_eq_true rfl) ⟨rfl, rfl⟩ ⟨Nat.zero_le _, Nat.zero_le _⟩ (r_greater _ _ _) ?_
    refine pw_lstore dX11_ranges_379 (by decide) ?_
    refine pw_lload dX11_ranges_381 rfl ?_
    refine pw_ldc2 dX11_ranges_383 kc_RX11_196 ?_
    refine lp_cS1 (mi' := mX11_lesser) (As := [_, _]) dX11_ranges_386 lk_RX11_187 mk_X11_lesser ms_X11_lesser ⟨by decide, by decide⟩ rfl rfl (Nat.le_of_ble_eq_true rfl) ⟨rfl, rfl⟩ ⟨Nat.zero_le _, Nat.zero_le _⟩ (r_lesser _ _ _) ?_
    refine pw_lstore dX11_ranges_389 (by decide) ?_
    refine pw_lload dX11_ranges_391 rfl ?_
    refine pw_lload dX11_ranges_393 rfl ?_
    refine pw_lcmp dX11_ranges_395 ?_
    refine pw_if_le 401 dX11_ranges_396 (by decide) (fun c_396 => ?_) (fun c_396 => absurd ((lg_cmp_le _ _).mpr hle) c_396)
    refine pw_aload_n dX11_ranges_401 rfl ?_
    refine lp_getr 9 dX11_ranges_402 fp_RX11_34.FL rfl rfl rfl ?_
    refine pw_aload_n dX11_ranges_405 rfl ?_
    refine pw_iload_n dX11_ranges_406 rfl ?_
    refine pw_iconst (v := 1) dX11_ranges_407 rfl ?_
    refine lp_cV1 (mi' := mX11_of) (As := [_, _]) (q := (RX11, TX11, 33)) dX11_ranges_408 lk_RX11_82 mk_X11_of mi_X11_of me_X11_of ⟨by decide, by decide⟩ rfl rfl (Nat.le_of_ble_eq_true rfl) rfl rfl ⟨rfl, rfl⟩ ⟨Nat.zero_le _, Nat.zero_le _⟩ (r_of i 1 (by omega)) ?_
    refine pw_top (nI w) hres ?_
    refine pw_lload dX11_ranges_411 rfl ?_
    refine lp_last dX11_ranges_413 rfl (vp_in_nI hw (by decide)) ?_
    rw [ew, stN_9]
    refine pw_aload_n dX11_ranges_414 rfl ?_
    refine lp_getr 10 dX11_ranges_415 fp_RX11_38.FL rfl rfl rfl ?_
    refine pw_aload_n dX11_ranges_418 rfl ?_
    refine pw_iload_n dX11_ranges_419 rfl ?_
    refine pw_iconst (v := 1) dX11_ranges_420 rfl ?_
    refine lp_cV1 (mi' := mX11_of) (As := [_, _]) (q := (RX11, TX11, 33)) dX11_ranges_421 lk_RX11_82 mk_X11_of mi_X11_of me_X11_of ⟨by decide, by decide⟩ rfl rfl (Nat.le_of_ble_eq_true rfl) rfl rfl ⟨rfl, rfl⟩ ⟨Nat.zero_le _, Nat.zero_le _⟩ (r_of i 1 (by omega)) ?_
    refine pw_top (nI w) hres ?_
    refine pw_lload dX11_ranges_424 rfl ?_
    refine lp_last dX11_ranges_426 rfl (vp_in_nI hw (by decide)) ?_
    rw [ew, stN_10]
    refine pw_iconst (v := 1) dX11_ranges_427 rfl ?_
    exact pw_iret rfl rfl dX11_ranges_428 (Nat.zero_le _) (Nat.zero_le _) (h1 hle)
  · refine pw_aload_n dX11_ranges_364 rfl ?_
    refine lp_getr 11 dX11_ranges_365 fp_RX11_41.FL rfl rfl rfl ?_
    refine pw_iload_n dX11_ranges_368 rfl ?_
    refine pw_iconst (v := 1) dX11_ranges_369 rfl ?_
    refine lp_zast dX11_ranges_370 rfl bi rfl ?_
    rw [ei, stN_11]
    refine pw_lload dX11_ranges_371 rfl ?_
    refine pw_ldc2 dX11_ranges_373 kc_RX11_194 ?_
    refine lp_cS1 (mi' := mX11_greater) (As := [_, _]) dX11_ranges_376 lk_RX11_191 mk_X11_greater ms_X11_greater ⟨by decide, by decide⟩ rfl rfl (Nat.le_of_ble_eq_true rfl) ⟨rfl, rfl⟩ ⟨Nat.zero_le _, Nat.zero_le _⟩ (r_greater _ _ _) ?_
    refine pw_lstore dX11_ranges_379 (by decide) ?_
    refine pw_lload dX11_ranges_381 rfl ?_
    refine pw_ldc2 dX11_ranges_383 kc_RX11_196 ?_
    refine lp_cS1 (mi' := mX11_lesser) (As := [_, _]) dX11_ranges_386 lk_RX11_187 mk_X11_lesser ms_X11_lesser ⟨by decide, by decide⟩ rfl rfl (Nat.le_of_ble_eq_true rfl) ⟨rfl, rfl⟩ ⟨Nat.zero_le _, Nat.zero_le _⟩ (r_lesser _ _ _) ?_
    refine pw_lstore dX11_ranges_389 (by decide) ?_
    refine pw_lload dX11_ranges_391 rfl ?_
    refine pw_lload dX11_ranges_393 rfl ?_
    refine pw_lcmp dX11_ranges_395 ?_
    refine pw_if_le 401 dX11_ranges_396 (by decide) (fun c_396 => absurd ((lg_cmp_le _ _).mp c_396) hle) (fun c_396 => ?_)
    refine pw_iconst (v := 0) dX11_ranges_399 rfl ?_
    exact pw_iret rfl rfl dX11_ranges_400 (Nat.zero_le _) (Nat.zero_le _) (h0 hle)
/-- an instruction with ranges: whether something is left, what is known then -/
def rngS (al : Nat → Int32) (i : Nat) (x : AN) : Bool × AN :=
  (decide (gtr (rgF al x.2.1 x.2.2.1 i) (-2147483648) ≤ lsr (rgT al x.2.1 x.2.2.1 i) 2147483647),
   (x.1, (if gtr (rgF al x.2.1 x.2.2.1 i) (-2147483648) ≤ lsr (rgT al x.2.1 x.2.2.1 i) 2147483647 then vp_updL x.2.1 (tN (al (1 + 4 * i + 1))) (gtr (rgF al x.2.1 x.2.2.1 i) (-2147483648)) else x.2.1),
    (if gtr (rgF al x.2.1 x.2.2.1 i) (-2147483648) ≤ lsr (rgT al x.2.1 x.2.2.1 i) 2147483647 then vp_updL x.2.2.1 (tN (al (1 + 4 * i + 1))) (lsr (rgT al x.2.1 x.2.2.1 i) 2147483647) else x.2.2.1),
    upd x.2.2.2.1 i 1,
    upd x.2.2.2.2.1 i (bI (decide ((¬ x.2.2.2.1 i = 0 ∧ ¬ x.2.2.2.2.1 i = 0) ∨ rgF al x.2.1 x.2.2.1 i < -2147483648 ∨ 2147483647 < rgT al x.2.1 x.2.2.1 i))),
    upd x.2.2.2.2.2.1 i (bI (decide ((¬ x.2.2.2.1 i = 0 ∧ ¬ x.2.2.2.2.2.1 i = 0) ∨ vOf x.2.1 (al (1 + 4 * i + 2)) < 0))),
    upd x.2.2.2.2.2.2.1 i (bI (decide ((¬ x.2.2.2.1 i = 0 ∧ ¬ x.2.2.2.2.2.2.1 i = 0) ∨ rgC al x.2.1 i < 0))),
    vp_updL x.2.2.2.2.2.2.2.1 i (if x.2.2.2.1 i = 0 then rgF al x.2.1 x.2.2.1 i else lsr (x.2.2.2.2.2.2.2.1 i) (rgF al x.2.1 x.2.2.1 i)),
    vp_updL x.2.2.2.2.2.2.2.2.1 i (if x.2.2.2.1 i = 0 then rgT al x.2.1 x.2.2.1 i else gtr (x.2.2.2.2.2.2.2.2.1 i) (rgT al x.2.1 x.2.2.1 i)), x.2.2.2.2.2.2.2.2.2))
theorem r_ranges (i : Nat) (hi30 : i < 30) (x : AN) (hr : ∃ w, w < 8 ∧ τ.2.2.1 1 (1 + 4 * i + 1) = nI w) (h2 : okOp (τ.2.2.1 1 (1 + 4 * i + 2))) (h3 : ¬ kdA (τ.2.2.1 1) i = 0 → okOp (τ.2.2.1 1 (1 + 4 * i + 3))) :
    SpecD l G mX11_ranges [.ref (adr 0), .int (nI i)] (wp G adr LM Lf Rt (stN τ x)) (some (.int (bI (rngS (τ.2.2.1 1) i x).1))) (wp G adr LM Lf Rt (stN τ (rngS (τ.2.2.1 1) i x).2)) := by
  refine spec_of (by decide) (Nat.le_of_ble_eq_true rfl) (fun sz => ?_)
  obtain ⟨w, hw, hres⟩ := hr
  have etw : tN (τ.2.2.1 1 (1 + 4 * i + 1)) = w := by rw [hres]; exact nI_clamp (by omega)
  obtain ⟨s, lo, hi, rc, fa, nf, ns, le, gr, cp⟩ := x
  refine rg_A (σ := stN τ (s, lo, hi, rc, fa, nf, ns, le, gr, cp)) i hi30 h2 h3 (rg_B i hi30 _ _ _ _ (rg_C i hi30 _ _ _ _ _ _ _ _ _ _ _ _ _ _ (rg_D i hi30 _ _ _ _ _ _ _ _ _ _ _ _ _ _ (rg_E i hi30 _ _ _ _ _ _ _ _ _ _ _ _ _ _ (rg_F i hi30 _ _ _ _ _ _ _ _ _ _ _ _ _ _ (rg_G i hi30 _ _ _ _ _ _ _ _ _ _ _ _ _ _ (rg_H i hi30 w hw hres _ _ _ _ _ _ _ _ _ _ _ _ _ _ (fun hle => ?_) (fun hle => ?_))))))))
  · have hle2 : gtr (rgF (τ.2.2.1 1) lo hi i) (-2147483648) ≤ lsr (rgT (τ.2.2.1 1) lo hi i) 2147483647 := hle
    unfold rngS
    dsimp only
    rw [decide_eq_true hle2, if_pos hle2, if_pos hle2, etw]
    rfl
  · have hle2 : ¬ gtr (rgF (τ.2.2.1 1) lo hi i) (-2147483648) ≤ lsr (rgT (τ.2.2.1 1) lo hi i) 2147483647 := hle
    unfold rngS
    dsimp only
    rw [decide_eq_false hle2, if_neg hle2, if_neg hle2]
    rfl
end N2
