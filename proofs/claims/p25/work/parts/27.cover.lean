/-! COVERS AND MOVING OUT, as the reference finds them -/
def hasA (set op : Int32) : Bool := decide (0 ≤ op ∧ op ≤ 7) && decide ((set >>> (op &&& 31)) &&& 1 = 1)
def covC (al nf ns : Nat → Int32) (v : Int32) (j : Nat) (rs : Int32) : Bool := decide (kdA al j = 1) && !(decide (al (1 + 4 * j + 2) = v) == decide (al (1 + 4 * j + 3) = v)) && decide ((if al (1 + 4 * j + 2) = v then ns j else nf j) = 0) && !hasA rs (if al (1 + 4 * j + 2) = v then al (1 + 4 * j + 3) else al (1 + 4 * j + 2))
def covL (al fa nf ns : Nat → Int32) (i : Nat) : Nat → Nat → Int32 → Int32
  | 0, _, _ => -1
  | r + 1, j, rs => if 4 ≤ kdA al j then -1 else
      if fa j = 0 then
        (if al (1 + 4 * j + 2) = al (1 + 4 * i + 1) ∨ al (1 + 4 * j + 3) = al (1 + 4 * i + 1) ∨ al (1 + 4 * j + 1) = al (1 + 4 * i + 1) ∨ al (1 + 4 * j + 1) = al (1 + 4 * i + 2) ∨ al (1 + 4 * j + 1) = al (1 + 4 * i + 3) then -1
         else covL al fa nf ns i r (j + 1) (rs ||| (1 <<< (al (1 + 4 * j + 1) &&& 31))))
      else if covC al nf ns (al (1 + 4 * i + 1)) j rs = true then nI j else -1
def covA (al fa nf ns : Nat → Int32) (N i : Nat) : Int32 := if ¬ kdA al i = 1 ∨ fa i = 0 ∨ ¬ nf i = 0 ∨ ¬ ns i = 0 then -1 else covL al fa nf ns i (N - (i + 1)) (i + 1) 0
def hoB (al : Nat → Int32) (i t : Nat) : Bool := !decide (t = i) && !decide (4 ≤ kdA al t) && (decide (al (1 + 4 * t + 1) = al (1 + 4 * i + 1)) || decide (al (1 + 4 * t + 1) = stepA al i))
def hoL (al : Nat → Int32) (i : Nat) : Nat → Nat → Bool → Bool
  | 0, _, b => b
  | r + 1, t, b => hoL al i r (t + 1) (b && !hoB al i t)
def hoA (al cs inr pt : Nat → Int32) (i : Nat) : Bool := if ¬ kdA al i = 1 ∨ ¬ cs i = 0 ∨ inr i = -1 ∨ stepA al i = -1 then false else hoL al i (tN (pt (tN (inr i))) - (tN (inr i) + 1)) (tN (inr i) + 1) true
section C1
variable {l : Launch} {G : cxG} {adr : Nat → Nat} {Lf Rt : va_W} {σ : St}
theorem r_has (set op : Int32) (ws : va_W) : SpecD l G mX11_has [.int set, .int op] ws (some (.int (bI (hasA set op)))) ws := by
  refine spec_of (by decide) (Nat.le_of_ble_eq_true rfl) (fun sz => ?_)
  unfold hasA
  by_cases h : (0 : Int32) ≤ op ∧ op ≤ 7
  · rw [decide_eq_true h]
    by_cases h2 : (set >>> (op &&& 31)) &&& 1 = 1
    · rw [decide_eq_true h2]
      refine pw_iload_n dX11_has_0 rfl ?_
      refine pw_i2l dX11_has_1 ?_
      refine pw_lconst (v := 0) dX11_has_2 rfl ?_
      refine pw_ldc2 dX11_has_3 kc_RX11_94 ?_
      refine lp_cS1 (mi' := mX11_in) (As := [_, _, _]) dX11_has_6 lk_RX11_90 mk_X11_in ms_X11_in ⟨by decide, by decide⟩ rfl rfl (Nat.le_of_ble_eq_true rfl) ⟨rfl, rfl⟩ ⟨Nat.zero_le _, Nat.zero_le _⟩ (r_in32 op 0 7 _) ?_
      rw [decide_eq_true h]
      refine pw_if_eq 25 dX11_has_9 (by decide) (fun c_9 => absurd (show (1 : Int32) = 0 from c_9) (by decide)) (fun c_9 => ?_)
      refine pw_iload_n dX11_has_12 rfl ?_
      refine pw_iload_n dX11_has_13 rfl ?_
      refine pw_ishr dX11_has_14 ?_
      refine pw_iconst (v := 1) dX11_has_15 rfl ?_
      refine pw_iand dX11_has_16 ?_
      refine pw_iconst (v := 1) dX11_has_17 rfl ?_
      refine pw_icmp_ne 25 dX11_has_18 (by decide) (fun c_18 => absurd c_18 (fun z => z h2)) (fun c_18 => ?_)
      refine pw_iconst (v := 1) dX11_has_21 rfl ?_
      refine pw_goto (tgt := 26) dX11_has_22 (by decide) ?_
      exact pw_iret rfl rfl dX11_has_26 (Nat.zero_le _) (Nat.zero_le _) rfl
    · rw [decide_eq_false h2]
      refine pw_iload_n dX11_has_0 rfl ?_
      refine pw_i2l dX11_has_1 ?_
      refine pw_lconst (v := 0) dX11_has_2 rfl ?_
      refine pw_ldc2 dX11_has_3 kc_RX11_94 ?_
      refine lp_cS1 (mi' := mX11_in) (As := [_, _, _]) dX11_has_6 lk_RX11_90 mk_X11_in ms_X11_in ⟨by decide, by decide⟩ rfl rfl (Nat.le_of_ble_eq_true rfl) ⟨rfl, rfl⟩ ⟨Nat.zero_le _, Nat.zero_le _⟩ (r_in32 op 0 7 _) ?_
      rw [decide_eq_true h]
      refine pw_if_eq 25 dX11_has_9 (by decide) (fun c_9 => absurd (show (1 : Int32) = 0 from c_9) (by decide)) (fun c_9 => ?_)
      refine pw_iload_n dX11_has_12 rfl ?_
      refine pw_iload_n dX11_has_13 rfl ?_
      refine pw_ishr dX11_has_14 ?_
      refine pw_iconst (v := 1) dX11_has_15 rfl ?_
      refine pw_iand dX11_has_16 ?_
      refine pw_iconst (v := 1) dX11_has_17 rfl ?_
      refine pw_icmp_ne 25 dX11_has_18 (by decide) (fun c_18 => ?_) (fun c_18 => absurd c_18 h2)
      refine pw_iconst (v := 0) dX11_has_25 rfl ?_
      exact pw_iret rfl rfl dX11_has_26 (Nat.zero_le _) (Nat.zero_le _) rfl
  · rw [decide_eq_false h]
    refine pw_iload_n dX11_has_0 rfl ?_
    refine pw_i2l dX11_has_1 ?_
    refine pw_lconst (v := 0) dX11_has_2 rfl ?_
    refine pw_ldc2 dX11_has_3 kc_RX11_94 ?_
    refine lp_cS1 (mi' := mX11_in) (As := [_, _, _]) dX11_has_6 lk_RX11_90 mk_X11_in ms_X11_in ⟨by decide, by decide⟩ rfl rfl (Nat.le_of_ble_eq_true rfl) ⟨rfl, rfl⟩ ⟨Nat.zero_le _, Nat.zero_le _⟩ (r_in32 op 0 7 _) ?_
    rw [decide_eq_false h]
    refine pw_if_eq 25 dX11_has_9 (by decide) (fun c_9 => ?_) (fun c_9 => absurd rfl c_9)
    refine pw_iconst (v := 0) dX11_has_25 rfl ?_
    exact pw_iret rfl rfl dX11_has_26 (Nat.zero_le _) (Nat.zero_le _) rfl
theorem cv_fail {sz : Nat} {w0 : va_W} {fin : OC → Prop} (i j : Nat) (hj : j < 30) (v rs : Int32) (hf : fin (.inl (some (.int (if covC (σ.2.2.1 1) (σ.2.2.1 13) (σ.2.2.1 14) v j rs = true then nI j else -1)), wp G adr LM Lf Rt σ))) :
    PW l G mX11_coverOf w0 sz fin 118 [(0, .ref (adr 0)), (1, .int (nI i)), (2, .int v), (3, .int rs), (4, .int (nI j)), (5, .int (bI (decide (σ.2.2.1 1 (1 + 4 * j + 2) = v)))), (6, .int (bI (decide (σ.2.2.1 1 (1 + 4 * j + 3) = v))))] [] 0 0 (wp G adr LM Lf Rt σ) := by
  have ej : (nI j).toNatClampNeg = j := nI_clamp (by omega)
  have bj : vp_in (nI j) 30 := vp_in_nI hj (by decide)
  -- from 142 on, with the neg in local 7
  have tail : ∀ ng : Int32, (if σ.2.2.1 1 (1 + 4 * j + 2) = v then σ.2.2.1 14 j else σ.2.2.1 13 j) = ng → PW l G mX11_coverOf w0 sz fin 142 [(0, .ref (adr 0)), (3, .int rs), (4, .int (nI j)), (5, .int (bI (decide (σ.2.2.1 1 (1 + 4 * j + 2) = v)))), (6, .int (bI (decide (σ.2.2.1 1 (1 + 4 * j + 3) = v)))), (7, .int ng)] [] 0 0 (wp G adr LM Lf Rt σ) := by
    intro ng hng
    unfold covC at hf
    rw [hng] at hf
    have no : ∀ b : Bool, b = false → (decide (kdA (σ.2.2.1 1) j = 1) && !(decide (σ.2.2.1 1 (1 + 4 * j + 2) = v) == decide (σ.2.2.1 1 (1 + 4 * j + 3) = v)) && decide (ng = 0) && !hasA rs (if σ.2.2.1 1 (1 + 4 * j + 2) = v then σ.2.2.1 1 (1 + 4 * j + 3) else σ.2.2.1 1 (1 + 4 * j + 2))) = b → fin (.inl (some (.int (-1)), wp G adr LM Lf Rt σ)) := by
      intro b hb he
      rw [he, hb, if_neg (by decide)] at hf
      exact hf
    by_cases k1 : kdA (σ.2.2.1 1) j = 1
    · by_cases hx : decide (σ.2.2.1 1 (1 + 4 * j + 2) = v) = decide (σ.2.2.1 1 (1 + 4 * j + 3) = v)
      · have hn := no _ rfl (by rw [hx, beq_self_eq_true, Bool.not_true, Bool.and_false, Bool.false_and, Bool.false_and])
        refine pw_aload_n dX11_coverOf_142 rfl ?_
        refine pw_iload dX11_coverOf_143 rfl ?_
        refine lp_cV1 (mi' := mX11_kind) (As := [_]) (q := (RX11, TX11, 33)) dX11_coverOf_145 lk_RX11_86 mk_X11_kind mi_X11_kind me_X11_kind ⟨by decide, by decide⟩ rfl rfl (Nat.le_of_ble_eq_true rfl) rfl rfl ⟨rfl, rfl⟩ ⟨Nat.zero_le _, Nat.zero_le _⟩ (r_kind j hj) ?_
        refine pw_iconst (v := 1) dX11_coverOf_148 rfl ?_
        refine pw_icmp_ne 197 dX11_coverOf_149 (by decide) (fun c_149 => absurd c_149 (fun z => z k1)) (fun c_149 => ?_)
        refine pw_iload dX11_coverOf_152 rfl ?_
        refine pw_iload dX11_coverOf_154 rfl ?_
        refine pw_icmp_eq 197 dX11_coverOf_156 (by decide) (fun c_156 => ?_) (fun c_156 => absurd (congrArg bI hx) c_156)
        refine pw_iconst (v := 0) dX11_coverOf_197 rfl ?_
        refine pw_istore dX11_coverOf_198 (by decide) ?_
        refine pw_iload dX11_coverOf_200 rfl ?_
        refine pw_if_eq 210 dX11_coverOf_202 (by decide) (fun c_202 => ?_) (fun c_202 => absurd rfl c_202)
        refine pw_iconst (v := -1) dX11_coverOf_210 rfl ?_
        exact pw_iret rfl rfl dX11_coverOf_211 (Nat.zero_le _) (Nat.zero_le _) hn
      · by_cases hg : ng = 0
        · have hxn : ¬ bI (decide (σ.2.2.1 1 (1 + 4 * j + 2) = v)) = bI (decide (σ.2.2.1 1 (1 + 4 * j + 3) = v)) := by
            intro q
            apply hx
            cases h1 : decide (σ.2.2.1 1 (1 + 4 * j + 2) = v) <;> cases h2 : decide (σ.2.2.1 1 (1 + 4 * j + 3) = v) <;> rw [h1, h2] at q <;> first | rfl | exact absurd q (by decide)
          have hxb : (decide (σ.2.2.1 1 (1 + 4 * j + 2) = v) == decide (σ.2.2.1 1 (1 + 4 * j + 3) = v)) = false := by
            rw [beq_eq_false_iff_ne]; exact hx
          have yes : ∀ op : Int32, (if σ.2.2.1 1 (1 + 4 * j + 2) = v then σ.2.2.1 1 (1 + 4 * j + 3) else σ.2.2.1 1 (1 + 4 * j + 2)) = op → fin (.inl (some (.int (if hasA rs op = false then nI j else -1)), wp G adr LM Lf Rt σ)) := by
            intro op hop
            rw [hop, decide_eq_true k1, hxb, decide_eq_true hg] at hf
            cases hh : hasA rs op
            · rw [hh] at hf; exact hf
            · rw [hh] at hf; exact hf
          by_cases z1 : σ.2.2.1 1 (1 + 4 * j + 2) = v
          · have y := yes _ (if_pos z1)
            rw [decide_eq_true z1] at hxn ⊢
            cases hh : hasA rs (σ.2.2.1 1 (1 + 4 * j + 3))
            · rw [hh, if_pos rfl] at y
              refine pw_aload_n dX11_coverOf_142 rfl ?_
              refine pw_iload dX11_coverOf_143 rfl ?_
              refine lp_cV1 (mi' := mX11_kind) (As := [_]) (q := (RX11, TX11, 33)) dX11_coverOf_145 lk_RX11_86 mk_X11_kind mi_X11_kind me_X11_kind ⟨by decide, by decide⟩ rfl rfl (Nat.le_of_ble_eq_true rfl) rfl rfl ⟨rfl, rfl⟩ ⟨Nat.zero_le _, Nat.zero_le _⟩ (r_kind j hj) ?_
              refine pw_iconst (v := 1) dX11_coverOf_148 rfl ?_
              refine pw_icmp_ne 197 dX11_coverOf_149 (by decide) (fun c_149 => absurd c_149 (fun z => z k1)) (fun c_149 => ?_)
              refine pw_iload dX11_coverOf_152 rfl ?_
              refine pw_iload dX11_coverOf_154 rfl ?_
              refine pw_icmp_eq 197 dX11_coverOf_156 (by decide) (fun c_156 => absurd c_156 hxn) (fun c_156 => ?_)
              refine pw_iload dX11_coverOf_159 rfl ?_
              refine pw_if_ne 197 dX11_coverOf_161 (by decide) (fun c_161 => absurd c_161 (fun z => z hg)) (fun c_161 => ?_)
              refine pw_iload_n dX11_coverOf_164 rfl ?_
              refine pw_iload dX11_coverOf_165 rfl ?_
              refine pw_if_eq 180 dX11_coverOf_167 (by decide) (fun c_167 => absurd (show (1 : Int32) = 0 from c_167) (by decide)) (fun c_167 => ?_)
              refine pw_aload_n dX11_coverOf_170 rfl ?_
              refine pw_iload dX11_coverOf_171 rfl ?_
              refine pw_iconst (v := 3) dX11_coverOf_173 rfl ?_
              refine lp_cV1 (mi' := mX11_of) (As := [_, _]) (q := (RX11, TX11, 33)) dX11_coverOf_174 lk_RX11_82 mk_X11_of mi_X11_of me_X11_of ⟨by decide, by decide⟩ rfl rfl (Nat.le_of_ble_eq_true rfl) rfl rfl ⟨rfl, rfl⟩ ⟨Nat.zero_le _, Nat.zero_le _⟩ (r_of j 3 (by omega)) ?_
              refine pw_goto (tgt := 187) dX11_coverOf_177 (by decide) ?_
              refine lp_cS1 (mi' := mX11_has) (As := [_, _]) dX11_coverOf_187 lk_RX11_220 mk_X11_has ms_X11_has ⟨by decide, by decide⟩ rfl rfl (Nat.le_of_ble_eq_true rfl) ⟨rfl, rfl⟩ ⟨Nat.zero_le _, Nat.zero_le _⟩ (r_has _ _ _) ?_
              rw [hh]
              refine pw_if_ne 197 dX11_coverOf_190 (by decide) (fun c_190 => absurd c_190 (fun z => z rfl)) (fun c_190 => ?_)
              refine pw_iconst (v := 1) dX11_coverOf_193 rfl ?_
              refine pw_goto (tgt := 198) dX11_coverOf_194 (by decide) ?_
              refine pw_istore dX11_coverOf_198 (by decide) ?_
              refine pw_iload dX11_coverOf_200 rfl ?_
              refine pw_if_eq 210 dX11_coverOf_202 (by decide) (fun c_202 => absurd (show (1 : Int32) = 0 from c_202) (by decide)) (fun c_202 => ?_)
              refine pw_iload dX11_coverOf_205 rfl ?_
              refine pw_goto (tgt := 211) dX11_coverOf_207 (by decide) ?_
              exact pw_iret rfl rfl dX11_coverOf_211 (Nat.zero_le _) (Nat.zero_le _) y
            · rw [hh, if_neg (by decide)] at y
              refine pw_aload_n dX11_coverOf_142 rfl ?_
              refine pw_iload dX11_coverOf_143 rfl ?_
              refine lp_cV1 (mi' := mX11_kind) (As := [_]) (q := (RX11, TX11, 33)) dX11_coverOf_145 lk_RX11_86 mk_X11_kind mi_X11_kind me_X11_kind ⟨by decide, by decide⟩ rfl rfl (Nat.le_of_ble_eq_true rfl) rfl rfl ⟨rfl, rfl⟩ ⟨Nat.zero_le _, Nat.zero_le _⟩ (r_kind j hj) ?_
              refine pw_iconst (v := 1) dX11_coverOf_148 rfl ?_
              refine pw_icmp_ne 197 dX11_coverOf_149 (by decide) (fun c_149 => absurd c_149 (fun z => z k1)) (fun c_149 => ?_)
              refine pw_iload dX11_coverOf_152 rfl ?_
              refine pw_iload dX11_coverOf_154 rfl ?_
              refine pw_icmp_eq 197 dX11_coverOf_156 (by decide) (fun c_156 => absurd c_156 hxn) (fun c_156 => ?_)
              refine pw_iload dX11_coverOf_159 rfl ?_
              refine pw_if_ne 197 dX11_coverOf_161 (by decide) (fun c_161 => absurd c_161 (fun z => z hg)) (fun c_161 => ?_)
              refine pw_iload_n dX11_coverOf_164 rfl ?_
              refine pw_iload dX11_coverOf_165 rfl ?_
              refine pw_if_eq 180 dX11_coverOf_167 (by decide) (fun c_167 => absurd (show (1 : Int32) = 0 from c_167) (by decide)) (fun c_167 => ?_)
              refine pw_aload_n dX11_coverOf_170 rfl ?_
              refine pw_iload dX11_coverOf_171 rfl ?_
              refine pw_iconst (v := 3) dX11_coverOf_173 rfl ?_
              refine lp_cV1 (mi' := mX11_of) (As := [_, _]) (q := (RX11, TX11, 33)) dX11_coverOf_174 lk_RX11_82 mk_X11_of mi_X11_of me_X11_of ⟨by decide, by decide⟩ rfl rfl (Nat.le_of_ble_eq_true rfl) rfl rfl ⟨rfl, rfl⟩ ⟨Nat.zero_le _, Nat.zero_le _⟩ (r_of j 3 (by omega)) ?_
              refine pw_goto (tgt := 187) dX11_coverOf_177 (by decide) ?_
              refine lp_cS1 (mi' := mX11_has) (As := [_, _]) dX11_coverOf_187 lk_RX11_220 mk_X11_has ms_X11_has ⟨by decide, by decide⟩ rfl rfl (Nat.le_of_ble_eq_true rfl) ⟨rfl, rfl⟩ ⟨Nat.zero_le _, Nat.zero_le _⟩ (r_has _ _ _) ?_
              rw [hh]
              refine pw_if_ne 197 dX11_coverOf_190 (by decide) (fun c_190 => ?_) (fun c_190 => absurd (show (1 : Int32) = 0 from c_190) (by decide))
              refine pw_iconst (v := 0) dX11_coverOf_197 rfl ?_
              refine pw_istore dX11_coverOf_198 (by decide) ?_
              refine pw_iload dX11_coverOf_200 rfl ?_
              refine pw_if_eq 210 dX11_coverOf_202 (by decide) (fun c_202 => ?_) (fun c_202 => absurd rfl c_202)
              refine pw_iconst (v := -1) dX11_coverOf_210 rfl ?_
              exact pw_iret rfl rfl dX11_coverOf_211 (Nat.zero_le _) (Nat.zero_le _) y
          · have y := yes _ (if_neg z1)
            rw [decide_eq_false z1] at hxn ⊢
            cases hh : hasA rs (σ.2.2.1 1 (1 + 4 * j + 2))
            · rw [hh, if_pos rfl] at y
              refine pw_aload_n dX11_coverOf_142 rfl ?_
              refine pw_iload dX11_coverOf_143 rfl ?_
              refine lp_cV1 (mi' := mX11_kind) (As := [_]) (q := (RX11, TX11, 33)) dX11_coverOf_145 lk_RX11_86 mk_X11_kind mi_X11_kind me_X11_kind ⟨by decide, by decide⟩ rfl rfl (Nat.le_of_ble_eq_true rfl) rfl rfl ⟨rfl, rfl⟩ ⟨Nat.zero_le _, Nat.zero_le _⟩ (r_kind j hj) ?_
              refine pw_iconst (v := 1) dX11_coverOf_148 rfl ?_
              refine pw_icmp_ne 197 dX11_coverOf_149 (by decide) (fun c_149 => absurd c_149 (fun z => z k1)) (fun c_149 => ?_)
              refine pw_iload dX11_coverOf_152 rfl ?_
              refine pw_iload dX11_coverOf_154 rfl ?_
              refine pw_icmp_eq 197 dX11_coverOf_156 (by decide) (fun c_156 => absurd c_156 hxn) (fun c_156 => ?_)
              refine pw_iload dX11_coverOf_159 rfl ?_
              refine pw_if_ne 197 dX11_coverOf_161 (by decide) (fun c_161 => absurd c_161 (fun z => z hg)) (fun c_161 => ?_)
              refine pw_iload_n dX11_coverOf_164 rfl ?_
              refine pw_iload dX11_coverOf_165 rfl ?_
              refine pw_if_eq 180 dX11_coverOf_167 (by decide) (fun c_167 => ?_) (fun c_167 => absurd rfl c_167)
              refine pw_aload_n dX11_coverOf_180 rfl ?_
              refine pw_iload dX11_coverOf_181 rfl ?_
              refine pw_iconst (v := 2) dX11_coverOf_183 rfl ?_
              refine lp_cV1 (mi' := mX11_of) (As := [_, _]) (q := (RX11, TX11, 33)) dX11_coverOf_184 lk_RX11_82 mk_X11_of mi_X11_of me_X11_of ⟨by decide, by decide⟩ rfl rfl (Nat.le_of_ble_eq_true rfl) rfl rfl ⟨rfl, rfl⟩ ⟨Nat.zero_le _, Nat.zero_le _⟩ (r_of j 2 (by omega)) ?_
              refine lp_cS1 (mi' := mX11_has) (As := [_, _]) dX11_coverOf_187 lk_RX11_220 mk_X11_has ms_X11_has ⟨by decide, by decide⟩ rfl rfl (Nat.le_of_ble_eq_true rfl) ⟨rfl, rfl⟩ ⟨Nat.zero_le _, Nat.zero_le _⟩ (r_has _ _ _) ?_
              rw [hh]
              refine pw_if_ne 197 dX11_coverOf_190 (by decide) (fun c_190 => absurd c_190 (fun z => z rfl)) (fun c_190 => ?_)
              refine pw_iconst (v := 1) dX11_coverOf_193 rfl ?_
              refine pw_goto (tgt := 198) dX11_coverOf_194 (by decide) ?_
              refine pw_istore dX11_coverOf_198 (by decide) ?_
              refine pw_iload dX11_coverOf_200 rfl ?_
              refine pw_if_eq 210 dX11_coverOf_202 (by decide) (fun c_202 => absurd (show (1 : Int32) = 0 from c_202) (by decide)) (fun c_202 => ?_)
              refine pw_iload dX11_coverOf_205 rfl ?_
              refine pw_goto (tgt := 211) dX11_coverOf_207 (by decide) ?_
              exact pw_iret rfl rfl dX11_coverOf_211 (Nat.zero_le _) (Nat.zero_le _) y
            · rw [hh, if_neg (by decide)] at y
              refine pw_aload_n dX11_coverOf_142 rfl ?_
              refine pw_iload dX11_coverOf_143 rfl ?_
              refine lp_cV1 (mi' := mX11_kind) (As := [_]) (q := (RX11, TX11, 33)) dX11_coverOf_145 lk_RX11_86 mk_X11_kind mi_X11_kind me_X11_kind ⟨by decide, by decide⟩ rfl rfl (Nat.le_of_ble_eq_true rfl) rfl rfl ⟨rfl, rfl⟩ ⟨Nat.zero_le _, Nat.zero_le _⟩ (r_kind j hj) ?_
              refine pw_iconst (v := 1) dX11_coverOf_148 rfl ?_
              refine pw_icmp_ne 197 dX11_coverOf_149 (by decide) (fun c_149 => absurd c_149 (fun z => z k1)) (fun c_149 => ?_)
              refine pw_iload dX11_coverOf_152 rfl ?_
              refine pw_iload dX11_coverOf_154 rfl ?_
              refine pw_icmp_eq 197 dX11_coverOf_156 (by decide) (fun c_156 => absurd c_156 hxn) (fun c_156 => ?_)
              refine pw_iload dX11_coverOf_159 rfl ?_
              refine pw_if_ne 197 dX11_coverOf_161 (by decide) (fun c_161 => absurd c_161 (fun z => z hg)) (fun c_161 => ?_)
              refine pw_iload_n dX11_coverOf_164 rfl ?_
              refine pw_iload dX11_coverOf_165 rfl ?_
              refine pw_if_eq 180 dX11_coverOf_167 (by decide) (fun c_167 => ?_) (fun c_167 => absurd rfl c_167)
              refine pw_aload_n dX11_coverOf_180 rfl ?_
              refine pw_iload dX11_coverOf_181 rfl ?_
              refine pw_iconst (v := 2) dX11_coverOf_183 rfl ?_
              refine lp_cV1 (mi' := mX11_of) (As := [_, _]) (q := (RX11, TX11, 33)) dX11_coverOf_184 lk_RX11_82 mk_X11_of mi_X11_of me_X11_of ⟨by decide, by decide⟩ rfl rfl (Nat.le_of_ble_eq_true rfl) rfl rfl ⟨rfl, rfl⟩ ⟨Nat.zero_le _, Nat.zero_le _⟩ (r_of j 2 (by omega)) ?_
              refine lp_cS1 (mi' := mX11_has) (As := [_, _]) dX11_coverOf_187 lk_RX11_220 mk_X11_has ms_X11_has ⟨by decide, by decide⟩ rfl rfl (Nat.le_of_ble_eq_true rfl) ⟨rfl, rfl⟩ ⟨Nat.zero_le _, Nat.zero_le _⟩ (r_has _ _ _) ?_
              rw [hh]
              refine pw_if_ne 197 dX11_coverOf_190 (by decide) (fun c_190 => ?_) (fun c_190 => absurd (show (1 : Int32) = 0 from c_190) (by decide))
              refine pw_iconst (v := 0) dX11_coverOf_197 rfl ?_
              refine pw_istore dX11_coverOf_198 (by decide) ?_
              refine pw_iload dX11_coverOf_200 rfl ?_
              refine pw_if_eq 210 dX11_coverOf_202 (by decide) (fun c_202 => ?_) (fun c_202 => absurd rfl c_202)
              refine pw_iconst (v := -1) dX11_coverOf_210 rfl ?_
              exact pw_iret rfl rfl dX11_coverOf_211 (Nat.zero_le _) (Nat.zero_le _) y
        · have hn := no _ rfl (by rw [decide_eq_false hg, Bool.and_false, Bool.false_and])
          have hxn : ¬ bI (decide (σ.2.2.1 1 (1 + 4 * j + 2) = v)) = bI (decide (σ.2.2.1 1 (1 + 4 * j + 3) = v)) := by
            intro q
            apply hx
            cases h1 : decide (σ.2.2.1 1 (1 + 4 * j + 2) = v) <;> cases h2 : decide (σ.2.2.1 1 (1 + 4 * j + 3) = v) <;> rw [h1, h2] at q <;> first | rfl | exact absurd q (by decide)
          refine pw_aload_n dX11_coverOf_142 rfl ?_
          refine pw_iload dX11_coverOf_143 rfl ?_
          refine lp_cV1 (mi' := mX11_kind) (As := [_]) (q := (RX11, TX11, 33)) dX11_coverOf_145 lk_RX11_86 mk_X11_kind mi_X11_kind me_X11_kind ⟨by decide, by decide⟩ rfl rfl (Nat.le_of_ble_eq_true rfl) rfl rfl ⟨rfl, rfl⟩ ⟨Nat.zero_le _, Nat.zero_le _⟩ (r_kind j hj) ?_
          refine pw_iconst (v := 1) dX11_coverOf_148 rfl ?_
          refine pw_icmp_ne 197 dX11_coverOf_149 (by decide) (fun c_149 => absurd c_149 (fun z => z k1)) (fun c_149 => ?_)
          refine pw_iload dX11_coverOf_152 rfl ?_
          refine pw_iload dX11_coverOf_154 rfl ?_
          refine pw_icmp_eq 197 dX11_coverOf_156 (by decide) (fun c_156 => absurd c_156 hxn) (fun c_156 => ?_)
          refine pw_iload dX11_coverOf_159 rfl ?_
          refine pw_if_ne 197 dX11_coverOf_161 (by decide) (fun c_161 => ?_) (fun c_161 => absurd c_161 hg)
          refine pw_iconst (v := 0) dX11_coverOf_197 rfl ?_
          refine pw_istore dX11_coverOf_198 (by decide) ?_
          refine pw_iload dX11_coverOf_200 rfl ?_
          refine pw_if_eq 210 dX11_coverOf_202 (by decide) (fun c_202 => ?_) (fun c_202 => absurd rfl c_202)
          refine pw_iconst (v := -1) dX11_coverOf_210 rfl ?_
          exact pw_iret rfl rfl dX11_coverOf_211 (Nat.zero_le _) (Nat.zero_le _) hn
    · have hn := no _ rfl (by rw [decide_eq_false k1, Bool.false_and, Bool.false_and, Bool.false_and])
      refine pw_aload_n dX11_coverOf_142 rfl ?_
      refine pw_iload dX11_coverOf_143 rfl ?_
      refine lp_cV1 (mi' := mX11_kind) (As := [_]) (q := (RX11, TX11, 33)) dX11_coverOf_145 lk_RX11_86 mk_X11_kind mi_X11_kind me_X11_kind ⟨by decide, by decide⟩ rfl rfl (Nat.le_of_ble_eq_true rfl) rfl rfl ⟨rfl, rfl⟩ ⟨Nat.zero_le _, Nat.zero_le _⟩ (r_kind j hj) ?_
      refine pw_iconst (v := 1) dX11_coverOf_148 rfl ?_
      refine pw_icmp_ne 197 dX11_coverOf_149 (by decide) (fun c_149 => ?_) (fun c_149 => absurd c_149 k1)
      refine pw_iconst (v := 0) dX11_coverOf_197 rfl ?_
      refine pw_istore dX11_coverOf_198 (by decide) ?_
      refine pw_iload dX11_coverOf_200 rfl ?_
      refine pw_if_eq 210 dX11_coverOf_202 (by decide) (fun c_202 => ?_) (fun c_202 => absurd rfl c_202)
      refine pw_iconst (v := -1) dX11_coverOf_210 rfl ?_
      exact pw_iret rfl rfl dX11_coverOf_211 (Nat.zero_le _) (Nat.zero_le _) hn
  by_cases z1 : σ.2.2.1 1 (1 + 4 * j + 2) = v
  · have t1 := tail _ (if_pos z1)
    rw [decide_eq_true z1] at t1 ⊢
    refine pw_iload dX11_coverOf_118 rfl ?_
    refine pw_if_eq 133 dX11_coverOf_120 (by decide) (fun c_120 => absurd (show (1 : Int32) = 0 from c_120) (by decide)) (fun c_120 => ?_)
    refine pw_aload_n dX11_coverOf_123 rfl ?_
    refine lp_getr 14 dX11_coverOf_124 fp_RX11_51.FL rfl rfl rfl ?_
    refine pw_iload dX11_coverOf_127 rfl ?_
    refine lp_zald dX11_coverOf_129 rfl bj ?_
    rw [ej]
    refine pw_goto (tgt := 140) dX11_coverOf_130 (by decide) ?_
    refine pw_istore dX11_coverOf_140 (by decide) ?_
    refine pw_lk _ ?_ t1
    exact ⟨rfl, rfl, rfl, rfl, rfl, rfl, trivial⟩
  · have t1 := tail _ (if_neg z1)
    rw [decide_eq_false z1] at t1 ⊢
    refine pw_iload dX11_coverOf_118 rfl ?_
    refine pw_if_eq 133 dX11_coverOf_120 (by decide) (fun c_120 => ?_) (fun c_120 => absurd rfl c_120)
    refine pw_aload_n dX11_coverOf_133 rfl ?_
    refine lp_getr 13 dX11_coverOf_134 fp_RX11_48.FL rfl rfl rfl ?_
    refine pw_iload dX11_coverOf_137 rfl ?_
    refine lp_zald dX11_coverOf_139 rfl bj ?_
    rw [ej]
    refine pw_istore dX11_coverOf_140 (by decide) ?_
    refine pw_lk _ ?_ t1
    exact ⟨rfl, rfl, rfl, rfl, rfl, rfl, trivial⟩
end C1
