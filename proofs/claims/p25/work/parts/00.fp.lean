/-! doubles: a share of ints is a number -/
theorem n64_of {a : UInt64} (h : Jvm.FP.Core.dIsNaN a = false) : vf_n64 a := by
  rw [Jvm.FP.Core.notNaN_iff, Jvm.FP.Core.ne_nan] at h
  unfold vf_n64
  rw [UInt64.le_iff_toNat_le, UInt64.toNat_and]
  show a.toNat &&& 9223372036854775807 ≤ 9218868437227405312
  rw [show (9223372036854775807 : Nat) = 2 ^ 63 - 1 from rfl, Nat.and_two_pow_sub_one_eq_mod]
  exact h
theorem sav_div (a b : Int32) (hb : ¬ b = 0) : Jvm.FP.Core.dIsNaN (FP.ddiv (FP.i2d a) (FP.i2d b)) = false := by
  have ha := Jvm.FP.Core.i2d_int a
  have hbi := Jvm.FP.Core.i2d_int b
  have hfb : ∃ s c q, Jvm.FP.Core.val64 (FP.i2d b) = .fin s c q := by
    cases hv : Jvm.FP.Core.val64 (FP.i2d b) with
    | fin s c q => exact ⟨s, c, q, rfl⟩
    | nan => exact absurd hv (Jvm.FP.Core.DInt_ne_nan hbi)
    | inf s => unfold Jvm.FP.Core.DInt at hbi; rw [show Jvm.FP.Core.val64 (Jvm.FP.Core.i2d b) = .inf s from hv] at hbi; exact hbi.elim
  refine Jvm.FP.Core.ddiv_out ((Jvm.FP.Core.notNaN_iff _).mpr (Jvm.FP.Core.DInt_ne_nan ha)) hfb ?_
  rintro ⟨s, q, hz⟩
  unfold Jvm.FP.Core.DInt at hbi
  rw [show Jvm.FP.Core.val64 (Jvm.FP.Core.i2d b) = .fin s 0 q from hz] at hbi
  have h0 := (Jvm.FP.Core.whole_zero hbi).mp rfl
  exact hb (Int32.toInt_inj.mp (h0.trans (by decide)))
theorem sav_sub (a b : Int32) (hb : ¬ b = 0) : Jvm.FP.Core.dIsNaN (FP.dsub FP.dconst1 (FP.ddiv (FP.i2d a) (FP.i2d b))) = false :=
  Jvm.FP.Core.dsub_out' ⟨_, _, _, Jvm.FP.Core.val64_dconst1⟩ (sav_div a b hb)
