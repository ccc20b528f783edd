theorem ahd_t {p : Nat → Bool} {wt : Nat → Nat} {j x : Nat} (hp : p j = true) (h : wt x < wt j ∨ (wt j = wt x ∧ j < x)) : ahd p wt (j + 1) x = ahd p wt j x + 1 := by
  rw [ahd_succ, hp, Bool.true_and, if_pos (bef_iff.mpr h)]
theorem ahd_f {p : Nat → Bool} {wt : Nat → Nat} {j x : Nat} (h : p j = true → ¬ (wt x < wt j ∨ (wt j = wt x ∧ j < x))) : ahd p wt (j + 1) x = ahd p wt j x := by
  rw [ahd_succ, if_neg, Nat.add_zero]
  intro q
  rw [Bool.and_eq_true] at q
  exact h q.1 (bef_iff.mp q.2)
theorem ahd_lt0 (p : Nat → Bool) (wt : Nat → Nat) (i x : Nat) : ahd p wt i x ≤ i := fb_ct_le _ _
