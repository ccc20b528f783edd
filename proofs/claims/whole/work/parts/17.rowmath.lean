def p4 (f : Nat → Int) (L : Nat) (z : Int) : Nat → Int := fun j => if L ≤ j ∧ j < L + 4 then (z % 4294967296) / 2 ^ (24 - 8 * (j - L)) % 256 else f j
theorem p4_eq {f : Nat → Int} {len z : Int} (h : 0 ≤ len) : uZ (uZ (uZ (uZ f len.toNat ((((z % 4294967296).toNat / 2 ^ 24 : Nat) : Int) % 256)) (len + 1).toNat ((((z % 4294967296).toNat / 2 ^ 16 : Nat) : Int) % 256)) (len + 1 + 1).toNat ((((z % 4294967296).toNat / 2 ^ 8 : Nat) : Int) % 256)) (len + 1 + 1 + 1).toNat (z % 256) = p4 f len.toNat z := by
  rw [show (len + 1).toNat = len.toNat + 1 by omega, show (len + 1 + 1).toNat = len.toNat + 2 by omega, show (len + 1 + 1 + 1).toNat = len.toNat + 3 by omega]
  funext j
  simp only [uZ, p4]
  by_cases e3 : j = len.toNat + 3
  · subst e3
    rw [if_pos rfl, if_pos (by omega), show 24 - 8 * (len.toNat + 3 - len.toNat) = 0 by omega]
    omega
  · rw [if_neg e3]
    by_cases e2 : j = len.toNat + 2
    · subst e2
      rw [if_pos rfl, if_pos (by omega), show 24 - 8 * (len.toNat + 2 - len.toNat) = 8 by omega]
      omega
    · rw [if_neg e2]
      by_cases e1 : j = len.toNat + 1
      · subst e1
        rw [if_pos rfl, if_pos (by omega), show 24 - 8 * (len.toNat + 1 - len.toNat) = 16 by omega]
        omega
      · rw [if_neg e1]
        by_cases e0 : j = len.toNat
        · subst e0
          rw [if_pos rfl, if_pos (by omega), show 24 - 8 * (len.toNat - len.toNat) = 24 by omega]
          omega
        · rw [if_neg e0, if_neg (by omega)]
def pU (f : Nat → Int) (L : Nat) (o : Int) : Nat → Int := if o < 128 then uZ f L o else uZ (uZ f L (128 + o % 128)) (L + 1) (o / 128)
def lU (o : Int) : Int := if o < 128 then 1 else 2
theorem pU_1 {f : Nat → Int} {len o : Int} (h : 0 ≤ o ∧ o < 128) : (uZ f len.toNat (o % 256), len + 1) = (pU f len.toNat o, len + lU o) := by
  rw [pU, lU, if_pos h.2, if_pos h.2, show o % 256 = o by omega]
theorem pU_2 {f : Nat → Int} {len o : Int} (hl : 0 ≤ len) (h : 128 ≤ o ∧ o < 16384) : (uZ (uZ f len.toNat ((128 + o % 128) % 256)) (len + 1).toNat ((((o % 4294967296).toNat / 2 ^ 7 : Nat) : Int) % 256), len + 1 + 1) = (pU f len.toNat o, len + lU o) := by
  rw [pU, lU, if_neg (by omega), if_neg (by omega), show (128 + o % 128) % 256 = 128 + o % 128 by omega, show (len + 1).toNat = len.toNat + 1 by omega, show (((o % 4294967296).toNat / 2 ^ 7 : Nat) : Int) % 256 = o / 128 by omega, show len + 1 + 1 = len + 2 by omega]
/-! placing by worth -/
def shf (f : Nat → Int) (a s : Nat) (x : Int) : Nat → Int := fun j => if j < a then f j else if j = a then x else if j ≤ s then f (j - 1) else f j
theorem shf_step {f g : Nat → Int} {a s : Nat} (ha : 0 < a) (has : a ≤ s) (h : ∀ j, g j = if a < j ∧ j ≤ s then f (j - 1) else f j) : ∀ j, uZ g a (g (a - 1)) j = if a - 1 < j ∧ j ≤ s then f (j - 1) else f j := by
  intro j
  by_cases e : j = a
  · subst e
    rw [uZ_s, h, if_neg (by omega), if_pos (by omega)]
  · rw [uZ_n e, h]
    by_cases q : a < j ∧ j ≤ s
    · rw [if_pos q, if_pos (by omega)]
    · rw [if_neg q, if_neg (by omega)]
theorem shf_end {f g : Nat → Int} {a s : Nat} {x : Int} (h : ∀ j, g j = if a < j ∧ j ≤ s then f (j - 1) else f j) : uZ g a x = shf f a s x := by
  funext j
  simp only [shf]
  by_cases e : j = a
  · subst e
    rw [uZ_s, if_neg (by omega), if_pos rfl]
  · rw [uZ_n e, h]
    by_cases q : j < a
    · rw [if_pos q, if_neg (by omega)]
    · rw [if_neg q, if_neg e]
      by_cases q2 : j ≤ s
      · rw [if_pos (by omega), if_pos q2]
      · rw [if_neg (by omega), if_neg q2]
