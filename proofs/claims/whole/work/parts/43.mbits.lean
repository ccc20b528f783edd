theorem bm_r (z : Int) : -128 ≤ z.bmod 256 ∧ z.bmod 256 < 128 := by
  have h1 := Int.le_bmod (x := z) (m := 256) (by decide)
  have h2 := Int.bmod_lt (x := z) (m := 256) (by decide)
  omega
theorem iZ_orsum {a b : Int} (k : Nat) (ha : 0 ≤ a ∧ a < 2 ^ k) (hb : 0 ≤ b) (hs : a + b * 2 ^ k < 4294967296) : iZ a ||| iZ (b * 2 ^ k) = iZ (a + b * 2 ^ k) := by
  obtain ⟨x, rfl⟩ : ∃ x : Nat, a = (x : Int) := ⟨a.toNat, by omega⟩
  obtain ⟨y, rfl⟩ : ∃ y : Nat, b = (y : Int) := ⟨b.toNat, by omega⟩
  have e1 : ((y : Int) * 2 ^ k) = ((y * 2 ^ k : Nat) : Int) := by rw [Int.natCast_mul, Int.natCast_pow]; rfl
  have hx : x < 2 ^ k := by have h := ha.2; rw [show (2 : Int) ^ k = ((2 ^ k : Nat) : Int) by rw [Int.natCast_pow]; rfl] at h; omega
  rw [e1] at hs ⊢
  rw [← Int.natCast_add]
  refine iZ_bv ?_
  show ((iZ (x : Int)).toBitVec ||| (iZ ((y * 2 ^ k : Nat) : Int)).toBitVec).toNat = _
  rw [BitVec.toNat_or, bv_iZ, bv_iZ, Nat.or_comm]
  have h1 := Nat.two_pow_add_eq_or_of_lt hx y
  rw [Nat.mul_comm] at h1
  rw [show (((y * 2 ^ k : Nat) : Int) % 4294967296).toNat = y * 2 ^ k by omega, show ((x : Int) % 4294967296).toNat = x by omega, ← h1]
  omega
theorem iZ_or0 (a : Int) (h : 0 ≤ a ∧ a < 128) : iZ 0 ||| iZ a = iZ (0 + a) := by
  have := iZ_orsum (a := 0) (b := a) 0 (by omega) h.1 (by omega)
  simpa using this
theorem iZ_or7 {a b : Int} (ha : 0 ≤ a ∧ a < 128) (hb : 0 ≤ b ∧ b < 128) : iZ a ||| iZ (b * 128) = iZ (a + b * 128) := iZ_orsum 7 (by omega) hb.1 (by omega)
theorem iZ_or14 {a b : Int} (ha : 0 ≤ a ∧ a < 16384) (hb : 0 ≤ b ∧ b < 128) : iZ a ||| iZ (b * 16384) = iZ (a + b * 16384) := iZ_orsum 14 (by omega) hb.1 (by omega)
theorem four_eq {f : Nat → Int} {len z : Int} (h : 0 ≤ len) : uZ (uZ (uZ (uZ f len.toNat ((z / 2 ^ 24).bmod 256)) (len + 1).toNat ((z / 2 ^ 16).bmod 256)) (len + 1 + 1).toNat ((z / 2 ^ 8).bmod 256)) (len + 1 + 1 + 1).toNat ((z / 2 ^ 0).bmod 256) = fun j => if len.toNat ≤ j ∧ j < len.toNat + 4 then sb ((z % 4294967296) / 2 ^ (24 - 8 * (j - len.toNat)) % 256) else f j := by
  rw [show (len + 1).toNat = len.toNat + 1 by omega, show (len + 1 + 1).toNat = len.toNat + 2 by omega, show (len + 1 + 1 + 1).toNat = len.toNat + 3 by omega]
  funext j
  simp only [uZ]
  by_cases e3 : j = len.toNat + 3
  · subst e3
    rw [if_pos rfl, if_pos (by omega), show 24 - 8 * (len.toNat + 3 - len.toNat) = 0 by omega]
    exact sb_bm (by omega)
  · rw [if_neg e3]
    by_cases e2 : j = len.toNat + 2
    · subst e2
      rw [if_pos rfl, if_pos (by omega), show 24 - 8 * (len.toNat + 2 - len.toNat) = 8 by omega]
      exact sb_bm (by omega)
    · rw [if_neg e2]
      by_cases e1 : j = len.toNat + 1
      · subst e1
        rw [if_pos rfl, if_pos (by omega), show 24 - 8 * (len.toNat + 1 - len.toNat) = 16 by omega]
        exact sb_bm (by omega)
      · rw [if_neg e1]
        by_cases e0 : j = len.toNat
        · subst e0
          rw [if_pos rfl, if_pos (by omega), show 24 - 8 * (len.toNat - len.toNat) = 24 by omega]
          exact sb_bm (by omega)
        · rw [if_neg e0, if_neg (by omega)]
def mR (q : Int × Int × Nat) (fa fp at_ z at' fa' fp' nu' fm' : Int) : Prop := at' = (q.2.2 : Int) ∧ fm' = at_ ∧ ((q.1 = 0 ∧ z = 1 ∧ nu' = q.2.1 ∧ fa' = fa ∧ fp' = fp) ∨ (q.1 ≠ 0 ∧ z = 0 ∧ fa' = q.1 ∧ fp' = q.2.1))
