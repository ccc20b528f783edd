theorem cell_in {gc : Nat → Int} {B : Nat → Nat} {Ej : Nat → Bool} {N t sh : Nat} (h : ∀ v, v < N → gc v = ((B v + (if v < t ∧ Ej v = true then sh else 0) : Nat) : Int)) (ht : t < N) {z : Int} (hz : z = gc t + (if Ej t = true then (sh : Int) else 0)) : ∀ v, v < N → uZ gc t z v = ((B v + (if v < t + 1 ∧ Ej v = true then sh else 0) : Nat) : Int) := by
  intro v hv
  by_cases q : v = t
  · subst q
    have h1 := h v hv
    rw [if_neg (fun q2 => by omega)] at h1
    rw [uZ_s, hz, h1]
    by_cases q3 : Ej v = true
    · rw [if_pos q3, if_pos ⟨by omega, q3⟩]
      omega
    · rw [if_neg q3, if_neg (fun q4 => q3 q4.2)]
      omega
  · rw [uZ_n q, h v hv]
    by_cases q3 : v < t ∧ Ej v = true
    · rw [if_pos q3, if_pos ⟨by omega, q3.2⟩]
    · rw [if_neg q3, if_neg (fun q4 => q3 ⟨by omega, q4.2⟩)]
theorem no_row {E : Ed} {N j v : Nat} (h : dgr E N j = 0) (hv : v < N) : ¬ E j v = true := by
  intro q
  have q9 := row_in q hv
  have q8 : fb_ct (E j) N = dgr E N j := rfl
  omega
def mU (f : Nat → Int) (L : Nat) (o : Int) : Nat → Int := if o < 128 then uZ f L (sb o) else uZ (uZ f L (sb (128 + o % 128))) (L + 1) (sb (o / 128))
theorem mU_1 {f : Nat → Int} {len o : Int} (h : 0 ≤ o ∧ o < 128) : (uZ f len.toNat (o.bmod 256), len + 1) = (mU f len.toNat o, len + lU o) := by
  rw [mU, lU, if_pos h.2, if_pos h.2, sb_bm (show o % 256 = o by omega)]
theorem mU_2 {f : Nat → Int} {len o : Int} (hl : 0 ≤ len) (h : 128 ≤ o ∧ o < 16384) : (uZ (uZ f len.toNat ((o % 128 + 128).bmod 256)) (len + 1).toNat ((o / 2 ^ 7).bmod 256), len + 1 + 1) = (mU f len.toNat o, len + lU o) := by
  rw [mU, lU, if_neg (by omega), if_neg (by omega), sb_bm (show (o % 128 + 128) % 256 = 128 + o % 128 by omega), sb_bm (show (o / 2 ^ 7) % 256 = o / 128 by omega), show (len + 1).toNat = len.toNat + 1 by omega, show len + 1 + 1 = len + 2 by omega]
theorem BY_put {tp tf : Nat → Int} {L o : Int} (h : BY tp tf L.toNat) (hL : 0 ≤ L) (ho : 0 ≤ o ∧ o < 16384) : BY (mU tp L.toNat o) (pU tf L.toNat o) (L + lU o).toNat := by
  intro j hj
  unfold mU pU
  by_cases q : o < 128
  · rw [lU_1 q] at hj
    rw [if_pos q, if_pos q]
    by_cases e : j = L.toNat
    · rw [e, uZ_s, uZ_s]; exact ⟨rfl, by omega, by omega⟩
    · rw [uZ_n e, uZ_n e]; exact h j (by omega)
  · rw [lU_2 q] at hj
    rw [if_neg q, if_neg q]
    by_cases e : j = L.toNat + 1
    · rw [e, uZ_s, uZ_s]; exact ⟨rfl, by omega, by omega⟩
    · rw [uZ_n e, uZ_n e]
      by_cases e2 : j = L.toNat
      · rw [e2, uZ_s, uZ_s]; exact ⟨rfl, by omega, by omega⟩
      · rw [uZ_n e2, uZ_n e2]; exact h j (by omega)
