abbrev GT : Type := (Nat → Int) × (Nat → Int) × (Nat → Int) × Int × Int × Int
abbrev wG (cI : ClassId) (h a1 a2 a3 : Nat) (u : GT) : va_W := wGr cI h a1 a2 a3 u.1 u.2.1 u.2.2.1 u.2.2.2.1 u.2.2.2.2.1 u.2.2.2.2.2
abbrev GRu (N : Nat) (E : Ed) (w : Nat → Nat) (u : GT) : Prop := GR N E w u.1 u.2.1 u.2.2.1 u.2.2.2.1 u.2.2.2.2.1 u.2.2.2.2.2
theorem grow_step {g f : Nat → Int} {U i : Nat} {mo : Int} (hU : U < i) (h : ∀ j, g j = if U < j ∧ j < i then f j + mo else f j) : ∀ j, uZ g i (g i + mo) j = if U < j ∧ j < i + 1 then f j + mo else f j := by
  intro j
  by_cases e : j = i
  · subst e
    rw [uZ_s, h, if_neg (by omega), if_pos (by omega)]
  · rw [uZ_n e, h]
    by_cases q : U < j ∧ j < i
    · rw [if_pos q, if_pos (by omega)]
    · rw [if_neg q, if_neg (by omega)]
theorem cp_join {f : Nat → Int} {at_ F : Nat} {x : Int} (h : at_ ≤ F) : ∀ j, uZ (cpZ f at_ (at_ + 1) (F - at_)) at_ x j = if j = at_ then x else if at_ < j ∧ j ≤ F then f (j - 1) else f j := by
  intro j
  by_cases e : j = at_
  · subst e
    rw [uZ_s, if_pos rfl]
  · rw [uZ_n e, if_neg e, cpZ]
    by_cases q : at_ < j ∧ j ≤ F
    · rw [if_pos q, if_pos (by omega), show at_ + (j - (at_ + 1)) = j - 1 by omega]
    · rw [if_neg q, if_neg (by omega)]
theorem cp_part {f : Nat → Int} {at_ F : Nat} (h : at_ < F) : ∀ j, cpZ f (at_ + 1) at_ (F - at_ - 1) j = if at_ ≤ j ∧ j + 1 < F then f (j + 1) else f j := by
  intro j
  rw [cpZ]
  by_cases q : at_ ≤ j ∧ j + 1 < F
  · rw [if_pos q, if_pos (by omega), show at_ + 1 + (j - at_) = j + 1 by omega]
  · rw [if_neg q, if_neg (by omega)]
theorem f1_grow {f f' : Nat → Int} {U N : Nat} {n mo : Int} (hn : n = (N : Int)) (h : ∀ j, f' j = if U < j ∧ j < n.toNat + 1 then f j + mo else f j) : ∀ j, j ≤ N → f' j = f j + (if U < j then mo else 0) := by
  intro j hj
  rw [h]
  by_cases q : U < j
  · rw [if_pos (by omega), if_pos q]
  · rw [if_neg (by omega), if_neg q, Int.add_zero]
theorem reset_step {g f : Nat → Int} {i : Nat} {x : Int} (h : ∀ j, j < i → g j = x) : ∀ j, j < i + 1 → uZ g i x j = x := by
  intro j hj
  by_cases e : j = i
  · rw [e, uZ_s]
  · rw [uZ_n e]; exact h j (by omega)
theorem uZ_all {g : Nat → Int} {i : Nat} {x : Int} (h : ∀ j, j < i → g j = x) : ∀ j, j ≤ i → uZ g i x j = x := by
  intro j hj
  by_cases e : j = i
  · rw [e, uZ_s]
  · rw [uZ_n e]; exact h j (by omega)
theorem fst_find (E : Ed) (N i : Nat) : ∀ m, i < fst E N m → ∃ u, u < m ∧ fst E N u ≤ i ∧ i < fst E N u + dgr E N u
  | 0, h => absurd h (Nat.not_lt_zero i)
  | m + 1, h => by
    by_cases q : i < fst E N m
    · obtain ⟨u, h1, h2⟩ := fst_find E N i m q
      exact ⟨u, by omega, h2⟩
    · exact ⟨m, by omega, by omega, h⟩
theorem GR_f2 {N : Nat} {E : Ed} {w : Nat → Nat} {f1 f2 f3 : Nat → Int} {n sz wh : Int} (hG : GR N E w f1 f2 f3 n sz wh) {i : Nat} (hi : i < fst E N N) : 0 ≤ f2 i ∧ f2 i < (N : Int) := by
  obtain ⟨g1, g2, g3, g4, g5, g6, g7, g8, g9, g10, g11⟩ := hG
  obtain ⟨u, h1, h2, h3⟩ := fst_find E N i N hi
  obtain ⟨t, r1, r2, r3, r4⟩ := row_at g7 h1 (show i - fst E N u < dgr E N u by omega)
  rw [show fst E N u + (i - fst E N u) = i by omega] at r4
  omega
theorem GR_wh {N : Nat} {E : Ed} {w : Nat → Nat} {f1 f2 f3 : Nat → Int} {n sz wh : Int} (hG : GR N E w f1 f2 f3 n sz wh) : fb_sm w N ≤ 250000 := by
  obtain ⟨g1, g2, g3, g4, g5, g6, g7, g8, g9, g10, g11⟩ := hG
  have := fb_sm_bound (f := w) (c := 1000) (n := N) (fun k hk => (g8 k hk).2)
  omega
