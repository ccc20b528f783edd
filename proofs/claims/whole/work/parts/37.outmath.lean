theorem OI_r {p : Nat → Bool} {wt : Nat → Nat} {i s : Nat} {q1 q2 : Nat → Int} (h : OI p wt i s q1 q2) (hw : ∀ u, u < i → wt u < 4611686018427387904) : ∀ j, j < s → 0 ≤ q2 j ∧ q2 j < 4611686018427387904 := by
  intro j hj
  obtain ⟨-, g, hg⟩ := h
  obtain ⟨b1, b2, b3, b4, b5⟩ := hg j hj
  have := hw (g j) b1
  omega
theorem OI_s {p : Nat → Bool} {wt : Nat → Nat} {i s : Nat} {q1 q2 : Nat → Int} (h : OI p wt i s q1 q2) : s ≤ i := by
  rw [h.1]
  exact fb_ct_le p i
theorem shr_le (E : Ed) (N P Q : Nat) (x : Nat → Nat) (u : Nat) : shr E N P Q x u ≤ P * x u := Nat.div_le_self _ _
/-! the bytes of a graph, written -/
abbrev WS : Type := (Nat → Int) × Int × Int
def cod (u m : Nat) (la : Int) : Int := if la < 0 then (if (m : Int) < (u : Int) then 2 * ((u : Int) - (m : Int)) - 1 else 2 * ((m : Int) - (u : Int))) else (m : Int) - la - 1
def wP (u m : Nat) (s : WS) : WS := (pU s.1 s.2.1.toNat (cod u m s.2.2), s.2.1 + lU (cod u m s.2.2), (m : Int))
def wV (E : Ed) (u : Nat) : Nat → WS → WS
  | 0, s => s
  | m + 1, s => if E u m = true then wP u m (wV E u m s) else wV E u m s
def wN (E : Ed) (N u : Nat) (s : (Nat → Int) × Int) : (Nat → Int) × Int := ((wV E u N (pU s.1 s.2.toNat (dgr E N u : Int), s.2 + lU (dgr E N u : Int), -1)).1, (wV E u N (pU s.1 s.2.toNat (dgr E N u : Int), s.2 + lU (dgr E N u : Int), -1)).2.1)
def wA (E : Ed) (N : Nat) : Nat → (Nat → Int) × Int → (Nat → Int) × Int
  | 0, s => s
  | u + 1, s => wN E N u (wA E N u s)
theorem lU_r (o : Int) : 1 ≤ lU o ∧ lU o ≤ 2 := by
  unfold lU
  split <;> omega
theorem lU_1 {o : Int} (h : o < 128) : lU o = 1 := if_pos h
theorem lU_2 {o : Int} (h : ¬ o < 128) : lU o = 2 := if_neg h
def bR (f : Nat → Int) (L : Int) : Prop := ∀ j : Nat, (j : Int) < L → 0 ≤ f j ∧ f j < 256
theorem pU_r {f : Nat → Int} {len o : Int} (hl : 0 ≤ len) (ho : 0 ≤ o ∧ o < 16384) (h : bR f len) : bR (pU f len.toNat o) (len + lU o) := by
  intro j hj
  unfold pU
  by_cases q : o < 128
  · rw [lU_1 q] at hj
    rw [if_pos q]
    by_cases e : j = len.toNat
    · rw [e, uZ_s]; omega
    · rw [uZ_n e]; exact h j (by omega)
  · rw [lU_2 q] at hj
    rw [if_neg q]
    by_cases e : j = len.toNat + 1
    · rw [e, uZ_s]; omega
    · rw [uZ_n e]
      by_cases e2 : j = len.toNat
      · rw [e2, uZ_s]; omega
      · rw [uZ_n e2]; exact h j (by omega)
theorem cod_r {u m N : Nat} {la : Int} (hu : u < N) (hm : m < N) (hN : N ≤ 250) (h1 : -1 ≤ la) (h2 : la < (m : Int)) : 0 ≤ cod u m la ∧ cod u m la < 16384 := by
  unfold cod
  (repeat' split) <;> omega
/-- what is known along a row -/
theorem wV_ok {E : Ed} {N u : Nat} (hu : u < N) (hN : N ≤ 250) {s : WS} (hs : s.2.2 = -1) (h0 : 0 ≤ s.2.1) (hb : bR s.1 s.2.1) : ∀ m, m ≤ N → s.2.1 ≤ (wV E u m s).2.1 ∧ (wV E u m s).2.1 ≤ s.2.1 + (fb_ct (E u) m : Int) + (if 0 ≤ (wV E u m s).2.2 then 1 else 0) + (if 129 ≤ (wV E u m s).2.2 then 1 else 0) ∧ -1 ≤ (wV E u m s).2.2 ∧ (wV E u m s).2.2 < (m : Int) ∨ m = 0
  | 0, _ => Or.inr rfl
  | m + 1, hm => by
    left
    have ih := wV_ok (E := E) hu hN hs h0 hb m (by omega)
    have st : s.2.1 ≤ (wV E u m s).2.1 ∧ (wV E u m s).2.1 ≤ s.2.1 + (fb_ct (E u) m : Int) + (if 0 ≤ (wV E u m s).2.2 then 1 else 0) + (if 129 ≤ (wV E u m s).2.2 then 1 else 0) ∧ -1 ≤ (wV E u m s).2.2 ∧ ((wV E u m s).2.2 < (m : Int) ∨ (wV E u m s).2.2 = -1) := by
      rcases ih with ih | ih
      · exact ⟨ih.1, ih.2.1, ih.2.2.1, Or.inl ih.2.2.2⟩
      · subst ih
        have e0 : wV E u 0 s = s := rfl
        rw [e0, hs]
        refine ⟨Int.le_refl _, ?_, by omega, Or.inr rfl⟩
        rw [if_neg (by decide), if_neg (by decide)]
        have : (0 : Int) ≤ (fb_ct (E u) 0 : Int) := Int.natCast_nonneg _
        omega
    by_cases q : E u m = true
    · have e1 : wV E u (m + 1) s = wP u m (wV E u m s) := by rw [wV, if_pos q]
      rw [e1, ct_yes q]
      generalize wV E u m s = t at st
      obtain ⟨a1, a2, a3, a4⟩ := st
      simp only [wP]
      have l1 := lU_r (cod u m t.2.2)
      have key : t.2.1 + lU (cod u m t.2.2) ≤ s.2.1 + ((fb_ct (E u) m + 1 : Nat) : Int) + (if (0 : Int) ≤ (m : Int) then 1 else 0) + (if (129 : Int) ≤ (m : Int) then 1 else 0) := by
        rw [if_pos (show (0 : Int) ≤ (m : Int) by omega)]
        by_cases r0 : 0 ≤ t.2.2
        · rw [if_pos r0] at a2
          have c1 : cod u m t.2.2 = (m : Int) - t.2.2 - 1 := by rw [cod, if_neg (by omega)]
          by_cases r1 : cod u m t.2.2 < 128
          · rw [lU_1 r1]
            (repeat' split at a2) <;> (repeat' split) <;> omega
          · rw [lU_2 r1]
            rw [if_neg (by omega)] at a2
            rw [if_pos (by omega)]
            omega
        · rw [if_neg r0, if_neg (by omega)] at a2
          split <;> omega
      exact ⟨by omega, key, by omega, by omega⟩
    · have e1 : wV E u (m + 1) s = wV E u m s := by rw [wV, if_neg q]
      rw [e1, ct_no q]
      exact ⟨st.1, st.2.1, st.2.2.1, by omega⟩
theorem wV_ct {E : Ed} {u : Nat} {s : WS} : ∀ (t T : Nat), T ≤ t → fb_ct (E u) T = fb_ct (E u) t → wV E u t s = wV E u T s
  | 0, T, h, _ => by rw [show T = 0 by omega]
  | t + 1, T, h, hc => by
    by_cases e : T = t + 1
    · rw [e]
    · have m1 := fb_ct_mono (E u) (show T ≤ t by omega)
      by_cases q : E u t = true
      · rw [ct_yes q] at hc
        omega
      · rw [ct_no q] at hc
        rw [wV, if_neg q]
        exact wV_ct t T (by omega) hc
theorem wV_la {E : Ed} {u : Nat} {s : WS} (hs : s.2.2 = -1) : ∀ m, (fb_ct (E u) m = 0 → (wV E u m s).2.2 = -1) ∧ (0 < fb_ct (E u) m → 0 ≤ (wV E u m s).2.2)
  | 0 => ⟨fun _ => hs, fun h => absurd h (Nat.lt_irrefl 0)⟩
  | m + 1 => by
    have ih := wV_la hs m (E := E) (u := u)
    by_cases q : E u m = true
    · rw [ct_yes q, wV, if_pos q]
      refine ⟨fun h => by omega, fun _ => ?_⟩
      show (0 : Int) ≤ (m : Int)
      omega
    · rw [ct_no q, wV, if_neg q]
      exact ih
theorem wV_r {E : Ed} {N u : Nat} (hu : u < N) (hN : N ≤ 250) {s : WS} (hs : s.2.2 = -1) (h0 : 0 ≤ s.2.1) (hb : bR s.1 s.2.1) : ∀ m, m ≤ N → bR (wV E u m s).1 (wV E u m s).2.1
  | 0, _ => hb
  | m + 1, hm => by
    have ih := wV_r hu hN hs h0 hb m (by omega) (E := E)
    have ok := wV_ok (E := E) hu hN hs h0 hb m (by omega)
    by_cases q : E u m = true
    · rw [wV, if_pos q]
      simp only [wP]
      have z : 0 ≤ (wV E u m s).2.1 ∧ -1 ≤ (wV E u m s).2.2 ∧ (wV E u m s).2.2 < (m : Int) := by
        rcases ok with ok | ok
        · exact ⟨by omega, ok.2.2.1, ok.2.2.2⟩
        · subst ok
          have e0 : wV E u 0 s = s := rfl
          rw [e0]
          omega
      exact pU_r z.1 (cod_r hu (by omega) hN z.2.1 z.2.2) ih
    · rw [wV, if_neg q]
      exact ih
theorem wN_ok {E : Ed} {N u : Nat} (hu : u < N) (hN : N ≤ 250) {s : (Nat → Int) × Int} (h0 : 0 ≤ s.2) (hb : bR s.1 s.2) : s.2 ≤ (wN E N u s).2 ∧ (wN E N u s).2 ≤ s.2 + 4 + (dgr E N u : Int) ∧ bR (wN E N u s).1 (wN E N u s).2 := by
  have d1 := dgr_le E N u
  have l1 := lU_r (dgr E N u : Int)
  have p1 := pU_r (o := (dgr E N u : Int)) h0 (by omega) hb
  obtain ⟨s0, hs0⟩ : ∃ s0 : WS, s0 = (pU s.1 s.2.toNat (dgr E N u : Int), s.2 + lU (dgr E N u : Int), -1) := ⟨_, rfl⟩
  have e1 : s0.2.2 = -1 := by rw [hs0]
  have e2 : s0.2.1 = s.2 + lU (dgr E N u : Int) := by rw [hs0]
  have e0 : s0.1 = pU s.1 s.2.toNat (dgr E N u : Int) := by rw [hs0]
  have e3 : bR s0.1 s0.2.1 := by rw [e0, e2]; exact p1
  have ok := wV_ok (E := E) hu hN e1 (by omega) e3 N (Nat.le_refl N)
  have r := wV_r (E := E) hu hN e1 (by omega) e3 N (Nat.le_refl N)
  have cN : fb_ct (E u) N = dgr E N u := rfl
  have w1 : wN E N u s = ((wV E u N s0).1, (wV E u N s0).2.1) := by rw [hs0]; rfl
  rw [w1]
  rcases ok with ok | ok
  · refine ⟨by dsimp only; omega, ?_, r⟩
    obtain ⟨o1, o2, o3, o4⟩ := ok
    dsimp only
    (repeat' split at o2) <;> omega
  · omega
theorem wA_ok {E : Ed} {N : Nat} (hN : N ≤ 250) {s : (Nat → Int) × Int} (h0 : 0 ≤ s.2) (hb : bR s.1 s.2) : ∀ u, u ≤ N → s.2 ≤ (wA E N u s).2 ∧ (wA E N u s).2 ≤ s.2 + 4 * (u : Int) + (fst E N u : Int) ∧ bR (wA E N u s).1 (wA E N u s).2
  | 0, _ => ⟨Int.le_refl _, by show s.2 ≤ s.2 + 4 * (0 : Nat) + ((fst E N 0 : Nat) : Int); rw [fst_0]; omega, hb⟩
  | u + 1, h => by
    have ih := wA_ok hN h0 hb u (by omega) (E := E)
    have n := wN_ok (E := E) (show u < N by omega) hN (s := wA E N u s) (by omega) ih.2.2
    have f := fst_succ E N u
    rw [wA]
    exact ⟨by omega, by omega, n.2.2⟩
