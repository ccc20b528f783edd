/-! what a graph is: n nodes, the edges E, the weights w; and how the class holds it -/
abbrev Ed : Type := Nat → Nat → Bool
def dgr (E : Ed) (n u : Nat) : Nat := fb_ct (E u) n
def fst (E : Ed) (n j : Nat) : Nat := fb_sm (dgr E n) j
def GR (N : Nat) (E : Ed) (w : Nat → Nat) (f1 f2 f3 : Nat → Int) (n sz wh : Int) : Prop :=
  1 ≤ N ∧ N ≤ 250 ∧ n = (N : Int) ∧ (∀ j, j ≤ N → f1 j = (fst E N j : Int)) ∧ sz = (fst E N N : Int) ∧ fst E N N ≤ 2500 ∧
  (∀ u v, u < N → v < N → E u v = true → f2 (fst E N u + fb_ct (E u) v) = (v : Int)) ∧ (∀ u, u < N → f3 u = (w u : Int) ∧ w u ≤ 1000) ∧ wh = (fb_sm w N : Int) ∧ 0 < fb_sm w N ∧ (∀ u v, E u v = true → u < N ∧ v < N)
theorem fst_succ (E : Ed) (n u : Nat) : fst E n (u + 1) = fst E n u + dgr E n u := rfl
theorem fst_0 (E : Ed) (n : Nat) : fst E n 0 = 0 := rfl
theorem fst_le (E : Ed) {n u : Nat} (h : u < n) : fst E n u + dgr E n u ≤ fst E n n := fb_sm_part (dgr E n) h
theorem fst_mono (E : Ed) {n a b : Nat} (h : a ≤ b) : fst E n a ≤ fst E n b := by
  obtain ⟨k, rfl⟩ := Nat.le.dest h
  exact fb_sm_mono (dgr E n) a k
theorem dgr_le (E : Ed) (n u : Nat) : dgr E n u ≤ n := fb_ct_le (E u) n
/-- the target at place i of u's row -/
theorem row_at {N : Nat} {E : Ed} {f2 : Nat → Int} (g7 : ∀ u v, u < N → v < N → E u v = true → f2 (fst E N u + fb_ct (E u) v) = (v : Int)) {u i : Nat} (hu : u < N) (hi : i < dgr E N u) : ∃ t, t < N ∧ E u t = true ∧ fb_ct (E u) t = i ∧ f2 (fst E N u + i) = (t : Int) := by
  obtain ⟨t, h1, h2, h3⟩ := fb_ct_kth (p := E u) (k := i) (n := N) hi
  exact ⟨t, h1, h2, h3, by rw [← h3]; exact g7 u t hu h1 h2⟩
/-- places in a row go as targets do -/
theorem row_lt {p : Nat → Bool} {t v : Nat} (ht : p t = true) : t < v ↔ fb_ct p t < fb_ct p v := by
  constructor
  · intro h
    have h1 : fb_ct p (t + 1) = fb_ct p t + 1 := by rw [fb_ct_succ, if_pos ht]
    have h2 := fb_ct_mono p (show t + 1 ≤ v from h)
    omega
  · intro h
    rcases Nat.lt_or_ge t v with q | q
    · exact q
    · have := fb_ct_mono p q
      omega
theorem row_in {p : Nat → Bool} {v n : Nat} (hv : p v = true) (h : v < n) : fb_ct p v < fb_ct p n := (row_lt hv).mp h
