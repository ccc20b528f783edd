/-! what a graph is: n nodes, the edges E, the weights w; and how the class holds it -/
abbrev Ed : Type := Nat → Nat → Bool
def dgr (E : Ed) (n u : Nat) : Nat := fb_ct (E u) n
def fst (E : Ed) (n j : Nat) : Nat := fb_sm (dgr E n) j
def GR (N : Nat) (E : Ed) (w : Nat → Nat) (f1 f2 f3 : Nat → Int) (n sz wh : Int) : Prop :=
  1 ≤ N ∧ N ≤ 250 ∧ n = (N : Int) ∧ (∀ j, j ≤ N → f1 j = (fst E N j : Int)) ∧ sz = (fst E N N : Int) ∧ fst E N N ≤ 2500 ∧
  (∀ u v, u < N → v < N → E u v = true → f2 (fst E N u + fb_ct (E u) v) = (v : Int)) ∧ (∀ u, u < N → f3 u = (w u : Int) ∧ w u ≤ 1000) ∧ wh = (fb_sm w N : Int) ∧ 0 < fb_sm w N ∧ (∀ u v, E u v = true → u < N ∧ v < N)
theorem fst_succ (E : Ed) (n u : Nat) : fst E n (u + 1) = fst E n u + dgr E n u := rfl
theorem fst_0 (E : Ed) (n : Nat) : fst E n 0 = 0 := rfl
theorem fst_le (E : Ed) {n u : Nat} (h : u < n) : fst E n u + dgr E n u ≤ fst E n n := fb_sm_part (dgr E n) h
theorem fst_mono (E : Ed) {n a b : Nat} (h : a ≤ b) : fst E n a ≤ fst E n b := by
  obtain ⟨k, rfl⟩ := Nat.le.dest h
  exact fb_sm_mono (dgr E n) a k
theorem dgr_le (E : Ed) (n u : Nat) : dgr E n u ≤ n := fb_ct_le (E u) n
/-- the target at place i of u's row -/
theorem row_at {N : Nat} {E : Ed} {f2 : Nat → Int} (g7 : ∀ u v, u < N → v < N → E u v = true → f2 (fst E N u + fb_ct (E u) v) = (v : Int)) {u i : Nat} (hu : u < N) (hi : i < dgr E N u) : ∃ t, t < N ∧ E u t = true ∧ fb_ct (E u) t = i ∧ f2 (fst E N u + i) = (t : Int) := by
  obtain ⟨t, h1, h2, h3⟩ := fb_ct_kth (p := E u) (k := i) (n := N) hi
  exact ⟨t, h1, h2, h3, by rw [← h3]; exact g7 u t hu h1 h2⟩
/-- places in a row go as targets do -/
theorem row_lt {p : Nat → Bool} {t v : Nat} (ht : p t = true) : t < v ↔ fb_ct p t < fb_ct p v := by
  constructor
  · intro h
    have h1 : fb_ct p (t + 1) = fb_ct p t + 1 := by rw [fb_ct_succ, if_pos ht]
    have h2 := fb_ct_mono p (show t + 1 ≤ v from h)
    omega
  · intro h
    rcases Nat.lt_or_ge t v with q | q
    · exact q
    · have := fb_ct_mono p q
      omega
theorem row_in {p : Nat → Bool} {v n : Nat} (hv : p v = true) (h : v < n) : fb_ct p v < fb_ct p n := (row_lt hv).mp h
theorem ct_yes {p : Nat → Bool} {i : Nat} (h : p i = true) : fb_ct p (i + 1) = fb_ct p i + 1 := by rw [fb_ct_succ, if_pos h]
theorem ct_no {p : Nat → Bool} {i : Nat} (h : ¬ p i = true) : fb_ct p (i + 1) = fb_ct p i := by rw [fb_ct_succ, if_neg h]; rfl
/-- z is the k-th place of p below n, -1 without it -/
def TG (p : Nat → Bool) (n : Nat) (k z : Int) : Prop := (∃ t : Nat, t < n ∧ p t = true ∧ (fb_ct p t : Int) = k ∧ z = (t : Int)) ∨ (z = -1 ∧ ¬ (0 ≤ k ∧ k < (fb_ct p n : Int)))
theorem TG_one {p : Nat → Bool} {n : Nat} {k z z' : Int} (h : TG p n k z) (h' : TG p n k z') : z = z' := by
  rcases h with ⟨t, a1, a2, a3, a4⟩ | ⟨a1, a2⟩ <;> rcases h' with ⟨t', b1, b2, b3, b4⟩ | ⟨b1, b2⟩
  · have := fb_ct_kth_one a2 b2 (by omega)
    omega
  · have := row_in a2 a1
    omega
  · have := row_in b2 b1
    omega
  · omega
def pin (E : Ed) (N : Nat) (v : Int) : Nat → Bool := fun a => decide (0 ≤ v ∧ v < (N : Int)) && E a v.toNat
def pout (E : Ed) (N : Nat) (u : Int) : Nat → Bool := fun b => decide (0 ≤ u ∧ u < (N : Int)) && E u.toNat b
theorem pin_iff {E : Ed} {N : Nat} {n v : Int} {i : Nat} (hn : n = (N : Int)) (hi : i < N) : (0 ≤ (i : Int) ∧ (i : Int) < n ∧ 0 ≤ v ∧ v < n ∧ E (i : Int).toNat v.toNat = true) ↔ pin E N v i = true := by
  subst hn
  simp only [pin, Int.toNat_natCast, Bool.and_eq_true, decide_eq_true_eq]
  constructor
  · rintro ⟨_, _, a, b, c⟩; exact ⟨⟨a, b⟩, c⟩
  · rintro ⟨⟨a, b⟩, c⟩; exact ⟨by omega, by omega, a, b, c⟩
theorem pout_in {E : Ed} {N : Nat} {u : Int} (h : 0 ≤ u ∧ u < (N : Int)) : pout E N u = E u.toNat := by
  funext b
  simp [pout, h.1, h.2]
theorem pin_in {E : Ed} {N : Nat} {v : Int} (h : 0 ≤ v ∧ v < (N : Int)) : pin E N v = fun a => E a v.toNat := by
  funext b
  simp [pin, h.1, h.2]
theorem ct_false {p : Nat → Bool} (n : Nat) (h : ∀ k, p k = false) : fb_ct p n = 0 := fb_ct_zero.mpr (fun k _ => h k)
theorem TG_none {p : Nat → Bool} {n : Nat} {k : Int} (h : ∀ j, p j = false) : TG p n k (-1) := Or.inr ⟨rfl, by rw [ct_false n h]; omega⟩
theorem pout_out {E : Ed} {N : Nat} {u : Int} (h : ¬ (0 ≤ u ∧ u < (N : Int))) (j : Nat) : pout E N u j = false := by simp [pout]; omega
theorem pin_out {E : Ed} {N : Nat} {v : Int} (h : ¬ (0 ≤ v ∧ v < (N : Int))) (j : Nat) : pin E N v j = false := by simp [pin]; omega
theorem ct_one (k0 : Nat) : ∀ d, fb_ct (fun k => decide (k = k0)) d = if k0 < d then 1 else 0
  | 0 => by simp [fb_ct]
  | d + 1 => by
    rw [fb_ct_succ, ct_one k0 d]
    simp only [decide_eq_true_eq]
    (repeat' split) <;> omega
theorem into_row {N : Nat} {E : Ed} {f2 : Nat → Int} (g7 : ∀ u v, u < N → v < N → E u v = true → f2 (fst E N u + fb_ct (E u) v) = (v : Int)) {u v : Nat} (hu : u < N) (hv : v < N) : fb_ct (fun k => decide (f2 (fst E N u + k) = (v : Int))) (dgr E N u) = if E u v = true then 1 else 0 := by
  by_cases h : E u v = true
  · rw [if_pos h, fb_ct_cong (q := fun k => decide (k = fb_ct (E u) v)), ct_one, if_pos (show fb_ct (E u) v < dgr E N u from row_in h hv)]
    intro k hk
    obtain ⟨t, r1, r2, r3, r4⟩ := row_at g7 hu hk
    rw [r4]
    refine decide_eq_decide.mpr ⟨fun q => ?_, fun q => ?_⟩
    · have : t = v := by omega
      rw [← this, r3]
    · have := fb_ct_kth_one r2 h (by omega)
      omega
  · rw [if_neg h]
    refine fb_ct_zero.mpr (fun k hk => ?_)
    obtain ⟨t, r1, r2, r3, r4⟩ := row_at g7 hu hk
    rw [r4]
    refine decide_eq_false (fun q => h ?_)
    have : t = v := by omega
    rw [← this]; exact r2
theorem into_all {N : Nat} {E : Ed} {f2 : Nat → Int} (g7 : ∀ u v, u < N → v < N → E u v = true → f2 (fst E N u + fb_ct (E u) v) = (v : Int)) {v : Nat} (hv : v < N) : ∀ u, u ≤ N → fb_ct (fun j => decide (f2 j = (v : Int))) (fst E N u) = fb_ct (fun a => E a v) u
  | 0, _ => rfl
  | u + 1, h => by
    rw [fst_succ, fb_ct_split, into_all g7 hv u (by omega), into_row g7 (by omega) hv, fb_ct_succ]
/-! one edge more, one less -/
def uE (E : Ed) (a b : Nat) (c : Bool) : Ed := fun x y => if x = a ∧ y = b then c else E x y
theorem uE_row (E : Ed) (a b : Nat) (c : Bool) : uE E a b c a = fun k => if k = b then c else E a k := by
  funext k
  simp [uE]
theorem uE_other {E : Ed} {a b x : Nat} {c : Bool} (h : x ≠ a) : uE E a b c x = E x := by
  funext k
  simp [uE, h]
theorem ct_in {p : Nat → Bool} {b : Nat} (hb : p b = false) (v : Nat) : fb_ct (fun k => if k = b then true else p k) v = fb_ct p v + (if b < v then 1 else 0) := by
  by_cases h : b < v
  · have := fb_ct_upd p true h
    rw [hb, if_neg (by decide), if_pos rfl] at this
    rw [if_pos h]
    omega
  · rw [fb_ct_out p true (by omega), if_neg h]
    rfl
theorem ct_del {p : Nat → Bool} {b : Nat} (hb : p b = true) (v : Nat) : fb_ct (fun k => if k = b then false else p k) v + (if b < v then 1 else 0) = fb_ct p v := by
  by_cases h : b < v
  · have := fb_ct_upd p false h
    rw [hb, if_pos rfl, if_neg (by decide)] at this
    rw [if_pos h]
    omega
  · rw [fb_ct_out p false (by omega), if_neg h]
    rfl
theorem dgr_in {E : Ed} {a b n : Nat} (hE : E a b = false) (hb : b < n) (x : Nat) : dgr (uE E a b true) n x = dgr E n x + (if x = a then 1 else 0) := by
  by_cases h : x = a
  · subst h
    rw [dgr, uE_row, ct_in hE, if_pos hb, if_pos rfl]; rfl
  · rw [dgr, uE_other h, if_neg h]; rfl
theorem dgr_del {E : Ed} {a b n : Nat} (hE : E a b = true) (hb : b < n) (x : Nat) : dgr (uE E a b false) n x + (if x = a then 1 else 0) = dgr E n x := by
  by_cases h : x = a
  · subst h
    have := ct_del hE n
    rw [if_pos hb] at this
    rw [dgr, uE_row, if_pos rfl]; exact this
  · rw [dgr, uE_other h, if_neg h]; rfl
theorem fst_in {E : Ed} {a b n : Nat} (hE : E a b = false) (hb : b < n) : ∀ j, fst (uE E a b true) n j = fst E n j + (if a < j then 1 else 0)
  | 0 => rfl
  | j + 1 => by
    rw [fst_succ, fst_succ, fst_in hE hb j, dgr_in hE hb]
    (repeat' split) <;> omega
theorem fst_del {E : Ed} {a b n : Nat} (hE : E a b = true) (hb : b < n) : ∀ j, fst (uE E a b false) n j + (if a < j then 1 else 0) = fst E n j
  | 0 => rfl
  | j + 1 => by
    have h0 := fst_del hE hb j
    have h3 := dgr_del hE hb j
    rw [fst_succ, fst_succ]
    by_cases h1 : a < j
    · rw [if_pos h1] at h0; rw [if_neg (by omega)] at h3; rw [if_pos (by omega)]; omega
    · by_cases h2 : j = a
      · rw [if_neg h1] at h0; rw [if_pos h2] at h3; rw [if_pos (by omega)]; omega
      · rw [if_neg h1] at h0; rw [if_neg h2] at h3; rw [if_neg (by omega)]; omega
theorem GR_join {N : Nat} {E : Ed} {w : Nat → Nat} {f1 f2 f3 : Nat → Int} {n sz wh : Int} (hG : GR N E w f1 f2 f3 n sz wh) {U V : Nat} (hU : U < N) (hV : V < N) (hE : E U V = false) (hs : fst E N N < 2500) {f1' f2' : Nat → Int} {sz' : Int}
    (h1 : ∀ j, j ≤ N → f1' j = f1 j + (if U < j then 1 else 0)) (h2 : ∀ j, f2' j = if j = fst E N U + fb_ct (E U) V then (V : Int) else if fst E N U + fb_ct (E U) V < j ∧ j ≤ fst E N N then f2 (j - 1) else f2 j) (h3 : sz' = sz + 1) :
    GR N (uE E U V true) w f1' f2' f3 n sz' wh := by
  obtain ⟨g1, g2, g3, g4, g5, g6, g7, g8, g9, g10, g11⟩ := hG
  have fN := fst_in (E := E) hE hV N
  rw [if_pos hU] at fN
  refine ⟨g1, g2, g3, fun j hj => ?_, by rw [fN]; omega, by omega, fun a b ha hb hab => ?_, g8, g9, g10, fun a b hab => ?_⟩
  · rw [h1 j hj, g4 j hj, fst_in hE hV j]
    by_cases h : U < j
    · rw [if_pos h, if_pos h]; omega
    · rw [if_neg h, if_neg h]; omega
  · have fa := fst_in (E := E) hE hV a
    have cV := fb_ct_mono (E U) (show V ≤ N by omega)
    have cN : fb_ct (E U) N = dgr E N U := rfl
    have lU := fst_le E hU
    by_cases e : a = U
    · subst e
      rw [if_neg (by omega)] at fa
      rw [uE_row] at hab ⊢
      have ci := ct_in hE b
      by_cases e2 : b = V
      · subst e2
        rw [if_neg (by omega)] at ci
        rw [h2, if_pos (by omega)]
      · simp only [if_neg e2] at hab
        have q1 := g7 a b ha hb hab
        have q2 := row_in hab hb
        have q3 := row_lt (v := V) hab
        by_cases e3 : b < V
        · rw [if_neg (by omega)] at ci
          rw [h2, if_neg (by omega), if_neg (by omega), fa, ci]
          exact q1
        · rw [if_pos (by omega)] at ci
          have q4 := fb_ct_mono (E a) (show V ≤ b by omega)
          rw [h2, if_neg (by omega), if_pos (by omega), fa, ci]
          rw [show fst E N a + 0 + (fb_ct (E a) b + 1) - 1 = fst E N a + fb_ct (E a) b by omega]
          exact q1
    · rw [uE_other e] at hab ⊢
      have q1 := g7 a b ha hb hab
      have q2 := row_in hab hb
      have q3 : fb_ct (E a) N = dgr E N a := rfl
      by_cases e3 : a < U
      · rw [if_neg (by omega)] at fa
        have q4 := fst_mono E (n := N) (show a + 1 ≤ U by omega)
        rw [fst_succ] at q4
        rw [h2, if_neg (by omega), if_neg (by omega), fa]
        exact q1
      · rw [if_pos (by omega)] at fa
        have q4 := fst_mono E (n := N) (show U + 1 ≤ a by omega)
        rw [fst_succ] at q4
        have q5 := fst_le E ha
        rw [h2, if_neg (by omega), if_pos (by omega), fa]
        rw [show fst E N a + 1 + fb_ct (E a) b - 1 = fst E N a + fb_ct (E a) b by omega]
        exact q1
  · by_cases e : a = U ∧ b = V
    · omega
    · simp only [uE, if_neg e] at hab
      exact g11 a b hab
theorem GR_part {N : Nat} {E : Ed} {w : Nat → Nat} {f1 f2 f3 : Nat → Int} {n sz wh : Int} (hG : GR N E w f1 f2 f3 n sz wh) {U V : Nat} (hU : U < N) (hV : V < N) (hE : E U V = true) {f1' f2' : Nat → Int} {sz' : Int}
    (h1 : ∀ j, j ≤ N → f1' j = f1 j + (if U < j then -1 else 0)) (h2 : ∀ j, f2' j = if fst E N U + fb_ct (E U) V ≤ j ∧ j + 1 < fst E N N then f2 (j + 1) else f2 j) (h3 : sz' = sz + -1) :
    GR N (uE E U V false) w f1' f2' f3 n sz' wh := by
  obtain ⟨g1, g2, g3, g4, g5, g6, g7, g8, g9, g10, g11⟩ := hG
  have fN := fst_del (E := E) hE hV N
  rw [if_pos hU] at fN
  refine ⟨g1, g2, g3, fun j hj => ?_, by omega, by omega, fun a b ha hb hab => ?_, g8, g9, g10, fun a b hab => ?_⟩
  · have fj := fst_del (E := E) hE hV j
    rw [h1 j hj, g4 j hj]
    by_cases h : U < j
    · rw [if_pos h] at fj; rw [if_pos h]; omega
    · rw [if_neg h] at fj; rw [if_neg h]; omega
  · have fa := fst_del (E := E) hE hV a
    have cV := row_in hE hV
    have cN : fb_ct (E U) N = dgr E N U := rfl
    have lU := fst_le E hU
    by_cases e : a = U
    · subst e
      rw [if_neg (by omega)] at fa
      rw [uE_row] at hab ⊢
      have ci := ct_del hE b
      by_cases e2 : b = V
      · subst e2
        simp at hab
      · simp only [if_neg e2] at hab
        have q1 := g7 a b ha hb hab
        have q2 := row_in hab hb
        have q3 := row_lt (v := V) hab
        by_cases e3 : b < V
        · rw [if_neg (by omega)] at ci
          rw [h2, if_neg (by omega), show fst (uE E a V false) N a = fst E N a by omega, show fb_ct (fun k => if k = V then false else E a k) b = fb_ct (E a) b by omega]
          exact q1
        · rw [if_pos (by omega)] at ci
          have q4 := (row_lt (v := b) hE).mp (by omega)
          rw [h2, if_pos (by omega), show fst (uE E a V false) N a + fb_ct (fun k => if k = V then false else E a k) b + 1 = fst E N a + fb_ct (E a) b by omega]
          exact q1
    · rw [uE_other e] at hab ⊢
      have q1 := g7 a b ha hb hab
      have q2 := row_in hab hb
      have q3 : fb_ct (E a) N = dgr E N a := rfl
      by_cases e3 : a < U
      · rw [if_neg (by omega)] at fa
        have q4 := fst_mono E (n := N) (show a + 1 ≤ U by omega)
        rw [fst_succ] at q4
        rw [h2, if_neg (by omega), show fst (uE E U V false) N a = fst E N a by omega]
        exact q1
      · rw [if_pos (by omega)] at fa
        have q4 := fst_mono E (n := N) (show U + 1 ≤ a by omega)
        rw [fst_succ] at q4
        have q5 := fst_le E ha
        rw [h2, if_pos (by omega), show fst (uE E U V false) N a + fb_ct (E a) b + 1 = fst E N a + fb_ct (E a) b by omega]
        exact q1
  · by_cases e : a = U ∧ b = V
    · omega
    · simp only [uE, if_neg e] at hab
      exact g11 a b hab
theorem GR_weigh {N : Nat} {E : Ed} {w : Nat → Nat} {f1 f2 f3 : Nat → Int} {n sz wh : Int} (hG : GR N E w f1 f2 f3 n sz wh) {U x : Nat} (hU : U < N) (hx : x ≤ 1000) {wh' : Int} (h1 : wh' = wh + ((x : Int) - f3 U)) (h2 : ¬ wh' = 0) : GR N E (fun k => if k = U then x else w k) f1 f2 (uZ f3 U (x : Int)) n sz wh' := by
  obtain ⟨g1, g2, g3, g4, g5, g6, g7, g8, g9, g10, g11⟩ := hG
  have q := fb_sm_upd w x hU
  have q2 := (g8 U hU).1
  refine ⟨g1, g2, g3, g4, g5, g6, g7, fun u hu => ?_, by omega, by omega, g11⟩
  by_cases h : u = U
  · subst h
    rw [uZ_s]
    simp only [if_true]
    exact ⟨trivial, hx⟩
  · rw [uZ_n h]
    simp only [if_neg h]
    exact g8 u hu
theorem GR_reset {N : Nat} (h1 : 1 ≤ N) (h2 : N ≤ 250) {f1 f2 f3 : Nat → Int} (h3 : ∀ j, j ≤ N → f1 j = 0) (h4 : ∀ j, j < N → f3 j = 1) : GR N (fun _ _ => false) (fun _ => 1) f1 f2 f3 (N : Int) 0 (N : Int) := by
  have z : ∀ j, fst (fun _ _ => false) N j = 0 := by
    intro j
    induction j with
    | zero => rfl
    | succ j ih => rw [fst_succ, ih, dgr, ct_false N (fun _ => rfl)]
  have y : fb_sm (fun _ => 1) N = N := by rw [fb_sm_const]; omega
  refine ⟨h1, h2, rfl, fun j hj => by rw [h3 j hj, z]; rfl, by rw [z]; rfl, by rw [z]; omega, (fun u v _ _ h => by cases h), (fun u hu => ⟨h4 u hu, (show (1 : Nat) ≤ 1000 by decide)⟩), by rw [y], by rw [y]; omega, (fun u v h => by cases h)⟩
