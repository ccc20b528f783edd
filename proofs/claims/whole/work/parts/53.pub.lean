/-! the model's own world after each call -/
def BY (tp tf : Nat → Int) (L : Nat) : Prop := ∀ j, j < L → tp j = sb (tf j) ∧ 0 ≤ tf j ∧ tf j < 256
theorem by4 {tp tf : Nat → Int} {L : Nat} {le v : Int} {u : (Nat → Int) × Int} (h : BY tp tf L) (hl : le = (L : Int)) (hu : u = (fun j => if le.toNat ≤ j ∧ j < le.toNat + 4 then sb ((v % 4294967296) / 2 ^ (24 - 8 * (j - le.toNat)) % 256) else tp j, le + 4)) : BY u.1 (p4 tf L v) (L + 4) ∧ u.2 = ((L + 4 : Nat) : Int) := by
  subst hu
  subst hl
  refine ⟨fun j hj => ?_, by dsimp only; omega⟩
  dsimp only [p4]
  rw [Int.toNat_natCast]
  by_cases q : L ≤ j ∧ j < L + 4
  · rw [if_pos q, if_pos q]
    refine ⟨rfl, ?_⟩
    omega
  · rw [if_neg q, if_neg q]
    exact h j (by omega)
theorem MG_clr {N : Nat} (h1 : 1 ≤ N) (h2 : N ≤ 250) {eg wt : Nat → Int} {nd es : Int} (hn : nd = (N : Int)) (hs : es = 0) (he : ∀ j, j < 62500 → eg j = 0) (hw : ∀ j, j < N → wt j = 1) : MG N (fun _ _ => false) (fun _ => 1) eg wt nd es := by
  have g := GR_reset (N := N) h1 h2 (f1 := fun _ => 0) (f2 := fun _ => 0) (f3 := fun _ => 1) (fun _ _ => rfl) (fun _ _ => rfl)
  obtain ⟨g1, g2, g3, g4, g5, g6, g7, g8, g9, g10, g11⟩ := g
  refine ⟨fun a b ha hb => ?_, fun a b q => Bool.noConfusion q, h1, h2, hn, by omega, g6, fun u hu => ⟨hw u hu, show 1 ≤ 1000 by omega⟩, g10⟩
  have q9 : ¬ ((fun (_ _ : Nat) => false) a b = true) := fun q => Bool.noConfusion q
  rw [if_neg q9]
  exact he _ (by omega)
theorem MG_add {N : Nat} {E : Ed} {w : Nat → Nat} {eg wt : Nat → Int} {nd es : Int} (h : MG N E w eg wt nd es) {u v : Nat} (hu : u < N) (hv : v < N) (hE : ¬ E u v = true) (hs : es < 2500) : MG N (uE E u v true) w (uZ eg (250 * u + v) 1) wt nd (es + 1) := by
  obtain ⟨m1, m2, m3, m4, m5, m6, m7, m8, m9⟩ := h
  have f := fst_in (n := N) (Bool.eq_false_iff.mpr hE) hv N
  rw [if_pos hu] at f
  refine ⟨ME_up m1 (by omega) true, fun a b hab => ?_, m3, m4, m5, by omega, by omega, m8, m9⟩
  by_cases e : a = u ∧ b = v
  · omega
  · simp only [uE, if_neg e] at hab
    exact m2 a b hab
theorem MG_cut {N : Nat} {E : Ed} {w : Nat → Nat} {eg wt : Nat → Int} {nd es : Int} (h : MG N E w eg wt nd es) {u v : Nat} (hu : u < N) (hv : v < N) (hE : E u v = true) : MG N (uE E u v false) w (uZ eg (250 * u + v) 0) wt nd (es - 1) := by
  obtain ⟨m1, m2, m3, m4, m5, m6, m7, m8, m9⟩ := h
  have f := fst_del (n := N) hE hv N
  rw [if_pos hu] at f
  refine ⟨ME_up m1 (by omega) false, fun a b hab => ?_, m3, m4, m5, by omega, by omega, m8, m9⟩
  by_cases e : a = u ∧ b = v
  · omega
  · simp only [uE, if_neg e] at hab
    exact m2 a b hab
theorem MG_wei {N : Nat} {E : Ed} {w : Nat → Nat} {eg wt : Nat → Int} {nd es : Int} (h : MG N E w eg wt nd es) {U : Nat} {z : Int} (hU : U < N) (hz : 0 ≤ z ∧ z ≤ 1000) (hp : ¬ (fb_sm w N : Int) - (w U : Int) + z = 0) : MG N E (fun k => if k = U then z.toNat else w k) eg (uZ wt U z) nd es := by
  obtain ⟨m1, m2, m3, m4, m5, m6, m7, m8, m9⟩ := h
  have q := fb_sm_upd w z.toNat hU
  refine ⟨m1, m2, m3, m4, m5, m6, m7, fun u hu => ?_, by omega⟩
  by_cases e : u = U
  · subst e
    rw [uZ_s]
    simp only [if_true]
    omega
  · rw [uZ_n e]
    simp only [if_neg e]
    exact m8 u hu
theorem MG_thr {N : Nat} {E : Ed} {w : Nat → Nat} {eg wt : Nat → Int} {nd es : Int} (h : MG N E w eg wt nd es) : fb_sm w N ≤ 250000 := by
  have q : ∀ n, n ≤ N → fb_sm w n ≤ 1000 * n := by
    intro n
    induction n with
    | zero => intro _; exact Nat.le_refl _
    | succ n ih =>
      intro hn
      have a1 := ih (by omega)
      have a2 := (h.2.2.2.2.2.2.2.1 n (by omega)).2
      rw [fb_sm_succ]
      omega
  have a1 := q N (Nat.le_refl N)
  have a2 := h.2.2.2.1
  omega
