/-! the house: what it holds, and what that means -/
abbrev HT : Type := ((Nat → Int) × Int) × ((Nat → Int) × Int) × (Int × Int × Int × Int × Int) × ((Nat × Nat) × (Nat → Int) × (Nat → Int) × Int × Int × Int × Int × Int) × ((Nat → Int) × (Nat → Int) × Int) × GT
abbrev wHT (cI cJ : ClassId) (h ta ou de ra od gr tb ob o1 o2 b1 b2 b3 : Nat) (u : HT) : va_W := wHo h ta ou de ra od gr ++ wBR 2000 cI ta tb u.1.1 u.1.2 ++ wBR 3502 cI ou ob u.2.1.1 u.2.1.2 ++ wDe de u.2.2.1.1 u.2.2.1.2.1 u.2.2.1.2.2.1 u.2.2.1.2.2.2.1 u.2.2.1.2.2.2.2 ++ wRa cJ ra u.2.2.2.1.1.1 u.2.2.2.1.1.2 u.2.2.2.1.2.1 u.2.2.2.1.2.2.1 u.2.2.2.1.2.2.2.1 u.2.2.2.1.2.2.2.2.1 u.2.2.2.1.2.2.2.2.2.1 u.2.2.2.1.2.2.2.2.2.2.1 u.2.2.2.1.2.2.2.2.2.2.2 ++ wOr cI cJ od o1 o2 u.2.2.2.2.1.1 u.2.2.2.2.1.2.1 u.2.2.2.2.1.2.2 ++ wG cI gr b1 b2 b3 u.2.2.2.2.2
def HR (N : Nat) (E : Ed) (w : Nat → Nat) (P Q : Nat) (x : Nat → Nat) (ks kc ke tl : Nat) (tf : Nat → Int) (ol : Nat) (of_ : Nat → Int) (fk : Int) (u : HT) : Prop :=
  GRu N E w u.2.2.2.2.2 ∧ RK N P Q x u.2.2.2.1.2.1 u.2.2.2.1.2.2.2.1 u.2.2.2.1.2.2.2.2.1 ∧ u.2.2.2.1.2.2.2.2.2.1 = (ks : Int) ∧ u.2.2.2.1.2.2.2.2.2.2.1 = (kc : Int) ∧ u.2.2.2.1.2.2.2.2.2.2.2 = (ke : Int) ∧ kc ≤ 8589934592 ∧ ke ≤ 8589934592 ∧
  u.1.1 = tf ∧ u.1.2 = (tl : Int) ∧ tl ≤ 2000 ∧ (∀ j, j < tl → 0 ≤ tf j ∧ tf j < 256) ∧ u.2.1.1 = of_ ∧ u.2.1.2 = (ol : Int) ∧ ol ≤ 3502 ∧ (∀ j, j < ol → 0 ≤ of_ j ∧ of_ j < 256) ∧ u.2.2.1.2.2.2.1 = fk
theorem RK_beg {N P Q : Nat} {x : Nat → Nat} {fn g : Nat → Int} {p q : Int} (hN : 0 < N) {M : Nat} (h : RK M P Q x fn p q) (hg : ∀ v, v < N → g v = ((beg N v : Nat) : Int)) : RK N P Q (beg N) g p q := ⟨h.1, h.2.1, h.2.2.1, h.2.2.2.1, hg, Nat.le_of_eq (beg_sum hN)⟩
theorem p4_r {f : Nat → Int} {L : Nat} {z : Int} (h : ∀ j, j < L → 0 ≤ f j ∧ f j < 256) : ∀ j, j < L + 4 → 0 ≤ p4 f L z j ∧ p4 f L z j < 256 := by
  intro j hj
  unfold p4
  by_cases q : L ≤ j ∧ j < L + 4
  · rw [if_pos q]
    omega
  · rw [if_neg q]
    exact h j (by omega)
/-! nodes by worth -/
def bef (wt : Nat → Nat) (y x : Nat) : Bool := decide (wt x < wt y ∨ (wt y = wt x ∧ y < x))
def ahd (p : Nat → Bool) (wt : Nat → Nat) (i x : Nat) : Nat := fb_ct (fun y => p y && bef wt y x) i
theorem bef_iff {wt : Nat → Nat} {y x : Nat} : bef wt y x = true ↔ (wt x < wt y ∨ (wt y = wt x ∧ y < x)) := by simp [bef]
theorem ahd_lt {p : Nat → Bool} {wt : Nat → Nat} {i y x : Nat} (hy : y < i) (hp : p y = true) (hb : bef wt y x = true) : ahd p wt i y < ahd p wt i x := by
  have h1 : (p y && bef wt y y) = false := by
    rw [hp, Bool.true_and]
    exact Bool.eq_false_iff.mpr (fun q => by rw [bef_iff] at q; omega)
  have h2 := ct_in (p := fun z => p z && bef wt z y) (b := y) h1 i
  rw [if_pos hy] at h2
  have h3 : fb_ct (fun k => if k = y then true else (p k && bef wt k y)) i ≤ ahd p wt i x := by
    refine fb_ct_sub (fun k _ hk => ?_)
    by_cases e : k = y
    · subst e
      simp [hp, hb]
    · simp only [if_neg e, Bool.and_eq_true] at hk ⊢
      refine ⟨hk.1, ?_⟩
      have a1 := bef_iff.mp hk.2
      have a2 := bef_iff.mp hb
      rw [bef_iff]
      omega
  have h4 : ahd p wt i y = fb_ct (fun z => p z && bef wt z y) i := rfl
  omega
theorem ahd_le {p : Nat → Bool} {wt : Nat → Nat} {i x : Nat} : ahd p wt i x ≤ fb_ct p i := fb_ct_sub (fun k _ hk => by rw [Bool.and_eq_true] at hk; exact hk.1)
theorem ahd_in {p : Nat → Bool} {wt : Nat → Nat} {i x : Nat} (hx : x < i) (hp : p x = true) : ahd p wt i x < fb_ct p i := by
  have h1 : (p x && bef wt x x) = false := by
    rw [hp, Bool.true_and]
    exact Bool.eq_false_iff.mpr (fun q => by rw [bef_iff] at q; omega)
  have h2 := ct_in (p := fun z => p z && bef wt z x) (b := x) h1 i
  rw [if_pos hx] at h2
  have h3 : fb_ct (fun k => if k = x then true else (p k && bef wt k x)) i ≤ fb_ct p i := by
    refine fb_ct_sub (fun k _ hk => ?_)
    by_cases e : k = x
    · subst e
      exact hp
    · simp only [if_neg e, Bool.and_eq_true] at hk
      exact hk.1
  have h4 : ahd p wt i x = fb_ct (fun z => p z && bef wt z x) i := rfl
  omega
theorem bef_or {wt : Nat → Nat} {y x : Nat} (h : y ≠ x) : bef wt y x = true ∨ bef wt x y = true := by
  rw [bef_iff, bef_iff]
  omega
theorem ahd_one {p : Nat → Bool} {wt : Nat → Nat} {i x y : Nat} (hx : x < i) (hy : y < i) (px : p x = true) (py : p y = true) (e : ahd p wt i x = ahd p wt i y) : x = y := by
  by_cases q : x = y
  · exact q
  · rcases bef_or (wt := wt) q with b | b
    · have := ahd_lt hx px b
      omega
    · have := ahd_lt hy py b
      omega
theorem ahd_succ {p : Nat → Bool} {wt : Nat → Nat} {i x : Nat} : ahd p wt (i + 1) x = ahd p wt i x + (if (p i && bef wt i x) = true then 1 else 0) := rfl
def TK (p : Nat → Bool) (wt : Nat → Nat) (n : Nat) (k z : Int) : Prop := (∃ u : Nat, u < n ∧ p u = true ∧ (ahd p wt n u : Int) = k ∧ z = (u : Int)) ∨ (z = -1 ∧ ∀ u, u < n → p u = true → (ahd p wt n u : Int) ≠ k)
theorem TK_one {p : Nat → Bool} {wt : Nat → Nat} {n : Nat} {k z z' : Int} (h : TK p wt n k z) (h' : TK p wt n k z') : z = z' := by
  rcases h with ⟨u, a1, a2, a3, a4⟩ | ⟨a1, a2⟩ <;> rcases h' with ⟨v, b1, b2, b3, b4⟩ | ⟨b1, b2⟩
  · have := ahd_one (wt := wt) a1 b1 a2 b2 (by omega)
    omega
  · exact absurd a3 (b2 u a1 a2)
  · exact absurd b3 (a2 v b1 b2)
  · omega
def OI (p : Nat → Bool) (wt : Nat → Nat) (i s : Nat) (q1 q2 : Nat → Int) : Prop := s = fb_ct p i ∧ ∃ g : Nat → Nat, ∀ a, a < s → g a < i ∧ p (g a) = true ∧ q1 a = (g a : Int) ∧ q2 a = (wt (g a) : Int) ∧ ahd p wt i (g a) = a
theorem OI_0 {p : Nat → Bool} {wt : Nat → Nat} {q1 q2 : Nat → Int} : OI p wt 0 0 q1 q2 := ⟨rfl, fun _ => 0, fun a h => absurd h (Nat.not_lt_zero a)⟩
theorem OI_skip {p : Nat → Bool} {wt : Nat → Nat} {i s : Nat} {q1 q2 : Nat → Int} (h : OI p wt i s q1 q2) (hp : p i = false) : OI p wt (i + 1) s q1 q2 := by
  obtain ⟨h1, g, h2⟩ := h
  refine ⟨by rw [fb_ct_succ, hp]; exact h1, g, fun a ha => ?_⟩
  obtain ⟨a1, a2, a3, a4, a5⟩ := h2 a ha
  refine ⟨by omega, a2, a3, a4, ?_⟩
  rw [ahd_succ, hp, Bool.false_and, if_neg (by decide)]
  exact a5
theorem OI_step {p : Nat → Bool} {wt : Nat → Nat} {i s : Nat} {q1 q2 : Nat → Int} (h : OI p wt i s q1 q2) (hp : p i = true) {a : Nat} (ha : a ≤ s) (h3 : ∀ j, a ≤ j → j < s → q2 j < (wt i : Int)) (h4 : a = 0 ∨ (wt i : Int) ≤ q2 (a - 1)) : OI p wt (i + 1) (s + 1) (shf q1 a s (i : Int)) (shf q2 a s (wt i : Int)) := by
  obtain ⟨h1, g, h2⟩ := h
  have srt : ∀ b c, b < c → c < s → q2 c ≤ q2 b := by
    intro b c hbc hc
    obtain ⟨b1, b2, b3, b4, b5⟩ := h2 b (by omega)
    obtain ⟨c1, c2, c3, c4, c5⟩ := h2 c hc
    rcases bef_or (wt := wt) (y := g c) (x := g b) (fun e => by rw [e] at c5; omega) with q | q
    · have := ahd_lt c1 c2 q
      omega
    · have := bef_iff.mp q
      omega
  have old : ∀ b, b < s → ahd p wt (i + 1) (g b) = if b < a then b else b + 1 := by
    intro b hb
    obtain ⟨b1, b2, b3, b4, b5⟩ := h2 b hb
    rw [ahd_succ, hp, Bool.true_and, b5]
    by_cases q : b < a
    · have hn : ¬ bef wt i (g b) = true := by
        rw [bef_iff]
        rcases h4 with h4 | h4
        · omega
        · by_cases e : b = a - 1
          · subst e; omega
          · have := srt b (a - 1) (by omega) (by omega)
            omega
      rw [if_pos q, if_neg hn, Nat.add_zero]
    · have hn : bef wt i (g b) = true := by
        rw [bef_iff]
        have := h3 b (by omega) hb
        omega
      rw [if_neg q, if_pos hn]
  have new : ahd p wt (i + 1) i = a := by
    have n1 : ahd p wt (i + 1) i = ahd p wt i i := by
      have hn : ¬ bef wt i i = true := by rw [bef_iff]; omega
      rw [ahd_succ, hp, Bool.true_and, if_neg hn, Nat.add_zero]
    have n2 : ahd p wt i i ≤ s := by rw [h1]; exact ahd_le
    have n3 : a ≤ ahd p wt (i + 1) i := by
      rcases Nat.eq_zero_or_pos a with q | q
      · omega
      · obtain ⟨b1, b2, b3, b4, b5⟩ := h2 (a - 1) (by omega)
        have o := old (a - 1) (by omega)
        rw [if_pos (by omega)] at o
        have := ahd_lt (wt := wt) (i := i + 1) (y := g (a - 1)) (x := i) (by omega) b2 (bef_iff.mpr (by omega))
        omega
    rcases Nat.lt_or_ge a s with q | q
    · obtain ⟨b1, b2, b3, b4, b5⟩ := h2 a q
      have o := old a q
      rw [if_neg (by omega)] at o
      have o2 := h3 a (by omega) q
      have := ahd_lt (wt := wt) (i := i + 1) (y := i) (x := g a) (by omega) hp (bef_iff.mpr (by omega))
      omega
    · omega
  refine ⟨by rw [fb_ct_succ, if_pos hp, ← h1], fun b => if b < a then g b else if b = a then i else g (b - 1), fun b hb => ?_⟩
  simp only [shf]
  by_cases q : b < a
  · obtain ⟨b1, b2, b3, b4, b5⟩ := h2 b (by omega)
    have o := old b (by omega)
    rw [if_pos q] at o
    simp only [if_pos q]
    exact ⟨by omega, b2, b3, b4, o⟩
  · by_cases e : b = a
    · subst e
      simp only [if_neg q, if_true]
      exact ⟨by omega, hp, trivial, trivial, new⟩
    · obtain ⟨b1, b2, b3, b4, b5⟩ := h2 (b - 1) (by omega)
      have o := old (b - 1) (by omega)
      rw [if_neg (by omega)] at o
      simp only [if_neg q, if_neg e, if_pos (show b ≤ s by omega)]
      exact ⟨by omega, b2, b3, b4, by omega⟩
theorem OI_end {p : Nat → Bool} {wt : Nat → Nat} {n s : Nat} {q1 q2 : Nat → Int} (h : OI p wt n s q1 q2) {k z : Int} (h1 : (0 ≤ k ∧ k < (s : Int)) → z = q1 k.toNat) (h2 : ¬ (0 ≤ k ∧ k < (s : Int)) → z = -1) : TK p wt n k z := by
  obtain ⟨e, g, hg⟩ := h
  by_cases q : 0 ≤ k ∧ k < (s : Int)
  · obtain ⟨b1, b2, b3, b4, b5⟩ := hg k.toNat (by omega)
    exact Or.inl ⟨g k.toNat, b1, b2, by omega, by rw [h1 q, b3]⟩
  · refine Or.inr ⟨h2 q, fun u hu pu => ?_⟩
    have := ahd_in (wt := wt) hu pu
    omega
