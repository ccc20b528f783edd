abbrev MT : Type := Int × (Nat → Int) × (Nat → Int) × (Nat → Int) × (Nat → Int) × (Nat → Int) × Int × Int × Int × Int × Int × Int × Int × (Nat → Int) × Int × Int × Int × Int × Int × Int × Int × Int × (Nat → Int) × Int
abbrev wM (cI cJ cB cZ : ClassId) (h a1 a2 a3 a4 a5 a6 a7 : Nat) (u : MT) : va_W := wMo cI cJ cB cZ h a1 a2 a3 a4 a5 a6 a7 u.1 u.2.1 u.2.2.1 u.2.2.2.1 u.2.2.2.2.1 u.2.2.2.2.2.1 u.2.2.2.2.2.2.1 u.2.2.2.2.2.2.2.1 u.2.2.2.2.2.2.2.2.1 u.2.2.2.2.2.2.2.2.2.1 u.2.2.2.2.2.2.2.2.2.2.1 u.2.2.2.2.2.2.2.2.2.2.2.1 u.2.2.2.2.2.2.2.2.2.2.2.2.1 u.2.2.2.2.2.2.2.2.2.2.2.2.2.1 u.2.2.2.2.2.2.2.2.2.2.2.2.2.2.1 u.2.2.2.2.2.2.2.2.2.2.2.2.2.2.2.1 u.2.2.2.2.2.2.2.2.2.2.2.2.2.2.2.2.1 u.2.2.2.2.2.2.2.2.2.2.2.2.2.2.2.2.2.1 u.2.2.2.2.2.2.2.2.2.2.2.2.2.2.2.2.2.2.1 u.2.2.2.2.2.2.2.2.2.2.2.2.2.2.2.2.2.2.2.1 u.2.2.2.2.2.2.2.2.2.2.2.2.2.2.2.2.2.2.2.2.1 u.2.2.2.2.2.2.2.2.2.2.2.2.2.2.2.2.2.2.2.2.2.1 u.2.2.2.2.2.2.2.2.2.2.2.2.2.2.2.2.2.2.2.2.2.2.1 u.2.2.2.2.2.2.2.2.2.2.2.2.2.2.2.2.2.2.2.2.2.2.2
def sb (b : Int) : Int := if b < 128 then b else b - 256
def ME (E : Ed) (eg : Nat → Int) : Prop := ∀ a b, a < 250 → b < 250 → eg (250 * a + b) = if E a b = true then 1 else 0
def MG (N : Nat) (E : Ed) (w : Nat → Nat) (eg wt : Nat → Int) (nd es : Int) : Prop := ME E eg ∧ (∀ a b, E a b = true → a < N ∧ b < N) ∧ 1 ≤ N ∧ N ≤ 250 ∧ nd = (N : Int) ∧ es = (fst E N N : Int) ∧ fst E N N ≤ 2500 ∧ (∀ u, u < N → wt u = (w u : Int) ∧ w u ≤ 1000) ∧ 0 < fb_sm w N
def MR (N : Nat) (E : Ed) (w : Nat → Nat) (P Q : Nat) (x : Nat → Nat) (ks kc ke tl : Nat) (tf : Nat → Int) (ol : Nat) (of_ : Nat → Int) (fk : Int) (u : MT) : Prop :=
  MG N E w u.2.1 u.2.2.2.1 u.2.2.2.2.2.2.1 u.2.2.2.2.2.2.2.1 ∧ RK N P Q x u.2.2.2.2.1 u.2.2.2.2.2.2.2.2.1 u.2.2.2.2.2.2.2.2.2.1 ∧ u.2.2.2.2.2.2.2.2.2.2.1 = (ks : Int) ∧ u.2.2.2.2.2.2.2.2.2.2.2.1 = (kc : Int) ∧ u.2.2.2.2.2.2.2.2.2.2.2.2.1 = (ke : Int) ∧ kc ≤ 8589934592 ∧ ke ≤ 8589934592 ∧
  u.2.2.2.2.2.2.2.2.2.2.2.2.2.2.1 = (tl : Int) ∧ tl ≤ 2000 ∧ (∀ j, j < tl → u.2.2.2.2.2.2.2.2.2.2.2.2.2.1 j = sb (tf j) ∧ 0 ≤ tf j ∧ tf j < 256) ∧ u.2.2.2.2.2.2.2.2.2.2.2.2.2.2.2.2.2.2.2.2.2.2.2 = (ol : Int) ∧ ol ≤ 3502 ∧ (∀ j, j < ol → u.2.2.2.2.2.2.2.2.2.2.2.2.2.2.2.2.2.2.2.2.2.2.1 j = sb (of_ j) ∧ 0 ≤ of_ j ∧ of_ j < 256) ∧ u.2.2.2.2.2.2.2.2.2.2.2.2.2.2.2.2.2.1 = fk
theorem sb_255 {b : Int} (h : 0 ≤ b ∧ b < 256) : sb b % 256 = b := by
  unfold sb
  split <;> omega
theorem sb_bm {z b : Int} (h : z % 256 = b) : z.bmod 256 = sb b := by
  unfold sb
  rw [Int.bmod_def]
  split <;> split <;> omega
theorem sb_r {b : Int} (h : 0 ≤ b ∧ b < 256) : -128 ≤ sb b ∧ sb b < 128 := by
  unfold sb
  split <;> omega
theorem beg_eq {N v : Nat} {n : Int} (hn : n = (N : Int)) (h : ((v : Int) < 4294967296 % n)) : (4294967296 : Int) / n + 1 = ((beg N v : Nat) : Int) := by
  subst hn
  have h1 : ((4294967296 % N : Nat) : Int) = 4294967296 % (N : Int) := by rw [Int.natCast_emod]; rfl
  have h2 : ((4294967296 / N : Nat) : Int) = 4294967296 / (N : Int) := by rw [Int.natCast_ediv]; rfl
  rw [beg, if_pos (by omega)]
  omega
theorem beg_eq0 {N v : Nat} {n : Int} (hn : n = (N : Int)) (h : ¬ ((v : Int) < 4294967296 % n)) : (4294967296 : Int) / n + 0 = ((beg N v : Nat) : Int) := by
  subst hn
  have h1 : ((4294967296 % N : Nat) : Int) = 4294967296 % (N : Int) := by rw [Int.natCast_emod]; rfl
  have h2 : ((4294967296 / N : Nat) : Int) = 4294967296 / (N : Int) := by rw [Int.natCast_ediv]; rfl
  rw [beg, if_neg (by omega)]
  omega
theorem ME_up {E : Ed} {eg : Nat → Int} (h : ME E eg) {u v : Nat} (hv : v < 250) (c : Bool) : ME (uE E u v c) (uZ eg (250 * u + v) (if c = true then 1 else 0)) := by
  intro a b ha hb
  by_cases e : a = u ∧ b = v
  · obtain ⟨rfl, rfl⟩ := e
    rw [uZ_s]
    simp [uE]
  · rw [uZ_n (by omega), h a b ha hb]
    simp [uE, if_neg e]
theorem mod_r {n : Int} (h : 0 < n) : 0 ≤ 4294967296 % n ∧ 4294967296 % n < n := ⟨Int.emod_nonneg _ (by omega), Int.emod_lt_of_pos _ h⟩
