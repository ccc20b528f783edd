/-! bytes of a graph -/
def uns (T : Nat → Int) (L s : Nat) : Int × Int × Nat :=
  if L ≤ s then (1, (L : Int), s) else
  if T s < 128 then (0, T s, s + 1) else
  if L ≤ s + 1 then (1, (L : Int), s + 1) else
  if T (s + 1) < 128 then (if T (s + 1) = 0 then (2, (s : Int), s + 2) else (0, T s % 128 + T (s + 1) % 128 * 128, s + 2)) else
  if L ≤ s + 2 then (1, (L : Int), s + 2) else
  if T (s + 2) < 128 then (if T (s + 2) = 0 ∨ 65535 < T s % 128 + T (s + 1) % 128 * 128 + T (s + 2) % 128 * 16384 then (2, (s : Int), s + 3) else (0, T s % 128 + T (s + 1) % 128 * 128 + T (s + 2) % 128 * 16384, s + 3)) else (2, (s : Int), s + 3)
section UNS
variable {T : Nat → Int} {L s : Nat}
theorem uns_e0 (h : L ≤ s) : uns T L s = (1, (L : Int), s) := by rw [uns, if_pos h]
theorem uns_v0 (h : ¬ L ≤ s) (h1 : T s < 128) : uns T L s = (0, T s, s + 1) := by rw [uns, if_neg h, if_pos h1]
theorem uns_e1 (h : ¬ L ≤ s) (h1 : ¬ T s < 128) (h2 : L ≤ s + 1) : uns T L s = (1, (L : Int), s + 1) := by rw [uns, if_neg h, if_neg h1, if_pos h2]
theorem uns_z1 (h : ¬ L ≤ s) (h1 : ¬ T s < 128) (h2 : ¬ L ≤ s + 1) (h3 : T (s + 1) < 128) (h4 : T (s + 1) = 0) : uns T L s = (2, (s : Int), s + 2) := by rw [uns, if_neg h, if_neg h1, if_neg h2, if_pos h3, if_pos h4]
theorem uns_v1 (h : ¬ L ≤ s) (h1 : ¬ T s < 128) (h2 : ¬ L ≤ s + 1) (h3 : T (s + 1) < 128) (h4 : ¬ T (s + 1) = 0) : uns T L s = (0, T s % 128 + T (s + 1) % 128 * 128, s + 2) := by rw [uns, if_neg h, if_neg h1, if_neg h2, if_pos h3, if_neg h4]
theorem uns_e2 (h : ¬ L ≤ s) (h1 : ¬ T s < 128) (h2 : ¬ L ≤ s + 1) (h3 : ¬ T (s + 1) < 128) (h4 : L ≤ s + 2) : uns T L s = (1, (L : Int), s + 2) := by rw [uns, if_neg h, if_neg h1, if_neg h2, if_neg h3, if_pos h4]
theorem uns_z2 (h : ¬ L ≤ s) (h1 : ¬ T s < 128) (h2 : ¬ L ≤ s + 1) (h3 : ¬ T (s + 1) < 128) (h4 : ¬ L ≤ s + 2) (h5 : T (s + 2) < 128) (h6 : T (s + 2) = 0 ∨ 65535 < T s % 128 + T (s + 1) % 128 * 128 + T (s + 2) % 128 * 16384) : uns T L s = (2, (s : Int), s + 3) := by rw [uns, if_neg h, if_neg h1, if_neg h2, if_neg h3, if_neg h4, if_pos h5, if_pos h6]
theorem uns_v2 (h : ¬ L ≤ s) (h1 : ¬ T s < 128) (h2 : ¬ L ≤ s + 1) (h3 : ¬ T (s + 1) < 128) (h4 : ¬ L ≤ s + 2) (h5 : T (s + 2) < 128) (h6 : ¬ (T (s + 2) = 0 ∨ 65535 < T s % 128 + T (s + 1) % 128 * 128 + T (s + 2) % 128 * 16384)) : uns T L s = (0, T s % 128 + T (s + 1) % 128 * 128 + T (s + 2) % 128 * 16384, s + 3) := by rw [uns, if_neg h, if_neg h1, if_neg h2, if_neg h3, if_neg h4, if_pos h5, if_neg h6]
theorem uns_b (h : ¬ L ≤ s) (h1 : ¬ T s < 128) (h2 : ¬ L ≤ s + 1) (h3 : ¬ T (s + 1) < 128) (h4 : ¬ L ≤ s + 2) (h5 : ¬ T (s + 2) < 128) : uns T L s = (2, (s : Int), s + 3) := by rw [uns, if_neg h, if_neg h1, if_neg h2, if_neg h3, if_neg h4, if_neg h5]
theorem uns_ok {qk qv : Int} {qp : Nat} (hq : (qk, qv, qp) = uns T L s) (hs : s ≤ L) (hT : ∀ j, j < L → 0 ≤ T j ∧ T j < 256) : s ≤ qp ∧ qp ≤ L ∧ (qk = 0 ∨ qk = 1 ∨ qk = 2) ∧ 0 ≤ qv ∧ qv ≤ 65535 ∨ (s ≤ qp ∧ qp ≤ L ∧ (qk = 1 ∨ qk = 2) ∧ 0 ≤ qv ∧ qv ≤ L) := by
  unfold uns at hq
  by_cases a0 : L ≤ s
  · rw [if_pos a0] at hq
    simp only [Prod.mk.injEq] at hq
    omega
  · have t0 := hT s (by omega)
    rw [if_neg a0] at hq
    split at hq
    · simp only [Prod.mk.injEq] at hq
      omega
    · split at hq
      · simp only [Prod.mk.injEq] at hq
        omega
      · have t1 := hT (s + 1) (by omega)
        split at hq
        · split at hq <;> (simp only [Prod.mk.injEq] at hq; omega)
        · split at hq
          · simp only [Prod.mk.injEq] at hq
            omega
          · have t2 := hT (s + 2) (by omega)
            split at hq
            · split at hq <;> (simp only [Prod.mk.injEq] at hq; omega)
            · simp only [Prod.mk.injEq] at hq
              omega
end UNS
def uR (q : Int × Int × Nat) (kd pl z nx' kd' pl' : Int) : Prop := nx' = (q.2.2 : Int) ∧ ((q.1 = 0 ∧ z = q.2.1 ∧ kd' = kd ∧ pl' = pl) ∨ (q.1 ≠ 0 ∧ z = -1 ∧ kd' = q.1 ∧ pl' = q.2.1))
def sg (c : Int) : Int := if c % 2 = 0 then c / 2 else -((c + 1) / 2)
def pRow (T : Nat → Int) (L n u : Nat) : Nat → Bool → Int → Nat → Ed → Int × Int × Nat × Ed
  | 0, _, _, pos, E => (0, 0, pos, E)
  | r + 1, fs, v, pos, E =>
    if (uns T L pos).1 ≠ 0 then ((uns T L pos).1, (uns T L pos).2.1, (uns T L pos).2.2, E)
    else if (if fs = true then (u : Int) + sg (uns T L pos).2.1 else v + 1 + (uns T L pos).2.1) < 0 ∨ (n : Int) ≤ (if fs = true then (u : Int) + sg (uns T L pos).2.1 else v + 1 + (uns T L pos).2.1) then (3, (pos : Int), (uns T L pos).2.2, E)
    else pRow T L n u r false (if fs = true then (u : Int) + sg (uns T L pos).2.1 else v + 1 + (uns T L pos).2.1) (uns T L pos).2.2 (uE E u (if fs = true then (u : Int) + sg (uns T L pos).2.1 else v + 1 + (uns T L pos).2.1).toNat true)
theorem pRow_f {T : Nat → Int} {L n u r : Nat} {fs : Bool} {v qk qv : Int} {pos qp : Nat} {E : Ed} (hq : (qk, qv, qp) = uns T L pos) (hk : qk ≠ 0) : pRow T L n u (r + 1) fs v pos E = (qk, qv, qp, E) := by
  rw [pRow, ← hq, if_pos hk]
theorem pRow_o {T : Nat → Int} {L n u r : Nat} {fs : Bool} {v v' qk qv : Int} {pos qp : Nat} {E : Ed} (hq : (qk, qv, qp) = uns T L pos) (hk : qk = 0) (hv : v' = if fs = true then (u : Int) + sg qv else v + 1 + qv) (hb : v' < 0 ∨ (n : Int) ≤ v') : pRow T L n u (r + 1) fs v pos E = (3, (pos : Int), qp, E) := by
  rw [pRow, ← hq, if_neg (by simp [hk])]
  simp only [← hv, if_pos hb]
theorem pRow_s {T : Nat → Int} {L n u r : Nat} {fs : Bool} {v v' qk qv : Int} {pos qp : Nat} {E : Ed} (hq : (qk, qv, qp) = uns T L pos) (hk : qk = 0) (hv : v' = if fs = true then (u : Int) + sg qv else v + 1 + qv) (hb : ¬ (v' < 0 ∨ (n : Int) ≤ v')) : pRow T L n u (r + 1) fs v pos E = pRow T L n u r false v' qp (uE E u v'.toNat true) := by
  rw [pRow, ← hq, if_neg (by simp [hk])]
  simp only [← hv, if_neg hb]
theorem pRow_0 {T : Nat → Int} {L n u : Nat} {fs : Bool} {v : Int} {pos : Nat} {E : Ed} : pRow T L n u 0 fs v pos E = (0, 0, pos, E) := rfl
/-- a node: kind, place, where it ends, how many edges, the edges -/
def pNode (T : Nat → Int) (L n u size pos : Nat) (E : Ed) : Int × Int × Nat × Nat × Ed :=
  if (uns T L pos).1 ≠ 0 then ((uns T L pos).1, (uns T L pos).2.1, (uns T L pos).2.2, 0, E)
  else if (n : Int) < (uns T L pos).2.1 ∨ 2500 < (size : Int) + (uns T L pos).2.1 then (3, (pos : Int), (uns T L pos).2.2, 0, E)
  else ((pRow T L n u (uns T L pos).2.1.toNat true 0 (uns T L pos).2.2 E).1, (pRow T L n u (uns T L pos).2.1.toNat true 0 (uns T L pos).2.2 E).2.1, (pRow T L n u (uns T L pos).2.1.toNat true 0 (uns T L pos).2.2 E).2.2.1, (uns T L pos).2.1.toNat, (pRow T L n u (uns T L pos).2.1.toNat true 0 (uns T L pos).2.2 E).2.2.2)
theorem pNode_f {T : Nat → Int} {L n u size pos : Nat} {E : Ed} {qk qv : Int} {qp : Nat} (hq : (qk, qv, qp) = uns T L pos) (hk : qk ≠ 0) : pNode T L n u size pos E = (qk, qv, qp, 0, E) := by rw [pNode, ← hq, if_pos hk]
theorem pNode_o {T : Nat → Int} {L n u size pos : Nat} {E : Ed} {qk qv : Int} {qp : Nat} (hq : (qk, qv, qp) = uns T L pos) (hk : qk = 0) (hb : (n : Int) < qv ∨ 2500 < (size : Int) + qv) : pNode T L n u size pos E = (3, (pos : Int), qp, 0, E) := by
  rw [pNode, ← hq, if_neg (by simp [hk])]
  simp only [if_pos hb]
theorem pNode_s {T : Nat → Int} {L n u size pos : Nat} {E : Ed} {qk qv rk rp : Int} {qp rq : Nat} {rE : Ed} (hq : (qk, qv, qp) = uns T L pos) (hk : qk = 0) (hb : ¬ ((n : Int) < qv ∨ 2500 < (size : Int) + qv)) (hr : pRow T L n u qv.toNat true 0 qp E = (rk, rp, rq, rE)) : pNode T L n u size pos E = (rk, rp, rq, qv.toNat, rE) := by
  rw [pNode, ← hq, if_neg (by simp [hk])]
  simp only [if_neg hb, hr]
def pNodes (T : Nat → Int) (L n : Nat) : Nat → Nat → Nat → Nat → Ed → Int × Int × Nat × Ed
  | 0, _, pos, size, E => if pos < L then (4, (pos : Int), size, E) else (0, 0, size, E)
  | r + 1, u, pos, size, E =>
    if (pNode T L n u size pos E).1 ≠ 0 then ((pNode T L n u size pos E).1, (pNode T L n u size pos E).2.1, size, E)
    else pNodes T L n r (u + 1) (pNode T L n u size pos E).2.2.1 (size + (pNode T L n u size pos E).2.2.2.1) (pNode T L n u size pos E).2.2.2.2
theorem pNodes_f {T : Nat → Int} {L n r u pos size : Nat} {E : Ed} {rk rp : Int} {rq rn : Nat} {rE : Ed} (h : pNode T L n u size pos E = (rk, rp, rq, rn, rE)) (hk : rk ≠ 0) : pNodes T L n (r + 1) u pos size E = (rk, rp, size, E) := by rw [pNodes, h, if_pos hk]
theorem pNodes_s {T : Nat → Int} {L n r u pos size : Nat} {E : Ed} {rk rp : Int} {rq rn : Nat} {rE : Ed} (h : pNode T L n u size pos E = (rk, rp, rq, rn, rE)) (hk : rk = 0) : pNodes T L n (r + 1) u pos size E = pNodes T L n r (u + 1) rq (size + rn) rE := by rw [pNodes, h, if_neg (by simp [hk])]
/-- all bytes: kind, place, nodes, edges' number, edges -/
def pAll (T : Nat → Int) (L : Nat) : Int × Int × Nat × Nat × Ed :=
  if (uns T L 0).1 ≠ 0 then ((uns T L 0).1, (uns T L 0).2.1, 0, 0, fun _ _ => false)
  else if (uns T L 0).2.1 < 1 ∨ 250 < (uns T L 0).2.1 then (3, 0, 0, 0, fun _ _ => false)
  else ((pNodes T L (uns T L 0).2.1.toNat (uns T L 0).2.1.toNat 0 (uns T L 0).2.2 0 (fun _ _ => false)).1, (pNodes T L (uns T L 0).2.1.toNat (uns T L 0).2.1.toNat 0 (uns T L 0).2.2 0 (fun _ _ => false)).2.1, (uns T L 0).2.1.toNat, (pNodes T L (uns T L 0).2.1.toNat (uns T L 0).2.1.toNat 0 (uns T L 0).2.2 0 (fun _ _ => false)).2.2.1, (pNodes T L (uns T L 0).2.1.toNat (uns T L 0).2.1.toNat 0 (uns T L 0).2.2 0 (fun _ _ => false)).2.2.2)
theorem pAll_f {T : Nat → Int} {L : Nat} {qk qv : Int} {qp : Nat} (hq : (qk, qv, qp) = uns T L 0) (hk : qk ≠ 0) : pAll T L = (qk, qv, 0, 0, fun _ _ => false) := by rw [pAll, ← hq, if_pos hk]
theorem pAll_o {T : Nat → Int} {L : Nat} {qk qv : Int} {qp : Nat} (hq : (qk, qv, qp) = uns T L 0) (hk : qk = 0) (hb : qv < 1 ∨ 250 < qv) : pAll T L = (3, 0, 0, 0, fun _ _ => false) := by
  rw [pAll, ← hq, if_neg (by simp [hk])]
  simp only [if_pos hb]
theorem pAll_s {T : Nat → Int} {L : Nat} {qk qv rk rp : Int} {qp rs : Nat} {rE : Ed} (hq : (qk, qv, qp) = uns T L 0) (hk : qk = 0) (hb : ¬ (qv < 1 ∨ 250 < qv)) (hr : pNodes T L qv.toNat qv.toNat 0 qp 0 (fun _ _ => false) = (rk, rp, rs, rE)) : pAll T L = (rk, rp, qv.toNat, rs, rE) := by
  rw [pAll, ← hq, if_neg (by simp [hk])]
  simp only [if_neg hb, hr]
