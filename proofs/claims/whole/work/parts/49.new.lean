/-! new arrays, new objects -/
section ZN
variable {p : Program} {l : Launch} {e : Env} {R : Room} {s : State} {m : MethodId} {args : Array Value} {below : List Frame} {meth : Method} {c : Code} {H : Heap} {locs : List Loc} {cells slots : Nat} {Q : State → Prop}
variable {cc : ByteArray} {pc : Nat} {ls : Array Slot} {rest st0 : List Value} {D : va_G} {cl : List vw_C} {ws : va_W} {A : Nat → Prop} {H0 : Heap} {cI cJ cB cZ : ClassId}
theorem z_newI (hx : p.tables.exec = Jvm.exec) (hb : c.code = cc) (harr : (Cond.arrayClass .int).before args s = true) (hK : va_K D cl (tyE cI cJ cB cZ) s) (hP : va_P D cl ws H) (hD : va_D A ws) (hS : va_S A H0 H locs) (hA : ∀ q, H0.size ≤ q → A q) {n : Int} (N : Nat) (hn : n = (N : Int)) (hN : N < 100000) (hcells : cells + 1 ≤ R.cells) (hslots : slots + N ≤ R.slots) (hdg : decode cc pc = .ok (.newarray .int, 2))
    (kk : ∀ (q : Nat) (H : Heap), va_P D cl (ws ++ [(q, .inl (cI, N, .inl (aI (fun _ => 0))))]) H → va_D A (ws ++ [(q, .inl (cI, N, .inl (aI (fun _ => 0))))]) → va_S A H0 H locs → W p l e R s m args below meth c H locs (cells + 1) (slots + N) Q (F0 m (pc + 2) ls (.ref q :: rest))) : W p l e R s m args below meth c H locs cells slots Q (F0 m pc ls (.int (iZ n) :: rest)) := by
  have h1 : ¬ iZ n < 0 := by
    subst hn
    rw [show (0 : Int32) = iZ 0 from rfl, iZ_lt (by omega) (by omega)]
    omega
  have h2 : (iZ n).toNatClampNeg = N := by
    subst hn
    rw [iZ_n]
    exact nI_clamp (by omega)
  refine va_newa hx hb (atype := .int) harr rfl hK hP hD hS hA (N' := N) (a0 := (N, .inl (aI (fun _ => 0)))) (fun _ => rfl) h1 h2 (by show N * 4 ≤ _; omega) hcells hslots hdg (fun q cA H1 hK1 hP1 hD1 hS1 => ?_)
  have e1 := va_nm_int (hK1.2 4 (cA, .int) rfl).2
  have e2 := va_nm_int (hK.2 0 (cI, .int) rfl).2
  cases Option.some.inj (e1.symm.trans e2)
  exact kk q H1 hP1 hD1 hS1
theorem z_newJ (hx : p.tables.exec = Jvm.exec) (hb : c.code = cc) (harr : (Cond.arrayClass .long).before args s = true) (hK : va_K D cl (tyE cI cJ cB cZ) s) (hP : va_P D cl ws H) (hD : va_D A ws) (hS : va_S A H0 H locs) (hA : ∀ q, H0.size ≤ q → A q) {n : Int} (N : Nat) (hn : n = (N : Int)) (hN : N < 100000) (hcells : cells + 1 ≤ R.cells) (hslots : slots + N ≤ R.slots) (hdg : decode cc pc = .ok (.newarray .long, 2))
    (kk : ∀ (q : Nat) (H : Heap), va_P D cl (ws ++ [(q, .inl (cJ, N, .inr (.inl (aL (fun _ => 0)))))]) H → va_D A (ws ++ [(q, .inl (cJ, N, .inr (.inl (aL (fun _ => 0)))))]) → va_S A H0 H locs → W p l e R s m args below meth c H locs (cells + 1) (slots + N) Q (F0 m (pc + 2) ls (.ref q :: rest))) : W p l e R s m args below meth c H locs cells slots Q (F0 m pc ls (.int (iZ n) :: rest)) := by
  have h1 : ¬ iZ n < 0 := by
    subst hn
    rw [show (0 : Int32) = iZ 0 from rfl, iZ_lt (by omega) (by omega)]
    omega
  have h2 : (iZ n).toNatClampNeg = N := by
    subst hn
    rw [iZ_n]
    exact nI_clamp (by omega)
  refine va_newa hx hb (atype := .long) harr rfl hK hP hD hS hA (N' := N) (a0 := (N, .inr (.inl (aL (fun _ => 0))))) (fun _ => rfl) h1 h2 (by show N * 8 ≤ _; omega) hcells hslots hdg (fun q cA H1 hK1 hP1 hD1 hS1 => ?_)
  have e1 := va_nm_long (hK1.2 4 (cA, .long) rfl).2
  have e2 := va_nm_long (hK.2 1 (cJ, .long) rfl).2
  cases Option.some.inj (e1.symm.trans e2)
  exact kk q H1 hP1 hD1 hS1
theorem z_newB (hx : p.tables.exec = Jvm.exec) (hb : c.code = cc) (harr : (Cond.arrayClass .byte).before args s = true) (hK : va_K D cl (tyE cI cJ cB cZ) s) (hP : va_P D cl ws H) (hD : va_D A ws) (hS : va_S A H0 H locs) (hA : ∀ q, H0.size ≤ q → A q) {n : Int} (N : Nat) (hn : n = (N : Int)) (hN : N < 100000) (hcells : cells + 1 ≤ R.cells) (hslots : slots + N ≤ R.slots) (hdg : decode cc pc = .ok (.newarray .byte, 2))
    (kk : ∀ (q : Nat) (H : Heap), va_P D cl (ws ++ [(q, .inl (cB, N, .inl (aI (fun _ => 0))))]) H → va_D A (ws ++ [(q, .inl (cB, N, .inl (aI (fun _ => 0))))]) → va_S A H0 H locs → W p l e R s m args below meth c H locs (cells + 1) (slots + N) Q (F0 m (pc + 2) ls (.ref q :: rest))) : W p l e R s m args below meth c H locs cells slots Q (F0 m pc ls (.int (iZ n) :: rest)) := by
  have h1 : ¬ iZ n < 0 := by
    subst hn
    rw [show (0 : Int32) = iZ 0 from rfl, iZ_lt (by omega) (by omega)]
    omega
  have h2 : (iZ n).toNatClampNeg = N := by
    subst hn
    rw [iZ_n]
    exact nI_clamp (by omega)
  refine va_newa hx hb (atype := .byte) harr rfl hK hP hD hS hA (N' := N) (a0 := (N, .inl (aI (fun _ => 0)))) (fun _ => rfl) h1 h2 (by show N * 1 ≤ _; omega) hcells hslots hdg (fun q cA H1 hK1 hP1 hD1 hS1 => ?_)
  have e1 := va_nm_byte (hK1.2 4 (cA, .byte) rfl).2
  have e2 := va_nm_byte (hK.2 2 (cB, .byte) rfl).2
  cases Option.some.inj (e1.symm.trans e2)
  exact kk q H1 hP1 hD1 hS1
theorem z_newZ (hx : p.tables.exec = Jvm.exec) (hb : c.code = cc) (harr : (Cond.arrayClass .boolean).before args s = true) (hK : va_K D cl (tyE cI cJ cB cZ) s) (hP : va_P D cl ws H) (hD : va_D A ws) (hS : va_S A H0 H locs) (hA : ∀ q, H0.size ≤ q → A q) {n : Int} (N : Nat) (hn : n = (N : Int)) (hN : N < 100000) (hcells : cells + 1 ≤ R.cells) (hslots : slots + N ≤ R.slots) (hdg : decode cc pc = .ok (.newarray .boolean, 2))
    (kk : ∀ (q : Nat) (H : Heap), va_P D cl (ws ++ [(q, .inl (cZ, N, .inl (aI (fun _ => 0))))]) H → va_D A (ws ++ [(q, .inl (cZ, N, .inl (aI (fun _ => 0))))]) → va_S A H0 H locs → W p l e R s m args below meth c H locs (cells + 1) (slots + N) Q (F0 m (pc + 2) ls (.ref q :: rest))) : W p l e R s m args below meth c H locs cells slots Q (F0 m pc ls (.int (iZ n) :: rest)) := by
  have h1 : ¬ iZ n < 0 := by
    subst hn
    rw [show (0 : Int32) = iZ 0 from rfl, iZ_lt (by omega) (by omega)]
    omega
  have h2 : (iZ n).toNatClampNeg = N := by
    subst hn
    rw [iZ_n]
    exact nI_clamp (by omega)
  refine va_newa hx hb (atype := .boolean) harr rfl hK hP hD hS hA (N' := N) (a0 := (N, .inl (aI (fun _ => 0)))) (fun _ => rfl) h1 h2 (by show N * 1 ≤ _; omega) hcells hslots hdg (fun q cA H1 hK1 hP1 hD1 hS1 => ?_)
  have e1 := va_nm_boolean (hK1.2 4 (cA, .boolean) rfl).2
  have e2 := va_nm_boolean (hK.2 3 (cZ, .boolean) rfl).2
  cases Option.some.inj (e1.symm.trans e2)
  exact kk q H1 hP1 hD1 hS1
end ZN
theorem dfX0 : ∀ j, j < 2 → defaultValue (tyX0 j) = vp_V [.null, .int (iZ 0)] j := by
  intro j hj
  rcases j with _ | _ | j
  · rfl
  · rfl
  · exact absurd hj (by omega)
theorem dfX1 : ∀ j, j < 5 → defaultValue (tyX1 j) = vp_V [.int (iZ 0), .int (iZ 0), .int (iZ 0), .int (iZ 0), .int (iZ 0)] j := by
  intro j hj
  rcases j with _ | _ | _ | _ | _ | j
  · rfl
  · rfl
  · rfl
  · rfl
  · rfl
  · exact absurd hj (by omega)
theorem dfX2 : ∀ j, j < 6 → defaultValue (tyX2 j) = vp_V [.null, .null, .null, .int (iZ 0), .int (iZ 0), .int (iZ 0)] j := by
  intro j hj
  rcases j with _ | _ | _ | _ | _ | _ | j
  · rfl
  · rfl
  · rfl
  · rfl
  · rfl
  · rfl
  · exact absurd hj (by omega)
theorem dfX3 : ∀ j, j < 3 → defaultValue (tyX3 j) = vp_V [.null, .null, .int (iZ 0)] j := by
  intro j hj
  rcases j with _ | _ | _ | j
  · rfl
  · rfl
  · rfl
  · exact absurd hj (by omega)
theorem dfX4 : ∀ j, j < 7 → defaultValue (tyX4 j) = vp_V [.null, .null, .int (iZ 0), .int (iZ 0), .int (iZ 0), .long (lZ 0), .long (lZ 0)] j := by
  intro j hj
  rcases j with _ | _ | _ | _ | _ | _ | _ | j
  · rfl
  · rfl
  · rfl
  · rfl
  · rfl
  · rfl
  · rfl
  · exact absurd hj (by omega)
theorem dfX5 : ∀ j, j < 6 → defaultValue (tyX5 j) = vp_V [.null, .null, .null, .null, .null, .null] j := by
  intro j hj
  rcases j with _ | _ | _ | _ | _ | _ | j
  · rfl
  · rfl
  · rfl
  · rfl
  · rfl
  · rfl
  · exact absurd hj (by omega)
theorem dfX6 : ∀ j, j < 24 → defaultValue (tyX6 j) = vp_V [.int (iZ 0), .null, .null, .null, .null, .null, .int (iZ 0), .int (iZ 0), .int (iZ 0), .int (iZ 0), .int (iZ 0), .long (lZ 0), .long (lZ 0), .null, .int (iZ 0), .int (iZ 0), .int (iZ 0), .int (iZ 0), .int (iZ 0), .int (iZ 0), .int (iZ 0), .int (iZ 0), .null, .int (iZ 0)] j := by
  intro j hj
  rcases j with _ | _ | _ | _ | _ | _ | _ | _ | _ | _ | _ | _ | _ | _ | _ | _ | _ | _ | _ | _ | _ | _ | _ | _ | j
  · rfl
  · rfl
  · rfl
  · rfl
  · rfl
  · rfl
  · rfl
  · rfl
  · rfl
  · rfl
  · rfl
  · rfl
  · rfl
  · rfl
  · rfl
  · rfl
  · rfl
  · rfl
  · rfl
  · rfl
  · rfl
  · rfl
  · rfl
  · rfl
  · exact absurd hj (by omega)
