def cpZ (f : Nat → Int) (sp dp n : Nat) : Nat → Int := fun j => if dp ≤ j ∧ j < dp + n then f (sp + (j - dp)) else f j
theorem aI_cp (f : Nat → Int) (sp dp n : Nat) : va_cpy (aI f) (aI f) sp dp n = aI (cpZ f sp dp n) := by
  funext j
  by_cases h : dp ≤ j ∧ j < dp + n
  · rw [pk_cpy_in h.1 h.2]
    simp only [aI, cpZ, if_pos h]
  · rw [pk_cpy_out (by omega)]
    simp only [aI, cpZ, if_neg h]
section ZC
variable {p : Program} {l : Launch} {e : Env} {R : Room} {s : State} {m : MethodId} {args : Array Value} {below : List Frame} {meth : Method} {c : Code} {H : Heap} {locs : List Loc} {cells slots : Nat} {Q : State → Prop}
variable {cc : ByteArray} {pc : Nat} {ls : Array Slot} {rest : List Value} {D : va_G} {cl : List vw_C} {tys : List (ClassId × FieldType)} {ws : va_W} {A : Nat → Prop} {H0 : Heap} {a : Nat}
theorem z_copyi (hx : p.tables.exec = Jvm.exec) (hb : c.code = cc) (hml : c.maxLocals = ls.size) {own : String} {index : Nat} (hown : s.vm.findClass own = some m.cls) (hlink : (Cond.methodLink own index arraycopyName).before args s = true) (hnat : (Cond.native arraycopyName).before args s = true) (hstat : (Cond.static arraycopyName).before args s = true) (hini : (Cond.initialized "java/lang/System").before args s = true)
    (hK : va_K D cl tys s) (hP : va_P D cl ws H) (hD : va_D A ws) (hS : va_S A H0 H locs) (q0 t0 : Nat) {cA : ClassId} {n0 : Nat} {f : Nat → Int} (ha : ws[q0]? = some (a, .inl (cA, n0, .inl (aI f)))) (ht : tys[t0]? = some (cA, .int)) {sp dp n : Int} (i j k : Nat) (hi : sp = (i : Int)) (hj : dp = (j : Int)) (hk : n = (k : Int)) (h4 : i + k ≤ n0) (h5 : j + k ≤ n0) (hn0 : n0 < 2147483648)
    (hframes : 1 ≤ R.frames) (hlocals : (rest.map fun v => v.category).sum + (nativeFrameWords "java/lang/System" "arraycopy" 5 + 11) ≤ R.locals) (hdg : decode cc pc = .ok (.invokestatic index, 3))
    (kk : ∀ (H1 : Heap) (locs1 : List Loc), va_P D cl (ws.set q0 (a, .inl (cA, n0, .inl (aI (cpZ f i j k))))) H1 → va_D A (ws.set q0 (a, .inl (cA, n0, .inl (aI (cpZ f i j k))))) → va_S A H0 H1 locs1 → W p l e R s m args below meth c H1 locs1 cells slots Q (F0 m (pc + 3) ls rest)) : W p l e R s m args below meth c H locs cells slots Q (F0 m pc ls (.int (iZ n) :: .int (iZ dp) :: .ref a :: .int (iZ sp) :: .ref a :: rest)) := by
  subst hi; subst hj; subst hk
  rw [iZ_n, iZ_n, iZ_n]
  have c1 : (nI i).toNatClampNeg = i := nI_clamp (by omega)
  have c2 : (nI j).toNatClampNeg = j := nI_clamp (by omega)
  have c3 : (nI k).toNatClampNeg = k := nI_clamp (by omega)
  refine va_copyi hx hb hml hown hlink hnat hstat hini hK hP hD hS q0 q0 t0 t0 ha ha ht ht rfl (nI_pos (by omega)) (nI_pos (by omega)) (nI_pos (by omega)) (by rw [c1, c3]; exact h4) (by rw [c2, c3]; exact h5) (fun _ _ => rfl) hframes hlocals hdg (fun H1 locs1 h6 h7 h8 => ?_)
  rw [c1, c2, c3, aI_cp] at h6 h7
  exact kk H1 locs1 h6 h7 h8
end ZC
