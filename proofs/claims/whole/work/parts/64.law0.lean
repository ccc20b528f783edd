/-! the law: its rows -/
section LQ
variable {p : Program} {l : Launch} {e : Env} {R : Room} {s : State} {m : MethodId} {args : Array Value} {below : List Frame} {meth : Method} {c : Code} {H : Heap} {locs : List Loc} {cells slots : Nat} {Q : State → Prop}
variable {cc : ByteArray} {pc tgt : Nat} {off : Int} {ls : Array Slot} {rest st0 : List Value} {D : va_G} {ws : va_W} {A : Nat → Prop} {H0 : Heap} {b L : Nat} {xs : Nat → Int32} {sc : Nat → Int} {av : Array Value}
theorem z_slen (hx : p.tables.exec = Jvm.exec) (hb : c.code = cc) (hX : va_X b L xs s s.heap) (hbl : b < s.heap.size) (hbA : ¬ A b) (hS : va_S A s.heap H locs) (hdg : decode cc pc = .ok (.arraylength, 1)) (k : W p l e R s m args below meth c H locs cells slots Q (F0 m (pc + 1) ls (.int (iZ (L : Int)) :: rest))) : W p l e R s m args below meth c H locs cells slots Q (F0 m pc ls (.ref b :: rest)) := va_slen hx hb hX hbl hbA hS hdg (by have q : Int32.ofNat L = iZ (L : Int) := (iZ_n L).symm; rw [q]; exact k)
theorem z_sld (hx : p.tables.exec = Jvm.exec) (hb : c.code = cc) (hX : va_X b L xs s s.heap) (hbl : b < s.heap.size) (hbA : ¬ A b) (hS : va_S A s.heap H locs) (hsc : ∀ k, xs k = iZ (sc k)) {i : Int} (kx : Nat) (hk : i = (kx : Int)) (hkL : kx < L) (hn : L < 2147483648) (hdg : decode cc pc = .ok (.iaload, 1)) (k : W p l e R s m args below meth c H locs cells slots Q (F0 m (pc + 1) ls (.int (iZ (sc kx)) :: rest))) : W p l e R s m args below meth c H locs cells slots Q (F0 m pc ls (.int (iZ i) :: .ref b :: rest)) := by
  obtain ⟨h1, h2⟩ := iZ_ix hk hkL hn
  exact va_sld hx hb hX hbl hbA hS h1 hdg (by rw [h2, hsc]; exact k)
theorem z_icmp_same {a b : Int} (hx : p.tables.exec = Jvm.exec) (hb : c.code = cc) (hdg : decode cc pc = .ok (.if_icmp .eq off, 3)) (ht : (pc : Int) + off = (tgt : Int)) (hab : a = b) (kt : W p l e R s m args below meth c H locs cells slots Q (F0 m tgt ls rest)) : W p l e R s m args below meth c H locs cells slots Q (F0 m pc ls (.int (iZ b) :: .int (iZ a) :: rest)) := lv_icmp_eq hx hb hdg ht (fun _ => kt) (fun q => absurd (by rw [hab]) q)
theorem z_lc_same {a b : Int} (hx : p.tables.exec = Jvm.exec) (hb : c.code = cc) (hd1 : decode cc pc = .ok (.lcmp, 1)) (hdg : decode cc (pc + 1) = .ok (.ifCond .eq off, 3)) (ht : ((pc + 1 : Nat) : Int) + off = (tgt : Int)) (hab : a = b) (kt : W p l e R s m args below meth c H locs cells slots Q (F0 m tgt ls rest)) : W p l e R s m args below meth c H locs cells slots Q (F0 m pc ls (.long (lZ b) :: .long (lZ a) :: rest)) := W.lcmp hx hb hd1 (by
  have q : lg_cmp (lZ a) (lZ b) = iZ 0 := by
    subst hab
    have h := lc_is (a := (lZ a).toInt) (b := (lZ a).toInt) ⟨Int64.le_toInt _, Int64.toInt_lt _⟩ ⟨Int64.le_toInt _, Int64.toInt_lt _⟩
    rw [lZ_of] at h
    rw [h]
    exact congrArg iZ ((lc_eq _ _).mpr rfl)
  rw [q]
  exact z_if_eq hx hb hdg ht (by omega) (fun _ => kt) (fun q => absurd rfl q))
theorem z_landT {a b : Int} (hx : p.tables.exec = Jvm.exec) (hb : c.code = cc) (hdg : decode cc pc = .ok (.land, 1)) (k : W p l e R s m args below meth c H locs cells slots Q (F0 m (pc + 1) ls (.long (lZ (lZ a &&& lZ b).toInt) :: rest))) : W p l e R s m args below meth c H locs cells slots Q (F0 m pc ls (.long (lZ b) :: .long (lZ a) :: rest)) := lv_land hx hb hdg (by rw [lZ_of] at k; exact k)
theorem z_lorT {a b : Int} (hx : p.tables.exec = Jvm.exec) (hb : c.code = cc) (hdg : decode cc pc = .ok (.lor, 1)) (k : W p l e R s m args below meth c H locs cells slots Q (F0 m (pc + 1) ls (.long (lZ (lZ a ||| lZ b).toInt) :: rest))) : W p l e R s m args below meth c H locs cells slots Q (F0 m pc ls (.long (lZ b) :: .long (lZ a) :: rest)) := lv_lor hx hb hdg (by rw [lZ_of] at k; exact k)
theorem z_lshlT {a b : Int} (hx : p.tables.exec = Jvm.exec) (hb : c.code = cc) (hdg : decode cc pc = .ok (.lshl, 1)) (k : W p l e R s m args below meth c H locs cells slots Q (F0 m (pc + 1) ls (.long (lZ (lZ a <<< ((iZ b).toInt64 &&& 63)).toInt) :: rest))) : W p l e R s m args below meth c H locs cells slots Q (F0 m pc ls (.int (iZ b) :: .long (lZ a) :: rest)) := lv_lshl hx hb hdg (lZ_of _).symm k
/-- the call of a method that may throw X, caught here -/
theorem rwx_i {S : Type} {post : Int → S → Prop} {wf : S → va_W} {wc wr : va_W} {mc ms : Nat} {X : String} {px : Prop} (hr : vx_Run p l e R s m args below meth c H locs cells slots mc ms (F0 m pc ls st0) rest (rwI D post wf (va_A wc H.size) av) (XB X px D wc (va_A wc H.size)) (va_A wc H.size)) (hP : va_P D vwCl ws H) (hD : va_D A ws) (hS : va_S A H0 H locs) (hA : ∀ q, H0.size ≤ q → A q) (isC isR : List Nat) (hC : isC.map (fun i => ws[i]?) = wc.map some) (hR : isR.map (fun i => ws[i]?) = wr.map some) (hn : va_nd isR = true) (hdis : ∀ i ∈ isR, i ∉ isC)
    (kx : ∀ (ce : Cell) (q9 : Nat) (H1 : Heap) (locs1 : List Loc), px → va_P D vwCl (wr ++ wc) H1 → va_D A (wr ++ wc) → va_S A H0 H1 locs1 → H1[q9]? = some ce → ce.vm = .none → s.vm.findClass X = some ce.cls → vx_W p l e R s m args below meth c H1 locs1 (cells + mc) (slots + ms) Q (F0 m pc ls rest) q9)
    (kk : ∀ (z : Int) (u : S) (H1 : Heap) (locs1 : List Loc), post z u → va_P D vwCl (wr ++ wf u) H1 → va_D A (wr ++ wf u) → va_S A H0 H1 locs1 → W p l e R s m args below meth c H1 locs1 (cells + mc) (slots + ms) Q (F0 m (pc + 3) ls (.int (iZ z) :: rest))) : W p l e R s m args below meth c H locs cells slots Q (F0 m pc ls st0) := by
  have hF := va_free hD hS hA isC hC
  refine vx_calli hr hS (fun q _ h => hF q h) hF (fun q _ h => hF q h) (fun E ce q9 u t H1 locs1 ht hvm hp hB hz hk hS1 hce hcv hcl => ?_) (fun r u t H1 locs1 ht hvm hp hB hz hk hS1 => ?_)
  · obtain ⟨rfl, hP1, hD1⟩ := hB
    rw [ht] at hP1
    obtain ⟨hP2, hD2⟩ := va_join hP hD isC isR hC hR hn hdis hk hF hP1 hD1
    exact kx ce q9 H1 locs1 hp hP2 hD2 hS1 hce hcv hcl
  · obtain ⟨z, rfl, hp⟩ := hp
    obtain ⟨hP1, hD1⟩ := hB
    rw [ht] at hP1
    obtain ⟨hP2, hD2⟩ := va_join hP hD isC isR hC hR hn hdis hk hF hP1 hD1
    exact kk z u H1 locs1 hp hP2 hD2 hS1
theorem rwx_l {S : Type} {post : Int → S → Prop} {wf : S → va_W} {wc wr : va_W} {mc ms : Nat} {X : String} {px : Prop} (hr : vx_Run p l e R s m args below meth c H locs cells slots mc ms (F0 m pc ls st0) rest (rwL D post wf (va_A wc H.size) av) (XB X px D wc (va_A wc H.size)) (va_A wc H.size)) (hP : va_P D vwCl ws H) (hD : va_D A ws) (hS : va_S A H0 H locs) (hA : ∀ q, H0.size ≤ q → A q) (isC isR : List Nat) (hC : isC.map (fun i => ws[i]?) = wc.map some) (hR : isR.map (fun i => ws[i]?) = wr.map some) (hn : va_nd isR = true) (hdis : ∀ i ∈ isR, i ∉ isC)
    (kx : ∀ (ce : Cell) (q9 : Nat) (H1 : Heap) (locs1 : List Loc), px → va_P D vwCl (wr ++ wc) H1 → va_D A (wr ++ wc) → va_S A H0 H1 locs1 → H1[q9]? = some ce → ce.vm = .none → s.vm.findClass X = some ce.cls → vx_W p l e R s m args below meth c H1 locs1 (cells + mc) (slots + ms) Q (F0 m pc ls rest) q9)
    (kk : ∀ (z : Int) (u : S) (H1 : Heap) (locs1 : List Loc), post z u → va_P D vwCl (wr ++ wf u) H1 → va_D A (wr ++ wf u) → va_S A H0 H1 locs1 → W p l e R s m args below meth c H1 locs1 (cells + mc) (slots + ms) Q (F0 m (pc + 3) ls (.long (lZ z) :: rest))) : W p l e R s m args below meth c H locs cells slots Q (F0 m pc ls st0) := by
  have hF := va_free hD hS hA isC hC
  refine vx_calll hr hS (fun q _ h => hF q h) hF (fun q _ h => hF q h) (fun E ce q9 u t H1 locs1 ht hvm hp hB hz hk hS1 hce hcv hcl => ?_) (fun r u t H1 locs1 ht hvm hp hB hz hk hS1 => ?_)
  · obtain ⟨rfl, hP1, hD1⟩ := hB
    rw [ht] at hP1
    obtain ⟨hP2, hD2⟩ := va_join hP hD isC isR hC hR hn hdis hk hF hP1 hD1
    exact kx ce q9 H1 locs1 hp hP2 hD2 hS1 hce hcv hcl
  · obtain ⟨z, rfl, hp⟩ := hp
    obtain ⟨hP1, hD1⟩ := hB
    rw [ht] at hP1
    obtain ⟨hP2, hD2⟩ := va_join hP hD isC isR hC hR hn hdis hk hF hP1 hD1
    exact kk z u H1 locs1 hp hP2 hD2 hS1
/-- the call of a method with handlers of its own, that throws nothing -/
abbrev XN : String → State → State → Prop := vx_X (S := Unit) (fun _ => False) (fun _ _ _ => True) (fun _ => False)
theorem rwy_i {S : Type} {post : Int → S → Prop} {wf : S → va_W} {wc wr : va_W} {mc ms : Nat} (hr : vx_Run p l e R s m args below meth c H locs cells slots mc ms (F0 m pc ls st0) rest (rwI D post wf (va_A wc H.size) av) XN (va_A wc H.size)) (hP : va_P D vwCl ws H) (hD : va_D A ws) (hS : va_S A H0 H locs) (hA : ∀ q, H0.size ≤ q → A q) (isC isR : List Nat) (hC : isC.map (fun i => ws[i]?) = wc.map some) (hR : isR.map (fun i => ws[i]?) = wr.map some) (hn : va_nd isR = true) (hdis : ∀ i ∈ isR, i ∉ isC)
    (kk : ∀ (z : Int) (u : S) (H1 : Heap) (locs1 : List Loc), post z u → va_P D vwCl (wr ++ wf u) H1 → va_D A (wr ++ wf u) → va_S A H0 H1 locs1 → W p l e R s m args below meth c H1 locs1 (cells + mc) (slots + ms) Q (F0 m (pc + 3) ls (.int (iZ z) :: rest))) : W p l e R s m args below meth c H locs cells slots Q (F0 m pc ls st0) := by
  have hF := va_free hD hS hA isC hC
  refine vx_calli hr hS (fun q _ h => hF q h) hF (fun q _ h => h.elim) (fun E ce q9 u t H1 locs1 ht hvm hp hB hz hk hS1 hce hcv hcl => hp.elim) (fun r u t H1 locs1 ht hvm hp hB hz hk hS1 => ?_)
  obtain ⟨z, rfl, hp⟩ := hp
  obtain ⟨hP1, hD1⟩ := hB
  rw [ht] at hP1
  obtain ⟨hP2, hD2⟩ := va_join hP hD isC isR hC hR hn hdis hk hF hP1 hD1
  exact kk z u H1 locs1 hp hP2 hD2 hS1
end LQ
theorem SXZ.sub {X : String} {A : Nat → Prop} {s : State} {H : Heap} {locs : List Loc} {ws wc : va_W} (h : SXZ X A s s.heap) (hD : va_D A ws) (hS : va_S A s.heap H locs) (hA : ∀ q, s.heap.size ≤ q → A q) (isC : List Nat) (hC : isC.map (fun i => ws[i]?) = wc.map some) : SXZ X (va_A wc H.size) s H := (h.kept hS.2.1).narrow (va_free hD hS hA isC hC)
/-! the two sides in the same state -/
def BOTH (U : HT) (V : MT) (B : Nat) : Prop := ∃ (N : Nat) (E : Ed) (w : Nat → Nat) (P Q : Nat) (x : Nat → Nat) (ks kc ke tl : Nat) (tf : Nat → Int) (ol : Nat) (of_ : Nat → Int) (fk : Int), HR N E w P Q x ks kc ke tl tf ol of_ fk U ∧ MR N E w P Q x ks kc ke tl tf ol of_ fk V ∧ 6 * ks ≤ B
abbrev wLaw (cI cJ cB cZ : ClassId) (h ta ou de ra od gr tb ob o1 o2 b1 b2 b3 hm a1 a2 a3 a4 a5 a6 a7 o : Nat) (U : HT) (V : MT) (g : Nat → Int) : va_W := wHT cI cJ h ta ou de ra od gr tb ob o1 o2 b1 b2 b3 U ++ wM cI cJ cB cZ hm a1 a2 a3 a4 a5 a6 a7 V ++ [(o, .inl (cJ, 1, .inr (.inl (aL g))))]
def LST (D : va_G) (cI cJ cB cZ : ClassId) (s : State) (b i B : Nat) (H : Heap) (locs : List Loc) (ls : Array Slot) : Prop := ∃ (h ta ou de ra od gr tb ob o1 o2 b1 b2 b3 hm a1 a2 a3 a4 a5 a6 a7 o : Nat) (U : HT) (V : MT) (g : Nat → Int), BOTH U V B ∧ va_P D vwCl (wLaw cI cJ cB cZ h ta ou de ra od gr tb ob o1 o2 b1 b2 b3 hm a1 a2 a3 a4 a5 a6 a7 o U V g) H ∧ va_D (fun q => s.heap.size ≤ q) (wLaw cI cJ cB cZ h ta ou de ra od gr tb ob o1 o2 b1 b2 b3 hm a1 a2 a3 a4 a5 a6 a7 o U V g) ∧ va_S (fun q => s.heap.size ≤ q) s.heap H locs ∧ lv_has ls 8 [(0, .ref b), (1, .ref h), (2, .ref hm), (3, .ref o), (4, .int (iZ (i : Int)))]
def LAT (p : Program) (s : State) (m : MethodId) (c : Code) (b L : Nat) (xs : Nat → Int32) (sc : Nat → Int) : Prop := p.tables.exec = Jvm.exec ∧ c.code = cL_law ∧ c.maxLocals = 8 ∧ s.vm.findClass RL = some m.cls ∧ (∀ w ∈ wsL_law, w.before #[Value.ref b] s = true) ∧ va_X b L xs s s.heap ∧ b < s.heap.size ∧ L ≤ 3072 ∧ (∀ k, xs k = iZ (sc k)) ∧ (∀ k, -2147483648 ≤ sc k ∧ sc k < 2147483648)
theorem yn_cmp {z z' : Int} {C A1 A0 B1 B0 G : Prop} (h : (z = 1 ∧ C ∧ A1) ∨ (z = 0 ∧ ¬ C ∧ A0)) (h' : (z' = 1 ∧ C ∧ B1) ∨ (z' = 0 ∧ ¬ C ∧ B0)) (g1 : A1 → B1 → G) (g0 : A0 → B0 → G) : z = z' ∧ G := by
  rcases h with ⟨h1, h2, h3⟩ | ⟨h1, h2, h3⟩ <;> rcases h' with ⟨k1, k2, k3⟩ | ⟨k1, k2, k3⟩
  · exact ⟨h1.trans k1.symm, g1 h3 k3⟩
  · exact absurd h2 k2
  · exact absurd k2 h2
  · exact ⟨h1.trans k1.symm, g0 h3 k3⟩
theorem ff_cmp {z z' v : Int} {C : Prop} (h : (C → z = v) ∧ (¬ C → z = -1)) (h' : (C → z' = v) ∧ (¬ C → z' = -1)) : z = z' := by
  by_cases q : C
  · rw [h.1 q, h'.1 q]
  · rw [h.2 q, h'.2 q]
theorem lk_cmp {a z z' v0 v1 v2 v3 v4 : Int} (h : (a = 0 → z = v0) ∧ (a = 1 → z = v1) ∧ (a = 2 → z = v2) ∧ (a = 3 → z = v3) ∧ (a = 4 → z = v4) ∧ (¬ (0 ≤ a ∧ a ≤ 4) → z = -1)) (h' : (a = 0 → z' = v0) ∧ (a = 1 → z' = v1) ∧ (a = 2 → z' = v2) ∧ (a = 3 → z' = v3) ∧ (a = 4 → z' = v4) ∧ (¬ (0 ≤ a ∧ a ≤ 4) → z' = -1)) : z = z' := by
  by_cases q : 0 ≤ a ∧ a ≤ 4
  · rcases (show a = 0 ∨ a = 1 ∨ a = 2 ∨ a = 3 ∨ a = 4 by omega) with r | r | r | r | r
    · rw [h.1 r, h'.1 r]
    · rw [h.2.1 r, h'.2.1 r]
    · rw [h.2.2.1 r, h'.2.2.1 r]
    · rw [h.2.2.2.1 r, h'.2.2.2.1 r]
    · rw [h.2.2.2.2.1 r, h'.2.2.2.2.1 r]
  · rw [h.2.2.2.2.2 q, h'.2.2.2.2.2 q]
theorem ct_cmp {a z z' v0 v1 v2 v3 v4 v5 v6 v7 : Int} (h : (a = 0 → z = v0) ∧ (a = 1 → z = v1) ∧ (a = 2 → z = v2) ∧ (a = 3 → z = v3) ∧ (a = 4 → z = v4) ∧ (a = 5 → z = v5) ∧ (a = 6 → z = v6) ∧ (a = 7 → z = v7) ∧ (¬ (0 ≤ a ∧ a ≤ 7) → z = -1)) (h' : (a = 0 → z' = v0) ∧ (a = 1 → z' = v1) ∧ (a = 2 → z' = v2) ∧ (a = 3 → z' = v3) ∧ (a = 4 → z' = v4) ∧ (a = 5 → z' = v5) ∧ (a = 6 → z' = v6) ∧ (a = 7 → z' = v7) ∧ (¬ (0 ≤ a ∧ a ≤ 7) → z' = -1)) : z = z' := by
  by_cases q : 0 ≤ a ∧ a ≤ 7
  · rcases (show a = 0 ∨ a = 1 ∨ a = 2 ∨ a = 3 ∨ a = 4 ∨ a = 5 ∨ a = 6 ∨ a = 7 by omega) with r | r | r | r | r | r | r | r
    · rw [h.1 r, h'.1 r]
    · rw [h.2.1 r, h'.2.1 r]
    · rw [h.2.2.1 r, h'.2.2.1 r]
    · rw [h.2.2.2.1 r, h'.2.2.2.1 r]
    · rw [h.2.2.2.2.1 r, h'.2.2.2.2.1 r]
    · rw [h.2.2.2.2.2.1 r, h'.2.2.2.2.2.1 r]
    · rw [h.2.2.2.2.2.2.1 r, h'.2.2.2.2.2.2.1 r]
    · rw [h.2.2.2.2.2.2.2.1 r, h'.2.2.2.2.2.2.2.1 r]
  · rw [h.2.2.2.2.2.2.2.2 q, h'.2.2.2.2.2.2.2.2 q]
theorem ot_cmp {E : Ed} {N : Nat} {a b k z z' : Int} (h : (b = 0 → TG (pout E N a) N k z) ∧ (b = 1 → TG (pin E N a) N k z) ∧ (¬ b = 0 → ¬ b = 1 → z = -1)) (h' : (b = 0 → TG (pout E N a) N k z') ∧ (b = 1 → TG (pin E N a) N k z') ∧ (¬ b = 0 → ¬ b = 1 → z' = -1)) : z = z' := by
  by_cases q : b = 0
  · exact TG_one (h.1 q) (h'.1 q)
  · by_cases r : b = 1
    · exact TG_one (h.2.1 r) (h'.2.1 r)
    · rw [h.2.2 q r, h'.2.2 q r]
theorem rnK_ks {E : Ed} {N : Nat} {w : Nat → Nat} {P Q : Nat} {t : RT} : ∀ k, (rnK E N w P Q k t).2.1 = t.2.1 + k
  | 0 => rfl
  | k + 1 => by
    have q : (rnK E N w P Q (k + 1) t).2.1 = (rnK E N w P Q k t).2.1 + 1 := rfl
    rw [q, rnK_ks k]
    rfl
