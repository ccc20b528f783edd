/-! the environment of every contract: the classes' places, the four array classes, the links between nest mates -/
def nestWs : List Cond := [.methodLinkNest RX4 27 yX5_quotient "RankHouse", .methodLinkNest RX5 37 yX3_init "RankHouse", .methodLinkNest RX5 30 yX4_init "RankHouse", .methodLinkNest RX5 23 yX1_init "RankHouse", .fieldLinkNest RX4 84 "RankHouse$Graph" "targets" "[I" "RankHouse", .fieldLinkNest RX4 81 "RankHouse$Graph" "first" "[I" "RankHouse", .fieldLinkNest RX4 72 "RankHouse$Graph" "size" "I" "RankHouse", .fieldLinkNest RX4 57 "RankHouse$Graph" "whole" "I" "RankHouse", .fieldLinkNest RX4 53 "RankHouse$Graph" "weights" "[I" "RankHouse", .fieldLinkNest RX4 48 "RankHouse$Graph" "nodes" "I" "RankHouse", .fieldLinkNest RX1 61 "RankHouse$ByteRow" "bytes" "[I" "RankHouse", .fieldLinkNest RX1 49 "RankHouse$ByteRow" "length" "I" "RankHouse", .fieldLinkNest RX5 76 "RankHouse$Decoder" "kind" "I" "RankHouse", .fieldLinkNest RX5 73 "RankHouse$Decoder" "place" "I" "RankHouse", .fieldLinkNest RX5 70 "RankHouse$Graph" "size" "I" "RankHouse", .fieldLinkNest RX5 56 "RankHouse$ByteRow" "length" "I" "RankHouse", .fieldLinkNest RX5 187 "RankHouse$Ranks" "q" "I" "RankHouse", .fieldLinkNest RX5 184 "RankHouse$Ranks" "p" "I" "RankHouse", .fieldLinkNest RX5 181 "RankHouse$Graph" "whole" "I" "RankHouse", .fieldLinkNest RX5 173 "RankHouse$ByteRow" "bytes" "[I" "RankHouse", .fieldLinkNest RX5 49 "RankHouse$Graph" "nodes" "I" "RankHouse", .fieldLinkNest RX5 156 "RankHouse$Order" "size" "I" "RankHouse", .fieldLinkNest RX5 148 "RankHouse$Ranks" "steps" "I" "RankHouse", .fieldLinkNest RX5 141 "RankHouse$Ranks" "change" "J" "RankHouse", .fieldLinkNest RX5 133 "RankHouse$Ranks" "now" "[J" "RankHouse"]
theorem nest_warm {s U : State} (hW : s.WarmedH U.vm) : ∀ w ∈ nestWs, va_Nw w s → va_Nw w U := by
  intro w hw
  simp only [nestWs, List.mem_cons, List.not_mem_nil, or_false] at hw
  rcases hw with rfl | rfl | rfl | rfl | rfl | rfl | rfl | rfl | rfl | rfl | rfl | rfl | rfl | rfl | rfl | rfl | rfl | rfl | rfl | rfl | rfl | rfl | rfl | rfl | rfl <;> first | exact va_Nw.warmF hW | exact va_Nw.warmM hW
theorem nest_onT : ∀ w ∈ nestWs, w.onTables = true := by
  intro w hw
  simp only [nestWs, List.mem_cons, List.not_mem_nil, or_false] at hw
  rcases hw with rfl | rfl | rfl | rfl | rfl | rfl | rfl | rfl | rfl | rfl | rfl | rfl | rfl | rfl | rfl | rfl | rfl | rfl | rfl | rfl | rfl | rfl | rfl | rfl | rfl <;> rfl
abbrev tyE (cI cJ cB cZ : ClassId) : List (ClassId × FieldType) := [(cI, .int), (cJ, .long), (cB, .byte), (cZ, .boolean)]
def EN (D : va_G) (cI cJ cB cZ : ClassId) (U : State) : Prop := va_K D vwCl (tyE cI cJ cB cZ) U ∧ ∀ w ∈ nestWs, va_Nw w U
theorem EN.warm {D : va_G} {cI cJ cB cZ : ClassId} {s U : State} (h : EN D cI cJ cB cZ s) (hW : s.WarmedH U.vm) : EN D cI cJ cB cZ U := ⟨va_K.moved hW.alike h.1, fun w hw => nest_warm hW w hw (h.2 w hw)⟩
theorem EN.calling {D : va_G} {cI cJ cB cZ : ClassId} {U : State} (h : EN D cI cJ cB cZ U) (g : JFrame) (mk : MethodId) (a : Array Value) : EN D cI cJ cB cZ (U.calling g mk a) := ⟨va_K.moved (u := U) (U := U.calling g mk a) (Vm.Alike.refl U.vm) h.1, fun w hw => va_Nw.same (u := U) (nest_onT w hw) rfl (h.2 w hw)⟩
theorem EN.nl {D : va_G} {cI cJ cB cZ : ClassId} {U : State} (h : EN D cI cJ cB cZ U) {w : Cond} (hw : w ∈ nestWs) (A : Array Value) : w.before A U = true := va_Nw.use (nest_onT w hw) (h.2 w hw)
def Pre0 (D : va_G) (cI cJ cB cZ : ClassId) (av : List Value) (ws : va_W) : Array Value → State → Prop := va_Pc av (fun U => va_P D vwCl ws U.heap ∧ EN D cI cJ cB cZ U)
def Pre1 (D : va_G) (cI cJ cB cZ : ClassId) (av : List Value) (ws : va_W) (sz : Nat) : Array Value → State → Prop := va_Pc av (fun U => U.heap.size = sz ∧ va_P D vwCl ws U.heap ∧ EN D cI cJ cB cZ U ∧ va_D (fun _ => True) ws)
theorem Pre0.blind {D : va_G} {cI cJ cB cZ : ClassId} {av : List Value} {ws : va_W} : FrameBlind (Pre0 D cI cJ cB cZ av ws) := fun a _ g mk h => ⟨h.1, h.2.1, h.2.2.calling g mk a⟩
theorem Pre1.blind {D : va_G} {cI cJ cB cZ : ClassId} {av : List Value} {ws : va_W} {sz : Nat} : FrameBlind (Pre1 D cI cJ cB cZ av ws sz) := fun a _ g mk h => ⟨h.1, h.2.1, h.2.2.1, h.2.2.2.1.calling g mk a, h.2.2.2.2⟩
theorem pre0S {D : va_G} {cI cJ cB cZ : ClassId} {As : List Value} {ws : va_W} {s : State} {H : Heap} (hE : EN D cI cJ cB cZ s) (hP : va_P D vwCl ws H) : PreS s H (Pre0 D cI cJ cB cZ As ws) As := ⟨Pre0.blind, fun U hU hW => ⟨rfl, by rw [hU]; exact hP, hE.warm hW⟩⟩
theorem pre0V {D : va_G} {cI cJ cB cZ : ClassId} {As : List Value} {ws : va_W} {s : State} {H : Heap} {b ci : Nat} {fs : List Value} {q : vw_C} (hE : EN D cI cJ cB cZ s) (hP : va_P D vwCl ws H) (q0 : Nat) (he : ws[q0]? = some (b, .inr (ci, fs))) (hc : vwCl[ci]? = some q) : PreV s H q.1 b (Pre0 D cI cJ cB cZ (.ref b :: As) ws) As := ⟨Pre0.blind, va_recv hE.1 hP hc he, fun U hU hW => ⟨rfl, by rw [hU]; exact hP, hE.warm hW⟩⟩
theorem pre1S {D : va_G} {cI cJ cB cZ : ClassId} {As : List Value} {ws : va_W} {s : State} {H : Heap} {A : Nat → Prop} (hE : EN D cI cJ cB cZ s) (hP : va_P D vwCl ws H) (hD : va_D A ws) : PreS s H (Pre1 D cI cJ cB cZ As ws H.size) As := ⟨Pre1.blind, fun U hU hW => ⟨rfl, by rw [hU], by rw [hU]; exact hP, hE.warm hW, hD.weaken (fun _ _ _ _ => trivial)⟩⟩
theorem pre1V {D : va_G} {cI cJ cB cZ : ClassId} {As : List Value} {ws : va_W} {s : State} {H : Heap} {A : Nat → Prop} {b ci : Nat} {fs : List Value} {q : vw_C} (hE : EN D cI cJ cB cZ s) (hP : va_P D vwCl ws H) (hD : va_D A ws) (q0 : Nat) (he : ws[q0]? = some (b, .inr (ci, fs))) (hc : vwCl[ci]? = some q) : PreV s H q.1 b (Pre1 D cI cJ cB cZ (.ref b :: As) ws H.size) As := ⟨Pre1.blind, va_recv hE.1 hP hc he, fun U hU hW => ⟨rfl, by rw [hU], by rw [hU]; exact hP, hE.warm hW, hD.weaken (fun _ _ _ _ => trivial)⟩⟩
/-- answers of methods that change nothing -/
def roI (post : Int → Prop) : Array Value → State → Outcome → State → Prop := fun _ st o t => ∃ z : Int, o = .returned (some (.int (iZ z))) ∧ post z ∧ t.heap = st.heap
def roL (post : Int → Prop) : Array Value → State → Outcome → State → Prop := fun _ st o t => ∃ z : Int, o = .returned (some (.long (lZ z))) ∧ post z ∧ t.heap = st.heap
/-- answers of methods that change their world -/
def rwV {S : Type} (D : va_G) (post : S → Prop) (wf : S → va_W) (A : Nat → Prop) : Array Value → State → Outcome → State → Prop := va_Qv post (fun u t => va_P D vwCl (wf u) t.heap ∧ va_D A (wf u)) A
def rwI {S : Type} (D : va_G) (post : Int → S → Prop) (wf : S → va_W) (A : Nat → Prop) : Array Value → State → Outcome → State → Prop := va_Qi (fun r u => ∃ z : Int, r = iZ z ∧ post z u) (fun u t => va_P D vwCl (wf u) t.heap ∧ va_D A (wf u)) A
section ZQ
variable {p : Program} {l : Launch} {e : Env} {R : Room} {s : State} {m : MethodId} {args : Array Value} {below : List Frame} {meth : Method} {c : Code} {H : Heap} {locs : List Loc} {cells slots : Nat} {Q : State → Prop}
variable {cc : ByteArray} {pc : Nat} {ls : Array Slot} {rest st0 : List Value} {D : va_G} {cl : List vw_C} {tys : List (ClassId × FieldType)} {ws : va_W} {A : Nat → Prop} {H0 : Heap} {a : Nat} {free : Addr → Prop} {av : Array Value}
theorem ro_i {post : Int → Prop} (hr : va_Run p l e R s m args below meth c H locs cells slots 0 0 (F0 m pc ls st0) rest (roI post av) (fun _ => False)) (kk : ∀ z : Int, post z → W p l e R s m args below meth c H locs cells slots Q (F0 m (pc + 3) ls (.int (iZ z) :: rest))) : W p l e R s m args below meth c H locs cells slots Q (F0 m pc ls st0) := by
  intro T hT X
  obtain ⟨v, st₀, t, T', L, h0, X', hL, e1, e2, ⟨z, hv, hp, hh⟩, st⟩ := hr T hT X
  cases hv
  obtain ⟨t2, a1, b1⟩ := kk z hp T' (by rw [e1, hh, h0]) (Stand.forget X' (fun q h => (hL q h).elim))
  exact ⟨t2, st t2 a1, b1⟩
theorem ro_l {post : Int → Prop} (hr : va_Run p l e R s m args below meth c H locs cells slots 0 0 (F0 m pc ls st0) rest (roL post av) (fun _ => False)) (kk : ∀ z : Int, post z → W p l e R s m args below meth c H locs cells slots Q (F0 m (pc + 3) ls (.long (lZ z) :: rest))) : W p l e R s m args below meth c H locs cells slots Q (F0 m pc ls st0) := by
  intro T hT X
  obtain ⟨v, st₀, t, T', L, h0, X', hL, e1, e2, ⟨z, hv, hp, hh⟩, st⟩ := hr T hT X
  cases hv
  obtain ⟨t2, a1, b1⟩ := kk z hp T' (by rw [e1, hh, h0]) (Stand.forget X' (fun q h => (hL q h).elim))
  exact ⟨t2, st t2 a1, b1⟩
theorem ro_iret {post : Int → Prop} {z : Int} (hx : p.tables.exec = Jvm.exec) (hb : c.code = cc) (hr : meth.sig.returnType = some .int) (hlocks : meth.locks = false) (hp : post z) (hdg : decode cc pc = .ok (.ireturn, 1)) : W p l e R s m args below meth c s.heap [] cells slots (MQ below (roI post) args s cells slots free) (F0 m pc ls [.int (iZ z)]) := W.iret hx hb hr (fun _ ht _ => ⟨z, rfl, hp, ht⟩) (fun _ h => nomatch h) hdg hlocks
theorem ro_zret {post : Int → Prop} {z : Int} (hx : p.tables.exec = Jvm.exec) (hb : c.code = cc) (hr : meth.sig.returnType = some .boolean) (hlocks : meth.locks = false) (hz : z = 0 ∨ z = 1) (hp : post z) (hdg : decode cc pc = .ok (.ireturn, 1)) : W p l e R s m args below meth c s.heap [] cells slots (MQ below (roI post) args s cells slots free) (F0 m pc ls [.int (iZ z)]) := W.zret hx hb hr (by rcases hz with rfl | rfl <;> rfl) (fun _ ht _ => ⟨z, rfl, hp, ht⟩) (fun _ h => nomatch h) hdg hlocks
theorem ro_lret {post : Int → Prop} {z : Int} (hx : p.tables.exec = Jvm.exec) (hb : c.code = cc) (hr : meth.sig.returnType = some .long) (hlocks : meth.locks = false) (hp : post z) (hdg : decode cc pc = .ok (.lreturn, 1)) : W p l e R s m args below meth c s.heap [] cells slots (MQ below (roL post) args s cells slots free) (F0 m pc ls [.long (lZ z)]) := W.lret hx hb hr (fun _ ht _ => ⟨z, rfl, hp, ht⟩) (fun _ h => nomatch h) hdg hlocks
theorem rw_vret {S : Type} {post : S → Prop} {wf : S → va_W} (u : S) (hx : p.tables.exec = Jvm.exec) (hb : c.code = cc) (hr : meth.sig.returnType = none) (hlocks : meth.locks = false) (hP : va_P D vwCl (wf u) H) (hD : va_D A (wf u)) (hS : va_S A s.heap H locs) (hp : post u) (hdg : decode cc pc = .ok (.return_, 1)) : W p l e R s m args below meth c H locs cells slots (MQ below (rwV D post wf A) args s cells slots A) (F0 m pc ls []) := W.vret hx hb hr (fun _ ht _ => ⟨⟨u, rfl, hp, by rw [ht]; exact hP, hD⟩, hS.F ht⟩) hS.2.2 hdg hlocks
theorem rw_iret {S : Type} {post : Int → S → Prop} {wf : S → va_W} {z : Int} (u : S) (hx : p.tables.exec = Jvm.exec) (hb : c.code = cc) (hr : meth.sig.returnType = some .int) (hlocks : meth.locks = false) (hP : va_P D vwCl (wf u) H) (hD : va_D A (wf u)) (hS : va_S A s.heap H locs) (hp : post z u) (hdg : decode cc pc = .ok (.ireturn, 1)) : W p l e R s m args below meth c H locs cells slots (MQ below (rwI D post wf A) args s cells slots A) (F0 m pc ls [.int (iZ z)]) := W.iret hx hb hr (fun _ ht _ => ⟨⟨_, u, rfl, ⟨z, rfl, hp⟩, by rw [ht]; exact hP, hD⟩, hS.F ht⟩) hS.2.2 hdg hlocks
theorem rw_zret {S : Type} {post : Int → S → Prop} {wf : S → va_W} {z : Int} (u : S) (hx : p.tables.exec = Jvm.exec) (hb : c.code = cc) (hr : meth.sig.returnType = some .boolean) (hlocks : meth.locks = false) (hz : z = 0 ∨ z = 1) (hP : va_P D vwCl (wf u) H) (hD : va_D A (wf u)) (hS : va_S A s.heap H locs) (hp : post z u) (hdg : decode cc pc = .ok (.ireturn, 1)) : W p l e R s m args below meth c H locs cells slots (MQ below (rwI D post wf A) args s cells slots A) (F0 m pc ls [.int (iZ z)]) := W.zret hx hb hr (by rcases hz with rfl | rfl <;> rfl) (fun _ ht _ => ⟨⟨_, u, rfl, ⟨z, rfl, hp⟩, by rw [ht]; exact hP, hD⟩, hS.F ht⟩) hS.2.2 hdg hlocks
theorem rw_v {S : Type} {post : S → Prop} {wf : S → va_W} {wc wr : va_W} {mc ms : Nat} (hr : va_Run p l e R s m args below meth c H locs cells slots mc ms (F0 m pc ls st0) rest (rwV D post wf (va_A wc H.size) av) (va_A wc H.size)) (hP : va_P D vwCl ws H) (hD : va_D A ws) (hS : va_S A H0 H locs) (hA : ∀ q, H0.size ≤ q → A q) (isC isR : List Nat) (hC : isC.map (fun i => ws[i]?) = wc.map some) (hR : isR.map (fun i => ws[i]?) = wr.map some) (hn : va_nd isR = true) (hdis : ∀ i ∈ isR, i ∉ isC)
    (kk : ∀ (u : S) (H1 : Heap) (locs1 : List Loc), post u → va_P D vwCl (wr ++ wf u) H1 → va_D A (wr ++ wf u) → va_S A H0 H1 locs1 → W p l e R s m args below meth c H1 locs1 (cells + mc) (slots + ms) Q (F0 m (pc + 3) ls rest)) : W p l e R s m args below meth c H locs cells slots Q (F0 m pc ls st0) := by
  have hF := va_free hD hS hA isC hC
  refine va_callv hr hS (fun q _ h => hF q h) hF (fun u t H1 locs1 ht hvm hp hB hz hk hS1 => ?_)
  obtain ⟨hP1, hD1⟩ := hB
  rw [ht] at hP1
  obtain ⟨hP2, hD2⟩ := va_join hP hD isC isR hC hR hn hdis hk hF hP1 hD1
  exact kk u H1 locs1 hp hP2 hD2 hS1
theorem rw_i {S : Type} {post : Int → S → Prop} {wf : S → va_W} {wc wr : va_W} {mc ms : Nat} (hr : va_Run p l e R s m args below meth c H locs cells slots mc ms (F0 m pc ls st0) rest (rwI D post wf (va_A wc H.size) av) (va_A wc H.size)) (hP : va_P D vwCl ws H) (hD : va_D A ws) (hS : va_S A H0 H locs) (hA : ∀ q, H0.size ≤ q → A q) (isC isR : List Nat) (hC : isC.map (fun i => ws[i]?) = wc.map some) (hR : isR.map (fun i => ws[i]?) = wr.map some) (hn : va_nd isR = true) (hdis : ∀ i ∈ isR, i ∉ isC)
    (kk : ∀ (z : Int) (u : S) (H1 : Heap) (locs1 : List Loc), post z u → va_P D vwCl (wr ++ wf u) H1 → va_D A (wr ++ wf u) → va_S A H0 H1 locs1 → W p l e R s m args below meth c H1 locs1 (cells + mc) (slots + ms) Q (F0 m (pc + 3) ls (.int (iZ z) :: rest))) : W p l e R s m args below meth c H locs cells slots Q (F0 m pc ls st0) := by
  have hF := va_free hD hS hA isC hC
  refine va_calli hr hS (fun q _ h => hF q h) hF (fun r u t H1 locs1 ht hvm hp hB hz hk hS1 => ?_)
  obtain ⟨hP1, hD1⟩ := hB
  obtain ⟨z, rfl, hp⟩ := hp
  rw [ht] at hP1
  obtain ⟨hP2, hD2⟩ := va_join hP hD isC isR hC hR hn hdis hk hF hP1 hD1
  exact kk z u H1 locs1 hp hP2 hD2 hS1
theorem z_iald (hx : p.tables.exec = Jvm.exec) (hb : c.code = cc) (hK : va_K D cl tys s) (hP : va_P D cl ws H) (q0 t0 : Nat) {cA : ClassId} {n : Nat} {f : Nat → Int} (ha : ws[q0]? = some (a, .inl (cA, n, .inl (aI f)))) (ht : tys[t0]? = some (cA, .int)) {i : Int} (k : Nat) (hk : i = (k : Int)) (hkn : k < n) (hn : n < 2147483648) (hdg : decode cc pc = .ok (.iaload, 1)) (kk : W p l e R s m args below meth c H locs cells slots Q (F0 m (pc + 1) ls (.int (iZ (f k)) :: rest))) : W p l e R s m args below meth c H locs cells slots Q (F0 m pc ls (.int (iZ i) :: .ref a :: rest)) := by
  obtain ⟨h1, h2⟩ := iZ_ix hk hkn hn
  exact va_iald hx hb hK hP q0 t0 ha ht h1 hdg (by rw [h2]; exact kk)
theorem z_bald (hx : p.tables.exec = Jvm.exec) (hb : c.code = cc) (hK : va_K D cl tys s) (hP : va_P D cl ws H) (q0 t0 : Nat) {cA : ClassId} {n : Nat} {f : Nat → Int} (ha : ws[q0]? = some (a, .inl (cA, n, .inl (aI f)))) (ht : tys[t0]? = some (cA, .byte)) {i : Int} (k : Nat) (hk : i = (k : Int)) (hkn : k < n) (hn : n < 2147483648) (hdg : decode cc pc = .ok (.baload, 1)) (kk : W p l e R s m args below meth c H locs cells slots Q (F0 m (pc + 1) ls (.int (iZ (f k)) :: rest))) : W p l e R s m args below meth c H locs cells slots Q (F0 m pc ls (.int (iZ i) :: .ref a :: rest)) := by
  obtain ⟨h1, h2⟩ := iZ_ix hk hkn hn
  exact va_bald hx hb hK hP q0 t0 ha ht h1 hdg (by rw [h2]; exact kk)
theorem z_zald (hx : p.tables.exec = Jvm.exec) (hb : c.code = cc) (hK : va_K D cl tys s) (hP : va_P D cl ws H) (q0 t0 : Nat) {cA : ClassId} {n : Nat} {f : Nat → Int} (ha : ws[q0]? = some (a, .inl (cA, n, .inl (aI f)))) (ht : tys[t0]? = some (cA, .boolean)) {i : Int} (k : Nat) (hk : i = (k : Int)) (hkn : k < n) (hn : n < 2147483648) (hdg : decode cc pc = .ok (.baload, 1)) (kk : W p l e R s m args below meth c H locs cells slots Q (F0 m (pc + 1) ls (.int (iZ (f k)) :: rest))) : W p l e R s m args below meth c H locs cells slots Q (F0 m pc ls (.int (iZ i) :: .ref a :: rest)) := by
  obtain ⟨h1, h2⟩ := iZ_ix hk hkn hn
  exact va_zald hx hb hK hP q0 t0 ha ht h1 hdg (by rw [h2]; exact kk)
theorem z_lald (hx : p.tables.exec = Jvm.exec) (hb : c.code = cc) (hK : va_K D cl tys s) (hP : va_P D cl ws H) (q0 t0 : Nat) {cA : ClassId} {n : Nat} {f : Nat → Int} (ha : ws[q0]? = some (a, .inl (cA, n, .inr (.inl (aL f))))) (ht : tys[t0]? = some (cA, .long)) {i : Int} (k : Nat) (hk : i = (k : Int)) (hkn : k < n) (hn : n < 2147483648) (hdg : decode cc pc = .ok (.laload, 1)) (kk : W p l e R s m args below meth c H locs cells slots Q (F0 m (pc + 1) ls (.long (lZ (f k)) :: rest))) : W p l e R s m args below meth c H locs cells slots Q (F0 m pc ls (.int (iZ i) :: .ref a :: rest)) := by
  obtain ⟨h1, h2⟩ := iZ_ix hk hkn hn
  exact va_lald hx hb hK hP q0 t0 ha ht h1 hdg (by rw [h2]; exact kk)
theorem z_iast (hx : p.tables.exec = Jvm.exec) (hb : c.code = cc) (hK : va_K D cl tys s) (hP : va_P D cl ws H) (hD : va_D A ws) (hS : va_S A H0 H locs) (q0 t0 : Nat) {cA : ClassId} {n : Nat} {f : Nat → Int} (ha : ws[q0]? = some (a, .inl (cA, n, .inl (aI f)))) (ht : tys[t0]? = some (cA, .int)) {i x : Int} (k : Nat) (hk : i = (k : Int)) (hkn : k < n) (hn : n < 2147483648) (hdg : decode cc pc = .ok (.iastore, 1))
    (kk : ∀ (H1 : Heap) (locs1 : List Loc), va_P D cl (ws.set q0 (a, .inl (cA, n, .inl (aI (uZ f k x))))) H1 → va_D A (ws.set q0 (a, .inl (cA, n, .inl (aI (uZ f k x))))) → va_S A H0 H1 locs1 → W p l e R s m args below meth c H1 locs1 cells slots Q (F0 m (pc + 1) ls rest)) : W p l e R s m args below meth c H locs cells slots Q (F0 m pc ls (.int (iZ x) :: .int (iZ i) :: .ref a :: rest)) := by
  obtain ⟨h1, h2⟩ := iZ_ix hk hkn hn
  refine va_iast hx hb hK hP hD hS q0 t0 ha ht h1 hdg (fun H1 locs1 h3 h4 h5 => ?_)
  rw [h2, aI_up] at h3 h4
  exact kk H1 locs1 h3 h4 h5
theorem z_last (hx : p.tables.exec = Jvm.exec) (hb : c.code = cc) (hK : va_K D cl tys s) (hP : va_P D cl ws H) (hD : va_D A ws) (hS : va_S A H0 H locs) (q0 t0 : Nat) {cA : ClassId} {n : Nat} {f : Nat → Int} (ha : ws[q0]? = some (a, .inl (cA, n, .inr (.inl (aL f))))) (ht : tys[t0]? = some (cA, .long)) {i x : Int} (k : Nat) (hk : i = (k : Int)) (hkn : k < n) (hn : n < 2147483648) (hdg : decode cc pc = .ok (.lastore, 1))
    (kk : ∀ (H1 : Heap) (locs1 : List Loc), va_P D cl (ws.set q0 (a, .inl (cA, n, .inr (.inl (aL (uZ f k x)))))) H1 → va_D A (ws.set q0 (a, .inl (cA, n, .inr (.inl (aL (uZ f k x)))))) → va_S A H0 H1 locs1 → W p l e R s m args below meth c H1 locs1 cells slots Q (F0 m (pc + 1) ls rest)) : W p l e R s m args below meth c H locs cells slots Q (F0 m pc ls (.long (lZ x) :: .int (iZ i) :: .ref a :: rest)) := by
  obtain ⟨h1, h2⟩ := iZ_ix hk hkn hn
  refine va_last hx hb hK hP hD hS q0 t0 ha ht h1 hdg (fun H1 locs1 h3 h4 h5 => ?_)
  rw [h2, aL_up] at h3 h4
  exact kk H1 locs1 h3 h4 h5
theorem z_bast (hx : p.tables.exec = Jvm.exec) (hb : c.code = cc) (hK : va_K D cl tys s) (hP : va_P D cl ws H) (hD : va_D A ws) (hS : va_S A H0 H locs) (q0 t0 : Nat) {cA : ClassId} {n : Nat} {f : Nat → Int} (ha : ws[q0]? = some (a, .inl (cA, n, .inl (aI f)))) (ht : tys[t0]? = some (cA, .byte)) {i x : Int} (y : Int) (hy : vp_nar .byte (iZ x) = iZ y) (k : Nat) (hk : i = (k : Int)) (hkn : k < n) (hn : n < 2147483648) (hdg : decode cc pc = .ok (.bastore, 1))
    (kk : ∀ (H1 : Heap) (locs1 : List Loc), va_P D cl (ws.set q0 (a, .inl (cA, n, .inl (aI (uZ f k y))))) H1 → va_D A (ws.set q0 (a, .inl (cA, n, .inl (aI (uZ f k y))))) → va_S A H0 H1 locs1 → W p l e R s m args below meth c H1 locs1 cells slots Q (F0 m (pc + 1) ls rest)) : W p l e R s m args below meth c H locs cells slots Q (F0 m pc ls (.int (iZ x) :: .int (iZ i) :: .ref a :: rest)) := by
  obtain ⟨h1, h2⟩ := iZ_ix hk hkn hn
  refine va_bast hx hb hK hP hD hS q0 t0 ha ht h1 hdg (fun H1 locs1 h3 h4 h5 => ?_)
  rw [h2, hy, aI_up] at h3 h4
  exact kk H1 locs1 h3 h4 h5
theorem z_zast (hx : p.tables.exec = Jvm.exec) (hb : c.code = cc) (hK : va_K D cl tys s) (hP : va_P D cl ws H) (hD : va_D A ws) (hS : va_S A H0 H locs) (q0 t0 : Nat) {cA : ClassId} {n : Nat} {f : Nat → Int} (ha : ws[q0]? = some (a, .inl (cA, n, .inl (aI f)))) (ht : tys[t0]? = some (cA, .boolean)) {i x : Int} (y : Int) (hy : vp_nar .boolean (iZ x) = iZ y) (k : Nat) (hk : i = (k : Int)) (hkn : k < n) (hn : n < 2147483648) (hdg : decode cc pc = .ok (.bastore, 1))
    (kk : ∀ (H1 : Heap) (locs1 : List Loc), va_P D cl (ws.set q0 (a, .inl (cA, n, .inl (aI (uZ f k y))))) H1 → va_D A (ws.set q0 (a, .inl (cA, n, .inl (aI (uZ f k y))))) → va_S A H0 H1 locs1 → W p l e R s m args below meth c H1 locs1 cells slots Q (F0 m (pc + 1) ls rest)) : W p l e R s m args below meth c H locs cells slots Q (F0 m pc ls (.int (iZ x) :: .int (iZ i) :: .ref a :: rest)) := by
  obtain ⟨h1, h2⟩ := iZ_ix hk hkn hn
  refine va_zast hx hb hK hP hD hS q0 t0 ha ht h1 hdg (fun H1 locs1 h3 h4 h5 => ?_)
  rw [h2, hy, aI_up] at h3 h4
  exact kk H1 locs1 h3 h4 h5
/-- a number on top gets a name -/
theorem z_topi {x : Int} (k : ∀ y : Int, y = x → W p l e R s m args below meth c H locs cells slots Q (F0 m pc ls (.int (iZ y) :: rest))) : W p l e R s m args below meth c H locs cells slots Q (F0 m pc ls (.int (iZ x) :: rest)) := k x rfl
theorem z_topl {x : Int} (k : ∀ y : Int, y = x → W p l e R s m args below meth c H locs cells slots Q (F0 m pc ls (.long (lZ y) :: rest))) : W p l e R s m args below meth c H locs cells slots Q (F0 m pc ls (.long (lZ x) :: rest)) := k x rfl
/-- .. or another form -/
theorem z_toi {x : Int} (y : Int) (h : x = y) (k : W p l e R s m args below meth c H locs cells slots Q (F0 m pc ls (.int (iZ y) :: rest))) : W p l e R s m args below meth c H locs cells slots Q (F0 m pc ls (.int (iZ x) :: rest)) := h ▸ k
theorem z_tol {x : Int} (y : Int) (h : x = y) (k : W p l e R s m args below meth c H locs cells slots Q (F0 m pc ls (.long (lZ y) :: rest))) : W p l e R s m args below meth c H locs cells slots Q (F0 m pc ls (.long (lZ x) :: rest)) := h ▸ k
/-- loops: a number k that falls -/
theorem w_loop {st1 : List Value} (I : Nat → Heap → List Loc → Array Slot → Prop) (step : ∀ (k : Nat) (H : Heap) (locs : List Loc) (ls : Array Slot), I k H locs ls → (∀ (k' : Nat) (H' : Heap) (locs' : List Loc) (ls' : Array Slot), k' < k → I k' H' locs' ls' → W p l e R s m args below meth c H' locs' cells slots Q (F0 m pc ls' st1)) → W p l e R s m args below meth c H locs cells slots Q (F0 m pc ls st1)) (k : Nat) (h : I k H locs ls) : W p l e R s m args below meth c H locs cells slots Q (F0 m pc ls st1) := by
  have key : ∀ (n k : Nat) (H : Heap) (locs : List Loc) (ls : Array Slot), k < n → I k H locs ls → W p l e R s m args below meth c H locs cells slots Q (F0 m pc ls st1) := by
    intro n
    induction n with
    | zero => intro k H locs ls h; exact absurd h (Nat.not_lt_zero _)
    | succ n ih => intro k H locs ls hn hI; exact step k H locs ls hI (fun k' H' locs' ls' h' hI' => ih k' H' locs' ls' (by omega) hI')
  exact key (k + 1) k H locs ls (by omega) h
theorem w_loop0 {st1 : List Value} (I : Nat → Array Slot → Prop) (step : ∀ (k : Nat) (ls : Array Slot), I k ls → (∀ (k' : Nat) (ls' : Array Slot), k' < k → I k' ls' → W p l e R s m args below meth c H locs cells slots Q (F0 m pc ls' st1)) → W p l e R s m args below meth c H locs cells slots Q (F0 m pc ls st1)) (k : Nat) (h : I k ls) : W p l e R s m args below meth c H locs cells slots Q (F0 m pc ls st1) := by
  have key : ∀ (n k : Nat) (ls : Array Slot), k < n → I k ls → W p l e R s m args below meth c H locs cells slots Q (F0 m pc ls st1) := by
    intro n
    induction n with
    | zero => intro k ls h; exact absurd h (Nat.not_lt_zero _)
    | succ n ih => intro k ls hn hI; exact step k ls hI (fun k' ls' h' hI' => ih k' ls' (by omega) hI')
  exact key (k + 1) k ls (by omega) h
end ZQ
