section
-- ===== PART A: goes FIRST, ahead of the names: the tables' words, and 'selects' of the private methods out of them =====
/-- a private method of a class that the tables say can be made, by its rows of tables_1 -/
def lw_okq (q : MethodName × Nat) : Prop := (q.1.cls ≠ "java/lang/invoke/MethodHandle" ∧ q.1.cls ≠ "java/lang/invoke/VarHandle") ∧ Cond.instantiable q.1.cls q.2 ∈ tables_1 ∧ Cond.privateMethod q.1 ∈ tables_1 ∧ Cond.instanceMethod q.1 ∈ tables_1
theorem lw_p0 : lw_okq (⟨"RankHouse$Decoder", "unsigned", "(LRankHouse$ByteRow;)I"⟩, 5) := ⟨⟨by decide +kernel, by decide +kernel⟩, List.mem_of_getElem? (i := 45) (by decide +kernel), List.mem_of_getElem? (i := 206) (by decide +kernel), List.mem_of_getElem? (i := 207) (by decide +kernel)⟩
theorem lw_p1 : lw_okq (⟨"RankHouse$Decoder", "refuse", "(II)Z"⟩, 5) := ⟨⟨by decide +kernel, by decide +kernel⟩, List.mem_of_getElem? (i := 45) (by decide +kernel), List.mem_of_getElem? (i := 210) (by decide +kernel), List.mem_of_getElem? (i := 211) (by decide +kernel)⟩
theorem lw_p2 : lw_okq (⟨"RankHouse$Decoder", "refuseUnsigned", "(I)I"⟩, 5) := ⟨⟨by decide +kernel, by decide +kernel⟩, List.mem_of_getElem? (i := 45) (by decide +kernel), List.mem_of_getElem? (i := 215) (by decide +kernel), List.mem_of_getElem? (i := 216) (by decide +kernel)⟩
theorem lw_p3 : lw_okq (⟨"RankHouse$Decoder", "decodeNode", "(LRankHouse$ByteRow;LRankHouse$Graph;I)Z"⟩, 5) := ⟨⟨by decide +kernel, by decide +kernel⟩, List.mem_of_getElem? (i := 45) (by decide +kernel), List.mem_of_getElem? (i := 227) (by decide +kernel), List.mem_of_getElem? (i := 228) (by decide +kernel)⟩
theorem lw_p4 : lw_okq (⟨"RankHouse$Graph", "spot", "(II)I"⟩, 6) := ⟨⟨by decide +kernel, by decide +kernel⟩, List.mem_of_getElem? (i := 120) (by decide +kernel), List.mem_of_getElem? (i := 246) (by decide +kernel), List.mem_of_getElem? (i := 247) (by decide +kernel)⟩
theorem lw_p5 : lw_okq (⟨"RankHouse$Graph", "grow", "(II)V"⟩, 6) := ⟨⟨by decide +kernel, by decide +kernel⟩, List.mem_of_getElem? (i := 120) (by decide +kernel), List.mem_of_getElem? (i := 253) (by decide +kernel), List.mem_of_getElem? (i := 254) (by decide +kernel)⟩
theorem lw_p6 : lw_okq (⟨"RankHouse", "beginIf", "(Z)Z"⟩, 6) := ⟨⟨by decide +kernel, by decide +kernel⟩, List.mem_of_getElem? (i := 16) (by decide +kernel), List.mem_of_getElem? (i := 257) (by decide +kernel), List.mem_of_getElem? (i := 258) (by decide +kernel)⟩
theorem lw_p7 : lw_okq (⟨"RankHouse", "putNode", "(I)V"⟩, 6) := ⟨⟨by decide +kernel, by decide +kernel⟩, List.mem_of_getElem? (i := 16) (by decide +kernel), List.mem_of_getElem? (i := 377) (by decide +kernel), List.mem_of_getElem? (i := 378) (by decide +kernel)⟩
theorem lw_p8 : lw_okq (⟨"java/lang/Throwable", "fillInStackTrace", "(I)Ljava/lang/Throwable;"⟩, 6) := ⟨⟨by decide +kernel, by decide +kernel⟩, List.mem_of_getElem? (i := 436) (by decide +kernel), List.mem_of_getElem? (i := 434) (by decide +kernel), List.mem_of_getElem? (i := 435) (by decide +kernel)⟩
theorem lw_p9 : lw_okq (⟨"RankHouse$Ranks", "shareOut", "(LRankHouse$Graph;I)V"⟩, 7) := ⟨⟨by decide +kernel, by decide +kernel⟩, List.mem_of_getElem? (i := 69) (by decide +kernel), List.mem_of_getElem? (i := 497) (by decide +kernel), List.mem_of_getElem? (i := 498) (by decide +kernel)⟩
theorem lw_p10 : lw_okq (⟨"RankHouse$Ranks", "distance", "(I)J"⟩, 7) := ⟨⟨by decide +kernel, by decide +kernel⟩, List.mem_of_getElem? (i := 69) (by decide +kernel), List.mem_of_getElem? (i := 502) (by decide +kernel), List.mem_of_getElem? (i := 503) (by decide +kernel)⟩
theorem lw_p11 : lw_okq (⟨"RankHouseModel", "begin", "()V"⟩, 24) := ⟨⟨by decide +kernel, by decide +kernel⟩, List.mem_of_getElem? (i := 527) (by decide +kernel), List.mem_of_getElem? (i := 534) (by decide +kernel), List.mem_of_getElem? (i := 535) (by decide +kernel)⟩
theorem lw_p12 : lw_okq (⟨"RankHouseModel", "four", "(I)V"⟩, 24) := ⟨⟨by decide +kernel, by decide +kernel⟩, List.mem_of_getElem? (i := 527) (by decide +kernel), List.mem_of_getElem? (i := 619) (by decide +kernel), List.mem_of_getElem? (i := 620) (by decide +kernel)⟩
theorem lw_p13 : lw_okq (⟨"RankHouseModel", "graph", "()I"⟩, 24) := ⟨⟨by decide +kernel, by decide +kernel⟩, List.mem_of_getElem? (i := 527) (by decide +kernel), List.mem_of_getElem? (i := 631) (by decide +kernel), List.mem_of_getElem? (i := 632) (by decide +kernel)⟩
theorem lw_p14 : lw_okq (⟨"RankHouseModel", "reads", "()Z"⟩, 24) := ⟨⟨by decide +kernel, by decide +kernel⟩, List.mem_of_getElem? (i := 527) (by decide +kernel), List.mem_of_getElem? (i := 635) (by decide +kernel), List.mem_of_getElem? (i := 636) (by decide +kernel)⟩
theorem lw_p15 : lw_okq (⟨"RankHouseModel", "wrong", "(II)Z"⟩, 24) := ⟨⟨by decide +kernel, by decide +kernel⟩, List.mem_of_getElem? (i := 527) (by decide +kernel), List.mem_of_getElem? (i := 639) (by decide +kernel), List.mem_of_getElem? (i := 640) (by decide +kernel)⟩
def lw_privs_1 : List (MethodName × Nat) := [(⟨"RankHouse$Decoder", "unsigned", "(LRankHouse$ByteRow;)I"⟩, 5), (⟨"RankHouse$Decoder", "refuse", "(II)Z"⟩, 5), (⟨"RankHouse$Decoder", "refuseUnsigned", "(I)I"⟩, 5), (⟨"RankHouse$Decoder", "decodeNode", "(LRankHouse$ByteRow;LRankHouse$Graph;I)Z"⟩, 5), (⟨"RankHouse$Graph", "spot", "(II)I"⟩, 6), (⟨"RankHouse$Graph", "grow", "(II)V"⟩, 6), (⟨"RankHouse", "beginIf", "(Z)Z"⟩, 6), (⟨"RankHouse", "putNode", "(I)V"⟩, 6), (⟨"java/lang/Throwable", "fillInStackTrace", "(I)Ljava/lang/Throwable;"⟩, 6), (⟨"RankHouse$Ranks", "shareOut", "(LRankHouse$Graph;I)V"⟩, 7), (⟨"RankHouse$Ranks", "distance", "(I)J"⟩, 7), (⟨"RankHouseModel", "begin", "()V"⟩, 24), (⟨"RankHouseModel", "four", "(I)V"⟩, 24), (⟨"RankHouseModel", "graph", "()I"⟩, 24), (⟨"RankHouseModel", "reads", "()Z"⟩, 24), (⟨"RankHouseModel", "wrong", "(II)Z"⟩, 24)]
theorem lw_r1 : ∀ q ∈ lw_privs_1, lw_okq q := List.forall_mem_cons.mpr ⟨lw_p0, List.forall_mem_cons.mpr ⟨lw_p1, List.forall_mem_cons.mpr ⟨lw_p2, List.forall_mem_cons.mpr ⟨lw_p3, List.forall_mem_cons.mpr ⟨lw_p4, List.forall_mem_cons.mpr ⟨lw_p5, List.forall_mem_cons.mpr ⟨lw_p6, List.forall_mem_cons.mpr ⟨lw_p7, List.forall_mem_cons.mpr ⟨lw_p8, List.forall_mem_cons.mpr ⟨lw_p9, List.forall_mem_cons.mpr ⟨lw_p10, List.forall_mem_cons.mpr ⟨lw_p11, List.forall_mem_cons.mpr ⟨lw_p12, List.forall_mem_cons.mpr ⟨lw_p13, List.forall_mem_cons.mpr ⟨lw_p14, List.forall_mem_cons.mpr ⟨lw_p15, fun _ h => absurd h List.not_mem_nil⟩⟩⟩⟩⟩⟩⟩⟩⟩⟩⟩⟩⟩⟩⟩⟩
theorem lw_p16 : lw_okq (⟨"RankHouseModel", "bad", "(II)I"⟩, 24) := ⟨⟨by decide +kernel, by decide +kernel⟩, List.mem_of_getElem? (i := 527) (by decide +kernel), List.mem_of_getElem? (i := 644) (by decide +kernel), List.mem_of_getElem? (i := 645) (by decide +kernel)⟩
theorem lw_p17 : lw_okq (⟨"RankHouseModel", "no", "(I)Z"⟩, 24) := ⟨⟨by decide +kernel, by decide +kernel⟩, List.mem_of_getElem? (i := 527) (by decide +kernel), List.mem_of_getElem? (i := 660) (by decide +kernel), List.mem_of_getElem? (i := 661) (by decide +kernel)⟩
theorem lw_p18 : lw_okq (⟨"RankHouseModel", "goes", "(II)Z"⟩, 24) := ⟨⟨by decide +kernel, by decide +kernel⟩, List.mem_of_getElem? (i := 527) (by decide +kernel), List.mem_of_getElem? (i := 664) (by decide +kernel), List.mem_of_getElem? (i := 665) (by decide +kernel)⟩
theorem lw_p19 : lw_okq (⟨"RankHouseModel", "throwsIf", "(Z)Z"⟩, 24) := ⟨⟨by decide +kernel, by decide +kernel⟩, List.mem_of_getElem? (i := 527) (by decide +kernel), List.mem_of_getElem? (i := 680) (by decide +kernel), List.mem_of_getElem? (i := 681) (by decide +kernel)⟩
theorem lw_p20 : lw_okq (⟨"RankHouseModel", "many", "(II)I"⟩, 24) := ⟨⟨by decide +kernel, by decide +kernel⟩, List.mem_of_getElem? (i := 527) (by decide +kernel), List.mem_of_getElem? (i := 684) (by decide +kernel), List.mem_of_getElem? (i := 685) (by decide +kernel)⟩
theorem lw_p21 : lw_okq (⟨"RankHouseModel", "whole", "()I"⟩, 24) := ⟨⟨by decide +kernel, by decide +kernel⟩, List.mem_of_getElem? (i := 527) (by decide +kernel), List.mem_of_getElem? (i := 696) (by decide +kernel), List.mem_of_getElem? (i := 697) (by decide +kernel)⟩
theorem lw_p22 : lw_okq (⟨"RankHouseModel", "step", "()V"⟩, 24) := ⟨⟨by decide +kernel, by decide +kernel⟩, List.mem_of_getElem? (i := 527) (by decide +kernel), List.mem_of_getElem? (i := 709) (by decide +kernel), List.mem_of_getElem? (i := 710) (by decide +kernel)⟩
theorem lw_p23 : lw_okq (⟨"RankHouseModel", "bare", "()J"⟩, 24) := ⟨⟨by decide +kernel, by decide +kernel⟩, List.mem_of_getElem? (i := 527) (by decide +kernel), List.mem_of_getElem? (i := 713) (by decide +kernel), List.mem_of_getElem? (i := 714) (by decide +kernel)⟩
theorem lw_p24 : lw_okq (⟨"RankHouseModel", "share", "(I)J"⟩, 24) := ⟨⟨by decide +kernel, by decide +kernel⟩, List.mem_of_getElem? (i := 527) (by decide +kernel), List.mem_of_getElem? (i := 717) (by decide +kernel), List.mem_of_getElem? (i := 718) (by decide +kernel)⟩
theorem lw_p25 : lw_okq (⟨"RankHouseModel", "put", "(I)V"⟩, 24) := ⟨⟨by decide +kernel, by decide +kernel⟩, List.mem_of_getElem? (i := 527) (by decide +kernel), List.mem_of_getElem? (i := 751) (by decide +kernel), List.mem_of_getElem? (i := 752) (by decide +kernel)⟩
def lw_privs_2 : List (MethodName × Nat) := [(⟨"RankHouseModel", "bad", "(II)I"⟩, 24), (⟨"RankHouseModel", "no", "(I)Z"⟩, 24), (⟨"RankHouseModel", "goes", "(II)Z"⟩, 24), (⟨"RankHouseModel", "throwsIf", "(Z)Z"⟩, 24), (⟨"RankHouseModel", "many", "(II)I"⟩, 24), (⟨"RankHouseModel", "whole", "()I"⟩, 24), (⟨"RankHouseModel", "step", "()V"⟩, 24), (⟨"RankHouseModel", "bare", "()J"⟩, 24), (⟨"RankHouseModel", "share", "(I)J"⟩, 24), (⟨"RankHouseModel", "put", "(I)V"⟩, 24)]
theorem lw_r2 : ∀ q ∈ lw_privs_2, lw_okq q := List.forall_mem_cons.mpr ⟨lw_p16, List.forall_mem_cons.mpr ⟨lw_p17, List.forall_mem_cons.mpr ⟨lw_p18, List.forall_mem_cons.mpr ⟨lw_p19, List.forall_mem_cons.mpr ⟨lw_p20, List.forall_mem_cons.mpr ⟨lw_p21, List.forall_mem_cons.mpr ⟨lw_p22, List.forall_mem_cons.mpr ⟨lw_p23, List.forall_mem_cons.mpr ⟨lw_p24, List.forall_mem_cons.mpr ⟨lw_p25, fun _ h => absurd h List.not_mem_nil⟩⟩⟩⟩⟩⟩⟩⟩⟩⟩
def lw_privs : List (MethodName × Nat) := lw_privs_1 ++ (lw_privs_2)
def lw_tbl : List Cond := k2_sels lw_privs ++ tables_1
theorem lw_privs_ok : ∀ q ∈ lw_privs, lw_okq q := by
  show ∀ q ∈ lw_privs_1 ++ (lw_privs_2), lw_okq q
  exact List.forall_mem_append.mpr ⟨lw_r1, lw_r2⟩
end
section
/-! ===== BEGIN words of one list among another's, by their places ===== -/
theorem goodIn_r {big : List Cond} (ws : List Cond) (ps : List Nat) (hp : ws = ps.filterMap (fun i => big[i]?)) (h : ws.all goodWord = true) : GoodIn big ws := by
  intro w hw
  have h1 := List.all_eq_true.mp h w hw
  rw [hp] at hw
  obtain ⟨i, -, hi⟩ := List.mem_filterMap.mp hw
  have hm : w ∈ big := by first | exact List.mem_of_getElem? hi | exact List.getElem?_mem hi
  exact ⟨hm, good_of_word h1⟩
theorem goodIn_app {big a b : List Cond} (ha : GoodIn big a) (hb : GoodIn big b) : GoodIn big (a ++ b) := fun w h => (List.mem_append.mp h).elim (ha w) (hb w)
theorem goodIn_ca {big a b : List Cond} {c : Cond} (ha : GoodIn big (c :: a)) (hb : GoodIn big b) : GoodIn big (c :: (a ++ b)) := fun w h => (List.mem_cons.mp h).elim (fun e => ha w (List.mem_cons.mpr (Or.inl e))) (fun h => (List.mem_append.mp h).elim (fun h => ha w (List.mem_cons.mpr (Or.inr h))) (hb w))
theorem goodIn_sub {big ws : List Cond} (hm : ∀ w ∈ ws, w ∈ big) (h : ws.all goodWord = true) : GoodIn big ws := fun w hw => ⟨hm w hw, good_of_word (List.all_eq_true.mp h w hw)⟩
/-! ===== END ===== -/

/-! ===== BEGIN exceptions that leave a method, and their catching by the caller (launches without stack traces) ===== -/
section VXA
/-! The laws vx_back, vx_callV, vx_callS, vx_callSW, vx_throw0, vx_throwS follow proofs of the library, with one case more: JvmDerived/Free/Laws.lean (Back.of_free), Shelf42/LK1.lean (callV, callS), Shelf/KitTraced.lean (throwNew0V, throwNewS). -/
/-- where a method has thrown q: the class by its name, the cell, what was written, the world -/
def vx_T (XC : String → State → State → Prop) (st : State) (q : Addr) (t : State) (mc ms : Nat) (free : Addr → Prop) : Prop :=
  ∃ (E : String) (ce : Cell) (L : List Loc), XC E st t ∧ t.heap[q]? = some ce ∧ ce.vm = .none ∧ st.vm.findClass E = some ce.cls ∧ st.WarmedH t.vm ∧ st.sameButNew ({ t with vm := st.vm } : State) L mc ms ∧ ∀ z ∈ L, free z.base
def vx_Q (Qc : Array Value → State → Outcome → State → Prop) (XC : String → State → State → Prop) (mc ms : Nat) (free : Addr → Prop) : Array Value → State → Outcome → State → Prop := fun a st o t =>
  (Qc a st o t ∧ ∃ L, FrameEnd st o t L mc ms ∧ ∀ q ∈ L, free q.base) ∨ ∃ q, o = .threw q ∧ vx_T XC st q t mc ms free
/-- a callee that returns or throws -/
def vx_Met (l : Launch) (y : MethodName) (ws : List Cond) (rm : Room) (Pc : Array Value → State → Prop) (Qc : Array Value → State → Outcome → State → Prop) (XC : String → State → State → Prop) (mc ms : Nat) (free : Addr → Prop) : Prop :=
  MetFree l y (headSpec ws rm) Pc (fun _ _ _ _ _ => True) (vx_Q Qc XC mc ms free)
def vx_Post (XC : String → State → State → Prop) (mc ms : Nat) (free : Addr → Prop) : Pt → Array Value → Addr → Pt → Prop := fun A a q B =>
  ∃ (g : JFrame) (mk : MethodId) (t : State) (L : List Loc) (E : String) (ce : Cell), B.U.heap = t.heap ∧ B.U.vm = t.vm ∧ XC E (A.U.calling g mk a) t ∧ t.heap[q]? = some ce ∧ ce.vm = .none ∧ A.U.vm.findClass E = some ce.cls ∧ B.locs = A.locs ++ L ∧ (∀ z ∈ L, free z.base) ∧ B.cells = A.cells + mc ∧ B.slots = A.slots + ms
def vx_Back (l : Launch) (R : Room) (p : Program) (e : Env) (below : List Frame) (s : State) (sargs : Array Value) (y : MethodName) (len W9 : Nat)
    (Pre : Pt → Array Value → Prop) (Post : Pt → Array Value → Option Value → Pt → Prop) (PostX : Pt → Array Value → Addr → Pt → Prop) : Prop :=
  ∀ (m : MethodId) (meth : Method) (c : Code) (A : Pt) (g : JFrame) (ig : Instr) (mk : MethodId) (a : Array Value),
    Stand p l e R s m sargs below meth c A.U A.locs A.cells A.slots → g.method = m → g.locals.size = c.maxLocals → decode c.code g.pc = .ok (ig, len) →
    2 * g.monitorRoom + (g.stack.map fun v => v.category).sum ≤ W9 → A.U.methodNamed? y = some mk → Pre A a →
    (∃ (v : Option Value) (B : Pt), Stand p l e R s m sargs below meth c B.U B.locs B.cells B.slots ∧ Post A a v B ∧
      Steps p.tables e below (doInvoke e (A.U.setTop g) [] mk a).1 (B.U.setTop { g with pc := g.pc + len, stack := v.toList ++ g.stack })) ∨
    (∃ (q : Addr) (B : Pt), Stand p l e R s m sargs below meth c B.U B.locs B.cells B.slots ∧ PostX A a q B ∧
      Steps p.tables e below (doInvoke e (A.U.setTop g) [] mk a).1 ((B.U.setTop g).pushFrame (.throwing q)))
section Payer
variable {l : Launch} {R : Room} {p : Program} {e : Env} {below : List Frame} {s : State} {sargs : Array Value} {y : MethodName} {len W9 : Nat}
theorem vx_back {ws : List Cond} {rm : Room} {Pc : Array Value → State → Prop} {Qc : Array Value → State → Outcome → State → Prop} {XC : String → State → State → Prop} {mc ms : Nat} {free : Addr → Prop} {bytes : ByteArray} {maxL : Nat} {ret : Option FieldType}
    (hM : vx_Met l y ws rm Pc Qc XC mc ms free) (hblind : FrameBlind Pc) (hrc : rm.cells = mc) (hrs : rm.slots = ms)
    (hframes : rm.frames + 1 ≤ R.frames) (hlocals : W9 + (maxL + 11) + rm.locals ≤ R.locals)
    (hws : ∀ w ∈ ws, ∀ a' U, s.WarmedH U.vm → w.before a' U = true) (hcode : Cond.code y bytes maxL ret ∈ ws) (hinit : ∀ a' U, s.WarmedH U.vm → (Cond.initialized y.cls).before a' U = true) :
    vx_Back l R p e below s sargs y len W9 (PreOf R mc ms Pc) (PostOf Qc mc ms free) (vx_Post XC mc ms free) := by
  intro m meth c A g ig mk a X hg hsize hdg hW hn hp
  have h1 : (headSpec ws rm).pre.before a A.U = true := atoms_intro fun w hw => hws w hw _ _ X.warmed
  have h2 : (Cond.code y bytes maxL ret).before a A.U = true := hws _ hcode _ _ X.warmed
  have h3 : (Cond.initialized y.cls).before a A.U = true := hinit _ _ X.warmed
  have h4 : A.cells + (headSpec ws rm).room.cells ≤ R.cells := by rw [show (headSpec ws rm).room.cells = mc from hrc]; exact hp.1
  have h5 : A.slots + (headSpec ws rm).room.slots ≤ R.slots := by rw [show (headSpec ws rm).room.slots = ms from hrs]; exact hp.2.1
  have hPc : Pc a (A.U.calling g mk a) := hblind _ _ _ _ hp.2.2
  obtain ⟨U, Ls, c0, s0⟩ := A
  dsimp only [Pt.U, Pt.locs, Pt.cells, Pt.slots] at h1 h2 h3 h4 h5 X hn hPc ⊢
  obtain ⟨methY, cY, hmY, hcY, -, hlY, -, -, -, -⟩ := Cond.code_spec hn h2
  obtain ⟨kY, hkY, -⟩ := className_of_methodNamed hn
  have hinitY : kY.init = .initialized := Cond.initialized_spec (findClass_of_methodNamed hn) hkY h3
  have h : At U g.method c below := by rw [hg]; exact X.here
  have hlocals9 : W9 + (maxL + 11) + (headSpec ws rm).room.locals ≤ R.locals := hlocals
  have happ : (headSpec ws rm).appliesLoose y e.platform (U.calling g mk a) = true :=
    Spec.appliesLoose_calling (g := g) h hdg hn hkY hinitY
      (X.room_calling (g := g) (R' := (headSpec ws rm).room) hsize hmY hcY hframes (by rw [hlY]; omega) h4 h5) h1
  obtain ⟨mid, hmid⟩ := h.above
  have hfr : (U.setTop g).frames = (.java g :: mid) ++ below := by rw [State.frames_setTop' g h.top, hmid]; rfl
  obtain ⟨o, s₂, hsteps, -, hend, hq⟩ := Steps.callFree hM p X.admits X.cas X.clock (acts := []) hfr happ hPc trivial
  have hq' : vx_Q Qc XC mc ms free a (U.calling g mk a) o s₂ := hq
  rw [State.frames_setTop' g h.top] at hend
  obtain ⟨g₀, hg0⟩ := Option.isSome_iff_exists.mp h.top
  obtain ⟨r, hr⟩ := State.topJava?_eq_some.mp hg0
  have hr' : (({ U with heap := s₂.heap, slotsUsed := s₂.slotsUsed } : State).setVm s₂.vm).frames = .java g₀ :: r := hr
  rcases hq' with ⟨hqc, L, hfe, hL⟩ | ⟨q, rfl, E, ce, L, hx, hce, hcv, hcl, hW₂, hsm, hL⟩
  · obtain ⟨⟨v, rfl⟩, hW₂, e2, q2, q3, q4, q5, q6⟩ := id hfe
    have e3 : s₂ = ({ (U.calling g mk a).setFrames s₂.frames with heap := s₂.heap, slotsUsed := s₂.slotsUsed } : State).setVm s₂.vm := by
      have : s₂ = ({ s₂ with vm := (U.calling g mk a).vm } : State).setVm s₂.vm := rfl
      rw [e2] at this
      exact this
    obtain ⟨c₂, i₂, len₂, hc₂, hd₂, hf₂⟩ := hend
    have hW' : U.WarmedH s₂.vm := hW₂
    have hcc : c₂ = c := by
      have h1 : s₂.code? g.method = U.code? g.method := by
        rw [State.code?_eq, State.code?_eq, hW'.alike.method?]
      exact Option.some.inj (hc₂.symm.trans (h1.trans h.code))
    subst hcc
    have hlen : len₂ = len := by rw [hdg] at hd₂; cases hd₂; rfl
    subst hlen
    have hs₂ : s₂ = (({ U with heap := s₂.heap, slotsUsed := s₂.slotsUsed } : State).setVm s₂.vm).setTop { g with pc := g.pc + len₂, stack := v.toList ++ g.stack } := by
      refine e3.trans ?_
      rw [hf₂, State.calling_eq h.top, State.setFrames_setFrames, State.setTop_of_frames _ hr', hr]
      rfl
    have hsame : U.sameButNew ({ U with heap := s₂.heap, slotsUsed := s₂.slotsUsed } : State) L mc ms := by
      refine ⟨?_, q2, q3, q4, q5, q6⟩
      obtain ⟨t, ht, -⟩ := State.frames_cons hr
      show ({ U with heap := s₂.heap, slotsUsed := s₂.slotsUsed } : State) = { U.setFrames U.frames with heap := s₂.heap, slotsUsed := s₂.slotsUsed }
      rw [State.setFrames_self ht]
    subst hg
    refine Or.inl ⟨v, ⟨(({ U with heap := s₂.heap, slotsUsed := s₂.slotsUsed } : State).setVm s₂.vm), Ls ++ L, c0 + mc, s0 + ms⟩,
      ⟨X.admits, X.cas, X.clock, X.frames, X.room, X.hears, X.method, X.code, (X.here.setHeapUsed s₂.heap s₂.slotsUsed).setVm hW'.alike, X.tail, State.WarmedH.trans X.warmed hW', X.limits, X.bytes, X.same.trans (hsame.setVm s.vm)⟩,
      ⟨g, mk, s₂, L, rfl, rfl, hqc, rfl, hL, rfl, rfl⟩, ?_⟩
    show Steps p.tables e below _ ((({ U with heap := s₂.heap, slotsUsed := s₂.slotsUsed } : State).setVm s₂.vm).setTop { g with pc := g.pc + len₂, stack := v.toList ++ g.stack })
    rw [← hs₂]
    exact hsteps
  · obtain ⟨e2, q2, q3, q4, q5, q6⟩ := id hsm
    have e3 : s₂ = ({ (U.calling g mk a).setFrames s₂.frames with heap := s₂.heap, slotsUsed := s₂.slotsUsed } : State).setVm s₂.vm := by
      have : s₂ = ({ s₂ with vm := (U.calling g mk a).vm } : State).setVm s₂.vm := rfl
      rw [e2] at this
      exact this
    have hf₂ : s₂.frames = .throwing q :: .java g :: U.frames.tail := hend
    have hW' : U.WarmedH s₂.vm := hW₂
    have hs₂ : s₂ = ((({ U with heap := s₂.heap, slotsUsed := s₂.slotsUsed } : State).setVm s₂.vm).setTop g).pushFrame (.throwing q) := by
      refine e3.trans ?_
      rw [hf₂, State.calling_eq h.top, State.setFrames_setFrames, State.pushFrame, State.frames_setTop _ hr', State.setTop_of_frames _ hr', State.setFrames_setFrames, hr]
      rfl
    have hsame : U.sameButNew ({ U with heap := s₂.heap, slotsUsed := s₂.slotsUsed } : State) L mc ms := by
      refine ⟨?_, q2, q3, q4, q5, q6⟩
      obtain ⟨t, ht, -⟩ := State.frames_cons hr
      show ({ U with heap := s₂.heap, slotsUsed := s₂.slotsUsed } : State) = { U.setFrames U.frames with heap := s₂.heap, slotsUsed := s₂.slotsUsed }
      rw [State.setFrames_self ht]
    subst hg
    refine Or.inr ⟨q, ⟨(({ U with heap := s₂.heap, slotsUsed := s₂.slotsUsed } : State).setVm s₂.vm), Ls ++ L, c0 + mc, s0 + ms⟩,
      ⟨X.admits, X.cas, X.clock, X.frames, X.room, X.hears, X.method, X.code, (X.here.setHeapUsed s₂.heap s₂.slotsUsed).setVm hW'.alike, X.tail, State.WarmedH.trans X.warmed hW', X.limits, X.bytes, X.same.trans (hsame.setVm s.vm)⟩,
      ⟨g, mk, s₂, L, E, ce, rfl, rfl, hx, hce, hcv, hcl, rfl, hL, rfl, rfl⟩, ?_⟩
    show Steps p.tables e below _ (((({ U with heap := s₂.heap, slotsUsed := s₂.slotsUsed } : State).setVm s₂.vm).setTop g).pushFrame (.throwing q))
    rw [← hs₂]
    exact hsteps
end Payer
section Calls
variable {p : Program} {l : Launch} {e : Env} {R : Room} {s : State} {m : MethodId} {args : Array Value} {below : List Frame} {meth : Method} {c : Code} {T : State} {locs : List Loc} {cells slots : Nat}
theorem vx_callV (X : Stand p l e R s m args below meth c T locs cells slots) (hexec : p.tables.exec = Jvm.exec) {own C : String} {index : Nat} {y : MethodName} {bytes : ByteArray} {maxL : Nat} {ret : Option FieldType}
    (hown : s.vm.findClass own = some m.cls) (hlink : (Cond.methodLink own index y).before args s = true) (hinst : (Cond.instanceMethod y).before args s = true) (hsel : (Cond.selects C y y).before args s = true)
    (hcode : (Cond.code y bytes maxL ret).before args s = true) (hy : y.cls ≠ "java/lang/invoke/MethodHandle" ∧ y.cls ≠ "java/lang/invoke/VarHandle")
    {W9 : Nat} {Pre : Pt → Array Value → Prop} {Post : Pt → Array Value → Option Value → Pt → Prop} {PostX : Pt → Array Value → Addr → Pt → Prop} (hK : vx_Back l R p e below s args y 3 W9 Pre Post PostX)
    {b : Addr} {cellB : Cell} (hcell : T.heap[b]? = some cellB) (hobj : cellB.vm.isStatics = false) (hcls : s.vm.findClass C = some cellB.cls)
    {g : JFrame} (hg : g.method = m) (hsize : g.locals.size = c.maxLocals) {argsL rest : List Value} (hlen : ∀ sig, parseMethodDescriptor y.desc = some sig → argsL.length = sig.parameters.length)
    (hstack : g.stack = argsL.reverse ++ .ref b :: rest) (hW : 2 * g.monitorRoom + (rest.map fun v => v.category).sum ≤ W9) (hdg : decode c.code g.pc = .ok (.invokevirtual index, 3))
    (hpre : ∀ vm₁, s.WarmedH vm₁ → Pre ⟨T.setVm vm₁, locs, cells, slots⟩ (Value.ref b :: argsL).toArray) :
    (∃ (v : Option Value) (vm₁ : Vm) (B : Pt), s.WarmedH vm₁ ∧ Stand p l e R s m args below meth c B.U B.locs B.cells B.slots ∧ Post ⟨T.setVm vm₁, locs, cells, slots⟩ (Value.ref b :: argsL).toArray v B ∧
      ∀ target, Steps p.tables e below (B.U.setTop { g with pc := g.pc + 3, stack := v.toList ++ rest }) target → Steps p.tables e below (T.setTop g) target) ∨
    (∃ (q : Addr) (vm₁ : Vm) (B : Pt), s.WarmedH vm₁ ∧ Stand p l e R s m args below meth c B.U B.locs B.cells B.slots ∧ PostX ⟨T.setVm vm₁, locs, cells, slots⟩ (Value.ref b :: argsL).toArray q B ∧
      Steps p.tables e below (T.setTop g) ((B.U.setTop { g with stack := rest }).pushFrame (.throwing q))) := by
  obtain ⟨mk, methM, hnamed, hmethM, hstM, habM⟩ := Cond.instanceMethod_spec hinst
  obtain ⟨methM', cM, hmethM', -, -, -, -, -, -, hsigM⟩ := Cond.code_spec hnamed hcode
  cases hmethM.symm.trans hmethM'
  obtain ⟨c2, r2, m2, q1, q2, q3, q4, kP, hkP, hkPi⟩ := Cond.selects_spec hsel
  cases hcls.symm.trans q1
  cases (State.methodFound?_of_named hnamed hy).symm.trans q2
  cases hnamed.symm.trans q3
  have hselP : selectMethod e.platform s.vm cellB.cls mk = .method mk := by rw [Launch.admits_selectMethod X.admits]; exact q4
  obtain ⟨vm₁, X₁, hstep₁⟩ := X.invokevirtual hexec hown hlink hnamed hmethM hstM hkP hkPi hy (a := b) (cell := cellB) hcell
    (fun z h => by rw [h] at hobj; cases hobj) hselP hmethM habM hkP hkPi (g := g) hg (argsL := argsL) (rest := rest) (hlen _ hsigM) hstack hdg
  rcases hK m meth c ⟨T.setVm vm₁, locs, cells, slots⟩ { g with stack := rest } (.invokevirtual index) mk (Value.ref b :: argsL).toArray X₁ hg hsize hdg hW (X₁.named hnamed) (hpre vm₁ X₁.warmed) with ⟨v, B, X', hpost, hsteps⟩ | ⟨q, B, X', hpost, hsteps⟩
  · exact Or.inl ⟨v, vm₁, B, X₁.warmed, X', hpost, fun target h => hstep₁ _ fun acts => by rw [doInvoke_state]; exact hsteps.trans h⟩
  · exact Or.inr ⟨q, vm₁, B, X₁.warmed, X', hpost, hstep₁ _ fun acts => by rw [doInvoke_state]; exact hsteps⟩
theorem vx_callS (X : Stand p l e R s m args below meth c T locs cells slots) (hexec : p.tables.exec = Jvm.exec) {own : String} {index : Nat} {y : MethodName} {bytes : ByteArray} {maxL : Nat} {ret : Option FieldType}
    (hown : s.vm.findClass own = some m.cls) (hlink : (Cond.methodLink own index y).before args s = true) (hstat : (Cond.static y).before args s = true) (hinit : (Cond.initialized y.cls).before args s = true)
    (hcode : (Cond.code y bytes maxL ret).before args s = true) (hy : y.cls ≠ "java/lang/invoke/MethodHandle" ∧ y.cls ≠ "java/lang/invoke/VarHandle")
    {W9 : Nat} {Pre : Pt → Array Value → Prop} {Post : Pt → Array Value → Option Value → Pt → Prop} {PostX : Pt → Array Value → Addr → Pt → Prop} (hK : vx_Back l R p e below s args y 3 W9 Pre Post PostX)
    {g : JFrame} (hg : g.method = m) (hsize : g.locals.size = c.maxLocals) {argsL rest : List Value} (hlen : ∀ sig, parseMethodDescriptor y.desc = some sig → argsL.length = sig.parameters.length)
    (hstack : g.stack = argsL.reverse ++ rest) (hW : 2 * g.monitorRoom + (rest.map fun v => v.category).sum ≤ W9) (hdg : decode c.code g.pc = .ok (.invokestatic index, 3))
    (hpre : ∀ vm₁, s.WarmedH vm₁ → Pre ⟨T.setVm vm₁, locs, cells, slots⟩ argsL.toArray) :
    (∃ (v : Option Value) (vm₁ : Vm) (B : Pt), s.WarmedH vm₁ ∧ Stand p l e R s m args below meth c B.U B.locs B.cells B.slots ∧ Post ⟨T.setVm vm₁, locs, cells, slots⟩ argsL.toArray v B ∧
      ∀ target, Steps p.tables e below (B.U.setTop { g with pc := g.pc + 3, stack := v.toList ++ rest }) target → Steps p.tables e below (T.setTop g) target) ∨
    (∃ (q : Addr) (vm₁ : Vm) (B : Pt), s.WarmedH vm₁ ∧ Stand p l e R s m args below meth c B.U B.locs B.cells B.slots ∧ PostX ⟨T.setVm vm₁, locs, cells, slots⟩ argsL.toArray q B ∧
      Steps p.tables e below (T.setTop g) ((B.U.setTop { g with stack := rest }).pushFrame (.throwing q))) := by
  obtain ⟨mk, hnamed⟩ := Cond.code_named hcode
  obtain ⟨methM, cM, hmethM, -, -, -, -, -, -, hsigM⟩ := Cond.code_spec hnamed hcode
  have hstatic : methM.isStatic = true := Cond.static_spec hnamed hmethM hstat
  obtain ⟨kP, hkP, -⟩ := className_of_methodNamed hnamed
  have hinitP : kP.init = .initialized := Cond.initialized_spec (findClass_of_methodNamed hnamed) hkP hinit
  obtain ⟨vm₁, X₁, hstep₁⟩ := X.invokestatic hexec hown hlink hnamed hmethM hstatic hkP hinitP hy (g := g) hg (argsL := argsL) (rest := rest) (hlen _ hsigM) hstack hdg
  rcases hK m meth c ⟨T.setVm vm₁, locs, cells, slots⟩ { g with stack := rest } (.invokestatic index) mk argsL.toArray X₁ hg hsize hdg hW (X₁.named hnamed) (hpre vm₁ X₁.warmed) with ⟨v, B, X', hpost, hsteps⟩ | ⟨q, B, X', hpost, hsteps⟩
  · exact Or.inl ⟨v, vm₁, B, X₁.warmed, X', hpost, fun target h => hstep₁ _ fun acts => by rw [doInvoke_state]; exact hsteps.trans h⟩
  · exact Or.inr ⟨q, vm₁, B, X₁.warmed, X', hpost, hstep₁ _ fun acts => by rw [doInvoke_state]; exact hsteps⟩
end Calls
theorem vx_cls {s : State} {T : State} {vm₁ : Vm} {E : String} {k : ClassId} (hW : s.WarmedH vm₁) (h : (T.setVm vm₁).vm.findClass E = some k) : s.vm.findClass E = some k := by
  have h1 : vm₁.findClass E = some k := h
  rw [hW.alike.findClass] at h1
  exact h1
/-- the method's frame g, with q thrown over it -/
def vx_W (p : Program) (l : Launch) (e : Env) (R : Room) (s : State) (m : MethodId) (args : Array Value) (below : List Frame) (meth : Method) (c : Code) (H : Heap) (locs : List Loc) (cells slots : Nat) (Q : State → Prop) (g : JFrame) (q : Addr) : Prop :=
  ∀ T : State, T.heap = H → Stand p l e R s m args below meth c T locs cells slots → ∃ t, Steps p.tables e below ((T.setTop g).pushFrame (.throwing q)) t ∧ Q t
def vx_Run (p : Program) (l : Launch) (e : Env) (R : Room) (s : State) (m : MethodId) (args : Array Value) (below : List Frame) (meth : Method) (c : Code) (H : Heap) (locs : List Loc) (cells slots mc ms : Nat) (g : JFrame) (rest : List Value) (Qa : State → Outcome → State → Prop) (XC : String → State → State → Prop) (free : Addr → Prop) : Prop :=
  ∀ T : State, T.heap = H → Stand p l e R s m args below meth c T locs cells slots →
    (∃ (v : Option Value) (st₀ t T' : State) (L : List Loc), st₀.heap = H ∧ Stand p l e R s m args below meth c T' (locs ++ L) (cells + mc) (slots + ms) ∧ (∀ q ∈ L, free q.base) ∧ T'.heap = t.heap ∧ T'.vm = t.vm ∧ Qa st₀ (.returned v) t ∧
      Goes p e below T g T' { g with pc := g.pc + 3, stack := v.toList ++ rest }) ∨
    (∃ (q : Addr) (st₀ t T' : State) (L : List Loc) (E : String) (ce : Cell), st₀.heap = H ∧ Stand p l e R s m args below meth c T' (locs ++ L) (cells + mc) (slots + ms) ∧ (∀ z ∈ L, free z.base) ∧ T'.heap = t.heap ∧ T'.vm = t.vm ∧ XC E st₀ t ∧ t.heap[q]? = some ce ∧ ce.vm = .none ∧ s.vm.findClass E = some ce.cls ∧
      Steps p.tables e below (T.setTop g) ((T'.setTop { g with stack := rest }).pushFrame (.throwing q)))
def vx_X {S : Type} (px : S → Prop) (B : String → S → State → Prop) (A : Nat → Prop) : String → State → State → Prop := fun E st t => ∃ u : S, px u ∧ B E u t ∧ va_F A st t
section Runs
variable {p : Program} {l : Launch} {e : Env} {R : Room} {s : State} {m : MethodId} {args : Array Value} {below : List Frame} {meth : Method} {c : Code} {H : Heap} {locs : List Loc} {cells slots : Nat}
variable {y : MethodName} {bytes cc : ByteArray} {maxL nL mc ms n index : Nat} {ret : Option FieldType} {ws : List Cond} {rm : Room} {Pc : Array Value → State → Prop} {Qc : Array Value → State → Outcome → State → Prop} {XC : String → State → State → Prop} {free : Addr → Prop} {Ts : List Cond} {own C : String} {b : Addr} {As rest : List Value} {g : JFrame}
theorem vx_callBack (cb : CallB R s args own index y bytes maxL ret ws rm mc ms n) (hM : vx_Met l y ws rm Pc Qc XC mc ms free) (hbl : FrameBlind Pc) : vx_Back l R p e below s args y 3 8 (PreOf R mc ms Pc) (PostOf Qc mc ms free) (vx_Post XC mc ms free) := by
  obtain ⟨hrc, hrs, hfr, hlo, hws, hcw, -, hini, -⟩ := cb
  exact vx_back (bytes := bytes) (maxL := maxL) (ret := ret) hM hbl hrc hrs hfr hlo hws hcw (fun a' U hW => word_at hW (Or.inl (by first | rfl | simp [Cond.onTables, Cond.keeps, Cond.steady])) hini)
theorem vx_runV (S : CallFix p m c cc nL s args Ts own) (hM : vx_Met l y ws rm Pc Qc XC mc ms free) (cw : CallW R s args own C index y bytes maxL ret ws rm mc ms n) (hp : PreV s H C b Pc As)
    (hg : g.method = m) (hn : As.length = n) (hsize : g.locals.size = nL) (hstack : g.stack = As.reverse ++ .ref b :: rest) (hW : 2 * g.monitorRoom + (rest.map fun v => v.category).sum ≤ 8) (hdg : decode cc g.pc = .ok (.invokevirtual index, 3)) (hf : cells + mc ≤ R.cells ∧ slots + ms ≤ R.slots) :
    vx_Run p l e R s m args below meth c H locs cells slots mc ms g rest (Qc (Value.ref b :: As).toArray) XC free := by
  have hK : vx_Back l R p e below s args y 3 8 (PreOf R mc ms Pc) (PostOf Qc mc ms free) (vx_Post XC mc ms free) := vx_callBack cw.1 hM hp.1
  obtain ⟨⟨-, -, -, -, -, -, hcode, -, hy, hlen, hl⟩, hin, hse⟩ := cw
  obtain ⟨hx, hb, hml, ho, -⟩ := S
  obtain ⟨-, ⟨cellB, hcB, hoB, hclB⟩, hPc⟩ := hp
  intro T hT X
  rcases vx_callV X hx (C := C) (bytes := bytes) (maxL := maxL) (ret := ret) ho hl hin hse hcode hy hK (by rw [hT]; exact hcB) hoB hclB hg (hsize.trans hml.symm) (argsL := As) (rest := rest) (fun sig h => hn.trans (hlen sig h)) hstack hW (by rw [hb]; exact hdg)
    (fun vm₁ hW₁ => ⟨hf.1, hf.2, hPc (T.setVm vm₁) hT hW₁⟩) with ⟨v, vm₁, ⟨U', l2, c2, s2⟩, hW₁, X', ⟨g', mk, t, L, e1, e2, hq, h1, hL, h2, h3⟩, st⟩ | ⟨q, vm₁, ⟨U', l2, c2, s2⟩, hW₁, X', ⟨g', mk, t, L, E, ce, e1, e2, hq, hce, hcv, hcl, h1, hL, h2, h3⟩, st⟩
  · dsimp only [Pt.U, Pt.locs, Pt.cells, Pt.slots] at X' e1 e2 h1 h2 h3 st
    subst h1; subst h2; subst h3
    exact Or.inl ⟨v, (T.setVm vm₁).calling g' mk (Value.ref b :: As).toArray, t, U', L, hT, X', hL, e1, e2, hq, st⟩
  · dsimp only [Pt.U, Pt.locs, Pt.cells, Pt.slots] at X' e1 e2 h1 h2 h3 st hcl
    subst h1; subst h2; subst h3
    exact Or.inr ⟨q, (T.setVm vm₁).calling g' mk (Value.ref b :: As).toArray, t, U', L, E, ce, hT, X', hL, e1, e2, hq, hce, hcv, vx_cls hW₁ hcl, st⟩
theorem vx_runS (S : CallFix p m c cc nL s args Ts own) (hM : vx_Met l y ws rm Pc Qc XC mc ms free) (cw : CallB R s args own index y bytes maxL ret ws rm mc ms n ∧ (Cond.static y).before args s = true) (hp : PreS s H Pc As)
    (hg : g.method = m) (hn : As.length = n) (hsize : g.locals.size = nL) (hstack : g.stack = As.reverse ++ rest) (hW : 2 * g.monitorRoom + (rest.map fun v => v.category).sum ≤ 8) (hdg : decode cc g.pc = .ok (.invokestatic index, 3)) (hf : cells + mc ≤ R.cells ∧ slots + ms ≤ R.slots) :
    vx_Run p l e R s m args below meth c H locs cells slots mc ms g rest (Qc As.toArray) XC free := by
  have hK : vx_Back l R p e below s args y 3 8 (PreOf R mc ms Pc) (PostOf Qc mc ms free) (vx_Post XC mc ms free) := vx_callBack cw.1 hM hp.1
  obtain ⟨⟨-, -, -, -, -, -, hcode, hini, hy, hlen, hl⟩, hstt⟩ := cw
  obtain ⟨hx, hb, hml, ho, -⟩ := S
  intro T hT X
  rcases vx_callS X hx (bytes := bytes) (maxL := maxL) (ret := ret) ho hl hstt hini hcode hy hK hg (hsize.trans hml.symm) (argsL := As) (rest := rest) (fun sig h => hn.trans (hlen sig h)) hstack hW (by rw [hb]; exact hdg)
    (fun vm₁ hW₁ => ⟨hf.1, hf.2, hp.2 (T.setVm vm₁) hT hW₁⟩) with ⟨v, vm₁, ⟨U', l2, c2, s2⟩, hW₁, X', ⟨g', mk, t, L, e1, e2, hq, h1, hL, h2, h3⟩, st⟩ | ⟨q, vm₁, ⟨U', l2, c2, s2⟩, hW₁, X', ⟨g', mk, t, L, E, ce, e1, e2, hq, hce, hcv, hcl, h1, hL, h2, h3⟩, st⟩
  · dsimp only [Pt.U, Pt.locs, Pt.cells, Pt.slots] at X' e1 e2 h1 h2 h3 st
    subst h1; subst h2; subst h3
    exact Or.inl ⟨v, (T.setVm vm₁).calling g' mk As.toArray, t, U', L, hT, X', hL, e1, e2, hq, st⟩
  · dsimp only [Pt.U, Pt.locs, Pt.cells, Pt.slots] at X' e1 e2 h1 h2 h3 st hcl
    subst h1; subst h2; subst h3
    exact Or.inr ⟨q, (T.setVm vm₁).calling g' mk As.toArray, t, U', L, E, ce, hT, X', hL, e1, e2, hq, hce, hcv, vx_cls hW₁ hcl, st⟩
end Runs
section Rows
variable {p : Program} {l : Launch} {e : Env} {R : Room} {s : State} {m : MethodId} {args : Array Value} {below : List Frame} {meth : Method} {c : Code} {H : Heap} {locs : List Loc} {cells slots : Nat} {Q : State → Prop}
variable {mc ms : Nat} {free : Addr → Prop} {A0 A1 : Nat → Prop} {H0 : Heap} {a : Array Value} {pc : Nat} {ls : Array Slot} {st0 rest : List Value}
theorem vx_keep {st₀ t T' : State} {L : List Loc} (h0 : st₀.heap = H) (e1 : T'.heap = t.heap) (hS : va_S A0 H0 H locs) (hA : ∀ q, q < H.size → A1 q → A0 q) (hf : ∀ q, free q → A0 q) (hL : ∀ q ∈ L, free q.base) (hF : va_F A1 st₀ t) :
    H.size ≤ T'.heap.size ∧ (∀ q : Nat, q < H.size → ¬ A1 q → T'.heap[q]? = H[q]?) ∧ va_S A0 H0 T'.heap (locs ++ L) := by
  obtain ⟨hz, hk⟩ := hF
  rw [h0] at hz hk
  exact ⟨by rw [e1]; exact hz, fun q h1 h2 => by rw [e1]; exact hk q h1 h2,
    ⟨Nat.le_trans hS.1 (by rw [e1]; exact hz), fun q h1 h2 => by rw [e1, hk q (Nat.lt_of_lt_of_le h1 hS.1) (fun z => h2 (hA q (Nat.lt_of_lt_of_le h1 hS.1) z))]; exact hS.2.1 q h1 h2, fun q hq => by
      rcases List.mem_append.mp hq with h | h
      · exact hS.2.2 q h
      · exact hf _ (hL q h)⟩⟩
theorem vx_calli {S SX : Type} {post : Int32 → S → Prop} {px : SX → Prop} {B : S → State → Prop} {BX : String → SX → State → Prop} {AX : Nat → Prop} (hr : vx_Run p l e R s m args below meth c H locs cells slots mc ms (F0 m pc ls st0) rest (va_Qi post B A1 a) (vx_X px BX AX) free) (hS : va_S A0 H0 H locs) (hA : ∀ q, q < H.size → A1 q → A0 q) (hf : ∀ q, free q → A0 q) (hAX : ∀ q, q < H.size → AX q → A0 q)
    (kx : ∀ (E : String) (ce : Cell) (q9 : Addr) (u : SX) (t : State) (H1 : Heap) (locs1 : List Loc), t.heap = H1 → s.vm.Alike t.vm → px u → BX E u t → H.size ≤ H1.size → (∀ q : Nat, q < H.size → ¬ AX q → H1[q]? = H[q]?) → va_S A0 H0 H1 locs1 → H1[q9]? = some ce → ce.vm = .none → s.vm.findClass E = some ce.cls → vx_W p l e R s m args below meth c H1 locs1 (cells + mc) (slots + ms) Q (F0 m pc ls rest) q9)
    (kk : ∀ (r : Int32) (u : S) (t : State) (H1 : Heap) (locs1 : List Loc), t.heap = H1 → s.vm.Alike t.vm → post r u → B u t → H.size ≤ H1.size → (∀ q : Nat, q < H.size → ¬ A1 q → H1[q]? = H[q]?) → va_S A0 H0 H1 locs1 → W p l e R s m args below meth c H1 locs1 (cells + mc) (slots + ms) Q (F0 m (pc + 3) ls (.int r :: rest))) : W p l e R s m args below meth c H locs cells slots Q (F0 m pc ls st0) := by
  intro T hT X
  rcases hr T hT X with ⟨v, st₀, t, T', L, h0, X', hL, e1, e2, ⟨⟨r, u, hv, hp, hb⟩, hF⟩, st⟩ | ⟨q, st₀, t, T', L, E, ce, h0, X', hL, e1, e2, ⟨u, hp, hb, hF⟩, hce, hcv, hcl, st⟩
  · cases hv
    obtain ⟨k1, k2, k3⟩ := vx_keep h0 e1 hS hA hf hL hF
    obtain ⟨t2, a1, b1⟩ := kk r u t T'.heap (locs ++ L) e1.symm (by rw [← e2]; exact X'.warmed.alike) hp hb k1 k2 k3 T' rfl X'
    exact ⟨t2, st t2 a1, b1⟩
  · obtain ⟨k1, k2, k3⟩ := vx_keep h0 e1 hS hAX hf hL hF
    obtain ⟨t2, a1, b1⟩ := kx E ce q u t T'.heap (locs ++ L) e1.symm (by rw [← e2]; exact X'.warmed.alike) hp hb k1 k2 k3 (by rw [e1]; exact hce) hcv hcl T' rfl X'
    exact ⟨t2, st.trans a1, b1⟩
theorem vx_calll {S SX : Type} {post : Int64 → S → Prop} {px : SX → Prop} {B : S → State → Prop} {BX : String → SX → State → Prop} {AX : Nat → Prop} (hr : vx_Run p l e R s m args below meth c H locs cells slots mc ms (F0 m pc ls st0) rest (va_Ql post B A1 a) (vx_X px BX AX) free) (hS : va_S A0 H0 H locs) (hA : ∀ q, q < H.size → A1 q → A0 q) (hf : ∀ q, free q → A0 q) (hAX : ∀ q, q < H.size → AX q → A0 q)
    (kx : ∀ (E : String) (ce : Cell) (q9 : Addr) (u : SX) (t : State) (H1 : Heap) (locs1 : List Loc), t.heap = H1 → s.vm.Alike t.vm → px u → BX E u t → H.size ≤ H1.size → (∀ q : Nat, q < H.size → ¬ AX q → H1[q]? = H[q]?) → va_S A0 H0 H1 locs1 → H1[q9]? = some ce → ce.vm = .none → s.vm.findClass E = some ce.cls → vx_W p l e R s m args below meth c H1 locs1 (cells + mc) (slots + ms) Q (F0 m pc ls rest) q9)
    (kk : ∀ (r : Int64) (u : S) (t : State) (H1 : Heap) (locs1 : List Loc), t.heap = H1 → s.vm.Alike t.vm → post r u → B u t → H.size ≤ H1.size → (∀ q : Nat, q < H.size → ¬ A1 q → H1[q]? = H[q]?) → va_S A0 H0 H1 locs1 → W p l e R s m args below meth c H1 locs1 (cells + mc) (slots + ms) Q (F0 m (pc + 3) ls (.long r :: rest))) : W p l e R s m args below meth c H locs cells slots Q (F0 m pc ls st0) := by
  intro T hT X
  rcases hr T hT X with ⟨v, st₀, t, T', L, h0, X', hL, e1, e2, ⟨⟨r, u, hv, hp, hb⟩, hF⟩, st⟩ | ⟨q, st₀, t, T', L, E, ce, h0, X', hL, e1, e2, ⟨u, hp, hb, hF⟩, hce, hcv, hcl, st⟩
  · cases hv
    obtain ⟨k1, k2, k3⟩ := vx_keep h0 e1 hS hA hf hL hF
    obtain ⟨t2, a1, b1⟩ := kk r u t T'.heap (locs ++ L) e1.symm (by rw [← e2]; exact X'.warmed.alike) hp hb k1 k2 k3 T' rfl X'
    exact ⟨t2, st t2 a1, b1⟩
  · obtain ⟨k1, k2, k3⟩ := vx_keep h0 e1 hS hAX hf hL hF
    obtain ⟨t2, a1, b1⟩ := kx E ce q u t T'.heap (locs ++ L) e1.symm (by rw [← e2]; exact X'.warmed.alike) hp hb k1 k2 k3 (by rw [e1]; exact hce) hcv hcl T' rfl X'
    exact ⟨t2, st.trans a1, b1⟩
theorem vx_callf {S SX : Type} {post : UInt32 → S → Prop} {px : SX → Prop} {B : S → State → Prop} {BX : String → SX → State → Prop} {AX : Nat → Prop} (hr : vx_Run p l e R s m args below meth c H locs cells slots mc ms (F0 m pc ls st0) rest (va_Qf post B A1 a) (vx_X px BX AX) free) (hS : va_S A0 H0 H locs) (hA : ∀ q, q < H.size → A1 q → A0 q) (hf : ∀ q, free q → A0 q) (hAX : ∀ q, q < H.size → AX q → A0 q)
    (kx : ∀ (E : String) (ce : Cell) (q9 : Addr) (u : SX) (t : State) (H1 : Heap) (locs1 : List Loc), t.heap = H1 → s.vm.Alike t.vm → px u → BX E u t → H.size ≤ H1.size → (∀ q : Nat, q < H.size → ¬ AX q → H1[q]? = H[q]?) → va_S A0 H0 H1 locs1 → H1[q9]? = some ce → ce.vm = .none → s.vm.findClass E = some ce.cls → vx_W p l e R s m args below meth c H1 locs1 (cells + mc) (slots + ms) Q (F0 m pc ls rest) q9)
    (kk : ∀ (r : UInt32) (u : S) (t : State) (H1 : Heap) (locs1 : List Loc), t.heap = H1 → s.vm.Alike t.vm → post r u → B u t → H.size ≤ H1.size → (∀ q : Nat, q < H.size → ¬ A1 q → H1[q]? = H[q]?) → va_S A0 H0 H1 locs1 → W p l e R s m args below meth c H1 locs1 (cells + mc) (slots + ms) Q (F0 m (pc + 3) ls (.float r :: rest))) : W p l e R s m args below meth c H locs cells slots Q (F0 m pc ls st0) := by
  intro T hT X
  rcases hr T hT X with ⟨v, st₀, t, T', L, h0, X', hL, e1, e2, ⟨⟨r, u, hv, hp, hb⟩, hF⟩, st⟩ | ⟨q, st₀, t, T', L, E, ce, h0, X', hL, e1, e2, ⟨u, hp, hb, hF⟩, hce, hcv, hcl, st⟩
  · cases hv
    obtain ⟨k1, k2, k3⟩ := vx_keep h0 e1 hS hA hf hL hF
    obtain ⟨t2, a1, b1⟩ := kk r u t T'.heap (locs ++ L) e1.symm (by rw [← e2]; exact X'.warmed.alike) hp hb k1 k2 k3 T' rfl X'
    exact ⟨t2, st t2 a1, b1⟩
  · obtain ⟨k1, k2, k3⟩ := vx_keep h0 e1 hS hAX hf hL hF
    obtain ⟨t2, a1, b1⟩ := kx E ce q u t T'.heap (locs ++ L) e1.symm (by rw [← e2]; exact X'.warmed.alike) hp hb k1 k2 k3 (by rw [e1]; exact hce) hcv hcl T' rfl X'
    exact ⟨t2, st.trans a1, b1⟩
theorem vx_calld {S SX : Type} {post : UInt64 → S → Prop} {px : SX → Prop} {B : S → State → Prop} {BX : String → SX → State → Prop} {AX : Nat → Prop} (hr : vx_Run p l e R s m args below meth c H locs cells slots mc ms (F0 m pc ls st0) rest (va_Qd post B A1 a) (vx_X px BX AX) free) (hS : va_S A0 H0 H locs) (hA : ∀ q, q < H.size → A1 q → A0 q) (hf : ∀ q, free q → A0 q) (hAX : ∀ q, q < H.size → AX q → A0 q)
    (kx : ∀ (E : String) (ce : Cell) (q9 : Addr) (u : SX) (t : State) (H1 : Heap) (locs1 : List Loc), t.heap = H1 → s.vm.Alike t.vm → px u → BX E u t → H.size ≤ H1.size → (∀ q : Nat, q < H.size → ¬ AX q → H1[q]? = H[q]?) → va_S A0 H0 H1 locs1 → H1[q9]? = some ce → ce.vm = .none → s.vm.findClass E = some ce.cls → vx_W p l e R s m args below meth c H1 locs1 (cells + mc) (slots + ms) Q (F0 m pc ls rest) q9)
    (kk : ∀ (r : UInt64) (u : S) (t : State) (H1 : Heap) (locs1 : List Loc), t.heap = H1 → s.vm.Alike t.vm → post r u → B u t → H.size ≤ H1.size → (∀ q : Nat, q < H.size → ¬ A1 q → H1[q]? = H[q]?) → va_S A0 H0 H1 locs1 → W p l e R s m args below meth c H1 locs1 (cells + mc) (slots + ms) Q (F0 m (pc + 3) ls (.double r :: rest))) : W p l e R s m args below meth c H locs cells slots Q (F0 m pc ls st0) := by
  intro T hT X
  rcases hr T hT X with ⟨v, st₀, t, T', L, h0, X', hL, e1, e2, ⟨⟨r, u, hv, hp, hb⟩, hF⟩, st⟩ | ⟨q, st₀, t, T', L, E, ce, h0, X', hL, e1, e2, ⟨u, hp, hb, hF⟩, hce, hcv, hcl, st⟩
  · cases hv
    obtain ⟨k1, k2, k3⟩ := vx_keep h0 e1 hS hA hf hL hF
    obtain ⟨t2, a1, b1⟩ := kk r u t T'.heap (locs ++ L) e1.symm (by rw [← e2]; exact X'.warmed.alike) hp hb k1 k2 k3 T' rfl X'
    exact ⟨t2, st t2 a1, b1⟩
  · obtain ⟨k1, k2, k3⟩ := vx_keep h0 e1 hS hAX hf hL hF
    obtain ⟨t2, a1, b1⟩ := kx E ce q u t T'.heap (locs ++ L) e1.symm (by rw [← e2]; exact X'.warmed.alike) hp hb k1 k2 k3 (by rw [e1]; exact hce) hcv hcl T' rfl X'
    exact ⟨t2, st.trans a1, b1⟩
theorem vx_callv {S SX : Type} {post : S → Prop} {px : SX → Prop} {B : S → State → Prop} {BX : String → SX → State → Prop} {AX : Nat → Prop} (hr : vx_Run p l e R s m args below meth c H locs cells slots mc ms (F0 m pc ls st0) rest (va_Qv post B A1 a) (vx_X px BX AX) free) (hS : va_S A0 H0 H locs) (hA : ∀ q, q < H.size → A1 q → A0 q) (hf : ∀ q, free q → A0 q) (hAX : ∀ q, q < H.size → AX q → A0 q)
    (kx : ∀ (E : String) (ce : Cell) (q9 : Addr) (u : SX) (t : State) (H1 : Heap) (locs1 : List Loc), t.heap = H1 → s.vm.Alike t.vm → px u → BX E u t → H.size ≤ H1.size → (∀ q : Nat, q < H.size → ¬ AX q → H1[q]? = H[q]?) → va_S A0 H0 H1 locs1 → H1[q9]? = some ce → ce.vm = .none → s.vm.findClass E = some ce.cls → vx_W p l e R s m args below meth c H1 locs1 (cells + mc) (slots + ms) Q (F0 m pc ls rest) q9)
    (kk : ∀ (u : S) (t : State) (H1 : Heap) (locs1 : List Loc), t.heap = H1 → s.vm.Alike t.vm → post u → B u t → H.size ≤ H1.size → (∀ q : Nat, q < H.size → ¬ A1 q → H1[q]? = H[q]?) → va_S A0 H0 H1 locs1 → W p l e R s m args below meth c H1 locs1 (cells + mc) (slots + ms) Q (F0 m (pc + 3) ls (rest))) : W p l e R s m args below meth c H locs cells slots Q (F0 m pc ls st0) := by
  intro T hT X
  rcases hr T hT X with ⟨v, st₀, t, T', L, h0, X', hL, e1, e2, ⟨⟨u, hv, hp, hb⟩, hF⟩, st⟩ | ⟨q, st₀, t, T', L, E, ce, h0, X', hL, e1, e2, ⟨u, hp, hb, hF⟩, hce, hcv, hcl, st⟩
  · cases hv
    obtain ⟨k1, k2, k3⟩ := vx_keep h0 e1 hS hA hf hL hF
    obtain ⟨t2, a1, b1⟩ := kk u t T'.heap (locs ++ L) e1.symm (by rw [← e2]; exact X'.warmed.alike) hp hb k1 k2 k3 T' rfl X'
    exact ⟨t2, st t2 a1, b1⟩
  · obtain ⟨k1, k2, k3⟩ := vx_keep h0 e1 hS hAX hf hL hF
    obtain ⟨t2, a1, b1⟩ := kx E ce q u t T'.heap (locs ++ L) e1.symm (by rw [← e2]; exact X'.warmed.alike) hp hb k1 k2 k3 (by rw [e1]; exact hce) hcv hcl T' rfl X'
    exact ⟨t2, st.trans a1, b1⟩
end Rows
section Ends
variable {p : Program} {l : Launch} {e : Env} {R : Room} {s : State} {m : MethodId} {args : Array Value} {below : List Frame} {meth : Method} {c : Code} {H : Heap} {locs : List Loc} {cells slots : Nat} {Q : State → Prop}
variable {mc ms : Nat} {free : Addr → Prop} {A0 A1 : Nat → Prop} {H0 : Heap} {a : Array Value} {ls : Array Slot} {st0 rest : List Value}
variable {Qc : Array Value → State → Outcome → State → Prop} {XC : String → State → State → Prop}
/-- what a body that may throw owes at its end -/
def vx_MQ (below : List Frame) (Qc : Array Value → State → Outcome → State → Prop) (XC : String → State → State → Prop) (a : Array Value) (s : State) (mc ms : Nat) (free : Addr → Prop) : State → Prop := fun t =>
  ∃ o, t.status = .running ∧ Ended t below o ∧ vx_Q Qc XC mc ms free a s o t
theorem vx_ret {g : JFrame} {mc ms : Nat} (k : W p l e R s m args below meth c H locs cells slots (MQ below Qc args s mc ms free) g) : W p l e R s m args below meth c H locs cells slots (vx_MQ below Qc XC args s mc ms free) g := by
  intro T hT X
  obtain ⟨t, a1, o, b1, b2, b3, b4⟩ := k T hT X
  exact ⟨t, a1, o, b1, b2, Or.inl ⟨b3, b4⟩⟩
/-- not caught here: it goes on to the caller -/
theorem vx_widen {g : JFrame} {q : Addr} {k n : Nat} (h1 : cells ≤ k) (h2 : slots ≤ n) (kk : vx_W p l e R s m args below meth c H locs k n Q g q) : vx_W p l e R s m args below meth c H locs cells slots Q g q := fun T hT X => kk T hT (stand_widen X h1 h2)
theorem vx_out {pc : Nat} {E : String} {ce : Cell} {q : Addr} {mc ms : Nat} (hout : ∀ x ∈ c.exceptionTable.toList, covers x pc = false) (hlocks : meth.locks = false) (hcell : H[q]? = some ce) (hv : ce.vm = .none) (hcl : s.vm.findClass E = some ce.cls)
    (hx : ∀ t : State, t.heap = H → s.vm.Alike t.vm → XC E s t) (hf : ∀ z ∈ locs, free z.base) (hc : cells ≤ mc) (hs : slots ≤ ms) :
    vx_W p l e R s m args below meth c H locs cells slots (vx_MQ below Qc XC args s mc ms free) (F0 m pc ls rest) q := by
  intro T hT X
  obtain ⟨st1, hrun, hend, hW, hsm⟩ := X.leaveThrown q (g := F0 m pc ls rest) rfl rfl rfl hout hlocks
  have hcell9 : (T.setFrames (.throwing q :: below)).heap[q]? = some ce := by
    show T.heap[q]? = some ce
    rw [hT]; exact hcell
  exact ⟨_, st1, .threw q, hrun, hend, Or.inr ⟨q, rfl, E, ce, locs, hx _ hT hW.alike, hcell9, hv, hcl, hW, hsm.mono hc hs, hf⟩⟩
theorem vx_frame {U : State} {k n : Nat} (h : s.sameButNew ({ U with vm := s.vm } : State) locs k n) : s.heap.size ≤ U.heap.size ∧ ∀ q : Nat, q < s.heap.size → (∀ z ∈ locs, z.base ≠ q) → U.heap[q]? = s.heap[q]? := by
  obtain ⟨-, h2, -, -, -, h6⟩ := h
  refine ⟨h2, fun q hq hz => ?_⟩
  obtain ⟨c9, e1, e2, e3, e4⟩ := h6 q _ (Array.getElem?_eq_getElem hq)
  have hs : c9.slots = (s.heap[q]).slots := Array.ext_getElem? fun i => e4 i fun hm => hz _ hm rfl
  have h9 : c9 = s.heap[q] := by
    rw [hs] at e2
    exact e2
  have e5 : U.heap[q]? = some c9 := e1
  rw [e5, h9, Array.getElem?_eq_getElem hq]
/-- the words of a throw but the four that speak of the heap -/
def vx_no (w : Cond) : Bool := decide (w ≠ .isRef (.static Bundle.tN "UNASSIGNED_STACK" Bundle.steD)) && decide (w ≠ .isRef (.static Bundle.tN "SUPPRESSED_SENTINEL" Bundle.listD)) && decide (w ≠ .laysStatic Bundle.tN "UNASSIGNED_STACK" Bundle.steD) && decide (w ≠ .laysStatic Bundle.tN "SUPPRESSED_SENTINEL" Bundle.listD)
def vx_at0 (own : String) (ic : Nat) (X : String) (names : List String) : List Cond := (Bundle.ownAtoms0 own ic X names).filter vx_no
def vx_atS (own : String) (ic : Nat) (X : String) (names : List String) : List Cond := (Bundle.ownAtoms own ic X names).filter vx_no
/-- a word that the tables alone decide, or a good one -/
def vx_ot (w : Cond) : Bool := w.onTables || goodWord w
theorem vx_ot_at {args a' : Array Value} {s U : State} {w : Cond} (hW : s.WarmedH U.vm) (hvm : s.vm = U.vm) (hg : vx_ot w = true) (h : w.before args s = true) : w.before a' U = true := by
  simp only [vx_ot, Bool.or_eq_true] at hg
  rcases hg with hg | hg
  · exact va_tabs hg hvm h
  · exact word_at hW (good_of_word hg) h
/-- a list's words: the good ones out of the method's own list, the others by premises of their own -/
theorem vx_hat {args : Array Value} {s : State} {L B : List Cond} (h1 : ∀ w ∈ L.filter goodWord, w.before args s = true) (h2 : ∀ w ∈ L.filter (fun w => !goodWord w), w ∈ B) (h3 : ∀ w ∈ B, w.before args s = true) : ∀ w ∈ L, w.before args s = true := by
  intro w hw
  by_cases g : goodWord w = true
  · exact h1 w (List.mem_filter.mpr ⟨hw, g⟩)
  · refine h3 w (h2 w (List.mem_filter.mpr ⟨hw, ?_⟩))
    show (!goodWord w) = true
    cases hgw : goodWord w
    · rfl
    · exact absurd hgw g
theorem vx_c {args : Array Value} {s : State} {w : Cond} {B : List Cond} (h : w.before args s = true) (t : ∀ w ∈ B, w.before args s = true) : ∀ w' ∈ w :: B, w'.before args s = true := fun w' h' => (List.mem_cons.mp h').elim (fun e => by rw [e]; exact h) (t w')
theorem vx_n {args : Array Value} {s : State} : ∀ w ∈ ([] : List Cond), w.before args s = true := fun _ h => nomatch h
theorem vx_own {args : Array Value} {s : State} {L : List Cond} (h1 : ∀ w ∈ L.filter vx_no, w.before args s = true)
    (hU : (Cond.isRef (.static Bundle.tN "UNASSIGNED_STACK" Bundle.steD)).before args s = true) (hN : (Cond.isRef (.static Bundle.tN "SUPPRESSED_SENTINEL" Bundle.listD)).before args s = true)
    (lU : (Cond.laysStatic Bundle.tN "UNASSIGNED_STACK" Bundle.steD).before args s = true) (lN : (Cond.laysStatic Bundle.tN "SUPPRESSED_SENTINEL" Bundle.listD).before args s = true) : ∀ w ∈ L, w.before args s = true := by
  intro w hw
  by_cases e1 : w = .isRef (.static Bundle.tN "UNASSIGNED_STACK" Bundle.steD)
  · rw [e1]; exact hU
  · by_cases e2 : w = .isRef (.static Bundle.tN "SUPPRESSED_SENTINEL" Bundle.listD)
    · rw [e2]; exact hN
    · by_cases e3 : w = .laysStatic Bundle.tN "UNASSIGNED_STACK" Bundle.steD
      · rw [e3]; exact lU
      · by_cases e4 : w = .laysStatic Bundle.tN "SUPPRESSED_SENTINEL" Bundle.listD
        · rw [e4]; exact lN
        · exact h1 w (List.mem_filter.mpr ⟨hw, by unfold vx_no; rw [decide_eq_true e1, decide_eq_true e2, decide_eq_true e3, decide_eq_true e4]; rfl⟩)
/-- where a static field lies, its class's statics cell in H -/
def vx_L (C n d : String) (A : Nat → Prop) (U : State) (H : Heap) : Prop := ∃ (c : ClassId) (k : Class) (i : Nat) (f : Field) (a : Nat) (cell : Cell), U.vm.findClass C = some c ∧ U.fieldFound? C n d = some (c, k, i, f) ∧ f.isStatic = true ∧ k.statics = some a ∧ H[a]? = some cell ∧ cell.vm.isStatics = true ∧ cell.cls = c ∧ f.slot < cell.slots.size ∧ k.staticTypes[f.slot]? = some f.type ∧ ¬ A a
theorem vx_L.moved {C n d : String} {A : Nat → Prop} {u U : State} {H : Heap} (hvm : u.vm.Alike U.vm) (h : vx_L C n d A u H) : vx_L C n d A U H := by
  obtain ⟨c, k, i, f, a, cell, h1, h2, h3, h4, h5, h6, h7, h8, h9, h10⟩ := h
  obtain ⟨k', hi', he⟩ := State.fieldFound?_setVm hvm h2
  exact ⟨c, k', i, f, a, cell, by rw [hvm.findClass]; exact h1, hi', h3, by rw [he]; exact h4, h5, h6, h7, h8, by rw [he]; exact h9, h10⟩
theorem vx_L.kept {C n d : String} {A : Nat → Prop} {U : State} {H H1 : Heap} (h : vx_L C n d A U H) (hq : ∀ a : Nat, a < H.size → ¬ A a → H1[a]? = H[a]?) : vx_L C n d A U H1 := by
  obtain ⟨c, k, i, f, a, cell, h1, h2, h3, h4, h5, h6, h7, h8, h9, h10⟩ := h
  exact ⟨c, k, i, f, a, cell, h1, h2, h3, h4, by rw [hq a (Array.getElem?_eq_some_iff.mp h5).1 h10]; exact h5, h6, h7, h8, h9, h10⟩
theorem vx_L.narrow {C n d : String} {A B : Nat → Prop} {U : State} {H : Heap} (h : vx_L C n d A U H) (hAB : ∀ q, B q → A q) : vx_L C n d B U H := by
  obtain ⟨c, k, i, f, a, cell, h1, h2, h3, h4, h5, h6, h7, h8, h9, h10⟩ := h
  exact ⟨c, k, i, f, a, cell, h1, h2, h3, h4, h5, h6, h7, h8, h9, fun z => h10 (hAB _ z)⟩
theorem vx_L.word {C n d : String} {A : Nat → Prop} {s : State} {args : Array Value} (h : vx_L C n d A s s.heap) : (Cond.laysStatic C n d).before args s = true := by
  obtain ⟨c, k, i, f, a, cell, h1, h2, h3, h4, h5, h6, h7, h8, h9, -⟩ := h
  show (Cond.laysStatic C n d).holds args s none s [] = true
  exact Cond.laysStatic_of h1 h2 h3 h4 h5 h6 h7 h8 h9
/-- .. and what it holds: null or some reference -/
def vx_Zq (C n d : String) (A : Nat → Prop) (U : State) (H : Heap) : Prop := va_Zq C n d A U H ∧ vx_L C n d A U H
theorem vx_Zq.moved {C n d : String} {A : Nat → Prop} {u U : State} {H : Heap} (hvm : u.vm.Alike U.vm) (h : vx_Zq C n d A u H) : vx_Zq C n d A U H := ⟨va_Zq.moved hvm h.1, vx_L.moved hvm h.2⟩
theorem vx_Zq.kept {C n d : String} {A : Nat → Prop} {U : State} {H H1 : Heap} (h : vx_Zq C n d A U H) (hq : ∀ a : Nat, a < H.size → ¬ A a → H1[a]? = H[a]?) : vx_Zq C n d A U H1 := ⟨va_Zq.kept h.1 hq, vx_L.kept h.2 hq⟩
theorem vx_Zq.narrow {C n d : String} {A B : Nat → Prop} {U : State} {H : Heap} (h : vx_Zq C n d A U H) (hAB : ∀ q, B q → A q) : vx_Zq C n d B U H := ⟨va_Zq.narrow h.1 hAB, vx_L.narrow h.2 hAB⟩
theorem vx_Zqof {args : Array Value} {s : State} {C n d : String} {A : Nat → Prop} (hl : (Cond.laysStatic C n d).before args s = true) (hini : (Cond.initialized C).before args s = true) (h : (Cond.isRef (.static C n d)).before args s = true) (hA : ∀ a : Nat, a < s.heap.size → ¬ A a) : vx_Zq C n d A s s.heap := by
  refine ⟨va_Zqof hl hini h hA, ?_⟩
  obtain ⟨c, k, i, f, a, cell, h1, h2, h3, h4, h5, h6, h7, h8, h9⟩ := Cond.laysStatic_spec hl
  exact ⟨c, k, i, f, a, cell, h1, h2, h3, h4, h5, h6, h7, h8, h9, hA a (Array.getElem?_eq_some_iff.mp h5).1⟩
theorem vx_isRef {C n d : String} {v : Value} {A : Nat → Prop} {s : State} {args : Array Value} (h : va_Z C n d v A s s.heap) (hv : v.isRef = true) : (Cond.isRef (.static C n d)).before args s = true := by
  obtain ⟨cf, kf, fi, f, a, cell, h1, h2, h3, h4, h5, h6, h7, -⟩ := h
  have he : (Term.static C n d).eval args s none [] s = some v := by
    simp [Term.eval, State.fieldNamed?, h1, h2, h4, h5, h6, h7]
  simp only [Cond.before, Cond.holds, Cond.value, he]
  cases v <;> simp_all [Value.isRef]
theorem vx_isRefq {C n d : String} {A : Nat → Prop} {s : State} {args : Array Value} (h : va_Zq C n d A s s.heap) : (Cond.isRef (.static C n d)).before args s = true := by
  rcases h with h | ⟨t, h⟩
  · exact vx_isRef h rfl
  · exact vx_isRef h rfl
/-- the same frame, seen from here: as if the method were called anew in this heap -/
theorem vx_rebase {T : State} (X : Stand p l e R s m args below meth c T locs cells slots) {R' : Room} (hf : R'.frames ≤ R.frames) (hl : R'.locals ≤ R.locals) (hc : cells + R'.cells ≤ R.cells) (hs : slots + R'.slots ≤ R.slots) :
    Stand p l e R' ((T.setVm s.vm).setFrames (.invoking m args :: below)) m args below meth c T [] 0 0 := by
  have htop : (T.setVm s.vm).topJava?.isSome := X.here.top
  have hF : ((T.setVm s.vm).setFrames (.invoking m args :: below)).frames = .invoking m args :: below := State.frames_setFrames _ (State.cur_lt_of_top htop)
  obtain ⟨g₀, hg0⟩ := Option.isSome_iff_exists.mp htop
  obtain ⟨r, hr⟩ := State.topJava?_eq_some.mp hg0
  have hl9 : e.platform.stackLimits (T.setVm s.vm).me = e.platform.stackLimits s.me := X.limits
  have hb9 : (T.setVm s.vm).me.stackBytes = s.me.stackBytes := X.bytes
  refine ⟨X.admits, X.cas, X.clock, hF, ?_, X.hears, X.method, X.code, X.here, X.tail, X.warmed, ?_, ?_, ?_⟩
  · have h := X.room
    have hU : ((T.setVm s.vm).setFrames (.invoking m args :: below)).localsInUse = s.localsInUse := by
      rw [State.localsInUse_invoking hF (meth := meth) (c := c) X.method X.code, State.localsInUse_invoking X.frames X.method X.code]
    simp only [State.hasRoom, Bool.and_eq_true, decide_eq_true_eq] at h ⊢
    obtain ⟨⟨⟨⟨h1, h2, h3, h4, h5, h6⟩, h7⟩, h8⟩, h9⟩ := h
    rw [X.frames, List.length_cons] at h2 h3
    have q1 := X.heapSize
    have q2 := X.used
    simp only [hF, hU, List.length_cons, State.stackLimits_setFrames, State.stackBytes_setFrames, hl9, hb9]
    refine ⟨⟨⟨⟨by omega, by omega, by omega, by omega, by omega, h6⟩, ?_⟩, ?_⟩, X.book⟩
    · show T.heap.size + R'.cells ≤ e.platform.maxCells
      omega
    · show T.slotsUsed + R'.slots ≤ e.platform.maxSlots
      omega
  · rw [State.stackLimits_setFrames]; rfl
  · rw [State.stackBytes_setFrames]; rfl
  · refine ⟨?_, Nat.le_refl _, Nat.le_refl _, ?_, ?_, fun a c9 h9 => ⟨c9, h9, rfl, rfl, fun _ _ => rfl⟩⟩
    · obtain ⟨t, ht, -⟩ := State.frames_cons hr
      show T.setVm s.vm = { ((T.setVm s.vm).setFrames (.invoking m args :: below)).setFrames (T.setVm s.vm).frames with heap := T.heap, slotsUsed := T.slotsUsed }
      rw [State.setFrames_setFrames, State.setFrames_self ht]
      rfl
    · show T.slotsUsed = T.slotsUsed + ((T.heap.toList.drop T.heap.size).map (·.slots.size)).sum
      rw [List.drop_eq_nil_of_le (Nat.le_of_eq Array.length_toList)]
      rfl
    · show ((T.heap.toList.drop T.heap.size).map (·.slots.size)).sum ≤ 0
      rw [List.drop_eq_nil_of_le (Nat.le_of_eq Array.length_toList)]
      exact Nat.le_refl _
/-- 'throw new E()': new; dup; invokespecial; athrow -/
theorem vx_throw0 {cc : ByteArray} {pc : Nat} (hexec : p.tables.exec = Jvm.exec) (hb : c.code = cc) (hl : l.stackTraces = false) {own cls : String} {names : List String} {ik ic mc ms : Nat} {A : Nat → Prop}
    (hown : s.vm.findClass own = some m.cls) (hcls : Bundle.fit cls = true) (hnames : ∀ n ∈ names, Bundle.fit n = true)
    (hk : (Cond.classLink own ik cls).before args s = true) (hini : (Cond.initialized cls).before args s = true) (hat : ∀ w ∈ vx_at0 own ic cls names, w.before args s = true)
    (hgood : ∀ w ∈ Cond.classLink own ik cls :: Cond.initialized cls :: vx_at0 own ic cls names, vx_ot w = true)
    (hU : vx_Zq Bundle.tN "UNASSIGNED_STACK" Bundle.steD A s s.heap) (hN : vx_Zq Bundle.tN "SUPPRESSED_SENTINEL" Bundle.listD A s s.heap) (hS : va_S A s.heap H locs) (hsize : ls.size = c.maxLocals)
    (d0 : decode cc pc = .ok (.new ik, 3)) (d3 : decode cc (pc + 3) = .ok (.dup, 1)) (d4 : decode cc (pc + 4) = .ok (.invokespecial ic, 3)) (d7 : decode cc (pc + 7) = .ok (.athrow, 1))
    (hout : ∀ x ∈ c.exceptionTable.toList, covers x (pc + 7) = false)
    (hRframes : names.length + 3 < R.frames) (hRlocals : (rest.map fun v => v.category).sum + (13 * (names.length + 1) + 42) ≤ R.locals) (hRcells : cells + 1 ≤ R.cells) (hRslots : slots + 6 ≤ R.slots) (hlocks : meth.locks = false)
    (hx : ∀ t : State, s.vm.Alike t.vm → H.size ≤ t.heap.size → (∀ q : Nat, q < H.size → t.heap[q]? = H[q]?) → XC cls s t)
    (hf : ∀ z ∈ locs, free z.base) (hc : cells + 1 ≤ mc) (hs : slots + 6 ≤ ms) :
    W p l e R s m args below meth c H locs cells slots (vx_MQ below Qc XC args s mc ms free) (F0 m pc ls rest) := by
  intro T hT X
  have htr : e.platform.stackTraces = false := (show e.platform.stackTraces = l.stackTraces by rw [X.admits.platform]).trans hl
  have Y := vx_rebase X (R' := { frames := R.frames, locals := R.locals, cells := 1, slots := 6 }) (Nat.le_refl _) (Nat.le_refl _) hRcells hRslots
  obtain ⟨s', hA⟩ : ∃ z, z = (T.setVm s.vm).setFrames (.invoking m args :: below) := ⟨_, rfl⟩
  rw [← hA] at Y
  have hvm : s'.vm = s.vm := by rw [hA]; rfl
  have hhp : s'.heap = H := by rw [hA]; exact hT
  have hW0 : s.WarmedH s'.vm := by rw [hvm]; exact State.WarmedH.refl s
  have hat' : ∀ w ∈ vx_at0 own ic cls names, w.before args s' = true := fun w hw => vx_ot_at hW0 hvm.symm (hgood w (List.mem_cons_of_mem _ (List.mem_cons_of_mem _ hw))) (hat w hw)
  have hk' : (Cond.classLink own ik cls).before args s' = true := vx_ot_at hW0 hvm.symm (hgood _ List.mem_cons_self) hk
  have hini' : (Cond.initialized cls).before args s' = true := vx_ot_at hW0 hvm.symm (hgood _ (List.mem_cons_of_mem _ List.mem_cons_self)) hini
  have hU' : vx_Zq Bundle.tN "UNASSIGNED_STACK" Bundle.steD A s' s'.heap := by rw [hhp]; exact vx_Zq.moved hW0.alike (hU.kept hS.2.1)
  have hN' : vx_Zq Bundle.tN "SUPPRESSED_SENTINEL" Bundle.listD A s' s'.heap := by rw [hhp]; exact vx_Zq.moved hW0.alike (hN.kept hS.2.1)
  have h : ∀ w ∈ Bundle.ownAtoms0 own ic cls names, w.before args s' = true := vx_own hat' (vx_isRefq hU'.1) (vx_isRefq hN'.1) hU'.2.word hN'.2.word
  have hown' : s'.vm.findClass own = some m.cls := by rw [hvm]; exact hown
  have hins : (Cond.instantiable cls 6).before args s' = true := h _ (by simp [Bundle.ownAtoms0])
  obtain ⟨vm₁, cX, kX, hfX, hkX, -, -, X₁, st1⟩ := Y.newCold hexec (own := own) (C := cls) (index := ik) (n := 6) hown' hk' hins hini'
    (g := F0 m pc ls rest) rfl (by rw [hb]; exact d0) (Nat.le_refl _) (Nat.le_refl _)
  generalize hT1 : (T.setVm vm₁).pushCell { cls := cX, slots := kX.instanceTypes.map defaultValue, vm := .none } = T1 at X₁ st1
  have hcat : (Value.ref T.heap.size).category = 1 := rfl
  have hcellA : T1.heap[T.heap.size]? = some (freshCell cX kX) := by rw [← hT1]; exact State.heap_pushCell_size _ _
  have d3' : decode c.code (pc + 3) = .ok (.dup, 1) := by rw [hb]; exact d3
  obtain ⟨U, hsteps, hrun, hend, hW, hsame, ce, hce, hO⟩ := X₁.ctorThrow0 hexec htr (own := own) (cls := cls) (names := names) (ic := ic) hown' hcls hnames h (fun x hx => nomatch hx) hfX hkX hcellA (by rw [hhp, hT]; exact Nat.le_refl _)
    (g := { method := m, pc := pc + 4, locals := ls, stack := .ref T.heap.size :: .ref T.heap.size :: rest, locked := none }) rfl hsize rfl rfl (rest := rest) rfl
    (by rw [hb]; exact d4) (by rw [hb]; exact d7) hout hRframes (by simp only [List.map_cons, List.sum_cons, hcat]; omega) hlocks
  obtain ⟨f1, f2⟩ := vx_frame hsame
  rw [hhp] at f1 f2
  have hWs : s.WarmedH U.vm := State.WarmedH.trans hW0 hW
  have hcl : s.vm.findClass cls = some ce.cls := by
    have h9 := hO.cls
    rw [hvm] at h9
    exact h9
  have hall : s.sameButNew ({ U with vm := s.vm } : State) locs mc ms := by
    subst hA
    obtain ⟨e1, e2⟩ := hsame
    rw [State.setFrames_setFrames] at e1
    have h2 : (T.setVm s.vm).sameButNew ({ U with vm := s.vm } : State) [] (0 + 1) (0 + 6) := ⟨e1, e2⟩
    have h3 := X.same.trans h2
    rw [List.append_nil] at h3
    exact h3.mono hc hs
  refine ⟨U, ?_, .threw T.heap.size, hrun, hend, Or.inr ⟨T.heap.size, rfl, cls, ce, locs, hx U hWs.alike f1 (fun q hq => f2 q hq (fun z hz => nomatch hz)), hce, hO.vm, hcl, hWs, hall, hf⟩⟩
  refine st1 _ ?_
  show Steps p.tables e below (T1.setTop { method := m, pc := pc + 3, locals := ls, stack := .ref T.heap.size :: rest, locked := none }) _
  jvm_step X₁.here [X₁.here.top, hexec, d3', Value.category]
  exact hsteps
/-- 'throw new E("text")': new; dup; ldc; invokespecial; athrow -/
theorem vx_throwS {cc : ByteArray} {pc : Nat} (hexec : p.tables.exec = Jvm.exec) (hb : c.code = cc) (hl : l.stackTraces = false) {own cls text : String} {names : List String} {ik is ic mc ms sa : Nat} {A : Nat → Prop}
    (hown : s.vm.findClass own = some m.cls) (hcls : Bundle.fit cls = true) (hnames : ∀ n ∈ names, Bundle.fit n = true)
    (hk : (Cond.classLink own ik cls).before args s = true) (hini : (Cond.initialized cls).before args s = true) (hstr : vk_R own is text sa s) (hat : ∀ w ∈ vx_atS own ic cls names, w.before args s = true)
    (hgood : ∀ w ∈ Cond.classLink own ik cls :: Cond.initialized cls :: vx_atS own ic cls names, vx_ot w = true)
    (hU : vx_Zq Bundle.tN "UNASSIGNED_STACK" Bundle.steD A s s.heap) (hN : vx_Zq Bundle.tN "SUPPRESSED_SENTINEL" Bundle.listD A s s.heap) (hS : va_S A s.heap H locs) (hsize : ls.size = c.maxLocals)
    (d0 : decode cc pc = .ok (.new ik, 3)) (d3 : decode cc (pc + 3) = .ok (.dup, 1)) (d4 : decode cc (pc + 4) = .ok (.ldc is, 2)) (d6 : decode cc (pc + 6) = .ok (.invokespecial ic, 3)) (d9 : decode cc (pc + 9) = .ok (.athrow, 1))
    (hout : ∀ x ∈ c.exceptionTable.toList, covers x (pc + 9) = false)
    (hRframes : names.length + 3 < R.frames) (hRlocals : (rest.map fun v => v.category).sum + (13 * (names.length + 1) + 43) ≤ R.locals) (hRcells : cells + 1 ≤ R.cells) (hRslots : slots + 6 ≤ R.slots) (hlocks : meth.locks = false)
    (hx : ∀ t : State, s.vm.Alike t.vm → H.size ≤ t.heap.size → (∀ q : Nat, q < H.size → t.heap[q]? = H[q]?) → XC cls s t)
    (hf : ∀ z ∈ locs, free z.base) (hc : cells + 1 ≤ mc) (hs : slots + 6 ≤ ms) :
    W p l e R s m args below meth c H locs cells slots (vx_MQ below Qc XC args s mc ms free) (F0 m pc ls rest) := by
  intro T hT X
  have htr : e.platform.stackTraces = false := (show e.platform.stackTraces = l.stackTraces by rw [X.admits.platform]).trans hl
  have Y := vx_rebase X (R' := { frames := R.frames, locals := R.locals, cells := 1, slots := 6 }) (Nat.le_refl _) (Nat.le_refl _) hRcells hRslots
  obtain ⟨s', hA⟩ : ∃ z, z = (T.setVm s.vm).setFrames (.invoking m args :: below) := ⟨_, rfl⟩
  rw [← hA] at Y
  have hvm : s'.vm = s.vm := by rw [hA]; rfl
  have hhp : s'.heap = H := by rw [hA]; exact hT
  have hW0 : s.WarmedH s'.vm := by rw [hvm]; exact State.WarmedH.refl s
  have hat' : ∀ w ∈ vx_atS own ic cls names, w.before args s' = true := fun w hw => vx_ot_at hW0 hvm.symm (hgood w (List.mem_cons_of_mem _ (List.mem_cons_of_mem _ hw))) (hat w hw)
  have hk' : (Cond.classLink own ik cls).before args s' = true := vx_ot_at hW0 hvm.symm (hgood _ List.mem_cons_self) hk
  have hini' : (Cond.initialized cls).before args s' = true := vx_ot_at hW0 hvm.symm (hgood _ (List.mem_cons_of_mem _ List.mem_cons_self)) hini
  have hU' : vx_Zq Bundle.tN "UNASSIGNED_STACK" Bundle.steD A s' s'.heap := by rw [hhp]; exact vx_Zq.moved hW0.alike (hU.kept hS.2.1)
  have hN' : vx_Zq Bundle.tN "SUPPRESSED_SENTINEL" Bundle.listD A s' s'.heap := by rw [hhp]; exact vx_Zq.moved hW0.alike (hN.kept hS.2.1)
  have h : ∀ w ∈ Bundle.ownAtoms own ic cls names, w.before args s' = true := vx_own hat' (vx_isRefq hU'.1) (vx_isRefq hN'.1) hU'.2.word hN'.2.word
  have hown' : s'.vm.findClass own = some m.cls := by rw [hvm]; exact hown
  have hins : (Cond.instantiable cls 6).before args s' = true := h _ (by simp [Bundle.ownAtoms])
  obtain ⟨vm₁, cX, kX, hfX, hkX, -, -, X₁, st1⟩ := Y.newCold hexec (own := own) (C := cls) (index := ik) (n := 6) hown' hk' hins hini'
    (g := F0 m pc ls rest) rfl (by rw [hb]; exact d0) (Nat.le_refl _) (Nat.le_refl _)
  generalize hT1 : (T.setVm vm₁).pushCell { cls := cX, slots := kX.instanceTypes.map defaultValue, vm := .none } = T1 at X₁ st1
  have hcat : (Value.ref T.heap.size).category = 1 := rfl
  have hcellA : T1.heap[T.heap.size]? = some (freshCell cX kX) := by rw [← hT1]; exact State.heap_pushCell_size _ _
  have d3' : decode c.code (pc + 3) = .ok (.dup, 1) := by rw [hb]; exact d3
  have d4' : decode c.code (pc + 4) = .ok (.ldc is, 2) := by rw [hb]; exact d4
  have hstr' : vk_R own is text sa s' := vk_R.warm hW0 hstr
  obtain ⟨U, hsteps, hrun, hend, hW, hsame, ce, hce, hO⟩ := X₁.ctorThrowS hexec htr (own := own) (cls := cls) (names := names) (ic := ic) hown' hcls hnames h (fun x hx => nomatch hx) hfX hkX hcellA (by rw [hhp, hT]; exact Nat.le_refl _) (msg := .ref sa) rfl
    (g := { method := m, pc := pc + 6, locals := ls, stack := .ref sa :: .ref T.heap.size :: .ref T.heap.size :: rest, locked := none }) rfl hsize rfl rfl (rest := rest) rfl
    (by rw [hb]; exact d6) (by rw [hb]; exact d9) hout hRframes (by simp only [List.map_cons, List.sum_cons, hcat]; omega) hlocks
  obtain ⟨f1, f2⟩ := vx_frame hsame
  rw [hhp] at f1 f2
  have hWs : s.WarmedH U.vm := State.WarmedH.trans hW0 hW
  have hcl : s.vm.findClass cls = some ce.cls := by
    have h9 := hO.cls
    rw [hvm] at h9
    exact h9
  have hall : s.sameButNew ({ U with vm := s.vm } : State) locs mc ms := by
    subst hA
    obtain ⟨e1, e2⟩ := hsame
    rw [State.setFrames_setFrames] at e1
    have h2 : (T.setVm s.vm).sameButNew ({ U with vm := s.vm } : State) [] (0 + 1) (0 + 6) := ⟨e1, e2⟩
    have h3 := X.same.trans h2
    rw [List.append_nil] at h3
    exact h3.mono hc hs
  refine ⟨U, ?_, .threw T.heap.size, hrun, hend, Or.inr ⟨T.heap.size, rfl, cls, ce, locs, hx U hWs.alike f1 (fun q hq => f2 q hq (fun z hz => nomatch hz)), hce, hO.vm, hcl, hWs, hall, hf⟩⟩
  refine st1 _ ?_
  show Steps p.tables e below (T1.setTop { method := m, pc := pc + 3, locals := ls, stack := .ref T.heap.size :: rest, locked := none }) _
  jvm_step X₁.here [X₁.here.top, hexec, d3', Value.category]
  exact X₁.ldcString hexec (own := own) (text := text) (index := is) (a := sa) hown' hstr'.1 hstr'.2
    (g := { method := m, pc := pc + 4, locals := ls, stack := .ref T.heap.size :: .ref T.heap.size :: rest, locked := none }) rfl d4' _ hsteps
/-- 'throw new E("text")', the text by a wide index -/
theorem vx_throwSW {cc : ByteArray} {pc : Nat} (hexec : p.tables.exec = Jvm.exec) (hb : c.code = cc) (hl : l.stackTraces = false) {own cls text : String} {names : List String} {ik is ic mc ms sa : Nat} {A : Nat → Prop}
    (hown : s.vm.findClass own = some m.cls) (hcls : Bundle.fit cls = true) (hnames : ∀ n ∈ names, Bundle.fit n = true)
    (hk : (Cond.classLink own ik cls).before args s = true) (hini : (Cond.initialized cls).before args s = true) (hstr : vk_R own is text sa s) (hat : ∀ w ∈ vx_atS own ic cls names, w.before args s = true)
    (hgood : ∀ w ∈ Cond.classLink own ik cls :: Cond.initialized cls :: vx_atS own ic cls names, vx_ot w = true)
    (hU : vx_Zq Bundle.tN "UNASSIGNED_STACK" Bundle.steD A s s.heap) (hN : vx_Zq Bundle.tN "SUPPRESSED_SENTINEL" Bundle.listD A s s.heap) (hS : va_S A s.heap H locs) (hsize : ls.size = c.maxLocals)
    (d0 : decode cc pc = .ok (.new ik, 3)) (d3 : decode cc (pc + 3) = .ok (.dup, 1)) (d4 : decode cc (pc + 4) = .ok (.ldc_w is, 3)) (d7 : decode cc (pc + 7) = .ok (.invokespecial ic, 3)) (d10 : decode cc (pc + 10) = .ok (.athrow, 1))
    (hout : ∀ x ∈ c.exceptionTable.toList, covers x (pc + 10) = false)
    (hRframes : names.length + 3 < R.frames) (hRlocals : (rest.map fun v => v.category).sum + (13 * (names.length + 1) + 43) ≤ R.locals) (hRcells : cells + 1 ≤ R.cells) (hRslots : slots + 6 ≤ R.slots) (hlocks : meth.locks = false)
    (hx : ∀ t : State, s.vm.Alike t.vm → H.size ≤ t.heap.size → (∀ q : Nat, q < H.size → t.heap[q]? = H[q]?) → XC cls s t)
    (hf : ∀ z ∈ locs, free z.base) (hc : cells + 1 ≤ mc) (hs : slots + 6 ≤ ms) :
    W p l e R s m args below meth c H locs cells slots (vx_MQ below Qc XC args s mc ms free) (F0 m pc ls rest) := by
  intro T hT X
  have htr : e.platform.stackTraces = false := (show e.platform.stackTraces = l.stackTraces by rw [X.admits.platform]).trans hl
  have Y := vx_rebase X (R' := { frames := R.frames, locals := R.locals, cells := 1, slots := 6 }) (Nat.le_refl _) (Nat.le_refl _) hRcells hRslots
  obtain ⟨s', hA⟩ : ∃ z, z = (T.setVm s.vm).setFrames (.invoking m args :: below) := ⟨_, rfl⟩
  rw [← hA] at Y
  have hvm : s'.vm = s.vm := by rw [hA]; rfl
  have hhp : s'.heap = H := by rw [hA]; exact hT
  have hW0 : s.WarmedH s'.vm := by rw [hvm]; exact State.WarmedH.refl s
  have hat' : ∀ w ∈ vx_atS own ic cls names, w.before args s' = true := fun w hw => vx_ot_at hW0 hvm.symm (hgood w (List.mem_cons_of_mem _ (List.mem_cons_of_mem _ hw))) (hat w hw)
  have hk' : (Cond.classLink own ik cls).before args s' = true := vx_ot_at hW0 hvm.symm (hgood _ List.mem_cons_self) hk
  have hini' : (Cond.initialized cls).before args s' = true := vx_ot_at hW0 hvm.symm (hgood _ (List.mem_cons_of_mem _ List.mem_cons_self)) hini
  have hU' : vx_Zq Bundle.tN "UNASSIGNED_STACK" Bundle.steD A s' s'.heap := by rw [hhp]; exact vx_Zq.moved hW0.alike (hU.kept hS.2.1)
  have hN' : vx_Zq Bundle.tN "SUPPRESSED_SENTINEL" Bundle.listD A s' s'.heap := by rw [hhp]; exact vx_Zq.moved hW0.alike (hN.kept hS.2.1)
  have h : ∀ w ∈ Bundle.ownAtoms own ic cls names, w.before args s' = true := vx_own hat' (vx_isRefq hU'.1) (vx_isRefq hN'.1) hU'.2.word hN'.2.word
  have hown' : s'.vm.findClass own = some m.cls := by rw [hvm]; exact hown
  have hins : (Cond.instantiable cls 6).before args s' = true := h _ (by simp [Bundle.ownAtoms])
  obtain ⟨vm₁, cX, kX, hfX, hkX, -, -, X₁, st1⟩ := Y.newCold hexec (own := own) (C := cls) (index := ik) (n := 6) hown' hk' hins hini'
    (g := F0 m pc ls rest) rfl (by rw [hb]; exact d0) (Nat.le_refl _) (Nat.le_refl _)
  generalize hT1 : (T.setVm vm₁).pushCell { cls := cX, slots := kX.instanceTypes.map defaultValue, vm := .none } = T1 at X₁ st1
  have hcat : (Value.ref T.heap.size).category = 1 := rfl
  have hcellA : T1.heap[T.heap.size]? = some (freshCell cX kX) := by rw [← hT1]; exact State.heap_pushCell_size _ _
  have d3' : decode c.code (pc + 3) = .ok (.dup, 1) := by rw [hb]; exact d3
  have d4' : decode c.code (pc + 4) = .ok (.ldc_w is, 3) := by rw [hb]; exact d4
  have hstr' : vk_R own is text sa s' := vk_R.warm hW0 hstr
  obtain ⟨U, hsteps, hrun, hend, hW, hsame, ce, hce, hO⟩ := X₁.ctorThrowS hexec htr (own := own) (cls := cls) (names := names) (ic := ic) hown' hcls hnames h (fun x hx => nomatch hx) hfX hkX hcellA (by rw [hhp, hT]; exact Nat.le_refl _) (msg := .ref sa) rfl
    (g := { method := m, pc := pc + 7, locals := ls, stack := .ref sa :: .ref T.heap.size :: .ref T.heap.size :: rest, locked := none }) rfl hsize rfl rfl (rest := rest) rfl
    (by rw [hb]; exact d7) (by rw [hb]; exact d10) hout hRframes (by simp only [List.map_cons, List.sum_cons, hcat]; omega) hlocks
  obtain ⟨f1, f2⟩ := vx_frame hsame
  rw [hhp] at f1 f2
  have hWs : s.WarmedH U.vm := State.WarmedH.trans hW0 hW
  have hcl : s.vm.findClass cls = some ce.cls := by
    have h9 := hO.cls
    rw [hvm] at h9
    exact h9
  have hall : s.sameButNew ({ U with vm := s.vm } : State) locs mc ms := by
    subst hA
    obtain ⟨e1, e2⟩ := hsame
    rw [State.setFrames_setFrames] at e1
    have h2 : (T.setVm s.vm).sameButNew ({ U with vm := s.vm } : State) [] (0 + 1) (0 + 6) := ⟨e1, e2⟩
    have h3 := X.same.trans h2
    rw [List.append_nil] at h3
    exact h3.mono hc hs
  refine ⟨U, ?_, .threw T.heap.size, hrun, hend, Or.inr ⟨T.heap.size, rfl, cls, ce, locs, hx U hWs.alike f1 (fun q hq => f2 q hq (fun z hz => nomatch hz)), hce, hO.vm, hcl, hWs, hall, hf⟩⟩
  refine st1 _ ?_
  show Steps p.tables e below (T1.setTop { method := m, pc := pc + 3, locals := ls, stack := .ref T.heap.size :: rest, locked := none }) _
  jvm_step X₁.here [X₁.here.top, hexec, d3', Value.category]
  exact X₁.ldcStringW hexec (own := own) (text := text) (index := is) (a := sa) hown' hstr'.1 hstr'.2
    (g := { method := m, pc := pc + 4, locals := ls, stack := .ref T.heap.size :: .ref T.heap.size :: rest, locked := none }) rfl d4' _ hsteps
end Ends
section Bodies
variable {l : Launch}
theorem vx_ofW {y : MethodName} {ws ws' : List Cond} {rm : Room} {Pc : Array Value → State → Prop} {Qc : Array Value → State → Outcome → State → Prop} {XC : String → State → State → Prop} {mc ms : Nat} {free : Addr → Prop} {cc : ByteArray} {maxL : Nat} {ret : Option FieldType}
    (hy : plainName y.cls = true) (hw : ws = Cond.code y cc maxL ret :: ws')
    (body : ∀ p e s m args below meth c s₁, BodyLoose p l y (headSpec ws rm) cc maxL ret e s m args below meth c s₁ → c.maxLocals = maxL → (∀ x ∈ c.exceptionTable.toList, False) → Pc args s →
      W p l e (headSpec ws rm).room s m args below meth c s.heap [] 0 0 (vx_MQ below Qc XC args s mc ms free) (entryFrame m args maxL)) : vx_Met l y ws rm Pc Qc XC mc ms free := by
  refine MetFree.of_bodyS (code := cc) (maxLocals := maxL) (ret := ret) hy ?_ ?_
  · intro args s m h hn
    obtain ⟨meth, c, h1, h2, h3, h4, h5, h6, -, -⟩ := Cond.code_spec hn (atoms_spec (ws := ws) h _ (by rw [hw]; exact List.mem_cons_self))
    exact ⟨meth, c, h1, h2, h3, h4, h5, h6⟩
  · intro p e s m args below meth c s₁ B hml hP _
    have hh0 : s₁.heap = s.heap := by rw [B.state]; rfl
    have ht : ∀ x ∈ c.exceptionTable.toList, False := by
      obtain ⟨meth9, c9, h1, h2, -, -, -, -, h7, -⟩ := Cond.code_spec B.named (atoms_spec (ws := ws) B.pre _ (by rw [hw]; exact List.mem_cons_self))
      cases Option.some.inj (h1.symm.trans B.method)
      cases Option.some.inj (h2.symm.trans (Stand.of_body B).code)
      intro x hx
      rw [Array.isEmpty_iff.mp h7] at hx
      cases hx
    obtain ⟨t, a1, o, b1, b2, b3⟩ := body p e s m args below meth c s₁ B hml ht hP s₁ hh0 (Stand.of_body B)
    exact ⟨t, o, a1, b1, b2, b3⟩
/-- the table of a body with handlers -/
theorem vx_table {p : Program} {x y : MethodName} {S : Spec} {cc bytes : ByteArray} {maxL maxL' : Nat} {ret ret' : Option FieldType} {e : Env} {s s₁ : State} {m : MethodId} {args : Array Value} {below : List Frame} {meth : Method} {c : Code} {hh : List (Nat × Nat × Nat × Nat)}
    (B : BodyLoose p l y S cc maxL ret e s m args below meth c s₁) (h : (Cond.codeWith y bytes maxL' ret' hh).before args s = true) : c.exceptionTable.toList = tableOf hh := by
  obtain ⟨m9, meth9, c9, hn9, h1, h2, -, -, h6, -⟩ := Cond.codeWith_spec h
  cases Option.some.inj (hn9.symm.trans B.named)
  cases Option.some.inj (h1.symm.trans B.method)
  cases Option.some.inj (h2.symm.trans (Stand.of_body B).code)
  rw [← h6, table_eq]
end Bodies
end VXA
/-! ===== END ===== -/
/-! ===== BEGIN a static call of a method with an exception table ===== -/
section VXS
variable {p : Program} {l : Launch} {e : Env} {R : Room} {s : State} {m : MethodId} {args : Array Value} {below : List Frame} {meth : Method} {c : Code} {T : State} {H : Heap} {locs : List Loc} {cells slots : Nat}
abbrev vx_CSW (R : Room) (s : State) (args : Array Value) (own : String) (index : Nat) (y : MethodName) (bytes : ByteArray) (maxL : Nat) (ret : Option FieldType) (hh : List (Nat × Nat × Nat × Nat)) (ws : List Cond) (rm : Room) (mc ms n : Nat) : Prop :=
  (rm.cells = mc ∧ rm.slots = ms ∧ rm.frames + 1 ≤ R.frames ∧ 8 + (maxL + 11) + rm.locals ≤ R.locals ∧ (∀ w ∈ ws, ∀ (a' : Array Value) (U : State), s.WarmedH U.vm → w.before a' U = true) ∧ Cond.codeWith y bytes maxL ret hh ∈ ws) ∧
  (Cond.codeWith y bytes maxL ret hh).before args s = true ∧ (Cond.initialized y.cls).before args s = true ∧ (y.cls ≠ "java/lang/invoke/MethodHandle" ∧ y.cls ≠ "java/lang/invoke/VarHandle") ∧
  (∀ sig, parseMethodDescriptor y.desc = some sig → n = sig.parameters.length) ∧ (Cond.methodLink own index y).before args s = true ∧ (Cond.static y).before args s = true
theorem vx_cwSW {own : String} {index maxL mc ms : Nat} {y : MethodName} {bytes : ByteArray} {ret : Option FieldType} {hh : List (Nat × Nat × Nat × Nat)} {Ts ws ws' : List Cond} {rm : Room} (n : Nat) (ht : ∀ w ∈ Ts, w.before args s = true) (hT : GoodIn Ts (va_wsS own index y ws)) (hw : ws = Cond.codeWith y bytes maxL ret hh :: ws') (hrc : rm.cells = mc) (hrs : rm.slots = ms)
    (hd : y.cls ≠ "java/lang/invoke/MethodHandle" ∧ y.cls ≠ "java/lang/invoke/VarHandle" ∧ (parseMethodDescriptor y.desc).map (fun d => d.parameters.length) = some n) (hR : rm.frames + 1 ≤ R.frames ∧ 8 + (maxL + 11) + rm.locals ≤ R.locals) :
    vx_CSW R s args own index y bytes maxL ret hh ws rm mc ms n := by
  have ok : ∀ w ∈ va_wsS own index y ws, w.before args s = true := fun w h => ht w (hT w h).1
  have hG : GoodIn Ts ws := fun w h => hT w (by unfold va_wsS; exact List.mem_append_right _ h)
  have hc : Cond.codeWith y bytes maxL ret hh ∈ ws := by rw [hw]; exact List.mem_cons_self
  refine ⟨⟨hrc, hrs, hR.1, hR.2, pay_in ht hG, hc⟩, ht _ (hG _ hc).1, ok _ (by simp [va_wsS]), ⟨hd.1, hd.2.1⟩, fun sig h => ?_, ok _ (by simp [va_wsS]), ok _ (by simp [va_wsS])⟩
  have h2 := hd.2.2
  rw [h] at h2
  exact (Option.some.inj h2).symm
theorem vx_callSW (X : Stand p l e R s m args below meth c T locs cells slots) (hexec : p.tables.exec = Jvm.exec) {own : String} {index : Nat} {y : MethodName} {bytes : ByteArray} {maxL : Nat} {ret : Option FieldType} {hh : List (Nat × Nat × Nat × Nat)}
    (hown : s.vm.findClass own = some m.cls) (hlink : (Cond.methodLink own index y).before args s = true) (hstat : (Cond.static y).before args s = true) (hinit : (Cond.initialized y.cls).before args s = true)
    (hcode : (Cond.codeWith y bytes maxL ret hh).before args s = true) (hy : y.cls ≠ "java/lang/invoke/MethodHandle" ∧ y.cls ≠ "java/lang/invoke/VarHandle")
    {W9 : Nat} {Pre : Pt → Array Value → Prop} {Post : Pt → Array Value → Option Value → Pt → Prop} (hK : Back l R p e below s args y 3 W9 Pre Post)
    {g : JFrame} (hg : g.method = m) (hsize : g.locals.size = c.maxLocals) {argsL rest : List Value} (hlen : ∀ sig, parseMethodDescriptor y.desc = some sig → argsL.length = sig.parameters.length)
    (hstack : g.stack = argsL.reverse ++ rest) (hW : 2 * g.monitorRoom + (rest.map fun v => v.category).sum ≤ W9) (hdg : decode c.code g.pc = .ok (.invokestatic index, 3))
    (hpre : ∀ vm₁, s.WarmedH vm₁ → Pre ⟨T.setVm vm₁, locs, cells, slots⟩ argsL.toArray) :
    ∃ (v : Option Value) (vm₁ : Vm) (B : Pt), s.WarmedH vm₁ ∧ Stand p l e R s m args below meth c B.U B.locs B.cells B.slots ∧ Post ⟨T.setVm vm₁, locs, cells, slots⟩ argsL.toArray v B ∧
      ∀ target, Steps p.tables e below (B.U.setTop { g with pc := g.pc + 3, stack := v.toList ++ rest }) target → Steps p.tables e below (T.setTop g) target := by
  obtain ⟨mk, methM, cM, hnamed, hmethM, -, -, -, -, -, -, hsigM⟩ := Cond.codeWith_spec hcode
  have hstatic : methM.isStatic = true := Cond.static_spec hnamed hmethM hstat
  obtain ⟨kP, hkP, -⟩ := className_of_methodNamed hnamed
  have hinitP : kP.init = .initialized := Cond.initialized_spec (findClass_of_methodNamed hnamed) hkP hinit
  obtain ⟨vm₁, X₁, hstep₁⟩ := X.invokestatic hexec hown hlink hnamed hmethM hstatic hkP hinitP hy (g := g) hg (argsL := argsL) (rest := rest) (hlen _ hsigM) hstack hdg
  obtain ⟨v, B, X', hpost, hsteps⟩ := hK m meth c ⟨T.setVm vm₁, locs, cells, slots⟩ { g with stack := rest } (.invokestatic index) mk argsL.toArray X₁ hg hsize hdg hW (X₁.named hnamed) (hpre vm₁ X₁.warmed)
  exact ⟨v, vm₁, B, X₁.warmed, X', hpost, fun target h => hstep₁ _ fun acts => by rw [doInvoke_state]; exact hsteps.trans h⟩
theorem vx_runSW {y : MethodName} {bytes cc : ByteArray} {maxL nL mc ms n index : Nat} {ret : Option FieldType} {hh : List (Nat × Nat × Nat × Nat)} {ws : List Cond} {rm : Room} {Pc : Array Value → State → Prop} {Qc : Array Value → State → Outcome → State → Prop} {free : Addr → Prop} {Ts : List Cond} {own : String} {As rest : List Value} {g : JFrame}
    (S : CallFix p m c cc nL s args Ts own) (hM : Met l y ws rm Pc Qc mc ms free) (cw : vx_CSW R s args own index y bytes maxL ret hh ws rm mc ms n) (hp : PreS s H Pc As)
    (hg : g.method = m) (hn : As.length = n) (hsize : g.locals.size = nL) (hstack : g.stack = As.reverse ++ rest) (hW : 2 * g.monitorRoom + (rest.map fun v => v.category).sum ≤ 8) (hdg : decode cc g.pc = .ok (.invokestatic index, 3)) (hf : cells + mc ≤ R.cells ∧ slots + ms ≤ R.slots) :
    va_Run p l e R s m args below meth c H locs cells slots mc ms g rest (Qc As.toArray) (free) := by
  obtain ⟨⟨hrc, hrs, hfr, hlo, hws, hcw⟩, hcode, hini, hy, hlen, hl, hstt⟩ := cw
  have hK : Back l R p e below s args y 3 8 (PreOf R mc ms Pc) (PostOf Qc mc ms free) := va_backW (hh := hh) (bytes := bytes) (maxL := maxL) (ret := ret) hM hp.1 hrc hrs hfr hlo hws hcw (fun a' U hW => word_at hW (Or.inl (by first | rfl | simp [Cond.onTables, Cond.keeps, Cond.steady])) hini)
  obtain ⟨hx, hb, hml, ho, -⟩ := S
  intro T hT X
  obtain ⟨v, vm₁, ⟨U', l2, c2, s2⟩, hW₁, X', ⟨g', mk, t, L, e1, e2, hq, h1, hL, h2, h3⟩, st⟩ := vx_callSW X hx (hh := hh) (bytes := bytes) (maxL := maxL) (ret := ret) ho hl hstt hini hcode hy hK hg (hsize.trans hml.symm) (argsL := As) (rest := rest) (fun sig h => hn.trans (hlen sig h)) hstack hW (by rw [hb]; exact hdg)
    (fun vm₁ hW₁ => ⟨hf.1, hf.2, hp.2 (T.setVm vm₁) hT hW₁⟩)
  dsimp only [Pt.U, Pt.locs, Pt.cells, Pt.slots] at X' e1 e2 h1 h2 h3 st
  subst h1; subst h2; subst h3
  exact ⟨v, (T.setVm vm₁).calling g' mk As.toArray, t, U', L, hT, X', hL, e1, e2, hq, st⟩
/-- a thing of a world lies in the heap -/
theorem vx_lt {D : va_G} {cl : List vw_C} {ws : va_W} {H1 : Heap} (h : va_P D cl ws H1) {k : Nat} {q : Nat × va_E} (hk : ws[k]? = some q) : q.1 < H1.size := (h k q hk).lt
end VXS
/-! ===== END ===== -/
/-! ===== BEGIN methods with a table of their own: called by a name, returning or throwing ===== -/
section VXH
/-! vx_backW, vx_callVX, vx_callSX, vx_callVW, vx_runVW, vx_runVX, vx_runSX, vx_ofWH follow the same proofs as their sisters above (Free/Laws.lean, Shelf42/LK1.lean); vx_outP calls Shelf42/NT130.lean (outThrough). -/
section
variable {l : Launch} {R : Room} {p : Program} {e : Env} {below : List Frame} {s : State} {sargs : Array Value} {y : MethodName} {len W9 : Nat}
theorem vx_backW {ws : List Cond} {rm : Room} {Pc : Array Value → State → Prop} {Qc : Array Value → State → Outcome → State → Prop} {XC : String → State → State → Prop} {mc ms : Nat} {free : Addr → Prop} {bytes : ByteArray} {maxL : Nat} {ret : Option FieldType} {hh : List (Nat × Nat × Nat × Nat)}
    (hM : vx_Met l y ws rm Pc Qc XC mc ms free) (hblind : FrameBlind Pc) (hrc : rm.cells = mc) (hrs : rm.slots = ms)
    (hframes : rm.frames + 1 ≤ R.frames) (hlocals : W9 + (maxL + 11) + rm.locals ≤ R.locals)
    (hws : ∀ w ∈ ws, ∀ a' U, s.WarmedH U.vm → w.before a' U = true) (hcode : Cond.codeWith y bytes maxL ret hh ∈ ws) (hinit : ∀ a' U, s.WarmedH U.vm → (Cond.initialized y.cls).before a' U = true) :
    vx_Back l R p e below s sargs y len W9 (PreOf R mc ms Pc) (PostOf Qc mc ms free) (vx_Post XC mc ms free) := by
  intro m meth c A g ig mk a X hg hsize hdg hW hn hp
  have h1 : (headSpec ws rm).pre.before a A.U = true := atoms_intro fun w hw => hws w hw _ _ X.warmed
  have h2 : (Cond.codeWith y bytes maxL ret hh).before a A.U = true := hws _ hcode _ _ X.warmed
  have h3 : (Cond.initialized y.cls).before a A.U = true := hinit _ _ X.warmed
  have h4 : A.cells + (headSpec ws rm).room.cells ≤ R.cells := by rw [show (headSpec ws rm).room.cells = mc from hrc]; exact hp.1
  have h5 : A.slots + (headSpec ws rm).room.slots ≤ R.slots := by rw [show (headSpec ws rm).room.slots = ms from hrs]; exact hp.2.1
  have hPc : Pc a (A.U.calling g mk a) := hblind _ _ _ _ hp.2.2
  obtain ⟨U, Ls, c0, s0⟩ := A
  dsimp only [Pt.U, Pt.locs, Pt.cells, Pt.slots] at h1 h2 h3 h4 h5 X hn hPc ⊢
  obtain ⟨m9, methY, cY, hn9, hmY, hcY, -, hlY, -⟩ := Cond.codeWith_spec h2
  cases Option.some.inj (hn9.symm.trans hn)
  obtain ⟨kY, hkY, -⟩ := className_of_methodNamed hn
  have hinitY : kY.init = .initialized := Cond.initialized_spec (findClass_of_methodNamed hn) hkY h3
  have h : At U g.method c below := by rw [hg]; exact X.here
  have hlocals9 : W9 + (maxL + 11) + (headSpec ws rm).room.locals ≤ R.locals := hlocals
  have happ : (headSpec ws rm).appliesLoose y e.platform (U.calling g mk a) = true :=
    Spec.appliesLoose_calling (g := g) h hdg hn hkY hinitY
      (X.room_calling (g := g) (R' := (headSpec ws rm).room) hsize hmY hcY hframes (by rw [hlY]; omega) h4 h5) h1
  obtain ⟨mid, hmid⟩ := h.above
  have hfr : (U.setTop g).frames = (.java g :: mid) ++ below := by rw [State.frames_setTop' g h.top, hmid]; rfl
  obtain ⟨o, s₂, hsteps, -, hend, hq⟩ := Steps.callFree hM p X.admits X.cas X.clock (acts := []) hfr happ hPc trivial
  have hq' : vx_Q Qc XC mc ms free a (U.calling g mk a) o s₂ := hq
  rw [State.frames_setTop' g h.top] at hend
  obtain ⟨g₀, hg0⟩ := Option.isSome_iff_exists.mp h.top
  obtain ⟨r, hr⟩ := State.topJava?_eq_some.mp hg0
  have hr' : (({ U with heap := s₂.heap, slotsUsed := s₂.slotsUsed } : State).setVm s₂.vm).frames = .java g₀ :: r := hr
  rcases hq' with ⟨hqc, L, hfe, hL⟩ | ⟨q, rfl, E, ce, L, hx, hce, hcv, hcl, hW₂, hsm, hL⟩
  · obtain ⟨⟨v, rfl⟩, hW₂, e2, q2, q3, q4, q5, q6⟩ := id hfe
    have e3 : s₂ = ({ (U.calling g mk a).setFrames s₂.frames with heap := s₂.heap, slotsUsed := s₂.slotsUsed } : State).setVm s₂.vm := by
      have : s₂ = ({ s₂ with vm := (U.calling g mk a).vm } : State).setVm s₂.vm := rfl
      rw [e2] at this
      exact this
    obtain ⟨c₂, i₂, len₂, hc₂, hd₂, hf₂⟩ := hend
    have hW' : U.WarmedH s₂.vm := hW₂
    have hcc : c₂ = c := by
      have h1 : s₂.code? g.method = U.code? g.method := by
        rw [State.code?_eq, State.code?_eq, hW'.alike.method?]
      exact Option.some.inj (hc₂.symm.trans (h1.trans h.code))
    subst hcc
    have hlen : len₂ = len := by rw [hdg] at hd₂; cases hd₂; rfl
    subst hlen
    have hs₂ : s₂ = (({ U with heap := s₂.heap, slotsUsed := s₂.slotsUsed } : State).setVm s₂.vm).setTop { g with pc := g.pc + len₂, stack := v.toList ++ g.stack } := by
      refine e3.trans ?_
      rw [hf₂, State.calling_eq h.top, State.setFrames_setFrames, State.setTop_of_frames _ hr', hr]
      rfl
    have hsame : U.sameButNew ({ U with heap := s₂.heap, slotsUsed := s₂.slotsUsed } : State) L mc ms := by
      refine ⟨?_, q2, q3, q4, q5, q6⟩
      obtain ⟨t, ht, -⟩ := State.frames_cons hr
      show ({ U with heap := s₂.heap, slotsUsed := s₂.slotsUsed } : State) = { U.setFrames U.frames with heap := s₂.heap, slotsUsed := s₂.slotsUsed }
      rw [State.setFrames_self ht]
    subst hg
    refine Or.inl ⟨v, ⟨(({ U with heap := s₂.heap, slotsUsed := s₂.slotsUsed } : State).setVm s₂.vm), Ls ++ L, c0 + mc, s0 + ms⟩,
      ⟨X.admits, X.cas, X.clock, X.frames, X.room, X.hears, X.method, X.code, (X.here.setHeapUsed s₂.heap s₂.slotsUsed).setVm hW'.alike, X.tail, State.WarmedH.trans X.warmed hW', X.limits, X.bytes, X.same.trans (hsame.setVm s.vm)⟩,
      ⟨g, mk, s₂, L, rfl, rfl, hqc, rfl, hL, rfl, rfl⟩, ?_⟩
    show Steps p.tables e below _ ((({ U with heap := s₂.heap, slotsUsed := s₂.slotsUsed } : State).setVm s₂.vm).setTop { g with pc := g.pc + len₂, stack := v.toList ++ g.stack })
    rw [← hs₂]
    exact hsteps
  · obtain ⟨e2, q2, q3, q4, q5, q6⟩ := id hsm
    have e3 : s₂ = ({ (U.calling g mk a).setFrames s₂.frames with heap := s₂.heap, slotsUsed := s₂.slotsUsed } : State).setVm s₂.vm := by
      have : s₂ = ({ s₂ with vm := (U.calling g mk a).vm } : State).setVm s₂.vm := rfl
      rw [e2] at this
      exact this
    have hf₂ : s₂.frames = .throwing q :: .java g :: U.frames.tail := hend
    have hW' : U.WarmedH s₂.vm := hW₂
    have hs₂ : s₂ = ((({ U with heap := s₂.heap, slotsUsed := s₂.slotsUsed } : State).setVm s₂.vm).setTop g).pushFrame (.throwing q) := by
      refine e3.trans ?_
      rw [hf₂, State.calling_eq h.top, State.setFrames_setFrames, State.pushFrame, State.frames_setTop _ hr', State.setTop_of_frames _ hr', State.setFrames_setFrames, hr]
      rfl
    have hsame : U.sameButNew ({ U with heap := s₂.heap, slotsUsed := s₂.slotsUsed } : State) L mc ms := by
      refine ⟨?_, q2, q3, q4, q5, q6⟩
      obtain ⟨t, ht, -⟩ := State.frames_cons hr
      show ({ U with heap := s₂.heap, slotsUsed := s₂.slotsUsed } : State) = { U.setFrames U.frames with heap := s₂.heap, slotsUsed := s₂.slotsUsed }
      rw [State.setFrames_self ht]
    subst hg
    refine Or.inr ⟨q, ⟨(({ U with heap := s₂.heap, slotsUsed := s₂.slotsUsed } : State).setVm s₂.vm), Ls ++ L, c0 + mc, s0 + ms⟩,
      ⟨X.admits, X.cas, X.clock, X.frames, X.room, X.hears, X.method, X.code, (X.here.setHeapUsed s₂.heap s₂.slotsUsed).setVm hW'.alike, X.tail, State.WarmedH.trans X.warmed hW', X.limits, X.bytes, X.same.trans (hsame.setVm s.vm)⟩,
      ⟨g, mk, s₂, L, E, ce, rfl, rfl, hx, hce, hcv, hcl, rfl, hL, rfl, rfl⟩, ?_⟩
    show Steps p.tables e below _ (((({ U with heap := s₂.heap, slotsUsed := s₂.slotsUsed } : State).setVm s₂.vm).setTop g).pushFrame (.throwing q))
    rw [← hs₂]
    exact hsteps
end
variable {p : Program} {l : Launch} {e : Env} {R : Room} {s : State} {m : MethodId} {args : Array Value} {below : List Frame} {meth : Method} {c : Code} {T : State} {H : Heap} {locs : List Loc} {cells slots : Nat}
theorem vx_callVX (X : Stand p l e R s m args below meth c T locs cells slots) (hexec : p.tables.exec = Jvm.exec) {own C : String} {index : Nat} {y : MethodName} {bytes : ByteArray} {maxL : Nat} {ret : Option FieldType} {hh : List (Nat × Nat × Nat × Nat)}
    (hown : s.vm.findClass own = some m.cls) (hlink : (Cond.methodLink own index y).before args s = true) (hinst : (Cond.instanceMethod y).before args s = true) (hsel : (Cond.selects C y y).before args s = true)
    (hcode : (Cond.codeWith y bytes maxL ret hh).before args s = true) (hy : y.cls ≠ "java/lang/invoke/MethodHandle" ∧ y.cls ≠ "java/lang/invoke/VarHandle")
    {W9 : Nat} {Pre : Pt → Array Value → Prop} {Post : Pt → Array Value → Option Value → Pt → Prop} {PostX : Pt → Array Value → Addr → Pt → Prop} (hK : vx_Back l R p e below s args y 3 W9 Pre Post PostX)
    {b : Addr} {cellB : Cell} (hcell : T.heap[b]? = some cellB) (hobj : cellB.vm.isStatics = false) (hcls : s.vm.findClass C = some cellB.cls)
    {g : JFrame} (hg : g.method = m) (hsize : g.locals.size = c.maxLocals) {argsL rest : List Value} (hlen : ∀ sig, parseMethodDescriptor y.desc = some sig → argsL.length = sig.parameters.length)
    (hstack : g.stack = argsL.reverse ++ .ref b :: rest) (hW : 2 * g.monitorRoom + (rest.map fun v => v.category).sum ≤ W9) (hdg : decode c.code g.pc = .ok (.invokevirtual index, 3))
    (hpre : ∀ vm₁, s.WarmedH vm₁ → Pre ⟨T.setVm vm₁, locs, cells, slots⟩ (Value.ref b :: argsL).toArray) :
    (∃ (v : Option Value) (vm₁ : Vm) (B : Pt), s.WarmedH vm₁ ∧ Stand p l e R s m args below meth c B.U B.locs B.cells B.slots ∧ Post ⟨T.setVm vm₁, locs, cells, slots⟩ (Value.ref b :: argsL).toArray v B ∧
      ∀ target, Steps p.tables e below (B.U.setTop { g with pc := g.pc + 3, stack := v.toList ++ rest }) target → Steps p.tables e below (T.setTop g) target) ∨
    (∃ (q : Addr) (vm₁ : Vm) (B : Pt), s.WarmedH vm₁ ∧ Stand p l e R s m args below meth c B.U B.locs B.cells B.slots ∧ PostX ⟨T.setVm vm₁, locs, cells, slots⟩ (Value.ref b :: argsL).toArray q B ∧
      Steps p.tables e below (T.setTop g) ((B.U.setTop { g with stack := rest }).pushFrame (.throwing q))) := by
  obtain ⟨mk, methM, hnamed, hmethM, hstM, habM⟩ := Cond.instanceMethod_spec hinst
  obtain ⟨m8, methM', cM, hn8, hmethM', -, -, -, -, -, -, hsigM⟩ := Cond.codeWith_spec hcode
  cases Option.some.inj (hn8.symm.trans hnamed)
  cases hmethM.symm.trans hmethM'
  obtain ⟨c2, r2, m2, q1, q2, q3, q4, kP, hkP, hkPi⟩ := Cond.selects_spec hsel
  cases hcls.symm.trans q1
  cases (State.methodFound?_of_named hnamed hy).symm.trans q2
  cases hnamed.symm.trans q3
  have hselP : selectMethod e.platform s.vm cellB.cls mk = .method mk := by rw [Launch.admits_selectMethod X.admits]; exact q4
  obtain ⟨vm₁, X₁, hstep₁⟩ := X.invokevirtual hexec hown hlink hnamed hmethM hstM hkP hkPi hy (a := b) (cell := cellB) hcell
    (fun z h => by rw [h] at hobj; cases hobj) hselP hmethM habM hkP hkPi (g := g) hg (argsL := argsL) (rest := rest) (hlen _ hsigM) hstack hdg
  rcases hK m meth c ⟨T.setVm vm₁, locs, cells, slots⟩ { g with stack := rest } (.invokevirtual index) mk (Value.ref b :: argsL).toArray X₁ hg hsize hdg hW (X₁.named hnamed) (hpre vm₁ X₁.warmed) with ⟨v, B, X', hpost, hsteps⟩ | ⟨q, B, X', hpost, hsteps⟩
  · exact Or.inl ⟨v, vm₁, B, X₁.warmed, X', hpost, fun target h => hstep₁ _ fun acts => by rw [doInvoke_state]; exact hsteps.trans h⟩
  · exact Or.inr ⟨q, vm₁, B, X₁.warmed, X', hpost, hstep₁ _ fun acts => by rw [doInvoke_state]; exact hsteps⟩
theorem vx_callSX (X : Stand p l e R s m args below meth c T locs cells slots) (hexec : p.tables.exec = Jvm.exec) {own : String} {index : Nat} {y : MethodName} {bytes : ByteArray} {maxL : Nat} {ret : Option FieldType} {hh : List (Nat × Nat × Nat × Nat)}
    (hown : s.vm.findClass own = some m.cls) (hlink : (Cond.methodLink own index y).before args s = true) (hstat : (Cond.static y).before args s = true) (hinit : (Cond.initialized y.cls).before args s = true)
    (hcode : (Cond.codeWith y bytes maxL ret hh).before args s = true) (hy : y.cls ≠ "java/lang/invoke/MethodHandle" ∧ y.cls ≠ "java/lang/invoke/VarHandle")
    {W9 : Nat} {Pre : Pt → Array Value → Prop} {Post : Pt → Array Value → Option Value → Pt → Prop} {PostX : Pt → Array Value → Addr → Pt → Prop} (hK : vx_Back l R p e below s args y 3 W9 Pre Post PostX)
    {g : JFrame} (hg : g.method = m) (hsize : g.locals.size = c.maxLocals) {argsL rest : List Value} (hlen : ∀ sig, parseMethodDescriptor y.desc = some sig → argsL.length = sig.parameters.length)
    (hstack : g.stack = argsL.reverse ++ rest) (hW : 2 * g.monitorRoom + (rest.map fun v => v.category).sum ≤ W9) (hdg : decode c.code g.pc = .ok (.invokestatic index, 3))
    (hpre : ∀ vm₁, s.WarmedH vm₁ → Pre ⟨T.setVm vm₁, locs, cells, slots⟩ argsL.toArray) :
    (∃ (v : Option Value) (vm₁ : Vm) (B : Pt), s.WarmedH vm₁ ∧ Stand p l e R s m args below meth c B.U B.locs B.cells B.slots ∧ Post ⟨T.setVm vm₁, locs, cells, slots⟩ argsL.toArray v B ∧
      ∀ target, Steps p.tables e below (B.U.setTop { g with pc := g.pc + 3, stack := v.toList ++ rest }) target → Steps p.tables e below (T.setTop g) target) ∨
    (∃ (q : Addr) (vm₁ : Vm) (B : Pt), s.WarmedH vm₁ ∧ Stand p l e R s m args below meth c B.U B.locs B.cells B.slots ∧ PostX ⟨T.setVm vm₁, locs, cells, slots⟩ argsL.toArray q B ∧
      Steps p.tables e below (T.setTop g) ((B.U.setTop { g with stack := rest }).pushFrame (.throwing q))) := by
  obtain ⟨mk, methM, cM, hnamed, hmethM, -, -, -, -, -, -, hsigM⟩ := Cond.codeWith_spec hcode
  have hstatic : methM.isStatic = true := Cond.static_spec hnamed hmethM hstat
  obtain ⟨kP, hkP, -⟩ := className_of_methodNamed hnamed
  have hinitP : kP.init = .initialized := Cond.initialized_spec (findClass_of_methodNamed hnamed) hkP hinit
  obtain ⟨vm₁, X₁, hstep₁⟩ := X.invokestatic hexec hown hlink hnamed hmethM hstatic hkP hinitP hy (g := g) hg (argsL := argsL) (rest := rest) (hlen _ hsigM) hstack hdg
  rcases hK m meth c ⟨T.setVm vm₁, locs, cells, slots⟩ { g with stack := rest } (.invokestatic index) mk argsL.toArray X₁ hg hsize hdg hW (X₁.named hnamed) (hpre vm₁ X₁.warmed) with ⟨v, B, X', hpost, hsteps⟩ | ⟨q, B, X', hpost, hsteps⟩
  · exact Or.inl ⟨v, vm₁, B, X₁.warmed, X', hpost, fun target h => hstep₁ _ fun acts => by rw [doInvoke_state]; exact hsteps.trans h⟩
  · exact Or.inr ⟨q, vm₁, B, X₁.warmed, X', hpost, hstep₁ _ fun acts => by rw [doInvoke_state]; exact hsteps⟩
theorem vx_callVW (X : Stand p l e R s m args below meth c T locs cells slots) (hexec : p.tables.exec = Jvm.exec) {own C : String} {index : Nat} {y : MethodName} {bytes : ByteArray} {maxL : Nat} {ret : Option FieldType} {hh : List (Nat × Nat × Nat × Nat)}
    (hown : s.vm.findClass own = some m.cls) (hlink : (Cond.methodLink own index y).before args s = true) (hinst : (Cond.instanceMethod y).before args s = true) (hsel : (Cond.selects C y y).before args s = true)
    (hcode : (Cond.codeWith y bytes maxL ret hh).before args s = true) (hy : y.cls ≠ "java/lang/invoke/MethodHandle" ∧ y.cls ≠ "java/lang/invoke/VarHandle")
    {W9 : Nat} {Pre : Pt → Array Value → Prop} {Post : Pt → Array Value → Option Value → Pt → Prop} (hK : Back l R p e below s args y 3 W9 Pre Post)
    {b : Addr} {cellB : Cell} (hcell : T.heap[b]? = some cellB) (hobj : cellB.vm.isStatics = false) (hcls : s.vm.findClass C = some cellB.cls)
    {g : JFrame} (hg : g.method = m) (hsize : g.locals.size = c.maxLocals) {argsL rest : List Value} (hlen : ∀ sig, parseMethodDescriptor y.desc = some sig → argsL.length = sig.parameters.length)
    (hstack : g.stack = argsL.reverse ++ .ref b :: rest) (hW : 2 * g.monitorRoom + (rest.map fun v => v.category).sum ≤ W9) (hdg : decode c.code g.pc = .ok (.invokevirtual index, 3))
    (hpre : ∀ vm₁, s.WarmedH vm₁ → Pre ⟨T.setVm vm₁, locs, cells, slots⟩ (Value.ref b :: argsL).toArray) :
    ∃ (v : Option Value) (vm₁ : Vm) (B : Pt), s.WarmedH vm₁ ∧ Stand p l e R s m args below meth c B.U B.locs B.cells B.slots ∧ Post ⟨T.setVm vm₁, locs, cells, slots⟩ (Value.ref b :: argsL).toArray v B ∧
      ∀ target, Steps p.tables e below (B.U.setTop { g with pc := g.pc + 3, stack := v.toList ++ rest }) target → Steps p.tables e below (T.setTop g) target := by
  obtain ⟨mk, methM, hnamed, hmethM, hstM, habM⟩ := Cond.instanceMethod_spec hinst
  obtain ⟨m8, methM', cM, hn8, hmethM', -, -, -, -, -, -, hsigM⟩ := Cond.codeWith_spec hcode
  cases Option.some.inj (hn8.symm.trans hnamed)
  cases hmethM.symm.trans hmethM'
  obtain ⟨c2, r2, m2, q1, q2, q3, q4, kP, hkP, hkPi⟩ := Cond.selects_spec hsel
  cases hcls.symm.trans q1
  cases (State.methodFound?_of_named hnamed hy).symm.trans q2
  cases hnamed.symm.trans q3
  have hselP : selectMethod e.platform s.vm cellB.cls mk = .method mk := by rw [Launch.admits_selectMethod X.admits]; exact q4
  obtain ⟨vm₁, X₁, hstep₁⟩ := X.invokevirtual hexec hown hlink hnamed hmethM hstM hkP hkPi hy (a := b) (cell := cellB) hcell
    (fun z h => by rw [h] at hobj; cases hobj) hselP hmethM habM hkP hkPi (g := g) hg (argsL := argsL) (rest := rest) (hlen _ hsigM) hstack hdg
  obtain ⟨v, B, X', hpost, hsteps⟩ := hK m meth c ⟨T.setVm vm₁, locs, cells, slots⟩ { g with stack := rest } (.invokevirtual index) mk (Value.ref b :: argsL).toArray X₁ hg hsize hdg hW (X₁.named hnamed) (hpre vm₁ X₁.warmed)
  exact ⟨v, vm₁, B, X₁.warmed, X', hpost, fun target h => hstep₁ _ fun acts => by rw [doInvoke_state]; exact hsteps.trans h⟩
abbrev vx_CVW (R : Room) (s : State) (args : Array Value) (own C : String) (index : Nat) (y : MethodName) (bytes : ByteArray) (maxL : Nat) (ret : Option FieldType) (hh : List (Nat × Nat × Nat × Nat)) (ws : List Cond) (rm : Room) (mc ms n : Nat) : Prop :=
  (rm.cells = mc ∧ rm.slots = ms ∧ rm.frames + 1 ≤ R.frames ∧ 8 + (maxL + 11) + rm.locals ≤ R.locals ∧ (∀ w ∈ ws, ∀ (a' : Array Value) (U : State), s.WarmedH U.vm → w.before a' U = true) ∧ Cond.codeWith y bytes maxL ret hh ∈ ws) ∧
  (Cond.codeWith y bytes maxL ret hh).before args s = true ∧ (Cond.initialized y.cls).before args s = true ∧ (y.cls ≠ "java/lang/invoke/MethodHandle" ∧ y.cls ≠ "java/lang/invoke/VarHandle") ∧
  (∀ sig, parseMethodDescriptor y.desc = some sig → n = sig.parameters.length) ∧ (Cond.methodLink own index y).before args s = true ∧ (Cond.instanceMethod y).before args s = true ∧ (Cond.selects C y y).before args s = true
theorem vx_cwVW {own C : String} {index maxL mc ms : Nat} {y : MethodName} {bytes : ByteArray} {ret : Option FieldType} {hh : List (Nat × Nat × Nat × Nat)} {Ts ws ws' : List Cond} {rm : Room} (n : Nat) (ht : ∀ w ∈ Ts, w.before args s = true) (hT : GoodIn Ts (wsV own index C y ws)) (hw : ws = Cond.codeWith y bytes maxL ret hh :: ws') (hrc : rm.cells = mc) (hrs : rm.slots = ms)
    (hd : y.cls = C ∧ y.cls ≠ "java/lang/invoke/MethodHandle" ∧ y.cls ≠ "java/lang/invoke/VarHandle" ∧ (parseMethodDescriptor y.desc).map (fun d => d.parameters.length) = some n) (hR : rm.frames + 1 ≤ R.frames ∧ 8 + (maxL + 11) + rm.locals ≤ R.locals) :
    vx_CVW R s args own C index y bytes maxL ret hh ws rm mc ms n := by
  obtain ⟨hC, hd⟩ := hd
  subst hC
  have ok : ∀ w ∈ wsV own index y.cls y ws, w.before args s = true := fun w h => ht w (hT w h).1
  have hG : GoodIn Ts ws := fun w h => hT w (by unfold wsV; exact List.mem_append_right _ h)
  have hc : Cond.codeWith y bytes maxL ret hh ∈ ws := by rw [hw]; exact List.mem_cons_self
  refine ⟨⟨hrc, hrs, hR.1, hR.2, pay_in ht hG, hc⟩, ht _ (hG _ hc).1, ok _ (by simp [wsV]), ⟨hd.1, hd.2.1⟩, fun sig h => ?_, ok _ (by simp [wsV]), ok _ (by simp [wsV]), ok _ (by simp [wsV])⟩
  have h2 := hd.2.2
  rw [h] at h2
  exact (Option.some.inj h2).symm
theorem vx_runVW {y : MethodName} {bytes cc : ByteArray} {maxL nL mc ms n index : Nat} {ret : Option FieldType} {hh : List (Nat × Nat × Nat × Nat)} {ws : List Cond} {rm : Room} {Pc : Array Value → State → Prop} {Qc : Array Value → State → Outcome → State → Prop} {free : Addr → Prop} {Ts : List Cond} {own C : String} {b : Addr} {As rest : List Value} {g : JFrame}
    (S : CallFix p m c cc nL s args Ts own) (hM : Met l y ws rm Pc Qc mc ms free) (cw : vx_CVW R s args own C index y bytes maxL ret hh ws rm mc ms n) (hp : PreV s H C b Pc As)
    (hg : g.method = m) (hn : As.length = n) (hsize : g.locals.size = nL) (hstack : g.stack = As.reverse ++ .ref b :: rest) (hW : 2 * g.monitorRoom + (rest.map fun v => v.category).sum ≤ 8) (hdg : decode cc g.pc = .ok (.invokevirtual index, 3)) (hf : cells + mc ≤ R.cells ∧ slots + ms ≤ R.slots) :
    va_Run p l e R s m args below meth c H locs cells slots mc ms g rest (Qc (Value.ref b :: As).toArray) free := by
  obtain ⟨⟨hrc, hrs, hfr, hlo, hws, hcw⟩, hcode, hini, hy, hlen, hl, hin, hse⟩ := cw
  have hK : Back l R p e below s args y 3 8 (PreOf R mc ms Pc) (PostOf Qc mc ms free) := va_backW (hh := hh) (bytes := bytes) (maxL := maxL) (ret := ret) hM hp.1 hrc hrs hfr hlo hws hcw (fun a' U hW => word_at hW (Or.inl (by first | rfl | simp [Cond.onTables, Cond.keeps, Cond.steady])) hini)
  obtain ⟨hx, hb, hml, ho, -⟩ := S
  obtain ⟨-, ⟨cellB, hcB, hoB, hclB⟩, hPc⟩ := hp
  intro T hT X
  obtain ⟨v, vm₁, ⟨U', l2, c2, s2⟩, hW₁, X', ⟨g', mk, t, L, e1, e2, hq, h1, hL, h2, h3⟩, st⟩ := vx_callVW X hx (C := C) (hh := hh) (bytes := bytes) (maxL := maxL) (ret := ret) ho hl hin hse hcode hy hK (by rw [hT]; exact hcB) hoB hclB hg (hsize.trans hml.symm) (argsL := As) (rest := rest) (fun sig h => hn.trans (hlen sig h)) hstack hW (by rw [hb]; exact hdg)
    (fun vm₁ hW₁ => ⟨hf.1, hf.2, hPc (T.setVm vm₁) hT hW₁⟩)
  dsimp only [Pt.U, Pt.locs, Pt.cells, Pt.slots] at X' e1 e2 h1 h2 h3 st
  subst h1; subst h2; subst h3
  exact ⟨v, (T.setVm vm₁).calling g' mk (Value.ref b :: As).toArray, t, U', L, hT, X', hL, e1, e2, hq, st⟩
section
variable {y : MethodName} {bytes cc : ByteArray} {maxL nL mc ms n index : Nat} {ret : Option FieldType} {ws : List Cond} {rm : Room} {Pc : Array Value → State → Prop} {Qc : Array Value → State → Outcome → State → Prop} {XC : String → State → State → Prop} {free : Addr → Prop} {Ts : List Cond} {own C : String} {b : Addr} {As rest : List Value} {g : JFrame}
theorem vx_runVX {hh : List (Nat × Nat × Nat × Nat)} (S : CallFix p m c cc nL s args Ts own) (hM : vx_Met l y ws rm Pc Qc XC mc ms free) (cw : vx_CVW R s args own C index y bytes maxL ret hh ws rm mc ms n) (hp : PreV s H C b Pc As)
    (hg : g.method = m) (hn : As.length = n) (hsize : g.locals.size = nL) (hstack : g.stack = As.reverse ++ .ref b :: rest) (hW : 2 * g.monitorRoom + (rest.map fun v => v.category).sum ≤ 8) (hdg : decode cc g.pc = .ok (.invokevirtual index, 3)) (hf : cells + mc ≤ R.cells ∧ slots + ms ≤ R.slots) :
    vx_Run p l e R s m args below meth c H locs cells slots mc ms g rest (Qc (Value.ref b :: As).toArray) XC free := by
  obtain ⟨⟨hrc, hrs, hfr, hlo, hws, hcw⟩, hcode, hini, hy, hlen, hl, hin, hse⟩ := cw
  have hK : vx_Back l R p e below s args y 3 8 (PreOf R mc ms Pc) (PostOf Qc mc ms free) (vx_Post XC mc ms free) := vx_backW (hh := hh) (bytes := bytes) (maxL := maxL) (ret := ret) hM hp.1 hrc hrs hfr hlo hws hcw (fun a' U hW => word_at hW (Or.inl (by first | rfl | simp [Cond.onTables, Cond.keeps, Cond.steady])) hini)
  obtain ⟨hx, hb, hml, ho, -⟩ := S
  obtain ⟨-, ⟨cellB, hcB, hoB, hclB⟩, hPc⟩ := hp
  intro T hT X
  rcases vx_callVX X hx (C := C) (hh := hh) (bytes := bytes) (maxL := maxL) (ret := ret) ho hl hin hse hcode hy hK (by rw [hT]; exact hcB) hoB hclB hg (hsize.trans hml.symm) (argsL := As) (rest := rest) (fun sig h => hn.trans (hlen sig h)) hstack hW (by rw [hb]; exact hdg)
    (fun vm₁ hW₁ => ⟨hf.1, hf.2, hPc (T.setVm vm₁) hT hW₁⟩) with ⟨v, vm₁, ⟨U', l2, c2, s2⟩, hW₁, X', ⟨g', mk, t, L, e1, e2, hq, h1, hL, h2, h3⟩, st⟩ | ⟨q, vm₁, ⟨U', l2, c2, s2⟩, hW₁, X', ⟨g', mk, t, L, E, ce, e1, e2, hq, hce, hcv, hcl, h1, hL, h2, h3⟩, st⟩
  · dsimp only [Pt.U, Pt.locs, Pt.cells, Pt.slots] at X' e1 e2 h1 h2 h3 st
    subst h1; subst h2; subst h3
    exact Or.inl ⟨v, (T.setVm vm₁).calling g' mk (Value.ref b :: As).toArray, t, U', L, hT, X', hL, e1, e2, hq, st⟩
  · dsimp only [Pt.U, Pt.locs, Pt.cells, Pt.slots] at X' e1 e2 h1 h2 h3 st hcl
    subst h1; subst h2; subst h3
    exact Or.inr ⟨q, (T.setVm vm₁).calling g' mk (Value.ref b :: As).toArray, t, U', L, E, ce, hT, X', hL, e1, e2, hq, hce, hcv, vx_cls hW₁ hcl, st⟩
theorem vx_runSX {hh : List (Nat × Nat × Nat × Nat)} (S : CallFix p m c cc nL s args Ts own) (hM : vx_Met l y ws rm Pc Qc XC mc ms free) (cw : vx_CSW R s args own index y bytes maxL ret hh ws rm mc ms n) (hp : PreS s H Pc As)
    (hg : g.method = m) (hn : As.length = n) (hsize : g.locals.size = nL) (hstack : g.stack = As.reverse ++ rest) (hW : 2 * g.monitorRoom + (rest.map fun v => v.category).sum ≤ 8) (hdg : decode cc g.pc = .ok (.invokestatic index, 3)) (hf : cells + mc ≤ R.cells ∧ slots + ms ≤ R.slots) :
    vx_Run p l e R s m args below meth c H locs cells slots mc ms g rest (Qc As.toArray) XC free := by
  obtain ⟨⟨hrc, hrs, hfr, hlo, hws, hcw⟩, hcode, hini, hy, hlen, hl, hstt⟩ := cw
  have hK : vx_Back l R p e below s args y 3 8 (PreOf R mc ms Pc) (PostOf Qc mc ms free) (vx_Post XC mc ms free) := vx_backW (hh := hh) (bytes := bytes) (maxL := maxL) (ret := ret) hM hp.1 hrc hrs hfr hlo hws hcw (fun a' U hW => word_at hW (Or.inl (by first | rfl | simp [Cond.onTables, Cond.keeps, Cond.steady])) hini)
  obtain ⟨hx, hb, hml, ho, -⟩ := S
  intro T hT X
  rcases vx_callSX X hx (hh := hh) (bytes := bytes) (maxL := maxL) (ret := ret) ho hl hstt hini hcode hy hK hg (hsize.trans hml.symm) (argsL := As) (rest := rest) (fun sig h => hn.trans (hlen sig h)) hstack hW (by rw [hb]; exact hdg)
    (fun vm₁ hW₁ => ⟨hf.1, hf.2, hp.2 (T.setVm vm₁) hT hW₁⟩) with ⟨v, vm₁, ⟨U', l2, c2, s2⟩, hW₁, X', ⟨g', mk, t, L, e1, e2, hq, h1, hL, h2, h3⟩, st⟩ | ⟨q, vm₁, ⟨U', l2, c2, s2⟩, hW₁, X', ⟨g', mk, t, L, E, ce, e1, e2, hq, hce, hcv, hcl, h1, hL, h2, h3⟩, st⟩
  · dsimp only [Pt.U, Pt.locs, Pt.cells, Pt.slots] at X' e1 e2 h1 h2 h3 st
    subst h1; subst h2; subst h3
    exact Or.inl ⟨v, (T.setVm vm₁).calling g' mk As.toArray, t, U', L, hT, X', hL, e1, e2, hq, st⟩
  · dsimp only [Pt.U, Pt.locs, Pt.cells, Pt.slots] at X' e1 e2 h1 h2 h3 st hcl
    subst h1; subst h2; subst h3
    exact Or.inr ⟨q, (T.setVm vm₁).calling g' mk As.toArray, t, U', L, E, ce, hT, X', hL, e1, e2, hq, hce, hcv, vx_cls hW₁ hcl, st⟩
end
end VXH
theorem vx_ofWH {l : Launch} {y : MethodName} {ws ws' : List Cond} {rm : Room} {Pc : Array Value → State → Prop} {Qc : Array Value → State → Outcome → State → Prop} {XC : String → State → State → Prop} {mc ms : Nat} {free : Addr → Prop} {cc : ByteArray} {maxL : Nat} {ret : Option FieldType} {hh : List (Nat × Nat × Nat × Nat)}
    (hy : plainName y.cls = true) (hw : ws = Cond.codeWith y cc maxL ret hh :: ws')
    (body : ∀ p e s m args below meth c s₁, BodyLoose p l y (headSpec ws rm) cc maxL ret e s m args below meth c s₁ → c.maxLocals = maxL → Pc args s →
      W p l e (headSpec ws rm).room s m args below meth c s.heap [] 0 0 (vx_MQ below Qc XC args s mc ms free) (entryFrame m args maxL)) : vx_Met l y ws rm Pc Qc XC mc ms free := by
  refine MetFree.of_bodyS (code := cc) (maxLocals := maxL) (ret := ret) hy ?_ ?_
  · intro args s m h hn
    obtain ⟨m9, meth, c, hn9, h1, h2, h3, h4, -, h5, h6, -⟩ := Cond.codeWith_spec (atoms_spec (ws := ws) h _ (by rw [hw]; exact List.mem_cons_self))
    cases hn.symm.trans hn9
    exact ⟨meth, c, h1, h2, h3, h4, h5, h6⟩
  · intro p e s m args below meth c s₁ B hml hP _
    have hh0 : s₁.heap = s.heap := by rw [B.state]; rfl
    obtain ⟨t, a1, o, b1, b2, b3⟩ := body p e s m args below meth c s₁ B hml hP s₁ hh0 (Stand.of_body B)
    exact ⟨t, o, a1, b1, b2, b3⟩
/-! ===== END ===== -/
end
section
/-! ===== BEGIN printed: names, fields, word lists, decode rows ===== -/
def RX0 : String := "RankHouse$ByteRow"
def TX0 : u_T := fun k => match k with
  | 0 => ("RankHouse$ByteRow", "bytes", "[I", true)
  | _ => ("RankHouse$ByteRow", "length", "I", false)
def tyX0 : Nat → FieldType := fun k => match k with
  | 0 => .array .int
  | _ => .int
abbrev wsX00 : List Cond := u_ws RX0 TX0 2
theorem nmX0 : ∀ a, a < 2 → ∀ b, b < 2 → a ≠ b → (TX0 a).2.1 ≠ (TX0 b).2.1 := by decide +kernel
theorem tyX0_ok : ∀ k, k < 2 → parseFieldDescriptor (TX0 k).2.2.1 = some (tyX0 k) := by decide +kernel
abbrev cX0_init : ByteArray := prog_2_method_1_code
def yX0_init : MethodName := ⟨RX0, "<init>", "(I)V"⟩
abbrev cX0_put : ByteArray := prog_2_method_2_code
def yX0_put : MethodName := ⟨RX0, "put", "(I)V"⟩
abbrev cX0_putFour : ByteArray := prog_2_method_3_code
def yX0_putFour : MethodName := ⟨RX0, "putFour", "(I)V"⟩
abbrev cX0_putUnsigned : ByteArray := prog_2_method_4_code
def yX0_putUnsigned : MethodName := ⟨RX0, "putUnsigned", "(I)V"⟩
def RX1 : String := "RankHouse$Decoder"
def TX1 : u_T := fun k => match k with
  | 0 => ("RankHouse$Decoder", "next", "I", false)
  | 1 => ("RankHouse$Decoder", "nodes", "I", false)
  | 2 => ("RankHouse$Decoder", "size", "I", false)
  | 3 => ("RankHouse$Decoder", "kind", "I", false)
  | _ => ("RankHouse$Decoder", "place", "I", false)
def tyX1 : Nat → FieldType := fun k => match k with
  | 0 => .int
  | 1 => .int
  | 2 => .int
  | 3 => .int
  | _ => .int
abbrev wsX10 : List Cond := u_ws RX1 TX1 5
theorem nmX1 : ∀ a, a < 5 → ∀ b, b < 5 → a ≠ b → (TX1 a).2.1 ≠ (TX1 b).2.1 := by decide +kernel
theorem tyX1_ok : ∀ k, k < 5 → parseFieldDescriptor (TX1 k).2.2.1 = some (tyX1 k) := by decide +kernel
abbrev cX1_init : ByteArray := prog_3_method_1_code
def yX1_init : MethodName := ⟨RX1, "<init>", "()V"⟩
abbrev cX1_decode : ByteArray := prog_3_method_2_code
def yX1_decode : MethodName := ⟨RX1, "decode", "(LRankHouse$ByteRow;LRankHouse$Graph;)Z"⟩
abbrev cX1_decodeNode : ByteArray := prog_3_method_3_code
def yX1_decodeNode : MethodName := ⟨RX1, "decodeNode", "(LRankHouse$ByteRow;LRankHouse$Graph;I)Z"⟩
abbrev cX1_unsigned : ByteArray := prog_3_method_4_code
def yX1_unsigned : MethodName := ⟨RX1, "unsigned", "(LRankHouse$ByteRow;)I"⟩
abbrev cX1_refuseUnsigned : ByteArray := prog_3_method_5_code
def yX1_refuseUnsigned : MethodName := ⟨RX1, "refuseUnsigned", "(I)I"⟩
abbrev cX1_refuse : ByteArray := prog_3_method_6_code
def yX1_refuse : MethodName := ⟨RX1, "refuse", "(II)Z"⟩
abbrev cX1_signed : ByteArray := prog_3_method_7_code
def yX1_signed : MethodName := ⟨RX1, "signed", "(I)I"⟩
def RX2 : String := "RankHouse$Graph"
def TX2 : u_T := fun k => match k with
  | 0 => ("RankHouse$Graph", "first", "[I", true)
  | 1 => ("RankHouse$Graph", "targets", "[I", true)
  | 2 => ("RankHouse$Graph", "weights", "[I", true)
  | 3 => ("RankHouse$Graph", "nodes", "I", false)
  | 4 => ("RankHouse$Graph", "size", "I", false)
  | _ => ("RankHouse$Graph", "whole", "I", false)
def tyX2 : Nat → FieldType := fun k => match k with
  | 0 => .array .int
  | 1 => .array .int
  | 2 => .array .int
  | 3 => .int
  | 4 => .int
  | _ => .int
abbrev wsX20 : List Cond := u_ws RX2 TX2 6
theorem nmX2 : ∀ a, a < 6 → ∀ b, b < 6 → a ≠ b → (TX2 a).2.1 ≠ (TX2 b).2.1 := by decide +kernel
theorem tyX2_ok : ∀ k, k < 6 → parseFieldDescriptor (TX2 k).2.2.1 = some (tyX2 k) := by decide +kernel
abbrev cX2_init : ByteArray := prog_4_method_1_code
def yX2_init : MethodName := ⟨RX2, "<init>", "()V"⟩
abbrev cX2_canHave : ByteArray := prog_4_method_2_code
def yX2_canHave : MethodName := ⟨RX2, "canHave", "(I)Z"⟩
abbrev cX2_reset : ByteArray := prog_4_method_3_code
def yX2_reset : MethodName := ⟨RX2, "reset", "(I)V"⟩
abbrev cX2_isNode : ByteArray := prog_4_method_4_code
def yX2_isNode : MethodName := ⟨RX2, "isNode", "(I)Z"⟩
abbrev cX2_outOf : ByteArray := prog_4_method_5_code
def yX2_outOf : MethodName := ⟨RX2, "outOf", "(I)I"⟩
abbrev cX2_into : ByteArray := prog_4_method_6_code
def yX2_into : MethodName := ⟨RX2, "into", "(I)I"⟩
abbrev cX2_target : ByteArray := prog_4_method_7_code
def yX2_target : MethodName := ⟨RX2, "target", "(II)I"⟩
abbrev cX2_source : ByteArray := prog_4_method_8_code
def yX2_source : MethodName := ⟨RX2, "source", "(II)I"⟩
abbrev cX2_joins : ByteArray := prog_4_method_9_code
def yX2_joins : MethodName := ⟨RX2, "joins", "(II)Z"⟩
abbrev cX2_join : ByteArray := prog_4_method_10_code
def yX2_join : MethodName := ⟨RX2, "join", "(II)Z"⟩
abbrev cX2_part : ByteArray := prog_4_method_11_code
def yX2_part : MethodName := ⟨RX2, "part", "(II)Z"⟩
abbrev cX2_weigh : ByteArray := prog_4_method_12_code
def yX2_weigh : MethodName := ⟨RX2, "weigh", "(II)Z"⟩
abbrev cX2_bareNodes : ByteArray := prog_4_method_13_code
def yX2_bareNodes : MethodName := ⟨RX2, "bareNodes", "()I"⟩
abbrev cX2_spot : ByteArray := prog_4_method_14_code
def yX2_spot : MethodName := ⟨RX2, "spot", "(II)I"⟩
abbrev cX2_grow : ByteArray := prog_4_method_15_code
def yX2_grow : MethodName := ⟨RX2, "grow", "(II)V"⟩
def RX3 : String := "RankHouse$Order"
def TX3 : u_T := fun k => match k with
  | 0 => ("RankHouse$Order", "nodes", "[I", true)
  | 1 => ("RankHouse$Order", "worths", "[J", true)
  | _ => ("RankHouse$Order", "size", "I", false)
def tyX3 : Nat → FieldType := fun k => match k with
  | 0 => .array .int
  | 1 => .array .long
  | _ => .int
abbrev wsX30 : List Cond := u_ws RX3 TX3 3
theorem nmX3 : ∀ a, a < 3 → ∀ b, b < 3 → a ≠ b → (TX3 a).2.1 ≠ (TX3 b).2.1 := by decide +kernel
theorem tyX3_ok : ∀ k, k < 3 → parseFieldDescriptor (TX3 k).2.2.1 = some (tyX3 k) := by decide +kernel
abbrev cX3_init : ByteArray := prog_5_method_1_code
def yX3_init : MethodName := ⟨RX3, "<init>", "()V"⟩
abbrev cX3_place : ByteArray := prog_5_method_2_code
def yX3_place : MethodName := ⟨RX3, "place", "(IJ)V"⟩
abbrev cX3_node : ByteArray := prog_5_method_3_code
def yX3_node : MethodName := ⟨RX3, "node", "(I)I"⟩
def RX4 : String := "RankHouse$Ranks"
def TX4 : u_T := fun k => match k with
  | 0 => ("RankHouse$Ranks", "now", "[J", false)
  | 1 => ("RankHouse$Ranks", "next", "[J", false)
  | 2 => ("RankHouse$Ranks", "p", "I", false)
  | 3 => ("RankHouse$Ranks", "q", "I", false)
  | 4 => ("RankHouse$Ranks", "steps", "I", false)
  | 5 => ("RankHouse$Ranks", "change", "J", false)
  | _ => ("RankHouse$Ranks", "error", "J", false)
def tyX4 : Nat → FieldType := fun k => match k with
  | 0 => .array .long
  | 1 => .array .long
  | 2 => .int
  | 3 => .int
  | 4 => .int
  | 5 => .long
  | _ => .long
abbrev wsX40 : List Cond := u_ws RX4 TX4 7
theorem nmX4 : ∀ a, a < 7 → ∀ b, b < 7 → a ≠ b → (TX4 a).2.1 ≠ (TX4 b).2.1 := by decide +kernel
theorem tyX4_ok : ∀ k, k < 7 → parseFieldDescriptor (TX4 k).2.2.1 = some (tyX4 k) := by decide +kernel
abbrev cX4_init : ByteArray := prog_6_method_1_code
def yX4_init : MethodName := ⟨RX4, "<init>", "()V"⟩
abbrev cX4_begin : ByteArray := prog_6_method_2_code
def yX4_begin : MethodName := ⟨RX4, "begin", "(LRankHouse$Graph;)V"⟩
abbrev cX4_damp : ByteArray := prog_6_method_3_code
def yX4_damp : MethodName := ⟨RX4, "damp", "(II)Z"⟩
abbrev cX4_areStill : ByteArray := prog_6_method_4_code
def yX4_areStill : MethodName := ⟨RX4, "areStill", "(J)Z"⟩
abbrev cX4_step : ByteArray := prog_6_method_5_code
def yX4_step : MethodName := ⟨RX4, "step", "(LRankHouse$Graph;)V"⟩
abbrev cX4_share : ByteArray := prog_6_method_6_code
def yX4_share : MethodName := ⟨RX4, "share", "(LRankHouse$Graph;I)J"⟩
abbrev cX4_sum : ByteArray := prog_6_method_7_code
def yX4_sum : MethodName := ⟨RX4, "sum", "(LRankHouse$Graph;)J"⟩
abbrev cX4_bareSum : ByteArray := prog_6_method_8_code
def yX4_bareSum : MethodName := ⟨RX4, "bareSum", "(LRankHouse$Graph;)J"⟩
abbrev cX4_bound : ByteArray := prog_6_method_9_code
def yX4_bound : MethodName := ⟨RX4, "bound", "(LRankHouse$Graph;)J"⟩
abbrev cX4_shareOut : ByteArray := prog_6_method_10_code
def yX4_shareOut : MethodName := ⟨RX4, "shareOut", "(LRankHouse$Graph;I)V"⟩
abbrev cX4_distance : ByteArray := prog_6_method_11_code
def yX4_distance : MethodName := ⟨RX4, "distance", "(I)J"⟩
def RX5 : String := "RankHouse"
def TX5 : u_T := fun k => match k with
  | 0 => ("RankHouse", "tape", "LRankHouse$ByteRow;", true)
  | 1 => ("RankHouse", "out", "LRankHouse$ByteRow;", true)
  | 2 => ("RankHouse", "decoder", "LRankHouse$Decoder;", true)
  | 3 => ("RankHouse", "ranks", "LRankHouse$Ranks;", true)
  | 4 => ("RankHouse", "order", "LRankHouse$Order;", true)
  | _ => ("RankHouse", "graph", "LRankHouse$Graph;", true)
def tyX5 : Nat → FieldType := fun k => match k with
  | 0 => .object "RankHouse$ByteRow"
  | 1 => .object "RankHouse$ByteRow"
  | 2 => .object "RankHouse$Decoder"
  | 3 => .object "RankHouse$Ranks"
  | 4 => .object "RankHouse$Order"
  | _ => .object "RankHouse$Graph"
abbrev wsX50 : List Cond := u_ws RX5 TX5 6
theorem nmX5 : ∀ a, a < 6 → ∀ b, b < 6 → a ≠ b → (TX5 a).2.1 ≠ (TX5 b).2.1 := by decide +kernel
theorem tyX5_ok : ∀ k, k < 6 → parseFieldDescriptor (TX5 k).2.2.1 = some (tyX5 k) := by decide +kernel
abbrev cX5_init : ByteArray := prog_1_method_1_code
def yX5_init : MethodName := ⟨RX5, "<init>", "()V"⟩
abbrev cX5_feed : ByteArray := prog_1_method_2_code
def yX5_feed : MethodName := ⟨RX5, "feed", "(IIIII)I"⟩
abbrev cX5_end : ByteArray := prog_1_method_3_code
def yX5_end : MethodName := ⟨RX5, "end", "(I)Z"⟩
abbrev cX5_read : ByteArray := prog_1_method_4_code
def yX5_read : MethodName := ⟨RX5, "read", "()I"⟩
abbrev cX5_fault : ByteArray := prog_1_method_5_code
def yX5_fault : MethodName := ⟨RX5, "fault", "()I"⟩
abbrev cX5_clear : ByteArray := prog_1_method_6_code
def yX5_clear : MethodName := ⟨RX5, "clear", "(I)Z"⟩
abbrev cX5_add : ByteArray := prog_1_method_7_code
def yX5_add : MethodName := ⟨RX5, "add", "(II)Z"⟩
abbrev cX5_cut : ByteArray := prog_1_method_8_code
def yX5_cut : MethodName := ⟨RX5, "cut", "(II)Z"⟩
abbrev cX5_has : ByteArray := prog_1_method_9_code
def yX5_has : MethodName := ⟨RX5, "has", "(II)Z"⟩
abbrev cX5_edges : ByteArray := prog_1_method_10_code
def yX5_edges : MethodName := ⟨RX5, "edges", "(II)I"⟩
abbrev cX5_other : ByteArray := prog_1_method_11_code
def yX5_other : MethodName := ⟨RX5, "other", "(III)I"⟩
abbrev cX5_weight : ByteArray := prog_1_method_12_code
def yX5_weight : MethodName := ⟨RX5, "weight", "(II)Z"⟩
abbrev cX5_damping : ByteArray := prog_1_method_13_code
def yX5_damping : MethodName := ⟨RX5, "damping", "(II)Z"⟩
abbrev cX5_run : ByteArray := prog_1_method_14_code
def yX5_run : MethodName := ⟨RX5, "run", "(IJ)I"⟩
abbrev cX5_again : ByteArray := prog_1_method_15_code
def yX5_again : MethodName := ⟨RX5, "again", "()V"⟩
abbrev cX5_rank : ByteArray := prog_1_method_16_code
def yX5_rank : MethodName := ⟨RX5, "rank", "(I)J"⟩
abbrev cX5_look : ByteArray := prog_1_method_17_code
def yX5_look : MethodName := ⟨RX5, "look", "(I)J"⟩
abbrev cX5_top : ByteArray := prog_1_method_18_code
def yX5_top : MethodName := ⟨RX5, "top", "(I)I"⟩
abbrev cX5_gives : ByteArray := prog_1_method_19_code
def yX5_gives : MethodName := ⟨RX5, "gives", "(II)J"⟩
abbrev cX5_giver : ByteArray := prog_1_method_20_code
def yX5_giver : MethodName := ⟨RX5, "giver", "(II)I"⟩
abbrev cX5_write : ByteArray := prog_1_method_21_code
def yX5_write : MethodName := ⟨RX5, "write", "()I"⟩
abbrev cX5_octet : ByteArray := prog_1_method_22_code
def yX5_octet : MethodName := ⟨RX5, "octet", "(I)I"⟩
abbrev cX5_count : ByteArray := prog_1_method_23_code
def yX5_count : MethodName := ⟨RX5, "count", "(I)I"⟩
abbrev cX5_beginIf : ByteArray := prog_1_method_24_code
def yX5_beginIf : MethodName := ⟨RX5, "beginIf", "(Z)Z"⟩
abbrev cX5_putNode : ByteArray := prog_1_method_25_code
def yX5_putNode : MethodName := ⟨RX5, "putNode", "(I)V"⟩
abbrev cX5_quotient : ByteArray := prog_1_method_26_code
def yX5_quotient : MethodName := ⟨RX5, "quotient", "(JJ)J"⟩
def RX6 : String := "RankHouseModel"
def TX6 : u_T := fun k => match k with
  | 0 => ("RankHouseModel", "thrown", "I", false)
  | 1 => ("RankHouseModel", "edge", "[Z", true)
  | 2 => ("RankHouseModel", "fresh", "[Z", true)
  | 3 => ("RankHouseModel", "weight", "[I", true)
  | 4 => ("RankHouseModel", "rank", "[J", true)
  | 5 => ("RankHouseModel", "next", "[J", true)
  | 6 => ("RankHouseModel", "nodes", "I", false)
  | 7 => ("RankHouseModel", "edges", "I", false)
  | 8 => ("RankHouseModel", "p", "I", false)
  | 9 => ("RankHouseModel", "q", "I", false)
  | 10 => ("RankHouseModel", "steps", "I", false)
  | 11 => ("RankHouseModel", "change", "J", false)
  | 12 => ("RankHouseModel", "bound", "J", false)
  | 13 => ("RankHouseModel", "tape", "[B", true)
  | 14 => ("RankHouseModel", "length", "I", false)
  | 15 => ("RankHouseModel", "size", "I", false)
  | 16 => ("RankHouseModel", "at", "I", false)
  | 17 => ("RankHouseModel", "fault", "I", false)
  | 18 => ("RankHouseModel", "faultAt", "I", false)
  | 19 => ("RankHouseModel", "number", "I", false)
  | 20 => ("RankHouseModel", "from", "I", false)
  | 21 => ("RankHouseModel", "newNodes", "I", false)
  | 22 => ("RankHouseModel", "out", "[B", true)
  | _ => ("RankHouseModel", "outMany", "I", false)
def tyX6 : Nat → FieldType := fun k => match k with
  | 0 => .int
  | 1 => .array .boolean
  | 2 => .array .boolean
  | 3 => .array .int
  | 4 => .array .long
  | 5 => .array .long
  | 6 => .int
  | 7 => .int
  | 8 => .int
  | 9 => .int
  | 10 => .int
  | 11 => .long
  | 12 => .long
  | 13 => .array .byte
  | 14 => .int
  | 15 => .int
  | 16 => .int
  | 17 => .int
  | 18 => .int
  | 19 => .int
  | 20 => .int
  | 21 => .int
  | 22 => .array .byte
  | _ => .int
abbrev wsX60 : List Cond := u_ws RX6 TX6 24
theorem nmX6 : ∀ a, a < 24 → ∀ b, b < 24 → a ≠ b → (TX6 a).2.1 ≠ (TX6 b).2.1 := by decide +kernel
theorem tyX6_ok : ∀ k, k < 24 → parseFieldDescriptor (TX6 k).2.2.1 = some (tyX6 k) := by decide +kernel
abbrev cX6_thrown : ByteArray := prog_8_method_1_code
def yX6_thrown : MethodName := ⟨RX6, "thrown", "()I"⟩
abbrev cX6_throwsIf : ByteArray := prog_8_method_2_code
def yX6_throwsIf : MethodName := ⟨RX6, "throwsIf", "(Z)Z"⟩
abbrev cX6_init : ByteArray := prog_8_method_3_code
def yX6_init : MethodName := ⟨RX6, "<init>", "()V"⟩
abbrev cX6_begin : ByteArray := prog_8_method_4_code
def yX6_begin : MethodName := ⟨RX6, "begin", "()V"⟩
abbrev cX6_no : ByteArray := prog_8_method_5_code
def yX6_no : MethodName := ⟨RX6, "no", "(I)Z"⟩
abbrev cX6_goes : ByteArray := prog_8_method_6_code
def yX6_goes : MethodName := ⟨RX6, "goes", "(II)Z"⟩
abbrev cX6_feed : ByteArray := prog_8_method_7_code
def yX6_feed : MethodName := ⟨RX6, "feed", "(IIIII)I"⟩
abbrev cX6_four : ByteArray := prog_8_method_8_code
def yX6_four : MethodName := ⟨RX6, "four", "(I)V"⟩
abbrev cX6_end : ByteArray := prog_8_method_9_code
def yX6_end : MethodName := ⟨RX6, "end", "(I)Z"⟩
abbrev cX6_wrong : ByteArray := prog_8_method_10_code
def yX6_wrong : MethodName := ⟨RX6, "wrong", "(II)Z"⟩
abbrev cX6_reads : ByteArray := prog_8_method_11_code
def yX6_reads : MethodName := ⟨RX6, "reads", "()Z"⟩
abbrev cX6_read : ByteArray := prog_8_method_12_code
def yX6_read : MethodName := ⟨RX6, "read", "()I"⟩
abbrev cX6_bad : ByteArray := prog_8_method_13_code
def yX6_bad : MethodName := ⟨RX6, "bad", "(II)I"⟩
abbrev cX6_graph : ByteArray := prog_8_method_14_code
def yX6_graph : MethodName := ⟨RX6, "graph", "()I"⟩
abbrev cX6_fault : ByteArray := prog_8_method_15_code
def yX6_fault : MethodName := ⟨RX6, "fault", "()I"⟩
abbrev cX6_clear : ByteArray := prog_8_method_16_code
def yX6_clear : MethodName := ⟨RX6, "clear", "(I)Z"⟩
abbrev cX6_add : ByteArray := prog_8_method_17_code
def yX6_add : MethodName := ⟨RX6, "add", "(II)Z"⟩
abbrev cX6_cut : ByteArray := prog_8_method_18_code
def yX6_cut : MethodName := ⟨RX6, "cut", "(II)Z"⟩
abbrev cX6_has : ByteArray := prog_8_method_19_code
def yX6_has : MethodName := ⟨RX6, "has", "(II)Z"⟩
abbrev cX6_many : ByteArray := prog_8_method_20_code
def yX6_many : MethodName := ⟨RX6, "many", "(II)I"⟩
abbrev cX6_edges : ByteArray := prog_8_method_21_code
def yX6_edges : MethodName := ⟨RX6, "edges", "(II)I"⟩
abbrev cX6_other : ByteArray := prog_8_method_22_code
def yX6_other : MethodName := ⟨RX6, "other", "(III)I"⟩
abbrev cX6_whole : ByteArray := prog_8_method_23_code
def yX6_whole : MethodName := ⟨RX6, "whole", "()I"⟩
abbrev cX6_weight : ByteArray := prog_8_method_24_code
def yX6_weight : MethodName := ⟨RX6, "weight", "(II)Z"⟩
abbrev cX6_damping : ByteArray := prog_8_method_25_code
def yX6_damping : MethodName := ⟨RX6, "damping", "(II)Z"⟩
abbrev cX6_bare : ByteArray := prog_8_method_26_code
def yX6_bare : MethodName := ⟨RX6, "bare", "()J"⟩
abbrev cX6_share : ByteArray := prog_8_method_27_code
def yX6_share : MethodName := ⟨RX6, "share", "(I)J"⟩
abbrev cX6_step : ByteArray := prog_8_method_28_code
def yX6_step : MethodName := ⟨RX6, "step", "()V"⟩
abbrev cX6_run : ByteArray := prog_8_method_29_code
def yX6_run : MethodName := ⟨RX6, "run", "(IJ)I"⟩
abbrev cX6_again : ByteArray := prog_8_method_30_code
def yX6_again : MethodName := ⟨RX6, "again", "()V"⟩
abbrev cX6_rank : ByteArray := prog_8_method_31_code
def yX6_rank : MethodName := ⟨RX6, "rank", "(I)J"⟩
abbrev cX6_look : ByteArray := prog_8_method_32_code
def yX6_look : MethodName := ⟨RX6, "look", "(I)J"⟩
abbrev cX6_top : ByteArray := prog_8_method_33_code
def yX6_top : MethodName := ⟨RX6, "top", "(I)I"⟩
abbrev cX6_gives : ByteArray := prog_8_method_34_code
def yX6_gives : MethodName := ⟨RX6, "gives", "(II)J"⟩
abbrev cX6_giver : ByteArray := prog_8_method_35_code
def yX6_giver : MethodName := ⟨RX6, "giver", "(II)I"⟩
abbrev cX6_put : ByteArray := prog_8_method_36_code
def yX6_put : MethodName := ⟨RX6, "put", "(I)V"⟩
abbrev cX6_write : ByteArray := prog_8_method_37_code
def yX6_write : MethodName := ⟨RX6, "write", "()I"⟩
abbrev cX6_octet : ByteArray := prog_8_method_38_code
def yX6_octet : MethodName := ⟨RX6, "octet", "(I)I"⟩
abbrev cX6_count : ByteArray := prog_8_method_39_code
def yX6_count : MethodName := ⟨RX6, "count", "(I)I"⟩
def RJ9 : String := "java/lang/Math"
def TJ9 : u_T := fun k => match k with
  | _ => ("", "", "", false)
def tyJ9 : Nat → FieldType := fun k => match k with
  | _ => .int
abbrev wsJ90 : List Cond := u_ws RJ9 TJ9 0
theorem nmJ9 : ∀ a, a < 0 → ∀ b, b < 0 → a ≠ b → (TJ9 a).2.1 ≠ (TJ9 b).2.1 := by decide +kernel
theorem tyJ9_ok : ∀ k, k < 0 → parseFieldDescriptor (TJ9 k).2.2.1 = some (tyJ9 k) := by decide +kernel
abbrev cJ9_abs_067f4 : ByteArray := prog_11_method_61_code
def yJ9_abs_067f4 : MethodName := ⟨RJ9, "abs", "(J)J"⟩
abbrev cJ9_max_7cf53 : ByteArray := prog_11_method_65_code
def yJ9_max_7cf53 : MethodName := ⟨RJ9, "max", "(II)I"⟩
def RJ10 : String := "java/lang/System"
def TJ10 : u_T := fun k => match k with
  | _ => ("", "", "", false)
def tyJ10 : Nat → FieldType := fun k => match k with
  | _ => .int
abbrev wsJ100 : List Cond := u_ws RJ10 TJ10 0
theorem nmJ10 : ∀ a, a < 0 → ∀ b, b < 0 → a ≠ b → (TJ10 a).2.1 ≠ (TJ10 b).2.1 := by decide +kernel
theorem tyJ10_ok : ∀ k, k < 0 → parseFieldDescriptor (TJ10 k).2.2.1 = some (tyJ10 k) := by decide +kernel
def RL : String := "RankHouseLaw"
abbrev cL_edges : ByteArray := method_3_code
def yL_edges : MethodName := ⟨RL, "edges", "(LRankHouse;II[J)I"⟩
abbrev cL_run : ByteArray := method_4_code
def yL_run : MethodName := ⟨RL, "run", "(LRankHouse;IJ[J)I"⟩
abbrev cL_rank : ByteArray := method_5_code
def yL_rank : MethodName := ⟨RL, "rank", "(LRankHouse;I[J)I"⟩
abbrev cL_octet : ByteArray := method_6_code
def yL_octet : MethodName := ⟨RL, "octet", "(LRankHouse;I[J)I"⟩
abbrev cL_law : ByteArray := code
def yL_law : MethodName := ⟨RL, "law", "([I)Z"⟩
def wsX0_init : List Cond := .code yX0_init cX0_init 2 none :: ([.methodLink RX0 3 objectInit, .instanceMethod objectInit, .code objectInit ⟨#[0xb1]⟩ 1 none, .fieldLink RX0 9 "RankHouse$ByteRow" "length" "I", .methodLink RX0 15 Lib.Math.max.name, .static Lib.Math.max.name, .initialized "java/lang/Math", .code Lib.Math.max.name Lib.Math.max.code 2 (some .int), .arrayClass .int, .fieldLink RX0 21 "RankHouse$ByteRow" "bytes" "[I"] ++ wsX00)
def wsX0_put : List Cond := .code yX0_put cX0_put 2 none :: ([.fieldLink RX0 9 "RankHouse$ByteRow" "length" "I", .fieldLink RX0 21 "RankHouse$ByteRow" "bytes" "[I"] ++ wsX00)
def wsX0_putFour : List Cond := .code yX0_putFour cX0_putFour 2 none :: ([.methodLink RX0 25 yX0_put, .instanceMethod yX0_put, .selects RX0 yX0_put yX0_put, .initialized RX0, .code yX0_put cX0_put 2 none, .fieldLink RX0 9 "RankHouse$ByteRow" "length" "I", .fieldLink RX0 21 "RankHouse$ByteRow" "bytes" "[I"] ++ wsX00)
def wsX0_putUnsigned : List Cond := .code yX0_putUnsigned cX0_putUnsigned 4 none :: ([.methodLink RX0 25 yX0_put, .instanceMethod yX0_put, .selects RX0 yX0_put yX0_put, .initialized RX0, .code yX0_put cX0_put 2 none, .fieldLink RX0 9 "RankHouse$ByteRow" "length" "I", .fieldLink RX0 21 "RankHouse$ByteRow" "bytes" "[I"] ++ wsX00)
def wsX1_init : List Cond := .code yX1_init cX1_init 1 none :: ([.methodLink RX1 3 objectInit, .instanceMethod objectInit, .code objectInit ⟨#[0xb1]⟩ 1 none, .fieldLink RX1 9 "RankHouse$Decoder" "next" "I", .fieldLink RX1 15 "RankHouse$Decoder" "nodes" "I", .fieldLink RX1 18 "RankHouse$Decoder" "size" "I", .fieldLink RX1 21 "RankHouse$Decoder" "kind" "I", .fieldLink RX1 24 "RankHouse$Decoder" "place" "I"] ++ wsX10)
def wsX1_refuse : List Cond := .code yX1_refuse cX1_refuse 3 (some .boolean) :: ([.fieldLink RX1 21 "RankHouse$Decoder" "kind" "I", .fieldLink RX1 24 "RankHouse$Decoder" "place" "I"] ++ wsX10)
def wsX1_refuseUnsigned : List Cond := .code yX1_refuseUnsigned cX1_refuseUnsigned 2 (some .int) :: ([.methodLink RX1 37 yX1_refuse, .instanceMethod yX1_refuse, .selects RX1 yX1_refuse yX1_refuse, .initialized RX1, .code yX1_refuse cX1_refuse 3 (some .boolean), .fieldLink RX1 21 "RankHouse$Decoder" "kind" "I", .fieldLink RX1 24 "RankHouse$Decoder" "place" "I"] ++ wsX10)
def wsX1_unsigned : List Cond := .code yX1_unsigned cX1_unsigned 7 (some .int) :: ([.fieldLink RX1 9 "RankHouse$Decoder" "next" "I", .constant RX1 65 (65535), .methodLink RX1 37 yX1_refuse, .instanceMethod yX1_refuse, .selects RX1 yX1_refuse yX1_refuse, .initialized RX1, .code yX1_refuse cX1_refuse 3 (some .boolean), .fieldLink RX1 21 "RankHouse$Decoder" "kind" "I", .fieldLink RX1 24 "RankHouse$Decoder" "place" "I", .methodLink RX1 66 yX1_refuseUnsigned, .instanceMethod yX1_refuseUnsigned, .selects RX1 yX1_refuseUnsigned yX1_refuseUnsigned, .code yX1_refuseUnsigned cX1_refuseUnsigned 2 (some .int)] ++ wsX10 ++ wsX00)
def wsX2_canHave : List Cond := .code yX2_canHave cX2_canHave 1 (some .boolean) :: ([])
def wsX2_reset : List Cond := .code yX2_reset cX2_reset 3 none :: ([.fieldLink RX2 21 "RankHouse$Graph" "nodes" "I", .fieldLink RX2 25 "RankHouse$Graph" "size" "I", .fieldLink RX2 28 "RankHouse$Graph" "whole" "I", .fieldLink RX2 18 "RankHouse$Graph" "weights" "[I", .fieldLink RX2 9 "RankHouse$Graph" "first" "[I", .methodLink RX2 31 yX2_canHave, .static yX2_canHave, .initialized RX2, .code yX2_canHave cX2_canHave 1 (some .boolean)] ++ wsX20)
def wsX1_signed : List Cond := .code yX1_signed cX1_signed 1 (some .int) :: ([])
def wsX2_isNode : List Cond := .code yX2_isNode cX2_isNode 2 (some .boolean) :: ([.fieldLink RX2 21 "RankHouse$Graph" "nodes" "I"] ++ wsX20)
def wsX2_spot : List Cond := .code yX2_spot cX2_spot 4 (some .int) :: ([.fieldLink RX2 9 "RankHouse$Graph" "first" "[I", .fieldLink RX2 15 "RankHouse$Graph" "targets" "[I"] ++ wsX20)
def wsX2_joins : List Cond := .code yX2_joins cX2_joins 4 (some .boolean) :: ([.fieldLink RX2 9 "RankHouse$Graph" "first" "[I", .fieldLink RX2 15 "RankHouse$Graph" "targets" "[I", .methodLink RX2 35 yX2_isNode, .instanceMethod yX2_isNode, .selects RX2 yX2_isNode yX2_isNode, .initialized RX2, .code yX2_isNode cX2_isNode 2 (some .boolean), .fieldLink RX2 21 "RankHouse$Graph" "nodes" "I", .methodLink RX2 46 yX2_spot, .instanceMethod yX2_spot, .selects RX2 yX2_spot yX2_spot, .code yX2_spot cX2_spot 4 (some .int)] ++ wsX20)
def wsX2_grow : List Cond := .code yX2_grow cX2_grow 4 none :: ([.fieldLink RX2 25 "RankHouse$Graph" "size" "I", .fieldLink RX2 21 "RankHouse$Graph" "nodes" "I", .fieldLink RX2 9 "RankHouse$Graph" "first" "[I"] ++ wsX20)
def wsX2_join_r1 : List Cond := [Cond.fieldLink RX2 25 "RankHouse$Graph" "size" "I", Cond.fieldLink RX2 15 "RankHouse$Graph" "targets" "[I", Cond.methodLink RX2 50 arraycopyName, Cond.native arraycopyName, Cond.static arraycopyName, Cond.initialized "java/lang/System", Cond.methodLink RX2 35 yX2_isNode, Cond.instanceMethod yX2_isNode, Cond.selects RX2 yX2_isNode yX2_isNode, Cond.initialized RX2, Cond.code yX2_isNode cX2_isNode 2 (some .boolean), Cond.fieldLink RX2 21 "RankHouse$Graph" "nodes" "I", Cond.methodLink RX2 42 yX2_joins, Cond.instanceMethod yX2_joins, Cond.selects RX2 yX2_joins yX2_joins, Cond.code yX2_joins cX2_joins 4 (some .boolean), Cond.fieldLink RX2 9 "RankHouse$Graph" "first" "[I", Cond.methodLink RX2 46 yX2_spot, Cond.instanceMethod yX2_spot, Cond.selects RX2 yX2_spot yX2_spot, Cond.code yX2_spot cX2_spot 4 (some .int), Cond.methodLink RX2 56 yX2_grow, Cond.instanceMethod yX2_grow, Cond.selects RX2 yX2_grow yX2_grow]
def wsX2_join_r2 : List Cond := [Cond.code yX2_grow cX2_grow 4 none]
def wsX2_join : List Cond := .code yX2_join cX2_join 4 (some .boolean) :: ((wsX2_join_r1 ++ wsX2_join_r2) ++ wsX20)
def wsX1_decodeNode_r1 : List Cond := [Cond.fieldLink RX1 9 "RankHouse$Decoder" "next" "I", Cond.fieldLink RX1 15 "RankHouse$Decoder" "nodes" "I", Cond.fieldLink RX1 18 "RankHouse$Decoder" "size" "I", Cond.methodLink RX1 27 yX1_unsigned, Cond.instanceMethod yX1_unsigned, Cond.selects RX1 yX1_unsigned yX1_unsigned, Cond.initialized RX1, Cond.code yX1_unsigned cX1_unsigned 7 (some .int), Cond.constant RX1 65 (65535), Cond.methodLink RX1 37 yX1_refuse, Cond.instanceMethod yX1_refuse, Cond.selects RX1 yX1_refuse yX1_refuse, Cond.code yX1_refuse cX1_refuse 3 (some .boolean), Cond.fieldLink RX1 21 "RankHouse$Decoder" "kind" "I", Cond.fieldLink RX1 24 "RankHouse$Decoder" "place" "I", Cond.methodLink RX1 66 yX1_refuseUnsigned, Cond.instanceMethod yX1_refuseUnsigned, Cond.selects RX1 yX1_refuseUnsigned yX1_refuseUnsigned, Cond.code yX1_refuseUnsigned cX1_refuseUnsigned 2 (some .int), Cond.methodLink RX1 54 yX1_signed, Cond.static yX1_signed, Cond.code yX1_signed cX1_signed 1 (some .int), Cond.methodLink RX1 58 yX2_join, Cond.instanceMethod yX2_join]
def wsX1_decodeNode_r2 : List Cond := [Cond.selects RX2 yX2_join yX2_join, Cond.initialized RX2, Cond.code yX2_join cX2_join 4 (some .boolean), Cond.fieldLink RX2 25 "RankHouse$Graph" "size" "I", Cond.fieldLink RX2 15 "RankHouse$Graph" "targets" "[I", Cond.methodLink RX2 50 arraycopyName, Cond.native arraycopyName, Cond.static arraycopyName, Cond.initialized "java/lang/System", Cond.methodLink RX2 35 yX2_isNode, Cond.instanceMethod yX2_isNode, Cond.selects RX2 yX2_isNode yX2_isNode, Cond.code yX2_isNode cX2_isNode 2 (some .boolean), Cond.fieldLink RX2 21 "RankHouse$Graph" "nodes" "I", Cond.methodLink RX2 42 yX2_joins, Cond.instanceMethod yX2_joins, Cond.selects RX2 yX2_joins yX2_joins, Cond.code yX2_joins cX2_joins 4 (some .boolean), Cond.fieldLink RX2 9 "RankHouse$Graph" "first" "[I", Cond.methodLink RX2 46 yX2_spot, Cond.instanceMethod yX2_spot, Cond.selects RX2 yX2_spot yX2_spot, Cond.code yX2_spot cX2_spot 4 (some .int), Cond.methodLink RX2 56 yX2_grow]
def wsX1_decodeNode_r3 : List Cond := [Cond.instanceMethod yX2_grow, Cond.selects RX2 yX2_grow yX2_grow, Cond.code yX2_grow cX2_grow 4 none]
def wsX1_decodeNode : List Cond := .code yX1_decodeNode cX1_decodeNode 9 (some .boolean) :: ((wsX1_decodeNode_r1 ++ (wsX1_decodeNode_r2 ++ wsX1_decodeNode_r3)) ++ wsX10 ++ wsX00 ++ wsX20)
def wsX1_decode_r1 : List Cond := [Cond.fieldLink RX1 9 "RankHouse$Decoder" "next" "I", Cond.fieldLink RX1 21 "RankHouse$Decoder" "kind" "I", Cond.fieldLink RX1 18 "RankHouse$Decoder" "size" "I", Cond.fieldLink RX1 15 "RankHouse$Decoder" "nodes" "I", Cond.methodLink RX1 27 yX1_unsigned, Cond.instanceMethod yX1_unsigned, Cond.selects RX1 yX1_unsigned yX1_unsigned, Cond.initialized RX1, Cond.code yX1_unsigned cX1_unsigned 7 (some .int), Cond.constant RX1 65 (65535), Cond.methodLink RX1 37 yX1_refuse, Cond.instanceMethod yX1_refuse, Cond.selects RX1 yX1_refuse yX1_refuse, Cond.code yX1_refuse cX1_refuse 3 (some .boolean), Cond.fieldLink RX1 24 "RankHouse$Decoder" "place" "I", Cond.methodLink RX1 66 yX1_refuseUnsigned, Cond.instanceMethod yX1_refuseUnsigned, Cond.selects RX1 yX1_refuseUnsigned yX1_refuseUnsigned, Cond.code yX1_refuseUnsigned cX1_refuseUnsigned 2 (some .int), Cond.methodLink RX1 31 yX2_canHave, Cond.static yX2_canHave, Cond.initialized RX2, Cond.code yX2_canHave cX2_canHave 1 (some .boolean), Cond.methodLink RX1 41 yX2_reset]
def wsX1_decode_r2 : List Cond := [Cond.instanceMethod yX2_reset, Cond.selects RX2 yX2_reset yX2_reset, Cond.code yX2_reset cX2_reset 3 none, Cond.fieldLink RX2 21 "RankHouse$Graph" "nodes" "I", Cond.fieldLink RX2 25 "RankHouse$Graph" "size" "I", Cond.fieldLink RX2 28 "RankHouse$Graph" "whole" "I", Cond.fieldLink RX2 18 "RankHouse$Graph" "weights" "[I", Cond.fieldLink RX2 9 "RankHouse$Graph" "first" "[I", Cond.methodLink RX2 31 yX2_canHave, Cond.methodLink RX1 45 yX1_decodeNode, Cond.instanceMethod yX1_decodeNode, Cond.selects RX1 yX1_decodeNode yX1_decodeNode, Cond.code yX1_decodeNode cX1_decodeNode 9 (some .boolean), Cond.methodLink RX1 54 yX1_signed, Cond.static yX1_signed, Cond.code yX1_signed cX1_signed 1 (some .int), Cond.methodLink RX1 58 yX2_join, Cond.instanceMethod yX2_join, Cond.selects RX2 yX2_join yX2_join, Cond.code yX2_join cX2_join 4 (some .boolean), Cond.fieldLink RX2 15 "RankHouse$Graph" "targets" "[I", Cond.methodLink RX2 50 arraycopyName, Cond.native arraycopyName, Cond.static arraycopyName]
def wsX1_decode_r3 : List Cond := [Cond.initialized "java/lang/System", Cond.methodLink RX2 35 yX2_isNode, Cond.instanceMethod yX2_isNode, Cond.selects RX2 yX2_isNode yX2_isNode, Cond.code yX2_isNode cX2_isNode 2 (some .boolean), Cond.methodLink RX2 42 yX2_joins, Cond.instanceMethod yX2_joins, Cond.selects RX2 yX2_joins yX2_joins, Cond.code yX2_joins cX2_joins 4 (some .boolean), Cond.methodLink RX2 46 yX2_spot, Cond.instanceMethod yX2_spot, Cond.selects RX2 yX2_spot yX2_spot, Cond.code yX2_spot cX2_spot 4 (some .int), Cond.methodLink RX2 56 yX2_grow, Cond.instanceMethod yX2_grow, Cond.selects RX2 yX2_grow yX2_grow, Cond.code yX2_grow cX2_grow 4 none]
def wsX1_decode : List Cond := .code yX1_decode cX1_decode 4 (some .boolean) :: ((wsX1_decode_r1 ++ (wsX1_decode_r2 ++ wsX1_decode_r3)) ++ wsX10 ++ wsX00 ++ wsX20)
def wsX2_init : List Cond := .code yX2_init cX2_init 1 none :: ([.methodLink RX2 3 objectInit, .instanceMethod objectInit, .code objectInit ⟨#[0xb1]⟩ 1 none, .arrayClass .int, .fieldLink RX2 9 "RankHouse$Graph" "first" "[I", .fieldLink RX2 15 "RankHouse$Graph" "targets" "[I", .fieldLink RX2 18 "RankHouse$Graph" "weights" "[I", .fieldLink RX2 21 "RankHouse$Graph" "nodes" "I", .fieldLink RX2 25 "RankHouse$Graph" "size" "I", .fieldLink RX2 28 "RankHouse$Graph" "whole" "I"] ++ wsX20)
def wsX2_outOf : List Cond := .code yX2_outOf cX2_outOf 2 (some .int) :: ([.fieldLink RX2 9 "RankHouse$Graph" "first" "[I", .methodLink RX2 35 yX2_isNode, .instanceMethod yX2_isNode, .selects RX2 yX2_isNode yX2_isNode, .initialized RX2, .code yX2_isNode cX2_isNode 2 (some .boolean), .fieldLink RX2 21 "RankHouse$Graph" "nodes" "I"] ++ wsX20)
def wsX2_into : List Cond := .code yX2_into cX2_into 4 (some .int) :: ([.fieldLink RX2 25 "RankHouse$Graph" "size" "I", .fieldLink RX2 15 "RankHouse$Graph" "targets" "[I"] ++ wsX20)
def wsX2_target : List Cond := .code yX2_target cX2_target 3 (some .int) :: ([.fieldLink RX2 15 "RankHouse$Graph" "targets" "[I", .fieldLink RX2 9 "RankHouse$Graph" "first" "[I", .methodLink RX2 38 yX2_outOf, .instanceMethod yX2_outOf, .selects RX2 yX2_outOf yX2_outOf, .initialized RX2, .code yX2_outOf cX2_outOf 2 (some .int), .methodLink RX2 35 yX2_isNode, .instanceMethod yX2_isNode, .selects RX2 yX2_isNode yX2_isNode, .code yX2_isNode cX2_isNode 2 (some .boolean), .fieldLink RX2 21 "RankHouse$Graph" "nodes" "I"] ++ wsX20)
def wsX2_source : List Cond := .code yX2_source cX2_source 5 (some .int) :: ([.fieldLink RX2 21 "RankHouse$Graph" "nodes" "I", .methodLink RX2 42 yX2_joins, .instanceMethod yX2_joins, .selects RX2 yX2_joins yX2_joins, .initialized RX2, .code yX2_joins cX2_joins 4 (some .boolean), .fieldLink RX2 9 "RankHouse$Graph" "first" "[I", .fieldLink RX2 15 "RankHouse$Graph" "targets" "[I", .methodLink RX2 35 yX2_isNode, .instanceMethod yX2_isNode, .selects RX2 yX2_isNode yX2_isNode, .code yX2_isNode cX2_isNode 2 (some .boolean), .methodLink RX2 46 yX2_spot, .instanceMethod yX2_spot, .selects RX2 yX2_spot yX2_spot, .code yX2_spot cX2_spot 4 (some .int)] ++ wsX20)
def wsX2_part_r1 : List Cond := [Cond.fieldLink RX2 15 "RankHouse$Graph" "targets" "[I", Cond.fieldLink RX2 25 "RankHouse$Graph" "size" "I", Cond.methodLink RX2 50 arraycopyName, Cond.native arraycopyName, Cond.static arraycopyName, Cond.initialized "java/lang/System", Cond.methodLink RX2 42 yX2_joins, Cond.instanceMethod yX2_joins, Cond.selects RX2 yX2_joins yX2_joins, Cond.initialized RX2, Cond.code yX2_joins cX2_joins 4 (some .boolean), Cond.fieldLink RX2 9 "RankHouse$Graph" "first" "[I", Cond.methodLink RX2 35 yX2_isNode, Cond.instanceMethod yX2_isNode, Cond.selects RX2 yX2_isNode yX2_isNode, Cond.code yX2_isNode cX2_isNode 2 (some .boolean), Cond.fieldLink RX2 21 "RankHouse$Graph" "nodes" "I", Cond.methodLink RX2 46 yX2_spot, Cond.instanceMethod yX2_spot, Cond.selects RX2 yX2_spot yX2_spot, Cond.code yX2_spot cX2_spot 4 (some .int), Cond.methodLink RX2 56 yX2_grow, Cond.instanceMethod yX2_grow, Cond.selects RX2 yX2_grow yX2_grow]
def wsX2_part_r2 : List Cond := [Cond.code yX2_grow cX2_grow 4 none]
def wsX2_part : List Cond := .code yX2_part cX2_part 4 (some .boolean) :: ((wsX2_part_r1 ++ wsX2_part_r2) ++ wsX20)
def wsX2_weigh : List Cond := .code yX2_weigh cX2_weigh 3 (some .boolean) :: ([.fieldLink RX2 28 "RankHouse$Graph" "whole" "I", .fieldLink RX2 18 "RankHouse$Graph" "weights" "[I", .methodLink RX2 35 yX2_isNode, .instanceMethod yX2_isNode, .selects RX2 yX2_isNode yX2_isNode, .initialized RX2, .code yX2_isNode cX2_isNode 2 (some .boolean), .fieldLink RX2 21 "RankHouse$Graph" "nodes" "I"] ++ wsX20)
def wsX2_bareNodes : List Cond := .code yX2_bareNodes cX2_bareNodes 3 (some .int) :: ([.fieldLink RX2 21 "RankHouse$Graph" "nodes" "I", .methodLink RX2 38 yX2_outOf, .instanceMethod yX2_outOf, .selects RX2 yX2_outOf yX2_outOf, .initialized RX2, .code yX2_outOf cX2_outOf 2 (some .int), .fieldLink RX2 9 "RankHouse$Graph" "first" "[I", .methodLink RX2 35 yX2_isNode, .instanceMethod yX2_isNode, .selects RX2 yX2_isNode yX2_isNode, .code yX2_isNode cX2_isNode 2 (some .boolean)] ++ wsX20)
def wsX3_init : List Cond := .code yX3_init cX3_init 1 none :: ([.methodLink RX3 3 objectInit, .instanceMethod objectInit, .code objectInit ⟨#[0xb1]⟩ 1 none, .arrayClass .int, .fieldLink RX3 9 "RankHouse$Order" "nodes" "[I", .arrayClass .long, .fieldLink RX3 15 "RankHouse$Order" "worths" "[J", .fieldLink RX3 19 "RankHouse$Order" "size" "I"] ++ wsX30)
def wsX3_place : List Cond := .code yX3_place cX3_place 5 none :: ([.fieldLink RX3 19 "RankHouse$Order" "size" "I", .fieldLink RX3 15 "RankHouse$Order" "worths" "[J", .fieldLink RX3 9 "RankHouse$Order" "nodes" "[I"] ++ wsX30)
def wsX3_node : List Cond := .code yX3_node cX3_node 2 (some .int) :: ([.fieldLink RX3 19 "RankHouse$Order" "size" "I", .fieldLink RX3 9 "RankHouse$Order" "nodes" "[I"] ++ wsX30)
def wsX4_init : List Cond := .code yX4_init cX4_init 1 none :: ([.methodLink RX4 3 objectInit, .instanceMethod objectInit, .code objectInit ⟨#[0xb1]⟩ 1 none, .arrayClass .long, .fieldLink RX4 9 "RankHouse$Ranks" "now" "[J", .fieldLink RX4 15 "RankHouse$Ranks" "next" "[J", .fieldLink RX4 18 "RankHouse$Ranks" "p" "I", .fieldLink RX4 22 "RankHouse$Ranks" "q" "I"] ++ wsX40)
def wsX5_quotient : List Cond := .code yX5_quotient cX5_quotient 4 (some .long) :: ([])
def wsX4_begin : List Cond := .code yX4_begin cX4_begin 8 none :: ([.constantLong RX4 30 (4294967296), .fieldLink RX4 9 "RankHouse$Ranks" "now" "[J", .fieldLink RX4 36 "RankHouse$Ranks" "steps" "I", .constantLong RX4 39 (8589934592), .fieldLink RX4 41 "RankHouse$Ranks" "change" "J", .fieldLink RX4 45 "RankHouse$Ranks" "error" "J", .static yX5_quotient, .initialized RX5, .code yX5_quotient cX5_quotient 4 (some .long)] ++ wsX20 ++ wsX40)
def wsX4_damp : List Cond := .code yX4_damp cX4_damp 3 (some .boolean) :: ([.constant RX4 48 (1073741824), .fieldLink RX4 18 "RankHouse$Ranks" "p" "I", .fieldLink RX4 22 "RankHouse$Ranks" "q" "I"] ++ wsX40)
def wsX4_areStill : List Cond := .code yX4_areStill cX4_areStill 3 (some .boolean) :: ([.fieldLink RX4 36 "RankHouse$Ranks" "steps" "I", .fieldLink RX4 41 "RankHouse$Ranks" "change" "J"] ++ wsX40)
def wsX4_bareSum : List Cond := .code yX4_bareSum cX4_bareSum 5 (some .long) :: ([.fieldLink RX4 9 "RankHouse$Ranks" "now" "[J", .methodLink RX4 68 yX2_outOf, .instanceMethod yX2_outOf, .selects RX2 yX2_outOf yX2_outOf, .initialized RX2, .code yX2_outOf cX2_outOf 2 (some .int), .fieldLink RX2 9 "RankHouse$Graph" "first" "[I", .methodLink RX2 35 yX2_isNode, .instanceMethod yX2_isNode, .selects RX2 yX2_isNode yX2_isNode, .code yX2_isNode cX2_isNode 2 (some .boolean), .fieldLink RX2 21 "RankHouse$Graph" "nodes" "I"] ++ wsX20 ++ wsX40)
def wsX4_share : List Cond := .code yX4_share cX4_share 3 (some .long) :: ([.fieldLink RX4 18 "RankHouse$Ranks" "p" "I", .fieldLink RX4 9 "RankHouse$Ranks" "now" "[J", .fieldLink RX4 22 "RankHouse$Ranks" "q" "I", .methodLink RX4 68 yX2_outOf, .instanceMethod yX2_outOf, .selects RX2 yX2_outOf yX2_outOf, .initialized RX2, .code yX2_outOf cX2_outOf 2 (some .int), .fieldLink RX2 9 "RankHouse$Graph" "first" "[I", .methodLink RX2 35 yX2_isNode, .instanceMethod yX2_isNode, .selects RX2 yX2_isNode yX2_isNode, .code yX2_isNode cX2_isNode 2 (some .boolean), .fieldLink RX2 21 "RankHouse$Graph" "nodes" "I", .static yX5_quotient, .initialized RX5, .code yX5_quotient cX5_quotient 4 (some .long)] ++ wsX40 ++ wsX20)
def wsX4_shareOut : List Cond := .code yX4_shareOut cX4_shareOut 7 none :: ([.fieldLink RX4 15 "RankHouse$Ranks" "next" "[J", .methodLink RX4 77 yX4_share, .instanceMethod yX4_share, .selects RX4 yX4_share yX4_share, .initialized RX4, .code yX4_share cX4_share 3 (some .long), .fieldLink RX4 18 "RankHouse$Ranks" "p" "I", .fieldLink RX4 9 "RankHouse$Ranks" "now" "[J", .fieldLink RX4 22 "RankHouse$Ranks" "q" "I", .methodLink RX4 68 yX2_outOf, .instanceMethod yX2_outOf, .selects RX2 yX2_outOf yX2_outOf, .initialized RX2, .code yX2_outOf cX2_outOf 2 (some .int), .fieldLink RX2 9 "RankHouse$Graph" "first" "[I", .methodLink RX2 35 yX2_isNode, .instanceMethod yX2_isNode, .selects RX2 yX2_isNode yX2_isNode, .code yX2_isNode cX2_isNode 2 (some .boolean), .fieldLink RX2 21 "RankHouse$Graph" "nodes" "I", .static yX5_quotient, .initialized RX5, .code yX5_quotient cX5_quotient 4 (some .long)] ++ wsX20 ++ wsX40)
def wsX4_distance : List Cond := .code yX4_distance cX4_distance 5 (some .long) :: ([.fieldLink RX4 15 "RankHouse$Ranks" "next" "[J", .fieldLink RX4 9 "RankHouse$Ranks" "now" "[J", .methodLink RX4 87 Lib.MathLoose.abs_long.x, .static Lib.MathLoose.abs_long.x, .initialized "java/lang/Math", .code Lib.MathLoose.abs_long.x Lib.MathLoose.abs_long.code 2 (some .long)] ++ wsX40)
def wsX4_step_r1 : List Cond := [Cond.fieldLink RX4 22 "RankHouse$Ranks" "q" "I", Cond.fieldLink RX4 18 "RankHouse$Ranks" "p" "I", Cond.constantLong RX4 30 (4294967296), Cond.fieldLink RX4 15 "RankHouse$Ranks" "next" "[J", Cond.fieldLink RX4 41 "RankHouse$Ranks" "change" "J", Cond.fieldLink RX4 9 "RankHouse$Ranks" "now" "[J", Cond.fieldLink RX4 36 "RankHouse$Ranks" "steps" "I", Cond.fieldLink RX4 45 "RankHouse$Ranks" "error" "J", Cond.methodLink RX4 49 yX4_bareSum, Cond.instanceMethod yX4_bareSum, Cond.selects RX4 yX4_bareSum yX4_bareSum, Cond.initialized RX4, Cond.code yX4_bareSum cX4_bareSum 5 (some .long), Cond.methodLink RX4 68 yX2_outOf, Cond.instanceMethod yX2_outOf, Cond.selects RX2 yX2_outOf yX2_outOf, Cond.initialized RX2, Cond.code yX2_outOf cX2_outOf 2 (some .int), Cond.fieldLink RX2 9 "RankHouse$Graph" "first" "[I", Cond.methodLink RX2 35 yX2_isNode, Cond.instanceMethod yX2_isNode, Cond.selects RX2 yX2_isNode yX2_isNode, Cond.code yX2_isNode cX2_isNode 2 (some .boolean), Cond.fieldLink RX2 21 "RankHouse$Graph" "nodes" "I"]
def wsX4_step_r2 : List Cond := [Cond.static yX5_quotient, Cond.initialized RX5, Cond.code yX5_quotient cX5_quotient 4 (some .long), Cond.methodLink RX4 60 yX4_shareOut, Cond.instanceMethod yX4_shareOut, Cond.selects RX4 yX4_shareOut yX4_shareOut, Cond.code yX4_shareOut cX4_shareOut 7 none, Cond.methodLink RX4 77 yX4_share, Cond.instanceMethod yX4_share, Cond.selects RX4 yX4_share yX4_share, Cond.code yX4_share cX4_share 3 (some .long), Cond.methodLink RX4 64 yX4_distance, Cond.instanceMethod yX4_distance, Cond.selects RX4 yX4_distance yX4_distance, Cond.code yX4_distance cX4_distance 5 (some .long), Cond.methodLink RX4 87 Lib.MathLoose.abs_long.x, Cond.static Lib.MathLoose.abs_long.x, Cond.initialized "java/lang/Math", Cond.code Lib.MathLoose.abs_long.x Lib.MathLoose.abs_long.code 2 (some .long)]
def wsX4_step : List Cond := .code yX4_step cX4_step 5 none :: ((wsX4_step_r1 ++ wsX4_step_r2) ++ wsX40 ++ wsX20)
def wsX4_sum : List Cond := .code yX4_sum cX4_sum 5 (some .long) :: ([.fieldLink RX4 9 "RankHouse$Ranks" "now" "[J"] ++ wsX20 ++ wsX40)
def wsX4_bound : List Cond := .code yX4_bound cX4_bound 4 (some .long) :: ([.constantLong RX4 75 (2), .fieldLink RX4 45 "RankHouse$Ranks" "error" "J", .fieldLink RX4 22 "RankHouse$Ranks" "q" "I", .fieldLink RX4 18 "RankHouse$Ranks" "p" "I", .static yX5_quotient, .initialized RX5, .code yX5_quotient cX5_quotient 4 (some .long)] ++ wsX20 ++ wsX40)
def wsX5_init_r1 : List Cond := [Cond.methodLink RX5 3 objectInit, Cond.instanceMethod objectInit, Cond.code objectInit ⟨#[0xb1]⟩ 1 none, Cond.classLink RX5 9 RX0, Cond.instantiable RX0 2, Cond.initialized RX0, Cond.fieldLink RX5 14 "RankHouse" "tape" "LRankHouse$ByteRow;", Cond.fieldLink RX5 18 "RankHouse" "out" "LRankHouse$ByteRow;", Cond.classLink RX5 21 RX1, Cond.instantiable RX1 5, Cond.initialized RX1, Cond.fieldLink RX5 24 "RankHouse" "decoder" "LRankHouse$Decoder;", Cond.classLink RX5 28 RX4, Cond.instantiable RX4 7, Cond.initialized RX4, Cond.fieldLink RX5 31 "RankHouse" "ranks" "LRankHouse$Ranks;", Cond.classLink RX5 35 RX3, Cond.instantiable RX3 3, Cond.initialized RX3, Cond.fieldLink RX5 38 "RankHouse" "order" "LRankHouse$Order;", Cond.classLink RX5 42 RX2, Cond.instantiable RX2 6, Cond.initialized RX2, Cond.fieldLink RX5 45 "RankHouse" "graph" "LRankHouse$Graph;"]
def wsX5_init_r2 : List Cond := [Cond.methodLink RX5 11 yX0_init, Cond.instanceMethod yX0_init, Cond.code yX0_init cX0_init 2 none, Cond.methodLink RX0 3 objectInit, Cond.fieldLink RX0 9 "RankHouse$ByteRow" "length" "I", Cond.methodLink RX0 15 Lib.Math.max.name, Cond.static Lib.Math.max.name, Cond.initialized "java/lang/Math", Cond.code Lib.Math.max.name Lib.Math.max.code 2 (some .int), Cond.arrayClass .int, Cond.fieldLink RX0 21 "RankHouse$ByteRow" "bytes" "[I", Cond.instanceMethod yX1_init, Cond.code yX1_init cX1_init 1 none, Cond.methodLink RX1 3 objectInit, Cond.fieldLink RX1 9 "RankHouse$Decoder" "next" "I", Cond.fieldLink RX1 15 "RankHouse$Decoder" "nodes" "I", Cond.fieldLink RX1 18 "RankHouse$Decoder" "size" "I", Cond.fieldLink RX1 21 "RankHouse$Decoder" "kind" "I", Cond.fieldLink RX1 24 "RankHouse$Decoder" "place" "I", Cond.instanceMethod yX4_init, Cond.code yX4_init cX4_init 1 none, Cond.methodLink RX4 3 objectInit, Cond.arrayClass .long, Cond.fieldLink RX4 9 "RankHouse$Ranks" "now" "[J"]
def wsX5_init_r3 : List Cond := [Cond.fieldLink RX4 15 "RankHouse$Ranks" "next" "[J", Cond.fieldLink RX4 18 "RankHouse$Ranks" "p" "I", Cond.fieldLink RX4 22 "RankHouse$Ranks" "q" "I", Cond.instanceMethod yX3_init, Cond.code yX3_init cX3_init 1 none, Cond.methodLink RX3 3 objectInit, Cond.fieldLink RX3 9 "RankHouse$Order" "nodes" "[I", Cond.fieldLink RX3 15 "RankHouse$Order" "worths" "[J", Cond.fieldLink RX3 19 "RankHouse$Order" "size" "I", Cond.methodLink RX5 44 yX2_init, Cond.instanceMethod yX2_init, Cond.code yX2_init cX2_init 1 none, Cond.methodLink RX2 3 objectInit, Cond.fieldLink RX2 9 "RankHouse$Graph" "first" "[I", Cond.fieldLink RX2 15 "RankHouse$Graph" "targets" "[I", Cond.fieldLink RX2 18 "RankHouse$Graph" "weights" "[I", Cond.fieldLink RX2 21 "RankHouse$Graph" "nodes" "I", Cond.fieldLink RX2 25 "RankHouse$Graph" "size" "I", Cond.fieldLink RX2 28 "RankHouse$Graph" "whole" "I", Cond.methodLink RX5 49 yX4_begin, Cond.instanceMethod yX4_begin, Cond.selects RX4 yX4_begin yX4_begin, Cond.code yX4_begin cX4_begin 8 none, Cond.constantLong RX4 30 (4294967296)]
def wsX5_init_r4 : List Cond := [Cond.fieldLink RX4 36 "RankHouse$Ranks" "steps" "I", Cond.constantLong RX4 39 (8589934592), Cond.fieldLink RX4 41 "RankHouse$Ranks" "change" "J", Cond.fieldLink RX4 45 "RankHouse$Ranks" "error" "J", Cond.static yX5_quotient, Cond.initialized RX5, Cond.code yX5_quotient cX5_quotient 4 (some .long)]
def wsX5_init : List Cond := .code yX5_init cX5_init 1 none :: ((wsX5_init_r1 ++ (wsX5_init_r2 ++ (wsX5_init_r3 ++ wsX5_init_r4))) ++ wsX00 ++ wsX50 ++ wsX10 ++ wsX40 ++ wsX30 ++ wsX20)
def wsX5_feed : List Cond := .code yX5_feed cX5_feed 6 (some .int) :: ([.fieldLink RX5 14 "RankHouse" "tape" "LRankHouse$ByteRow;", .methodLink RX5 57 yX0_putFour, .instanceMethod yX0_putFour, .selects RX0 yX0_putFour yX0_putFour, .initialized RX0, .code yX0_putFour cX0_putFour 2 none, .methodLink RX0 25 yX0_put, .instanceMethod yX0_put, .selects RX0 yX0_put yX0_put, .code yX0_put cX0_put 2 none, .fieldLink RX0 9 "RankHouse$ByteRow" "length" "I", .fieldLink RX0 21 "RankHouse$ByteRow" "bytes" "[I"] ++ wsX50 ++ wsX00)
def wsX5_end : List Cond := .code yX5_end cX5_end 2 (some .boolean) :: ([.fieldLink RX5 14 "RankHouse" "tape" "LRankHouse$ByteRow;"] ++ wsX50 ++ wsX00)
def wsX5_beginIf : List Cond := .code yX5_beginIf cX5_beginIf 2 (some .boolean) :: ([.fieldLink RX5 31 "RankHouse" "ranks" "LRankHouse$Ranks;", .fieldLink RX5 45 "RankHouse" "graph" "LRankHouse$Graph;", .methodLink RX5 49 yX4_begin, .instanceMethod yX4_begin, .selects RX4 yX4_begin yX4_begin, .initialized RX4, .code yX4_begin cX4_begin 8 none, .constantLong RX4 30 (4294967296), .fieldLink RX4 9 "RankHouse$Ranks" "now" "[J", .fieldLink RX4 36 "RankHouse$Ranks" "steps" "I", .constantLong RX4 39 (8589934592), .fieldLink RX4 41 "RankHouse$Ranks" "change" "J", .fieldLink RX4 45 "RankHouse$Ranks" "error" "J", .static yX5_quotient, .initialized RX5, .code yX5_quotient cX5_quotient 4 (some .long)] ++ wsX50 ++ wsX20 ++ wsX40)
def wsX5_read_r1 : List Cond := [Cond.fieldLink RX5 24 "RankHouse" "decoder" "LRankHouse$Decoder;", Cond.fieldLink RX5 14 "RankHouse" "tape" "LRankHouse$ByteRow;", Cond.fieldLink RX5 45 "RankHouse" "graph" "LRankHouse$Graph;", Cond.methodLink RX5 60 yX1_decode, Cond.instanceMethod yX1_decode, Cond.selects RX1 yX1_decode yX1_decode, Cond.initialized RX1, Cond.code yX1_decode cX1_decode 4 (some .boolean), Cond.fieldLink RX1 9 "RankHouse$Decoder" "next" "I", Cond.fieldLink RX1 21 "RankHouse$Decoder" "kind" "I", Cond.fieldLink RX1 18 "RankHouse$Decoder" "size" "I", Cond.fieldLink RX1 15 "RankHouse$Decoder" "nodes" "I", Cond.methodLink RX1 27 yX1_unsigned, Cond.instanceMethod yX1_unsigned, Cond.selects RX1 yX1_unsigned yX1_unsigned, Cond.code yX1_unsigned cX1_unsigned 7 (some .int), Cond.constant RX1 65 (65535), Cond.methodLink RX1 37 yX1_refuse, Cond.instanceMethod yX1_refuse, Cond.selects RX1 yX1_refuse yX1_refuse, Cond.code yX1_refuse cX1_refuse 3 (some .boolean), Cond.fieldLink RX1 24 "RankHouse$Decoder" "place" "I", Cond.methodLink RX1 66 yX1_refuseUnsigned, Cond.instanceMethod yX1_refuseUnsigned]
def wsX5_read_r2 : List Cond := [Cond.selects RX1 yX1_refuseUnsigned yX1_refuseUnsigned, Cond.code yX1_refuseUnsigned cX1_refuseUnsigned 2 (some .int), Cond.methodLink RX1 31 yX2_canHave, Cond.static yX2_canHave, Cond.initialized RX2, Cond.code yX2_canHave cX2_canHave 1 (some .boolean), Cond.methodLink RX1 41 yX2_reset, Cond.instanceMethod yX2_reset, Cond.selects RX2 yX2_reset yX2_reset, Cond.code yX2_reset cX2_reset 3 none, Cond.fieldLink RX2 21 "RankHouse$Graph" "nodes" "I", Cond.fieldLink RX2 25 "RankHouse$Graph" "size" "I", Cond.fieldLink RX2 28 "RankHouse$Graph" "whole" "I", Cond.fieldLink RX2 18 "RankHouse$Graph" "weights" "[I", Cond.fieldLink RX2 9 "RankHouse$Graph" "first" "[I", Cond.methodLink RX2 31 yX2_canHave, Cond.methodLink RX1 45 yX1_decodeNode, Cond.instanceMethod yX1_decodeNode, Cond.selects RX1 yX1_decodeNode yX1_decodeNode, Cond.code yX1_decodeNode cX1_decodeNode 9 (some .boolean), Cond.methodLink RX1 54 yX1_signed, Cond.static yX1_signed, Cond.code yX1_signed cX1_signed 1 (some .int), Cond.methodLink RX1 58 yX2_join]
def wsX5_read_r3 : List Cond := [Cond.instanceMethod yX2_join, Cond.selects RX2 yX2_join yX2_join, Cond.code yX2_join cX2_join 4 (some .boolean), Cond.fieldLink RX2 15 "RankHouse$Graph" "targets" "[I", Cond.methodLink RX2 50 arraycopyName, Cond.native arraycopyName, Cond.static arraycopyName, Cond.initialized "java/lang/System", Cond.methodLink RX2 35 yX2_isNode, Cond.instanceMethod yX2_isNode, Cond.selects RX2 yX2_isNode yX2_isNode, Cond.code yX2_isNode cX2_isNode 2 (some .boolean), Cond.methodLink RX2 42 yX2_joins, Cond.instanceMethod yX2_joins, Cond.selects RX2 yX2_joins yX2_joins, Cond.code yX2_joins cX2_joins 4 (some .boolean), Cond.methodLink RX2 46 yX2_spot, Cond.instanceMethod yX2_spot, Cond.selects RX2 yX2_spot yX2_spot, Cond.code yX2_spot cX2_spot 4 (some .int), Cond.methodLink RX2 56 yX2_grow, Cond.instanceMethod yX2_grow, Cond.selects RX2 yX2_grow yX2_grow, Cond.code yX2_grow cX2_grow 4 none]
def wsX5_read_r4 : List Cond := [Cond.methodLink RX5 64 yX5_beginIf, Cond.instanceMethod yX5_beginIf, Cond.selects RX5 yX5_beginIf yX5_beginIf, Cond.initialized RX5, Cond.code yX5_beginIf cX5_beginIf 2 (some .boolean), Cond.fieldLink RX5 31 "RankHouse" "ranks" "LRankHouse$Ranks;", Cond.methodLink RX5 49 yX4_begin, Cond.instanceMethod yX4_begin, Cond.selects RX4 yX4_begin yX4_begin, Cond.initialized RX4, Cond.code yX4_begin cX4_begin 8 none, Cond.constantLong RX4 30 (4294967296), Cond.fieldLink RX4 9 "RankHouse$Ranks" "now" "[J", Cond.fieldLink RX4 36 "RankHouse$Ranks" "steps" "I", Cond.constantLong RX4 39 (8589934592), Cond.fieldLink RX4 41 "RankHouse$Ranks" "change" "J", Cond.fieldLink RX4 45 "RankHouse$Ranks" "error" "J", Cond.static yX5_quotient, Cond.code yX5_quotient cX5_quotient 4 (some .long)]
def wsX5_read : List Cond := .code yX5_read cX5_read 2 (some .int) :: ((wsX5_read_r1 ++ (wsX5_read_r2 ++ (wsX5_read_r3 ++ wsX5_read_r4))) ++ wsX50 ++ wsX00 ++ wsX20 ++ wsX10 ++ wsX40)
def wsX5_fault : List Cond := .code yX5_fault cX5_fault 1 (some .int) :: ([.fieldLink RX5 24 "RankHouse" "decoder" "LRankHouse$Decoder;"] ++ wsX50 ++ wsX10)
def wsX5_clear_r1 : List Cond := [Cond.fieldLink RX5 45 "RankHouse" "graph" "LRankHouse$Graph;", Cond.fieldLink RX5 31 "RankHouse" "ranks" "LRankHouse$Ranks;", Cond.methodLink RX5 77 yX2_canHave, Cond.static yX2_canHave, Cond.initialized RX2, Cond.code yX2_canHave cX2_canHave 1 (some .boolean), Cond.methodLink RX5 81 yX2_reset, Cond.instanceMethod yX2_reset, Cond.selects RX2 yX2_reset yX2_reset, Cond.code yX2_reset cX2_reset 3 none, Cond.fieldLink RX2 21 "RankHouse$Graph" "nodes" "I", Cond.fieldLink RX2 25 "RankHouse$Graph" "size" "I", Cond.fieldLink RX2 28 "RankHouse$Graph" "whole" "I", Cond.fieldLink RX2 18 "RankHouse$Graph" "weights" "[I", Cond.fieldLink RX2 9 "RankHouse$Graph" "first" "[I", Cond.methodLink RX2 31 yX2_canHave, Cond.methodLink RX5 49 yX4_begin, Cond.instanceMethod yX4_begin, Cond.selects RX4 yX4_begin yX4_begin, Cond.initialized RX4, Cond.code yX4_begin cX4_begin 8 none, Cond.constantLong RX4 30 (4294967296), Cond.fieldLink RX4 9 "RankHouse$Ranks" "now" "[J", Cond.fieldLink RX4 36 "RankHouse$Ranks" "steps" "I"]
def wsX5_clear_r2 : List Cond := [Cond.constantLong RX4 39 (8589934592), Cond.fieldLink RX4 41 "RankHouse$Ranks" "change" "J", Cond.fieldLink RX4 45 "RankHouse$Ranks" "error" "J", Cond.static yX5_quotient, Cond.initialized RX5, Cond.code yX5_quotient cX5_quotient 4 (some .long)]
def wsX5_clear : List Cond := .code yX5_clear cX5_clear 2 (some .boolean) :: ((wsX5_clear_r1 ++ wsX5_clear_r2) ++ wsX50 ++ wsX20 ++ wsX40)
def wsX5_add_r1 : List Cond := [Cond.fieldLink RX5 45 "RankHouse" "graph" "LRankHouse$Graph;", Cond.methodLink RX5 84 yX2_join, Cond.instanceMethod yX2_join, Cond.selects RX2 yX2_join yX2_join, Cond.initialized RX2, Cond.code yX2_join cX2_join 4 (some .boolean), Cond.fieldLink RX2 25 "RankHouse$Graph" "size" "I", Cond.fieldLink RX2 15 "RankHouse$Graph" "targets" "[I", Cond.methodLink RX2 50 arraycopyName, Cond.native arraycopyName, Cond.static arraycopyName, Cond.initialized "java/lang/System", Cond.methodLink RX2 35 yX2_isNode, Cond.instanceMethod yX2_isNode, Cond.selects RX2 yX2_isNode yX2_isNode, Cond.code yX2_isNode cX2_isNode 2 (some .boolean), Cond.fieldLink RX2 21 "RankHouse$Graph" "nodes" "I", Cond.methodLink RX2 42 yX2_joins, Cond.instanceMethod yX2_joins, Cond.selects RX2 yX2_joins yX2_joins, Cond.code yX2_joins cX2_joins 4 (some .boolean), Cond.fieldLink RX2 9 "RankHouse$Graph" "first" "[I", Cond.methodLink RX2 46 yX2_spot, Cond.instanceMethod yX2_spot]
def wsX5_add_r2 : List Cond := [Cond.selects RX2 yX2_spot yX2_spot, Cond.code yX2_spot cX2_spot 4 (some .int), Cond.methodLink RX2 56 yX2_grow, Cond.instanceMethod yX2_grow, Cond.selects RX2 yX2_grow yX2_grow, Cond.code yX2_grow cX2_grow 4 none, Cond.methodLink RX5 64 yX5_beginIf, Cond.instanceMethod yX5_beginIf, Cond.selects RX5 yX5_beginIf yX5_beginIf, Cond.initialized RX5, Cond.code yX5_beginIf cX5_beginIf 2 (some .boolean), Cond.fieldLink RX5 31 "RankHouse" "ranks" "LRankHouse$Ranks;", Cond.methodLink RX5 49 yX4_begin, Cond.instanceMethod yX4_begin, Cond.selects RX4 yX4_begin yX4_begin, Cond.initialized RX4, Cond.code yX4_begin cX4_begin 8 none, Cond.constantLong RX4 30 (4294967296), Cond.fieldLink RX4 9 "RankHouse$Ranks" "now" "[J", Cond.fieldLink RX4 36 "RankHouse$Ranks" "steps" "I", Cond.constantLong RX4 39 (8589934592), Cond.fieldLink RX4 41 "RankHouse$Ranks" "change" "J", Cond.fieldLink RX4 45 "RankHouse$Ranks" "error" "J", Cond.static yX5_quotient]
def wsX5_add_r3 : List Cond := [Cond.code yX5_quotient cX5_quotient 4 (some .long)]
def wsX5_add : List Cond := .code yX5_add cX5_add 3 (some .boolean) :: ((wsX5_add_r1 ++ (wsX5_add_r2 ++ wsX5_add_r3)) ++ wsX50 ++ wsX20 ++ wsX40)
def wsX5_cut_r1 : List Cond := [Cond.fieldLink RX5 45 "RankHouse" "graph" "LRankHouse$Graph;", Cond.methodLink RX5 88 yX2_part, Cond.instanceMethod yX2_part, Cond.selects RX2 yX2_part yX2_part, Cond.initialized RX2, Cond.code yX2_part cX2_part 4 (some .boolean), Cond.fieldLink RX2 15 "RankHouse$Graph" "targets" "[I", Cond.fieldLink RX2 25 "RankHouse$Graph" "size" "I", Cond.methodLink RX2 50 arraycopyName, Cond.native arraycopyName, Cond.static arraycopyName, Cond.initialized "java/lang/System", Cond.methodLink RX2 42 yX2_joins, Cond.instanceMethod yX2_joins, Cond.selects RX2 yX2_joins yX2_joins, Cond.code yX2_joins cX2_joins 4 (some .boolean), Cond.fieldLink RX2 9 "RankHouse$Graph" "first" "[I", Cond.methodLink RX2 35 yX2_isNode, Cond.instanceMethod yX2_isNode, Cond.selects RX2 yX2_isNode yX2_isNode, Cond.code yX2_isNode cX2_isNode 2 (some .boolean), Cond.fieldLink RX2 21 "RankHouse$Graph" "nodes" "I", Cond.methodLink RX2 46 yX2_spot, Cond.instanceMethod yX2_spot]
def wsX5_cut_r2 : List Cond := [Cond.selects RX2 yX2_spot yX2_spot, Cond.code yX2_spot cX2_spot 4 (some .int), Cond.methodLink RX2 56 yX2_grow, Cond.instanceMethod yX2_grow, Cond.selects RX2 yX2_grow yX2_grow, Cond.code yX2_grow cX2_grow 4 none, Cond.methodLink RX5 64 yX5_beginIf, Cond.instanceMethod yX5_beginIf, Cond.selects RX5 yX5_beginIf yX5_beginIf, Cond.initialized RX5, Cond.code yX5_beginIf cX5_beginIf 2 (some .boolean), Cond.fieldLink RX5 31 "RankHouse" "ranks" "LRankHouse$Ranks;", Cond.methodLink RX5 49 yX4_begin, Cond.instanceMethod yX4_begin, Cond.selects RX4 yX4_begin yX4_begin, Cond.initialized RX4, Cond.code yX4_begin cX4_begin 8 none, Cond.constantLong RX4 30 (4294967296), Cond.fieldLink RX4 9 "RankHouse$Ranks" "now" "[J", Cond.fieldLink RX4 36 "RankHouse$Ranks" "steps" "I", Cond.constantLong RX4 39 (8589934592), Cond.fieldLink RX4 41 "RankHouse$Ranks" "change" "J", Cond.fieldLink RX4 45 "RankHouse$Ranks" "error" "J", Cond.static yX5_quotient]
def wsX5_cut_r3 : List Cond := [Cond.code yX5_quotient cX5_quotient 4 (some .long)]
def wsX5_cut : List Cond := .code yX5_cut cX5_cut 3 (some .boolean) :: ((wsX5_cut_r1 ++ (wsX5_cut_r2 ++ wsX5_cut_r3)) ++ wsX50 ++ wsX20 ++ wsX40)
def wsX5_has : List Cond := .code yX5_has cX5_has 3 (some .boolean) :: ([.fieldLink RX5 45 "RankHouse" "graph" "LRankHouse$Graph;", .methodLink RX5 91 yX2_joins, .instanceMethod yX2_joins, .selects RX2 yX2_joins yX2_joins, .initialized RX2, .code yX2_joins cX2_joins 4 (some .boolean), .fieldLink RX2 9 "RankHouse$Graph" "first" "[I", .fieldLink RX2 15 "RankHouse$Graph" "targets" "[I", .methodLink RX2 35 yX2_isNode, .instanceMethod yX2_isNode, .selects RX2 yX2_isNode yX2_isNode, .code yX2_isNode cX2_isNode 2 (some .boolean), .fieldLink RX2 21 "RankHouse$Graph" "nodes" "I", .methodLink RX2 46 yX2_spot, .instanceMethod yX2_spot, .selects RX2 yX2_spot yX2_spot, .code yX2_spot cX2_spot 4 (some .int)] ++ wsX50 ++ wsX20)
def wsX5_edges : List Cond := .code yX5_edges cX5_edges 3 (some .int) :: ([.classLink RX5 97 "java/util/NoSuchElementException", .initialized "java/util/NoSuchElementException", .fieldLink RX5 45 "RankHouse" "graph" "LRankHouse$Graph;", .methodLink RX5 94 yX2_isNode, .instanceMethod yX2_isNode, .selects RX2 yX2_isNode yX2_isNode, .initialized RX2, .code yX2_isNode cX2_isNode 2 (some .boolean), .fieldLink RX2 21 "RankHouse$Graph" "nodes" "I", .methodLink RX5 100 yX2_outOf, .instanceMethod yX2_outOf, .selects RX2 yX2_outOf yX2_outOf, .code yX2_outOf cX2_outOf 2 (some .int), .fieldLink RX2 9 "RankHouse$Graph" "first" "[I", .methodLink RX2 35 yX2_isNode, .methodLink RX5 104 yX2_into, .instanceMethod yX2_into, .selects RX2 yX2_into yX2_into, .code yX2_into cX2_into 4 (some .int), .fieldLink RX2 25 "RankHouse$Graph" "size" "I", .fieldLink RX2 15 "RankHouse$Graph" "targets" "[I"] ++ wsX50 ++ wsX20 ++ (vx_at0 RX5 99 "java/util/NoSuchElementException" ["java/lang/RuntimeException", "java/lang/Exception"]).filter goodWord)
def wsX5_other_r1 : List Cond := [Cond.fieldLink RX5 45 "RankHouse" "graph" "LRankHouse$Graph;", Cond.methodLink RX5 107 yX2_target, Cond.instanceMethod yX2_target, Cond.selects RX2 yX2_target yX2_target, Cond.initialized RX2, Cond.code yX2_target cX2_target 3 (some .int), Cond.fieldLink RX2 15 "RankHouse$Graph" "targets" "[I", Cond.fieldLink RX2 9 "RankHouse$Graph" "first" "[I", Cond.methodLink RX2 38 yX2_outOf, Cond.instanceMethod yX2_outOf, Cond.selects RX2 yX2_outOf yX2_outOf, Cond.code yX2_outOf cX2_outOf 2 (some .int), Cond.methodLink RX2 35 yX2_isNode, Cond.instanceMethod yX2_isNode, Cond.selects RX2 yX2_isNode yX2_isNode, Cond.code yX2_isNode cX2_isNode 2 (some .boolean), Cond.fieldLink RX2 21 "RankHouse$Graph" "nodes" "I", Cond.methodLink RX5 111 yX2_source, Cond.instanceMethod yX2_source, Cond.selects RX2 yX2_source yX2_source, Cond.code yX2_source cX2_source 5 (some .int), Cond.methodLink RX2 42 yX2_joins, Cond.instanceMethod yX2_joins, Cond.selects RX2 yX2_joins yX2_joins]
def wsX5_other_r2 : List Cond := [Cond.code yX2_joins cX2_joins 4 (some .boolean), Cond.methodLink RX2 46 yX2_spot, Cond.instanceMethod yX2_spot, Cond.selects RX2 yX2_spot yX2_spot, Cond.code yX2_spot cX2_spot 4 (some .int)]
def wsX5_other : List Cond := .code yX5_other cX5_other 4 (some .int) :: ((wsX5_other_r1 ++ wsX5_other_r2) ++ wsX50 ++ wsX20)
def wsX5_weight_r1 : List Cond := [Cond.fieldLink RX5 45 "RankHouse" "graph" "LRankHouse$Graph;", Cond.methodLink RX5 114 yX2_weigh, Cond.instanceMethod yX2_weigh, Cond.selects RX2 yX2_weigh yX2_weigh, Cond.initialized RX2, Cond.code yX2_weigh cX2_weigh 3 (some .boolean), Cond.fieldLink RX2 28 "RankHouse$Graph" "whole" "I", Cond.fieldLink RX2 18 "RankHouse$Graph" "weights" "[I", Cond.methodLink RX2 35 yX2_isNode, Cond.instanceMethod yX2_isNode, Cond.selects RX2 yX2_isNode yX2_isNode, Cond.code yX2_isNode cX2_isNode 2 (some .boolean), Cond.fieldLink RX2 21 "RankHouse$Graph" "nodes" "I", Cond.methodLink RX5 64 yX5_beginIf, Cond.instanceMethod yX5_beginIf, Cond.selects RX5 yX5_beginIf yX5_beginIf, Cond.initialized RX5, Cond.code yX5_beginIf cX5_beginIf 2 (some .boolean), Cond.fieldLink RX5 31 "RankHouse" "ranks" "LRankHouse$Ranks;", Cond.methodLink RX5 49 yX4_begin, Cond.instanceMethod yX4_begin, Cond.selects RX4 yX4_begin yX4_begin, Cond.initialized RX4, Cond.code yX4_begin cX4_begin 8 none]
def wsX5_weight_r2 : List Cond := [Cond.constantLong RX4 30 (4294967296), Cond.fieldLink RX4 9 "RankHouse$Ranks" "now" "[J", Cond.fieldLink RX4 36 "RankHouse$Ranks" "steps" "I", Cond.constantLong RX4 39 (8589934592), Cond.fieldLink RX4 41 "RankHouse$Ranks" "change" "J", Cond.fieldLink RX4 45 "RankHouse$Ranks" "error" "J", Cond.static yX5_quotient, Cond.code yX5_quotient cX5_quotient 4 (some .long)]
def wsX5_weight : List Cond := .code yX5_weight cX5_weight 3 (some .boolean) :: ((wsX5_weight_r1 ++ wsX5_weight_r2) ++ wsX50 ++ wsX20 ++ wsX40)
def wsX5_damping_r1 : List Cond := [Cond.fieldLink RX5 31 "RankHouse" "ranks" "LRankHouse$Ranks;", Cond.methodLink RX5 117 yX4_damp, Cond.instanceMethod yX4_damp, Cond.selects RX4 yX4_damp yX4_damp, Cond.initialized RX4, Cond.code yX4_damp cX4_damp 3 (some .boolean), Cond.constant RX4 48 (1073741824), Cond.fieldLink RX4 18 "RankHouse$Ranks" "p" "I", Cond.fieldLink RX4 22 "RankHouse$Ranks" "q" "I", Cond.methodLink RX5 64 yX5_beginIf, Cond.instanceMethod yX5_beginIf, Cond.selects RX5 yX5_beginIf yX5_beginIf, Cond.initialized RX5, Cond.code yX5_beginIf cX5_beginIf 2 (some .boolean), Cond.fieldLink RX5 45 "RankHouse" "graph" "LRankHouse$Graph;", Cond.methodLink RX5 49 yX4_begin, Cond.instanceMethod yX4_begin, Cond.selects RX4 yX4_begin yX4_begin, Cond.code yX4_begin cX4_begin 8 none, Cond.constantLong RX4 30 (4294967296), Cond.fieldLink RX4 9 "RankHouse$Ranks" "now" "[J", Cond.fieldLink RX4 36 "RankHouse$Ranks" "steps" "I", Cond.constantLong RX4 39 (8589934592), Cond.fieldLink RX4 41 "RankHouse$Ranks" "change" "J"]
def wsX5_damping_r2 : List Cond := [Cond.fieldLink RX4 45 "RankHouse$Ranks" "error" "J", Cond.static yX5_quotient, Cond.code yX5_quotient cX5_quotient 4 (some .long)]
def wsX5_damping : List Cond := .code yX5_damping cX5_damping 3 (some .boolean) :: ((wsX5_damping_r1 ++ wsX5_damping_r2) ++ wsX50 ++ wsX40 ++ wsX20)
def wsX5_run_r1 : List Cond := [Cond.classLink RX5 120 "java/lang/IllegalArgumentException", Cond.initialized "java/lang/IllegalArgumentException", Cond.fieldLink RX5 31 "RankHouse" "ranks" "LRankHouse$Ranks;", Cond.fieldLink RX5 45 "RankHouse" "graph" "LRankHouse$Graph;", Cond.methodLink RX5 123 yX4_areStill, Cond.instanceMethod yX4_areStill, Cond.selects RX4 yX4_areStill yX4_areStill, Cond.initialized RX4, Cond.code yX4_areStill cX4_areStill 3 (some .boolean), Cond.fieldLink RX4 36 "RankHouse$Ranks" "steps" "I", Cond.fieldLink RX4 41 "RankHouse$Ranks" "change" "J", Cond.methodLink RX5 127 yX4_step, Cond.instanceMethod yX4_step, Cond.selects RX4 yX4_step yX4_step, Cond.code yX4_step cX4_step 5 none, Cond.fieldLink RX4 22 "RankHouse$Ranks" "q" "I", Cond.fieldLink RX4 18 "RankHouse$Ranks" "p" "I", Cond.constantLong RX4 30 (4294967296), Cond.fieldLink RX4 15 "RankHouse$Ranks" "next" "[J", Cond.fieldLink RX4 9 "RankHouse$Ranks" "now" "[J", Cond.fieldLink RX4 45 "RankHouse$Ranks" "error" "J", Cond.methodLink RX4 49 yX4_bareSum, Cond.instanceMethod yX4_bareSum, Cond.selects RX4 yX4_bareSum yX4_bareSum]
def wsX5_run_r2 : List Cond := [Cond.code yX4_bareSum cX4_bareSum 5 (some .long), Cond.methodLink RX4 68 yX2_outOf, Cond.instanceMethod yX2_outOf, Cond.selects RX2 yX2_outOf yX2_outOf, Cond.initialized RX2, Cond.code yX2_outOf cX2_outOf 2 (some .int), Cond.fieldLink RX2 9 "RankHouse$Graph" "first" "[I", Cond.methodLink RX2 35 yX2_isNode, Cond.instanceMethod yX2_isNode, Cond.selects RX2 yX2_isNode yX2_isNode, Cond.code yX2_isNode cX2_isNode 2 (some .boolean), Cond.fieldLink RX2 21 "RankHouse$Graph" "nodes" "I", Cond.static yX5_quotient, Cond.initialized RX5, Cond.code yX5_quotient cX5_quotient 4 (some .long), Cond.methodLink RX4 60 yX4_shareOut, Cond.instanceMethod yX4_shareOut, Cond.selects RX4 yX4_shareOut yX4_shareOut, Cond.code yX4_shareOut cX4_shareOut 7 none, Cond.methodLink RX4 77 yX4_share, Cond.instanceMethod yX4_share, Cond.selects RX4 yX4_share yX4_share, Cond.code yX4_share cX4_share 3 (some .long), Cond.methodLink RX4 64 yX4_distance]
def wsX5_run_r3 : List Cond := [Cond.instanceMethod yX4_distance, Cond.selects RX4 yX4_distance yX4_distance, Cond.code yX4_distance cX4_distance 5 (some .long), Cond.methodLink RX4 87 Lib.MathLoose.abs_long.x, Cond.static Lib.MathLoose.abs_long.x, Cond.initialized "java/lang/Math", Cond.code Lib.MathLoose.abs_long.x Lib.MathLoose.abs_long.code 2 (some .long)]
def wsX5_run : List Cond := .code yX5_run cX5_run 5 (some .int) :: ((wsX5_run_r1 ++ (wsX5_run_r2 ++ wsX5_run_r3)) ++ wsX50 ++ wsX40 ++ wsX20 ++ (vx_at0 RX5 122 "java/lang/IllegalArgumentException" ["java/lang/RuntimeException", "java/lang/Exception"]).filter goodWord)
def wsX5_again : List Cond := .code yX5_again cX5_again 1 none :: ([.fieldLink RX5 31 "RankHouse" "ranks" "LRankHouse$Ranks;", .fieldLink RX5 45 "RankHouse" "graph" "LRankHouse$Graph;", .methodLink RX5 49 yX4_begin, .instanceMethod yX4_begin, .selects RX4 yX4_begin yX4_begin, .initialized RX4, .code yX4_begin cX4_begin 8 none, .constantLong RX4 30 (4294967296), .fieldLink RX4 9 "RankHouse$Ranks" "now" "[J", .fieldLink RX4 36 "RankHouse$Ranks" "steps" "I", .constantLong RX4 39 (8589934592), .fieldLink RX4 41 "RankHouse$Ranks" "change" "J", .fieldLink RX4 45 "RankHouse$Ranks" "error" "J", .static yX5_quotient, .initialized RX5, .code yX5_quotient cX5_quotient 4 (some .long)] ++ wsX50 ++ wsX20 ++ wsX40)
def wsX5_rank : List Cond := .code yX5_rank cX5_rank 2 (some .long) :: ([.classLink RX5 97 "java/util/NoSuchElementException", .initialized "java/util/NoSuchElementException", .fieldLink RX5 45 "RankHouse" "graph" "LRankHouse$Graph;", .fieldLink RX5 31 "RankHouse" "ranks" "LRankHouse$Ranks;", .methodLink RX5 94 yX2_isNode, .instanceMethod yX2_isNode, .selects RX2 yX2_isNode yX2_isNode, .initialized RX2, .code yX2_isNode cX2_isNode 2 (some .boolean), .fieldLink RX2 21 "RankHouse$Graph" "nodes" "I"] ++ wsX50 ++ wsX40 ++ wsX20 ++ (vx_at0 RX5 99 "java/util/NoSuchElementException" ["java/lang/RuntimeException", "java/lang/Exception"]).filter goodWord)
def wsX5_look_r1 : List Cond := [Cond.fieldLink RX5 31 "RankHouse" "ranks" "LRankHouse$Ranks;", Cond.fieldLink RX5 45 "RankHouse" "graph" "LRankHouse$Graph;", Cond.constantLong RX5 151 (-1), Cond.methodLink RX5 134 yX4_sum, Cond.instanceMethod yX4_sum, Cond.selects RX4 yX4_sum yX4_sum, Cond.initialized RX4, Cond.code yX4_sum cX4_sum 5 (some .long), Cond.fieldLink RX4 9 "RankHouse$Ranks" "now" "[J", Cond.methodLink RX5 142 yX4_bound, Cond.instanceMethod yX4_bound, Cond.selects RX4 yX4_bound yX4_bound, Cond.code yX4_bound cX4_bound 4 (some .long), Cond.constantLong RX4 75 (2), Cond.fieldLink RX4 45 "RankHouse$Ranks" "error" "J", Cond.fieldLink RX4 22 "RankHouse$Ranks" "q" "I", Cond.fieldLink RX4 18 "RankHouse$Ranks" "p" "I", Cond.static yX5_quotient, Cond.initialized RX5, Cond.code yX5_quotient cX5_quotient 4 (some .long), Cond.methodLink RX5 148 yX4_bareSum, Cond.instanceMethod yX4_bareSum, Cond.selects RX4 yX4_bareSum yX4_bareSum, Cond.code yX4_bareSum cX4_bareSum 5 (some .long)]
def wsX5_look_r2 : List Cond := [Cond.methodLink RX4 68 yX2_outOf, Cond.instanceMethod yX2_outOf, Cond.selects RX2 yX2_outOf yX2_outOf, Cond.initialized RX2, Cond.code yX2_outOf cX2_outOf 2 (some .int), Cond.fieldLink RX2 9 "RankHouse$Graph" "first" "[I", Cond.methodLink RX2 35 yX2_isNode, Cond.instanceMethod yX2_isNode, Cond.selects RX2 yX2_isNode yX2_isNode, Cond.code yX2_isNode cX2_isNode 2 (some .boolean), Cond.fieldLink RX2 21 "RankHouse$Graph" "nodes" "I"]
def wsX5_look : List Cond := .code yX5_look cX5_look 2 (some .long) :: ((wsX5_look_r1 ++ wsX5_look_r2) ++ wsX50 ++ wsX40 ++ wsX20)
def wsX5_top : List Cond := .code yX5_top cX5_top 3 (some .int) :: ([.fieldLink RX5 38 "RankHouse" "order" "LRankHouse$Order;", .fieldLink RX5 45 "RankHouse" "graph" "LRankHouse$Graph;", .fieldLink RX5 31 "RankHouse" "ranks" "LRankHouse$Ranks;", .methodLink RX5 157 yX3_place, .instanceMethod yX3_place, .selects RX3 yX3_place yX3_place, .initialized RX3, .code yX3_place cX3_place 5 none, .fieldLink RX3 19 "RankHouse$Order" "size" "I", .fieldLink RX3 15 "RankHouse$Order" "worths" "[J", .fieldLink RX3 9 "RankHouse$Order" "nodes" "[I", .methodLink RX5 160 yX3_node, .instanceMethod yX3_node, .selects RX3 yX3_node yX3_node, .code yX3_node cX3_node 2 (some .int)] ++ wsX50 ++ wsX30 ++ wsX20 ++ wsX40)
def wsX5_gives_r1 : List Cond := [Cond.fieldLink RX5 45 "RankHouse" "graph" "LRankHouse$Graph;", Cond.fieldLink RX5 31 "RankHouse" "ranks" "LRankHouse$Ranks;", Cond.constantLong RX5 151 (-1), Cond.methodLink RX5 91 yX2_joins, Cond.instanceMethod yX2_joins, Cond.selects RX2 yX2_joins yX2_joins, Cond.initialized RX2, Cond.code yX2_joins cX2_joins 4 (some .boolean), Cond.fieldLink RX2 9 "RankHouse$Graph" "first" "[I", Cond.fieldLink RX2 15 "RankHouse$Graph" "targets" "[I", Cond.methodLink RX2 35 yX2_isNode, Cond.instanceMethod yX2_isNode, Cond.selects RX2 yX2_isNode yX2_isNode, Cond.code yX2_isNode cX2_isNode 2 (some .boolean), Cond.fieldLink RX2 21 "RankHouse$Graph" "nodes" "I", Cond.methodLink RX2 46 yX2_spot, Cond.instanceMethod yX2_spot, Cond.selects RX2 yX2_spot yX2_spot, Cond.code yX2_spot cX2_spot 4 (some .int), Cond.methodLink RX5 163 yX4_share, Cond.instanceMethod yX4_share, Cond.selects RX4 yX4_share yX4_share, Cond.initialized RX4, Cond.code yX4_share cX4_share 3 (some .long)]
def wsX5_gives_r2 : List Cond := [Cond.fieldLink RX4 18 "RankHouse$Ranks" "p" "I", Cond.fieldLink RX4 9 "RankHouse$Ranks" "now" "[J", Cond.fieldLink RX4 22 "RankHouse$Ranks" "q" "I", Cond.methodLink RX4 68 yX2_outOf, Cond.instanceMethod yX2_outOf, Cond.selects RX2 yX2_outOf yX2_outOf, Cond.code yX2_outOf cX2_outOf 2 (some .int), Cond.static yX5_quotient, Cond.initialized RX5, Cond.code yX5_quotient cX5_quotient 4 (some .long)]
def wsX5_gives : List Cond := .code yX5_gives cX5_gives 3 (some .long) :: ((wsX5_gives_r1 ++ wsX5_gives_r2) ++ wsX50 ++ wsX20 ++ wsX40)
def wsX5_giver_r1 : List Cond := [Cond.fieldLink RX5 38 "RankHouse" "order" "LRankHouse$Order;", Cond.fieldLink RX5 45 "RankHouse" "graph" "LRankHouse$Graph;", Cond.fieldLink RX5 31 "RankHouse" "ranks" "LRankHouse$Ranks;", Cond.methodLink RX5 91 yX2_joins, Cond.instanceMethod yX2_joins, Cond.selects RX2 yX2_joins yX2_joins, Cond.initialized RX2, Cond.code yX2_joins cX2_joins 4 (some .boolean), Cond.fieldLink RX2 9 "RankHouse$Graph" "first" "[I", Cond.fieldLink RX2 15 "RankHouse$Graph" "targets" "[I", Cond.methodLink RX2 35 yX2_isNode, Cond.instanceMethod yX2_isNode, Cond.selects RX2 yX2_isNode yX2_isNode, Cond.code yX2_isNode cX2_isNode 2 (some .boolean), Cond.fieldLink RX2 21 "RankHouse$Graph" "nodes" "I", Cond.methodLink RX2 46 yX2_spot, Cond.instanceMethod yX2_spot, Cond.selects RX2 yX2_spot yX2_spot, Cond.code yX2_spot cX2_spot 4 (some .int), Cond.methodLink RX5 163 yX4_share, Cond.instanceMethod yX4_share, Cond.selects RX4 yX4_share yX4_share, Cond.initialized RX4, Cond.code yX4_share cX4_share 3 (some .long)]
def wsX5_giver_r2 : List Cond := [Cond.fieldLink RX4 18 "RankHouse$Ranks" "p" "I", Cond.fieldLink RX4 9 "RankHouse$Ranks" "now" "[J", Cond.fieldLink RX4 22 "RankHouse$Ranks" "q" "I", Cond.methodLink RX4 68 yX2_outOf, Cond.instanceMethod yX2_outOf, Cond.selects RX2 yX2_outOf yX2_outOf, Cond.code yX2_outOf cX2_outOf 2 (some .int), Cond.static yX5_quotient, Cond.initialized RX5, Cond.code yX5_quotient cX5_quotient 4 (some .long), Cond.methodLink RX5 157 yX3_place, Cond.instanceMethod yX3_place, Cond.selects RX3 yX3_place yX3_place, Cond.initialized RX3, Cond.code yX3_place cX3_place 5 none, Cond.fieldLink RX3 19 "RankHouse$Order" "size" "I", Cond.fieldLink RX3 15 "RankHouse$Order" "worths" "[J", Cond.fieldLink RX3 9 "RankHouse$Order" "nodes" "[I", Cond.methodLink RX5 160 yX3_node, Cond.instanceMethod yX3_node, Cond.selects RX3 yX3_node yX3_node, Cond.code yX3_node cX3_node 2 (some .int)]
def wsX5_giver : List Cond := .code yX5_giver cX5_giver 4 (some .int) :: ((wsX5_giver_r1 ++ wsX5_giver_r2) ++ wsX50 ++ wsX30 ++ wsX20 ++ wsX40)
def wsX5_putNode_r1 : List Cond := [Cond.fieldLink RX5 45 "RankHouse" "graph" "LRankHouse$Graph;", Cond.fieldLink RX5 18 "RankHouse" "out" "LRankHouse$ByteRow;", Cond.methodLink RX5 100 yX2_outOf, Cond.instanceMethod yX2_outOf, Cond.selects RX2 yX2_outOf yX2_outOf, Cond.initialized RX2, Cond.code yX2_outOf cX2_outOf 2 (some .int), Cond.fieldLink RX2 9 "RankHouse$Graph" "first" "[I", Cond.methodLink RX2 35 yX2_isNode, Cond.instanceMethod yX2_isNode, Cond.selects RX2 yX2_isNode yX2_isNode, Cond.code yX2_isNode cX2_isNode 2 (some .boolean), Cond.fieldLink RX2 21 "RankHouse$Graph" "nodes" "I", Cond.methodLink RX5 167 yX0_putUnsigned, Cond.instanceMethod yX0_putUnsigned, Cond.selects RX0 yX0_putUnsigned yX0_putUnsigned, Cond.initialized RX0, Cond.code yX0_putUnsigned cX0_putUnsigned 4 none, Cond.methodLink RX0 25 yX0_put, Cond.instanceMethod yX0_put, Cond.selects RX0 yX0_put yX0_put, Cond.code yX0_put cX0_put 2 none, Cond.fieldLink RX0 9 "RankHouse$ByteRow" "length" "I", Cond.fieldLink RX0 21 "RankHouse$ByteRow" "bytes" "[I"]
def wsX5_putNode_r2 : List Cond := [Cond.methodLink RX5 107 yX2_target, Cond.instanceMethod yX2_target, Cond.selects RX2 yX2_target yX2_target, Cond.code yX2_target cX2_target 3 (some .int), Cond.fieldLink RX2 15 "RankHouse$Graph" "targets" "[I", Cond.methodLink RX2 38 yX2_outOf]
def wsX5_putNode : List Cond := .code yX5_putNode cX5_putNode 6 none :: ((wsX5_putNode_r1 ++ wsX5_putNode_r2) ++ wsX50 ++ wsX20 ++ wsX00)
def wsX5_write_r1 : List Cond := [Cond.fieldLink RX5 18 "RankHouse" "out" "LRankHouse$ByteRow;", Cond.fieldLink RX5 45 "RankHouse" "graph" "LRankHouse$Graph;", Cond.methodLink RX5 167 yX0_putUnsigned, Cond.instanceMethod yX0_putUnsigned, Cond.selects RX0 yX0_putUnsigned yX0_putUnsigned, Cond.initialized RX0, Cond.code yX0_putUnsigned cX0_putUnsigned 4 none, Cond.methodLink RX0 25 yX0_put, Cond.instanceMethod yX0_put, Cond.selects RX0 yX0_put yX0_put, Cond.code yX0_put cX0_put 2 none, Cond.fieldLink RX0 9 "RankHouse$ByteRow" "length" "I", Cond.fieldLink RX0 21 "RankHouse$ByteRow" "bytes" "[I", Cond.methodLink RX5 170 yX5_putNode, Cond.instanceMethod yX5_putNode, Cond.selects RX5 yX5_putNode yX5_putNode, Cond.initialized RX5, Cond.code yX5_putNode cX5_putNode 6 none, Cond.methodLink RX5 100 yX2_outOf, Cond.instanceMethod yX2_outOf, Cond.selects RX2 yX2_outOf yX2_outOf, Cond.initialized RX2, Cond.code yX2_outOf cX2_outOf 2 (some .int), Cond.fieldLink RX2 9 "RankHouse$Graph" "first" "[I"]
def wsX5_write_r2 : List Cond := [Cond.methodLink RX2 35 yX2_isNode, Cond.instanceMethod yX2_isNode, Cond.selects RX2 yX2_isNode yX2_isNode, Cond.code yX2_isNode cX2_isNode 2 (some .boolean), Cond.fieldLink RX2 21 "RankHouse$Graph" "nodes" "I", Cond.methodLink RX5 107 yX2_target, Cond.instanceMethod yX2_target, Cond.selects RX2 yX2_target yX2_target, Cond.code yX2_target cX2_target 3 (some .int), Cond.fieldLink RX2 15 "RankHouse$Graph" "targets" "[I", Cond.methodLink RX2 38 yX2_outOf]
def wsX5_write : List Cond := .code yX5_write cX5_write 2 (some .int) :: ((wsX5_write_r1 ++ wsX5_write_r2) ++ wsX50 ++ wsX00 ++ wsX20)
def wsX5_octet : List Cond := .code yX5_octet cX5_octet 2 (some .int) :: ([.classLink RX5 97 "java/util/NoSuchElementException", .initialized "java/util/NoSuchElementException", .fieldLink RX5 18 "RankHouse" "out" "LRankHouse$ByteRow;"] ++ wsX50 ++ wsX00 ++ (vx_at0 RX5 99 "java/util/NoSuchElementException" ["java/lang/RuntimeException", "java/lang/Exception"]).filter goodWord)
def wsX5_count : List Cond := .code yX5_count cX5_count 2 (some .int) :: ([.fieldLink RX5 45 "RankHouse" "graph" "LRankHouse$Graph;", .fieldLink RX5 14 "RankHouse" "tape" "LRankHouse$ByteRow;", .fieldLink RX5 18 "RankHouse" "out" "LRankHouse$ByteRow;", .fieldLink RX5 31 "RankHouse" "ranks" "LRankHouse$Ranks;", .methodLink RX5 177 yX2_bareNodes, .instanceMethod yX2_bareNodes, .selects RX2 yX2_bareNodes yX2_bareNodes, .initialized RX2, .code yX2_bareNodes cX2_bareNodes 3 (some .int), .fieldLink RX2 21 "RankHouse$Graph" "nodes" "I", .methodLink RX2 38 yX2_outOf, .instanceMethod yX2_outOf, .selects RX2 yX2_outOf yX2_outOf, .code yX2_outOf cX2_outOf 2 (some .int), .fieldLink RX2 9 "RankHouse$Graph" "first" "[I", .methodLink RX2 35 yX2_isNode, .instanceMethod yX2_isNode, .selects RX2 yX2_isNode yX2_isNode, .code yX2_isNode cX2_isNode 2 (some .boolean)] ++ wsX50 ++ wsX20 ++ wsX00 ++ wsX40)
def wsX6_thrown : List Cond := .code yX6_thrown cX6_thrown 1 (some .int) :: ([.fieldLink RX6 1 "RankHouseModel" "thrown" "I"] ++ wsX60)
def wsX6_throwsIf : List Cond := .code yX6_throwsIf cX6_throwsIf 2 (some .boolean) :: ([.fieldLink RX6 1 "RankHouseModel" "thrown" "I"] ++ wsX60)
def wsX6_begin : List Cond := .code yX6_begin cX6_begin 2 none :: ([.fieldLink RX6 32 "RankHouseModel" "nodes" "I", .fieldLink RX6 25 "RankHouseModel" "rank" "[J", .constantLong RX6 51 (4294967296), .fieldLink RX6 53 "RankHouseModel" "steps" "I", .constantLong RX6 56 (8589934592), .fieldLink RX6 58 "RankHouseModel" "change" "J", .fieldLink RX6 62 "RankHouseModel" "bound" "J"] ++ wsX60)
def wsX6_init_r1 : List Cond := [Cond.methodLink RX6 7 objectInit, Cond.instanceMethod objectInit, Cond.code objectInit ⟨#[0xb1]⟩ 1 none, Cond.constant RX6 13 (62500), Cond.arrayClass .boolean, Cond.fieldLink RX6 14 "RankHouseModel" "edge" "[Z", Cond.fieldLink RX6 18 "RankHouseModel" "fresh" "[Z", Cond.arrayClass .int, Cond.fieldLink RX6 21 "RankHouseModel" "weight" "[I", Cond.arrayClass .long, Cond.fieldLink RX6 25 "RankHouseModel" "rank" "[J", Cond.fieldLink RX6 29 "RankHouseModel" "next" "[J", Cond.fieldLink RX6 32 "RankHouseModel" "nodes" "I", Cond.fieldLink RX6 35 "RankHouseModel" "p" "I", Cond.fieldLink RX6 38 "RankHouseModel" "q" "I", Cond.arrayClass .byte, Cond.fieldLink RX6 41 "RankHouseModel" "tape" "[B", Cond.fieldLink RX6 45 "RankHouseModel" "out" "[B", Cond.methodLink RX6 48 yX6_begin, Cond.instanceMethod yX6_begin, Cond.selects RX6 yX6_begin yX6_begin, Cond.initialized RX6, Cond.code yX6_begin cX6_begin 2 none, Cond.constantLong RX6 51 (4294967296)]
def wsX6_init_r2 : List Cond := [Cond.fieldLink RX6 53 "RankHouseModel" "steps" "I", Cond.constantLong RX6 56 (8589934592), Cond.fieldLink RX6 58 "RankHouseModel" "change" "J", Cond.fieldLink RX6 62 "RankHouseModel" "bound" "J"]
def wsX6_init : List Cond := .code yX6_init cX6_init 1 none :: ((wsX6_init_r1 ++ wsX6_init_r2) ++ wsX60)
def wsX6_no : List Cond := .code yX6_no cX6_no 2 (some .boolean) :: ([.fieldLink RX6 32 "RankHouseModel" "nodes" "I"] ++ wsX60)
def wsX6_goes : List Cond := .code yX6_goes cX6_goes 3 (some .boolean) :: ([.fieldLink RX6 14 "RankHouseModel" "edge" "[Z"] ++ wsX60)
def wsX6_four : List Cond := .code yX6_four cX6_four 3 none :: ([.fieldLink RX6 41 "RankHouseModel" "tape" "[B", .fieldLink RX6 65 "RankHouseModel" "length" "I"] ++ wsX60)
def wsX6_feed : List Cond := .code yX6_feed cX6_feed 6 (some .int) :: ([.fieldLink RX6 1 "RankHouseModel" "thrown" "I", .fieldLink RX6 65 "RankHouseModel" "length" "I", .methodLink RX6 68 yX6_four, .instanceMethod yX6_four, .selects RX6 yX6_four yX6_four, .initialized RX6, .code yX6_four cX6_four 3 none, .fieldLink RX6 41 "RankHouseModel" "tape" "[B"] ++ wsX60)
def wsX6_end : List Cond := .code yX6_end cX6_end 2 (some .boolean) :: ([.fieldLink RX6 1 "RankHouseModel" "thrown" "I", .fieldLink RX6 65 "RankHouseModel" "length" "I"] ++ wsX60)
def wsX6_wrong : List Cond := .code yX6_wrong cX6_wrong 3 (some .boolean) :: ([.fieldLink RX6 72 "RankHouseModel" "fault" "I", .fieldLink RX6 75 "RankHouseModel" "faultAt" "I"] ++ wsX60)
def wsX6_reads : List Cond := .code yX6_reads cX6_reads 3 (some .boolean) :: ([.fieldLink RX6 78 "RankHouseModel" "at" "I", .fieldLink RX6 81 "RankHouseModel" "from" "I", .fieldLink RX6 84 "RankHouseModel" "number" "I", .fieldLink RX6 87 "RankHouseModel" "size" "I", .fieldLink RX6 41 "RankHouseModel" "tape" "[B", .constant RX6 94 (65536), .methodLink RX6 90 yX6_wrong, .instanceMethod yX6_wrong, .selects RX6 yX6_wrong yX6_wrong, .initialized RX6, .code yX6_wrong cX6_wrong 3 (some .boolean), .fieldLink RX6 72 "RankHouseModel" "fault" "I", .fieldLink RX6 75 "RankHouseModel" "faultAt" "I"] ++ wsX60)
def wsX6_bad : List Cond := .code yX6_bad cX6_bad 3 (some .int) :: ([.methodLink RX6 90 yX6_wrong, .instanceMethod yX6_wrong, .selects RX6 yX6_wrong yX6_wrong, .initialized RX6, .code yX6_wrong cX6_wrong 3 (some .boolean), .fieldLink RX6 72 "RankHouseModel" "fault" "I", .fieldLink RX6 75 "RankHouseModel" "faultAt" "I"] ++ wsX60)
def wsX6_graph : List Cond := .code yX6_graph cX6_graph 7 (some .int) :: ([.fieldLink RX6 84 "RankHouseModel" "number" "I", .fieldLink RX6 81 "RankHouseModel" "from" "I", .fieldLink RX6 99 "RankHouseModel" "newNodes" "I", .fieldLink RX6 18 "RankHouseModel" "fresh" "[Z", .fieldLink RX6 78 "RankHouseModel" "at" "I", .fieldLink RX6 87 "RankHouseModel" "size" "I", .methodLink RX6 105 yX6_reads, .instanceMethod yX6_reads, .selects RX6 yX6_reads yX6_reads, .initialized RX6, .code yX6_reads cX6_reads 3 (some .boolean), .fieldLink RX6 41 "RankHouseModel" "tape" "[B", .constant RX6 94 (65536), .methodLink RX6 90 yX6_wrong, .instanceMethod yX6_wrong, .selects RX6 yX6_wrong yX6_wrong, .code yX6_wrong cX6_wrong 3 (some .boolean), .fieldLink RX6 72 "RankHouseModel" "fault" "I", .fieldLink RX6 75 "RankHouseModel" "faultAt" "I", .methodLink RX6 109 yX6_bad, .instanceMethod yX6_bad, .selects RX6 yX6_bad yX6_bad, .code yX6_bad cX6_bad 3 (some .int)] ++ wsX60)
def wsX6_read_r1 : List Cond := [Cond.fieldLink RX6 1 "RankHouseModel" "thrown" "I", Cond.fieldLink RX6 65 "RankHouseModel" "length" "I", Cond.fieldLink RX6 87 "RankHouseModel" "size" "I", Cond.fieldLink RX6 78 "RankHouseModel" "at" "I", Cond.fieldLink RX6 72 "RankHouseModel" "fault" "I", Cond.constant RX6 13 (62500), Cond.fieldLink RX6 18 "RankHouseModel" "fresh" "[Z", Cond.fieldLink RX6 75 "RankHouseModel" "faultAt" "I", Cond.fieldLink RX6 99 "RankHouseModel" "newNodes" "I", Cond.fieldLink RX6 32 "RankHouseModel" "nodes" "I", Cond.fieldLink RX6 102 "RankHouseModel" "edges" "I", Cond.fieldLink RX6 14 "RankHouseModel" "edge" "[Z", Cond.fieldLink RX6 21 "RankHouseModel" "weight" "[I", Cond.methodLink RX6 95 yX6_graph, Cond.instanceMethod yX6_graph, Cond.selects RX6 yX6_graph yX6_graph, Cond.initialized RX6, Cond.code yX6_graph cX6_graph 7 (some .int), Cond.fieldLink RX6 84 "RankHouseModel" "number" "I", Cond.fieldLink RX6 81 "RankHouseModel" "from" "I", Cond.methodLink RX6 105 yX6_reads, Cond.instanceMethod yX6_reads, Cond.selects RX6 yX6_reads yX6_reads, Cond.code yX6_reads cX6_reads 3 (some .boolean)]
def wsX6_read_r2 : List Cond := [Cond.fieldLink RX6 41 "RankHouseModel" "tape" "[B", Cond.constant RX6 94 (65536), Cond.methodLink RX6 90 yX6_wrong, Cond.instanceMethod yX6_wrong, Cond.selects RX6 yX6_wrong yX6_wrong, Cond.code yX6_wrong cX6_wrong 3 (some .boolean), Cond.methodLink RX6 109 yX6_bad, Cond.instanceMethod yX6_bad, Cond.selects RX6 yX6_bad yX6_bad, Cond.code yX6_bad cX6_bad 3 (some .int), Cond.methodLink RX6 48 yX6_begin, Cond.instanceMethod yX6_begin, Cond.selects RX6 yX6_begin yX6_begin, Cond.code yX6_begin cX6_begin 2 none, Cond.fieldLink RX6 25 "RankHouseModel" "rank" "[J", Cond.constantLong RX6 51 (4294967296), Cond.fieldLink RX6 53 "RankHouseModel" "steps" "I", Cond.constantLong RX6 56 (8589934592), Cond.fieldLink RX6 58 "RankHouseModel" "change" "J", Cond.fieldLink RX6 62 "RankHouseModel" "bound" "J"]
def wsX6_read : List Cond := .code yX6_read cX6_read 3 (some .int) :: ((wsX6_read_r1 ++ wsX6_read_r2) ++ wsX60)
def wsX6_fault : List Cond := .code yX6_fault cX6_fault 1 (some .int) :: ([.fieldLink RX6 1 "RankHouseModel" "thrown" "I", .fieldLink RX6 72 "RankHouseModel" "fault" "I"] ++ wsX60)
def wsX6_clear : List Cond := .code yX6_clear cX6_clear 3 (some .boolean) :: ([.fieldLink RX6 1 "RankHouseModel" "thrown" "I", .fieldLink RX6 32 "RankHouseModel" "nodes" "I", .fieldLink RX6 102 "RankHouseModel" "edges" "I", .constant RX6 13 (62500), .fieldLink RX6 14 "RankHouseModel" "edge" "[Z", .fieldLink RX6 21 "RankHouseModel" "weight" "[I", .methodLink RX6 48 yX6_begin, .instanceMethod yX6_begin, .selects RX6 yX6_begin yX6_begin, .initialized RX6, .code yX6_begin cX6_begin 2 none, .fieldLink RX6 25 "RankHouseModel" "rank" "[J", .constantLong RX6 51 (4294967296), .fieldLink RX6 53 "RankHouseModel" "steps" "I", .constantLong RX6 56 (8589934592), .fieldLink RX6 58 "RankHouseModel" "change" "J", .fieldLink RX6 62 "RankHouseModel" "bound" "J"] ++ wsX60)
def wsX6_add : List Cond := .code yX6_add cX6_add 3 (some .boolean) :: ([.fieldLink RX6 1 "RankHouseModel" "thrown" "I", .fieldLink RX6 102 "RankHouseModel" "edges" "I", .fieldLink RX6 14 "RankHouseModel" "edge" "[Z", .methodLink RX6 113 yX6_no, .instanceMethod yX6_no, .selects RX6 yX6_no yX6_no, .initialized RX6, .code yX6_no cX6_no 2 (some .boolean), .fieldLink RX6 32 "RankHouseModel" "nodes" "I", .methodLink RX6 117 yX6_goes, .instanceMethod yX6_goes, .selects RX6 yX6_goes yX6_goes, .code yX6_goes cX6_goes 3 (some .boolean), .methodLink RX6 48 yX6_begin, .instanceMethod yX6_begin, .selects RX6 yX6_begin yX6_begin, .code yX6_begin cX6_begin 2 none, .fieldLink RX6 25 "RankHouseModel" "rank" "[J", .constantLong RX6 51 (4294967296), .fieldLink RX6 53 "RankHouseModel" "steps" "I", .constantLong RX6 56 (8589934592), .fieldLink RX6 58 "RankHouseModel" "change" "J", .fieldLink RX6 62 "RankHouseModel" "bound" "J"] ++ wsX60)
def wsX6_cut : List Cond := .code yX6_cut cX6_cut 3 (some .boolean) :: ([.fieldLink RX6 1 "RankHouseModel" "thrown" "I", .fieldLink RX6 14 "RankHouseModel" "edge" "[Z", .fieldLink RX6 102 "RankHouseModel" "edges" "I", .methodLink RX6 113 yX6_no, .instanceMethod yX6_no, .selects RX6 yX6_no yX6_no, .initialized RX6, .code yX6_no cX6_no 2 (some .boolean), .fieldLink RX6 32 "RankHouseModel" "nodes" "I", .methodLink RX6 117 yX6_goes, .instanceMethod yX6_goes, .selects RX6 yX6_goes yX6_goes, .code yX6_goes cX6_goes 3 (some .boolean), .methodLink RX6 48 yX6_begin, .instanceMethod yX6_begin, .selects RX6 yX6_begin yX6_begin, .code yX6_begin cX6_begin 2 none, .fieldLink RX6 25 "RankHouseModel" "rank" "[J", .constantLong RX6 51 (4294967296), .fieldLink RX6 53 "RankHouseModel" "steps" "I", .constantLong RX6 56 (8589934592), .fieldLink RX6 58 "RankHouseModel" "change" "J", .fieldLink RX6 62 "RankHouseModel" "bound" "J"] ++ wsX60)
def wsX6_has : List Cond := .code yX6_has cX6_has 3 (some .boolean) :: ([.fieldLink RX6 1 "RankHouseModel" "thrown" "I", .methodLink RX6 113 yX6_no, .instanceMethod yX6_no, .selects RX6 yX6_no yX6_no, .initialized RX6, .code yX6_no cX6_no 2 (some .boolean), .fieldLink RX6 32 "RankHouseModel" "nodes" "I", .methodLink RX6 117 yX6_goes, .instanceMethod yX6_goes, .selects RX6 yX6_goes yX6_goes, .code yX6_goes cX6_goes 3 (some .boolean), .fieldLink RX6 14 "RankHouseModel" "edge" "[Z"] ++ wsX60)
def wsX6_many : List Cond := .code yX6_many cX6_many 5 (some .int) :: ([.fieldLink RX6 32 "RankHouseModel" "nodes" "I", .methodLink RX6 117 yX6_goes, .instanceMethod yX6_goes, .selects RX6 yX6_goes yX6_goes, .initialized RX6, .code yX6_goes cX6_goes 3 (some .boolean), .fieldLink RX6 14 "RankHouseModel" "edge" "[Z"] ++ wsX60)
def wsX6_edges : List Cond := .code yX6_edges cX6_edges 3 (some .int) :: ([.methodLink RX6 113 yX6_no, .instanceMethod yX6_no, .selects RX6 yX6_no yX6_no, .initialized RX6, .code yX6_no cX6_no 2 (some .boolean), .fieldLink RX6 32 "RankHouseModel" "nodes" "I", .methodLink RX6 120 yX6_throwsIf, .instanceMethod yX6_throwsIf, .selects RX6 yX6_throwsIf yX6_throwsIf, .code yX6_throwsIf cX6_throwsIf 2 (some .boolean), .fieldLink RX6 1 "RankHouseModel" "thrown" "I", .methodLink RX6 124 yX6_many, .instanceMethod yX6_many, .selects RX6 yX6_many yX6_many, .code yX6_many cX6_many 5 (some .int), .methodLink RX6 117 yX6_goes, .instanceMethod yX6_goes, .selects RX6 yX6_goes yX6_goes, .code yX6_goes cX6_goes 3 (some .boolean), .fieldLink RX6 14 "RankHouseModel" "edge" "[Z"] ++ wsX60)
def wsX6_other : List Cond := .code yX6_other cX6_other 6 (some .int) :: ([.fieldLink RX6 1 "RankHouseModel" "thrown" "I", .fieldLink RX6 32 "RankHouseModel" "nodes" "I", .methodLink RX6 113 yX6_no, .instanceMethod yX6_no, .selects RX6 yX6_no yX6_no, .initialized RX6, .code yX6_no cX6_no 2 (some .boolean), .methodLink RX6 117 yX6_goes, .instanceMethod yX6_goes, .selects RX6 yX6_goes yX6_goes, .code yX6_goes cX6_goes 3 (some .boolean), .fieldLink RX6 14 "RankHouseModel" "edge" "[Z"] ++ wsX60)
def wsX6_whole : List Cond := .code yX6_whole cX6_whole 3 (some .int) :: ([.fieldLink RX6 32 "RankHouseModel" "nodes" "I", .fieldLink RX6 21 "RankHouseModel" "weight" "[I"] ++ wsX60)
def wsX6_weight : List Cond := .code yX6_weight cX6_weight 3 (some .boolean) :: ([.fieldLink RX6 1 "RankHouseModel" "thrown" "I", .fieldLink RX6 21 "RankHouseModel" "weight" "[I", .methodLink RX6 113 yX6_no, .instanceMethod yX6_no, .selects RX6 yX6_no yX6_no, .initialized RX6, .code yX6_no cX6_no 2 (some .boolean), .fieldLink RX6 32 "RankHouseModel" "nodes" "I", .methodLink RX6 127 yX6_whole, .instanceMethod yX6_whole, .selects RX6 yX6_whole yX6_whole, .code yX6_whole cX6_whole 3 (some .int), .methodLink RX6 48 yX6_begin, .instanceMethod yX6_begin, .selects RX6 yX6_begin yX6_begin, .code yX6_begin cX6_begin 2 none, .fieldLink RX6 25 "RankHouseModel" "rank" "[J", .constantLong RX6 51 (4294967296), .fieldLink RX6 53 "RankHouseModel" "steps" "I", .constantLong RX6 56 (8589934592), .fieldLink RX6 58 "RankHouseModel" "change" "J", .fieldLink RX6 62 "RankHouseModel" "bound" "J"] ++ wsX60)
def wsX6_damping : List Cond := .code yX6_damping cX6_damping 3 (some .boolean) :: ([.fieldLink RX6 1 "RankHouseModel" "thrown" "I", .constant RX6 130 (1073741824), .fieldLink RX6 35 "RankHouseModel" "p" "I", .fieldLink RX6 38 "RankHouseModel" "q" "I", .methodLink RX6 48 yX6_begin, .instanceMethod yX6_begin, .selects RX6 yX6_begin yX6_begin, .initialized RX6, .code yX6_begin cX6_begin 2 none, .fieldLink RX6 32 "RankHouseModel" "nodes" "I", .fieldLink RX6 25 "RankHouseModel" "rank" "[J", .constantLong RX6 51 (4294967296), .fieldLink RX6 53 "RankHouseModel" "steps" "I", .constantLong RX6 56 (8589934592), .fieldLink RX6 58 "RankHouseModel" "change" "J", .fieldLink RX6 62 "RankHouseModel" "bound" "J"] ++ wsX60)
def wsX6_bare : List Cond := .code yX6_bare cX6_bare 4 (some .long) :: ([.fieldLink RX6 32 "RankHouseModel" "nodes" "I", .fieldLink RX6 25 "RankHouseModel" "rank" "[J", .methodLink RX6 124 yX6_many, .instanceMethod yX6_many, .selects RX6 yX6_many yX6_many, .initialized RX6, .code yX6_many cX6_many 5 (some .int), .methodLink RX6 117 yX6_goes, .instanceMethod yX6_goes, .selects RX6 yX6_goes yX6_goes, .code yX6_goes cX6_goes 3 (some .boolean), .fieldLink RX6 14 "RankHouseModel" "edge" "[Z"] ++ wsX60)
def wsX6_share : List Cond := .code yX6_share cX6_share 2 (some .long) :: ([.fieldLink RX6 35 "RankHouseModel" "p" "I", .fieldLink RX6 25 "RankHouseModel" "rank" "[J", .fieldLink RX6 38 "RankHouseModel" "q" "I", .methodLink RX6 124 yX6_many, .instanceMethod yX6_many, .selects RX6 yX6_many yX6_many, .initialized RX6, .code yX6_many cX6_many 5 (some .int), .fieldLink RX6 32 "RankHouseModel" "nodes" "I", .methodLink RX6 117 yX6_goes, .instanceMethod yX6_goes, .selects RX6 yX6_goes yX6_goes, .code yX6_goes cX6_goes 3 (some .boolean), .fieldLink RX6 14 "RankHouseModel" "edge" "[Z"] ++ wsX60)
def wsX6_step_r1 : List Cond := [Cond.fieldLink RX6 38 "RankHouseModel" "q" "I", Cond.fieldLink RX6 35 "RankHouseModel" "p" "I", Cond.constantLong RX6 51 (4294967296), Cond.fieldLink RX6 32 "RankHouseModel" "nodes" "I", Cond.fieldLink RX6 29 "RankHouseModel" "next" "[J", Cond.fieldLink RX6 21 "RankHouseModel" "weight" "[I", Cond.fieldLink RX6 58 "RankHouseModel" "change" "J", Cond.fieldLink RX6 25 "RankHouseModel" "rank" "[J", Cond.fieldLink RX6 62 "RankHouseModel" "bound" "J", Cond.fieldLink RX6 53 "RankHouseModel" "steps" "I", Cond.methodLink RX6 131 yX6_bare, Cond.instanceMethod yX6_bare, Cond.selects RX6 yX6_bare yX6_bare, Cond.initialized RX6, Cond.code yX6_bare cX6_bare 4 (some .long), Cond.methodLink RX6 124 yX6_many, Cond.instanceMethod yX6_many, Cond.selects RX6 yX6_many yX6_many, Cond.code yX6_many cX6_many 5 (some .int), Cond.methodLink RX6 117 yX6_goes, Cond.instanceMethod yX6_goes, Cond.selects RX6 yX6_goes yX6_goes, Cond.code yX6_goes cX6_goes 3 (some .boolean), Cond.fieldLink RX6 14 "RankHouseModel" "edge" "[Z"]
def wsX6_step_r2 : List Cond := [Cond.methodLink RX6 127 yX6_whole, Cond.instanceMethod yX6_whole, Cond.selects RX6 yX6_whole yX6_whole, Cond.code yX6_whole cX6_whole 3 (some .int), Cond.methodLink RX6 135 yX6_share, Cond.instanceMethod yX6_share, Cond.selects RX6 yX6_share yX6_share, Cond.code yX6_share cX6_share 2 (some .long)]
def wsX6_step : List Cond := .code yX6_step cX6_step 8 none :: ((wsX6_step_r1 ++ wsX6_step_r2) ++ wsX60)
def wsX6_run_r1 : List Cond := [Cond.fieldLink RX6 53 "RankHouseModel" "steps" "I", Cond.fieldLink RX6 58 "RankHouseModel" "change" "J", Cond.methodLink RX6 120 yX6_throwsIf, Cond.instanceMethod yX6_throwsIf, Cond.selects RX6 yX6_throwsIf yX6_throwsIf, Cond.initialized RX6, Cond.code yX6_throwsIf cX6_throwsIf 2 (some .boolean), Cond.fieldLink RX6 1 "RankHouseModel" "thrown" "I", Cond.methodLink RX6 139 yX6_step, Cond.instanceMethod yX6_step, Cond.selects RX6 yX6_step yX6_step, Cond.code yX6_step cX6_step 8 none, Cond.fieldLink RX6 38 "RankHouseModel" "q" "I", Cond.fieldLink RX6 35 "RankHouseModel" "p" "I", Cond.constantLong RX6 51 (4294967296), Cond.fieldLink RX6 32 "RankHouseModel" "nodes" "I", Cond.fieldLink RX6 29 "RankHouseModel" "next" "[J", Cond.fieldLink RX6 21 "RankHouseModel" "weight" "[I", Cond.fieldLink RX6 25 "RankHouseModel" "rank" "[J", Cond.fieldLink RX6 62 "RankHouseModel" "bound" "J", Cond.methodLink RX6 131 yX6_bare, Cond.instanceMethod yX6_bare, Cond.selects RX6 yX6_bare yX6_bare, Cond.code yX6_bare cX6_bare 4 (some .long)]
def wsX6_run_r2 : List Cond := [Cond.methodLink RX6 124 yX6_many, Cond.instanceMethod yX6_many, Cond.selects RX6 yX6_many yX6_many, Cond.code yX6_many cX6_many 5 (some .int), Cond.methodLink RX6 117 yX6_goes, Cond.instanceMethod yX6_goes, Cond.selects RX6 yX6_goes yX6_goes, Cond.code yX6_goes cX6_goes 3 (some .boolean), Cond.fieldLink RX6 14 "RankHouseModel" "edge" "[Z", Cond.methodLink RX6 127 yX6_whole, Cond.instanceMethod yX6_whole, Cond.selects RX6 yX6_whole yX6_whole, Cond.code yX6_whole cX6_whole 3 (some .int), Cond.methodLink RX6 135 yX6_share, Cond.instanceMethod yX6_share, Cond.selects RX6 yX6_share yX6_share, Cond.code yX6_share cX6_share 2 (some .long)]
def wsX6_run : List Cond := .code yX6_run cX6_run 5 (some .int) :: ((wsX6_run_r1 ++ wsX6_run_r2) ++ wsX60)
def wsX6_again : List Cond := .code yX6_again cX6_again 1 none :: ([.fieldLink RX6 1 "RankHouseModel" "thrown" "I", .methodLink RX6 48 yX6_begin, .instanceMethod yX6_begin, .selects RX6 yX6_begin yX6_begin, .initialized RX6, .code yX6_begin cX6_begin 2 none, .fieldLink RX6 32 "RankHouseModel" "nodes" "I", .fieldLink RX6 25 "RankHouseModel" "rank" "[J", .constantLong RX6 51 (4294967296), .fieldLink RX6 53 "RankHouseModel" "steps" "I", .constantLong RX6 56 (8589934592), .fieldLink RX6 58 "RankHouseModel" "change" "J", .fieldLink RX6 62 "RankHouseModel" "bound" "J"] ++ wsX60)
def wsX6_rank : List Cond := .code yX6_rank cX6_rank 2 (some .long) :: ([.fieldLink RX6 25 "RankHouseModel" "rank" "[J", .methodLink RX6 113 yX6_no, .instanceMethod yX6_no, .selects RX6 yX6_no yX6_no, .initialized RX6, .code yX6_no cX6_no 2 (some .boolean), .fieldLink RX6 32 "RankHouseModel" "nodes" "I", .methodLink RX6 120 yX6_throwsIf, .instanceMethod yX6_throwsIf, .selects RX6 yX6_throwsIf yX6_throwsIf, .code yX6_throwsIf cX6_throwsIf 2 (some .boolean), .fieldLink RX6 1 "RankHouseModel" "thrown" "I"] ++ wsX60)
def wsX6_look_r1 : List Cond := [Cond.fieldLink RX6 1 "RankHouseModel" "thrown" "I", Cond.fieldLink RX6 32 "RankHouseModel" "nodes" "I", Cond.fieldLink RX6 25 "RankHouseModel" "rank" "[J", Cond.fieldLink RX6 58 "RankHouseModel" "change" "J", Cond.fieldLink RX6 62 "RankHouseModel" "bound" "J", Cond.fieldLink RX6 102 "RankHouseModel" "edges" "I", Cond.constantLong RX6 142 (2), Cond.fieldLink RX6 38 "RankHouseModel" "q" "I", Cond.fieldLink RX6 35 "RankHouseModel" "p" "I", Cond.fieldLink RX6 53 "RankHouseModel" "steps" "I", Cond.constantLong RX6 144 (-1), Cond.methodLink RX6 131 yX6_bare, Cond.instanceMethod yX6_bare, Cond.selects RX6 yX6_bare yX6_bare, Cond.initialized RX6, Cond.code yX6_bare cX6_bare 4 (some .long), Cond.methodLink RX6 124 yX6_many, Cond.instanceMethod yX6_many, Cond.selects RX6 yX6_many yX6_many, Cond.code yX6_many cX6_many 5 (some .int), Cond.methodLink RX6 117 yX6_goes, Cond.instanceMethod yX6_goes, Cond.selects RX6 yX6_goes yX6_goes, Cond.code yX6_goes cX6_goes 3 (some .boolean)]
def wsX6_look_r2 : List Cond := [Cond.fieldLink RX6 14 "RankHouseModel" "edge" "[Z"]
def wsX6_look : List Cond := .code yX6_look cX6_look 5 (some .long) :: ((wsX6_look_r1 ++ wsX6_look_r2) ++ wsX60)
def wsX6_top : List Cond := .code yX6_top cX6_top 5 (some .int) :: ([.fieldLink RX6 1 "RankHouseModel" "thrown" "I", .fieldLink RX6 32 "RankHouseModel" "nodes" "I", .fieldLink RX6 25 "RankHouseModel" "rank" "[J"] ++ wsX60)
def wsX6_gives : List Cond := .code yX6_gives cX6_gives 3 (some .long) :: ([.fieldLink RX6 1 "RankHouseModel" "thrown" "I", .constantLong RX6 144 (-1), .methodLink RX6 113 yX6_no, .instanceMethod yX6_no, .selects RX6 yX6_no yX6_no, .initialized RX6, .code yX6_no cX6_no 2 (some .boolean), .fieldLink RX6 32 "RankHouseModel" "nodes" "I", .methodLink RX6 117 yX6_goes, .instanceMethod yX6_goes, .selects RX6 yX6_goes yX6_goes, .code yX6_goes cX6_goes 3 (some .boolean), .fieldLink RX6 14 "RankHouseModel" "edge" "[Z", .methodLink RX6 135 yX6_share, .instanceMethod yX6_share, .selects RX6 yX6_share yX6_share, .code yX6_share cX6_share 2 (some .long), .fieldLink RX6 35 "RankHouseModel" "p" "I", .fieldLink RX6 25 "RankHouseModel" "rank" "[J", .fieldLink RX6 38 "RankHouseModel" "q" "I", .methodLink RX6 124 yX6_many, .instanceMethod yX6_many, .selects RX6 yX6_many yX6_many, .code yX6_many cX6_many 5 (some .int)] ++ wsX60)
def wsX6_giver_r1 : List Cond := [Cond.fieldLink RX6 1 "RankHouseModel" "thrown" "I", Cond.fieldLink RX6 32 "RankHouseModel" "nodes" "I", Cond.fieldLink RX6 29 "RankHouseModel" "next" "[J", Cond.constantLong RX6 144 (-1), Cond.methodLink RX6 113 yX6_no, Cond.instanceMethod yX6_no, Cond.selects RX6 yX6_no yX6_no, Cond.initialized RX6, Cond.code yX6_no cX6_no 2 (some .boolean), Cond.methodLink RX6 117 yX6_goes, Cond.instanceMethod yX6_goes, Cond.selects RX6 yX6_goes yX6_goes, Cond.code yX6_goes cX6_goes 3 (some .boolean), Cond.fieldLink RX6 14 "RankHouseModel" "edge" "[Z", Cond.methodLink RX6 135 yX6_share, Cond.instanceMethod yX6_share, Cond.selects RX6 yX6_share yX6_share, Cond.code yX6_share cX6_share 2 (some .long), Cond.fieldLink RX6 35 "RankHouseModel" "p" "I", Cond.fieldLink RX6 25 "RankHouseModel" "rank" "[J", Cond.fieldLink RX6 38 "RankHouseModel" "q" "I", Cond.methodLink RX6 124 yX6_many, Cond.instanceMethod yX6_many, Cond.selects RX6 yX6_many yX6_many]
def wsX6_giver_r2 : List Cond := [Cond.code yX6_many cX6_many 5 (some .int)]
def wsX6_giver : List Cond := .code yX6_giver cX6_giver 6 (some .int) :: ((wsX6_giver_r1 ++ wsX6_giver_r2) ++ wsX60)
def wsX6_put : List Cond := .code yX6_put cX6_put 3 none :: ([.fieldLink RX6 45 "RankHouseModel" "out" "[B", .fieldLink RX6 146 "RankHouseModel" "outMany" "I"] ++ wsX60)
def wsX6_write : List Cond := .code yX6_write cX6_write 4 (some .int) :: ([.fieldLink RX6 1 "RankHouseModel" "thrown" "I", .fieldLink RX6 146 "RankHouseModel" "outMany" "I", .fieldLink RX6 32 "RankHouseModel" "nodes" "I", .methodLink RX6 149 yX6_put, .instanceMethod yX6_put, .selects RX6 yX6_put yX6_put, .initialized RX6, .code yX6_put cX6_put 3 none, .fieldLink RX6 45 "RankHouseModel" "out" "[B", .methodLink RX6 124 yX6_many, .instanceMethod yX6_many, .selects RX6 yX6_many yX6_many, .code yX6_many cX6_many 5 (some .int), .methodLink RX6 117 yX6_goes, .instanceMethod yX6_goes, .selects RX6 yX6_goes yX6_goes, .code yX6_goes cX6_goes 3 (some .boolean), .fieldLink RX6 14 "RankHouseModel" "edge" "[Z"] ++ wsX60)
def wsX6_octet : List Cond := .code yX6_octet cX6_octet 2 (some .int) :: ([.fieldLink RX6 146 "RankHouseModel" "outMany" "I", .fieldLink RX6 45 "RankHouseModel" "out" "[B", .methodLink RX6 120 yX6_throwsIf, .instanceMethod yX6_throwsIf, .selects RX6 yX6_throwsIf yX6_throwsIf, .initialized RX6, .code yX6_throwsIf cX6_throwsIf 2 (some .boolean), .fieldLink RX6 1 "RankHouseModel" "thrown" "I"] ++ wsX60)
def wsX6_count : List Cond := .code yX6_count cX6_count 4 (some .int) :: ([.fieldLink RX6 1 "RankHouseModel" "thrown" "I", .fieldLink RX6 32 "RankHouseModel" "nodes" "I", .fieldLink RX6 102 "RankHouseModel" "edges" "I", .fieldLink RX6 65 "RankHouseModel" "length" "I", .fieldLink RX6 146 "RankHouseModel" "outMany" "I", .fieldLink RX6 35 "RankHouseModel" "p" "I", .fieldLink RX6 38 "RankHouseModel" "q" "I", .methodLink RX6 124 yX6_many, .instanceMethod yX6_many, .selects RX6 yX6_many yX6_many, .initialized RX6, .code yX6_many cX6_many 5 (some .int), .methodLink RX6 117 yX6_goes, .instanceMethod yX6_goes, .selects RX6 yX6_goes yX6_goes, .code yX6_goes cX6_goes 3 (some .boolean), .fieldLink RX6 14 "RankHouseModel" "edge" "[Z", .methodLink RX6 127 yX6_whole, .instanceMethod yX6_whole, .selects RX6 yX6_whole yX6_whole, .code yX6_whole cX6_whole 3 (some .int), .fieldLink RX6 21 "RankHouseModel" "weight" "[I"] ++ wsX60)
def wsJ9_abs_067f4 : List Cond := .code yJ9_abs_067f4 cJ9_abs_067f4 2 (some .long) :: ([])
def wsJ9_max_7cf53 : List Cond := .code yJ9_max_7cf53 cJ9_max_7cf53 2 (some .int) :: ([])
def wsL_edges_r1 : List Cond := [Cond.classLink RL 13 "java/util/NoSuchElementException", Cond.methodLink RL 7 yX5_edges, Cond.instanceMethod yX5_edges, Cond.selects RX5 yX5_edges yX5_edges, Cond.initialized RX5, Cond.code yX5_edges cX5_edges 3 (some .int), Cond.classLink RX5 97 "java/util/NoSuchElementException", Cond.initialized "java/util/NoSuchElementException", Cond.fieldLink RX5 45 "RankHouse" "graph" "LRankHouse$Graph;", Cond.methodLink RX5 94 yX2_isNode, Cond.instanceMethod yX2_isNode, Cond.selects RX2 yX2_isNode yX2_isNode, Cond.initialized RX2, Cond.code yX2_isNode cX2_isNode 2 (some .boolean), Cond.fieldLink RX2 21 "RankHouse$Graph" "nodes" "I", Cond.methodLink RX5 100 yX2_outOf, Cond.instanceMethod yX2_outOf, Cond.selects RX2 yX2_outOf yX2_outOf, Cond.code yX2_outOf cX2_outOf 2 (some .int), Cond.fieldLink RX2 9 "RankHouse$Graph" "first" "[I", Cond.methodLink RX2 35 yX2_isNode, Cond.methodLink RX5 104 yX2_into, Cond.instanceMethod yX2_into, Cond.selects RX2 yX2_into yX2_into]
def wsL_edges_r2 : List Cond := [Cond.code yX2_into cX2_into 4 (some .int), Cond.fieldLink RX2 25 "RankHouse$Graph" "size" "I", Cond.fieldLink RX2 15 "RankHouse$Graph" "targets" "[I"]
def wsL_edges : List Cond := .codeWith yL_edges cL_edges 5 (some .int) [(0, 10, 13, 13)] :: ((wsL_edges_r1 ++ wsL_edges_r2) ++ wsX50 ++ wsX20 ++ (vx_at0 RX5 99 "java/util/NoSuchElementException" ["java/lang/RuntimeException", "java/lang/Exception"]).filter goodWord)
def wsL_run_r1 : List Cond := [Cond.classLink RL 19 "java/lang/IllegalArgumentException", Cond.methodLink RL 15 yX5_run, Cond.instanceMethod yX5_run, Cond.selects RX5 yX5_run yX5_run, Cond.initialized RX5, Cond.code yX5_run cX5_run 5 (some .int), Cond.classLink RX5 120 "java/lang/IllegalArgumentException", Cond.initialized "java/lang/IllegalArgumentException", Cond.fieldLink RX5 31 "RankHouse" "ranks" "LRankHouse$Ranks;", Cond.fieldLink RX5 45 "RankHouse" "graph" "LRankHouse$Graph;", Cond.methodLink RX5 123 yX4_areStill, Cond.instanceMethod yX4_areStill, Cond.selects RX4 yX4_areStill yX4_areStill, Cond.initialized RX4, Cond.code yX4_areStill cX4_areStill 3 (some .boolean), Cond.fieldLink RX4 36 "RankHouse$Ranks" "steps" "I", Cond.fieldLink RX4 41 "RankHouse$Ranks" "change" "J", Cond.methodLink RX5 127 yX4_step, Cond.instanceMethod yX4_step, Cond.selects RX4 yX4_step yX4_step, Cond.code yX4_step cX4_step 5 none, Cond.fieldLink RX4 22 "RankHouse$Ranks" "q" "I", Cond.fieldLink RX4 18 "RankHouse$Ranks" "p" "I", Cond.constantLong RX4 30 (4294967296)]
def wsL_run_r2 : List Cond := [Cond.fieldLink RX4 15 "RankHouse$Ranks" "next" "[J", Cond.fieldLink RX4 9 "RankHouse$Ranks" "now" "[J", Cond.fieldLink RX4 45 "RankHouse$Ranks" "error" "J", Cond.methodLink RX4 49 yX4_bareSum, Cond.instanceMethod yX4_bareSum, Cond.selects RX4 yX4_bareSum yX4_bareSum, Cond.code yX4_bareSum cX4_bareSum 5 (some .long), Cond.methodLink RX4 68 yX2_outOf, Cond.instanceMethod yX2_outOf, Cond.selects RX2 yX2_outOf yX2_outOf, Cond.initialized RX2, Cond.code yX2_outOf cX2_outOf 2 (some .int), Cond.fieldLink RX2 9 "RankHouse$Graph" "first" "[I", Cond.methodLink RX2 35 yX2_isNode, Cond.instanceMethod yX2_isNode, Cond.selects RX2 yX2_isNode yX2_isNode, Cond.code yX2_isNode cX2_isNode 2 (some .boolean), Cond.fieldLink RX2 21 "RankHouse$Graph" "nodes" "I", Cond.static yX5_quotient, Cond.code yX5_quotient cX5_quotient 4 (some .long), Cond.methodLink RX4 60 yX4_shareOut, Cond.instanceMethod yX4_shareOut, Cond.selects RX4 yX4_shareOut yX4_shareOut, Cond.code yX4_shareOut cX4_shareOut 7 none]
def wsL_run_r3 : List Cond := [Cond.methodLink RX4 77 yX4_share, Cond.instanceMethod yX4_share, Cond.selects RX4 yX4_share yX4_share, Cond.code yX4_share cX4_share 3 (some .long), Cond.methodLink RX4 64 yX4_distance, Cond.instanceMethod yX4_distance, Cond.selects RX4 yX4_distance yX4_distance, Cond.code yX4_distance cX4_distance 5 (some .long), Cond.methodLink RX4 87 Lib.MathLoose.abs_long.x, Cond.static Lib.MathLoose.abs_long.x, Cond.initialized "java/lang/Math", Cond.code Lib.MathLoose.abs_long.x Lib.MathLoose.abs_long.code 2 (some .long)]
def wsL_run : List Cond := .codeWith yL_run cL_run 6 (some .int) [(0, 11, 14, 19)] :: ((wsL_run_r1 ++ (wsL_run_r2 ++ wsL_run_r3)) ++ wsX50 ++ wsX40 ++ wsX20 ++ (vx_at0 RX5 122 "java/lang/IllegalArgumentException" ["java/lang/RuntimeException", "java/lang/Exception"]).filter goodWord)
def wsL_rank : List Cond := .codeWith yL_rank cL_rank 4 (some .int) [(0, 8, 11, 13)] :: ([.classLink RL 13 "java/util/NoSuchElementException", .methodLink RL 21 yX5_rank, .instanceMethod yX5_rank, .selects RX5 yX5_rank yX5_rank, .initialized RX5, .code yX5_rank cX5_rank 2 (some .long), .classLink RX5 97 "java/util/NoSuchElementException", .initialized "java/util/NoSuchElementException", .fieldLink RX5 45 "RankHouse" "graph" "LRankHouse$Graph;", .fieldLink RX5 31 "RankHouse" "ranks" "LRankHouse$Ranks;", .methodLink RX5 94 yX2_isNode, .instanceMethod yX2_isNode, .selects RX2 yX2_isNode yX2_isNode, .initialized RX2, .code yX2_isNode cX2_isNode 2 (some .boolean), .fieldLink RX2 21 "RankHouse$Graph" "nodes" "I"] ++ wsX50 ++ wsX40 ++ wsX20 ++ (vx_at0 RX5 99 "java/util/NoSuchElementException" ["java/lang/RuntimeException", "java/lang/Exception"]).filter goodWord)
def wsL_octet : List Cond := .codeWith yL_octet cL_octet 4 (some .int) [(0, 9, 12, 13)] :: ([.classLink RL 13 "java/util/NoSuchElementException", .methodLink RL 25 yX5_octet, .instanceMethod yX5_octet, .selects RX5 yX5_octet yX5_octet, .initialized RX5, .code yX5_octet cX5_octet 2 (some .int), .classLink RX5 97 "java/util/NoSuchElementException", .initialized "java/util/NoSuchElementException", .fieldLink RX5 18 "RankHouse" "out" "LRankHouse$ByteRow;"] ++ wsX50 ++ wsX00 ++ (vx_at0 RX5 99 "java/util/NoSuchElementException" ["java/lang/RuntimeException", "java/lang/Exception"]).filter goodWord)
def wsL_law0_r1 : List Cond := [Cond.classLink RL 8 RX5, Cond.instantiable RX5 6, Cond.initialized RX5, Cond.classLink RL 30 RX6, Cond.instantiable RX6 24, Cond.initialized RX6, Cond.arrayClass .long, Cond.constantLong RL 91 (4294967295), Cond.methodLink RL 29 yX5_init, Cond.instanceMethod yX5_init, Cond.code yX5_init cX5_init 1 none, Cond.methodLink RX5 3 objectInit, Cond.instanceMethod objectInit, Cond.code objectInit ⟨#[0xb1]⟩ 1 none, Cond.classLink RX5 9 RX0, Cond.instantiable RX0 2, Cond.initialized RX0, Cond.fieldLink RX5 14 "RankHouse" "tape" "LRankHouse$ByteRow;", Cond.fieldLink RX5 18 "RankHouse" "out" "LRankHouse$ByteRow;", Cond.classLink RX5 21 RX1, Cond.instantiable RX1 5, Cond.initialized RX1, Cond.fieldLink RX5 24 "RankHouse" "decoder" "LRankHouse$Decoder;", Cond.classLink RX5 28 RX4]
def wsL_law0_r2 : List Cond := [Cond.instantiable RX4 7, Cond.initialized RX4, Cond.fieldLink RX5 31 "RankHouse" "ranks" "LRankHouse$Ranks;", Cond.classLink RX5 35 RX3, Cond.instantiable RX3 3, Cond.initialized RX3, Cond.fieldLink RX5 38 "RankHouse" "order" "LRankHouse$Order;", Cond.classLink RX5 42 RX2, Cond.instantiable RX2 6, Cond.initialized RX2, Cond.fieldLink RX5 45 "RankHouse" "graph" "LRankHouse$Graph;", Cond.methodLink RX5 11 yX0_init, Cond.instanceMethod yX0_init, Cond.code yX0_init cX0_init 2 none, Cond.methodLink RX0 3 objectInit, Cond.fieldLink RX0 9 "RankHouse$ByteRow" "length" "I", Cond.methodLink RX0 15 Lib.Math.max.name, Cond.static Lib.Math.max.name, Cond.initialized "java/lang/Math", Cond.code Lib.Math.max.name Lib.Math.max.code 2 (some .int), Cond.arrayClass .int, Cond.fieldLink RX0 21 "RankHouse$ByteRow" "bytes" "[I", Cond.instanceMethod yX1_init, Cond.code yX1_init cX1_init 1 none]
def wsL_law0_r3 : List Cond := [Cond.methodLink RX1 3 objectInit, Cond.fieldLink RX1 9 "RankHouse$Decoder" "next" "I", Cond.fieldLink RX1 15 "RankHouse$Decoder" "nodes" "I", Cond.fieldLink RX1 18 "RankHouse$Decoder" "size" "I", Cond.fieldLink RX1 21 "RankHouse$Decoder" "kind" "I", Cond.fieldLink RX1 24 "RankHouse$Decoder" "place" "I", Cond.instanceMethod yX4_init, Cond.code yX4_init cX4_init 1 none, Cond.methodLink RX4 3 objectInit, Cond.fieldLink RX4 9 "RankHouse$Ranks" "now" "[J", Cond.fieldLink RX4 15 "RankHouse$Ranks" "next" "[J", Cond.fieldLink RX4 18 "RankHouse$Ranks" "p" "I", Cond.fieldLink RX4 22 "RankHouse$Ranks" "q" "I", Cond.instanceMethod yX3_init, Cond.code yX3_init cX3_init 1 none, Cond.methodLink RX3 3 objectInit, Cond.fieldLink RX3 9 "RankHouse$Order" "nodes" "[I", Cond.fieldLink RX3 15 "RankHouse$Order" "worths" "[J", Cond.fieldLink RX3 19 "RankHouse$Order" "size" "I", Cond.methodLink RX5 44 yX2_init, Cond.instanceMethod yX2_init, Cond.code yX2_init cX2_init 1 none, Cond.methodLink RX2 3 objectInit, Cond.fieldLink RX2 9 "RankHouse$Graph" "first" "[I"]
def wsL_law0_r4 : List Cond := [Cond.fieldLink RX2 15 "RankHouse$Graph" "targets" "[I", Cond.fieldLink RX2 18 "RankHouse$Graph" "weights" "[I", Cond.fieldLink RX2 21 "RankHouse$Graph" "nodes" "I", Cond.fieldLink RX2 25 "RankHouse$Graph" "size" "I", Cond.fieldLink RX2 28 "RankHouse$Graph" "whole" "I", Cond.methodLink RX5 49 yX4_begin, Cond.instanceMethod yX4_begin, Cond.selects RX4 yX4_begin yX4_begin, Cond.code yX4_begin cX4_begin 8 none, Cond.constantLong RX4 30 (4294967296), Cond.fieldLink RX4 36 "RankHouse$Ranks" "steps" "I", Cond.constantLong RX4 39 (8589934592), Cond.fieldLink RX4 41 "RankHouse$Ranks" "change" "J", Cond.fieldLink RX4 45 "RankHouse$Ranks" "error" "J", Cond.static yX5_quotient, Cond.code yX5_quotient cX5_quotient 4 (some .long), Cond.methodLink RL 32 yX6_init, Cond.instanceMethod yX6_init, Cond.code yX6_init cX6_init 1 none, Cond.methodLink RX6 7 objectInit, Cond.constant RX6 13 (62500), Cond.arrayClass .boolean, Cond.fieldLink RX6 14 "RankHouseModel" "edge" "[Z", Cond.fieldLink RX6 18 "RankHouseModel" "fresh" "[Z"]
def wsL_law0_r5 : List Cond := [Cond.fieldLink RX6 21 "RankHouseModel" "weight" "[I", Cond.fieldLink RX6 25 "RankHouseModel" "rank" "[J", Cond.fieldLink RX6 29 "RankHouseModel" "next" "[J", Cond.fieldLink RX6 32 "RankHouseModel" "nodes" "I", Cond.fieldLink RX6 35 "RankHouseModel" "p" "I", Cond.fieldLink RX6 38 "RankHouseModel" "q" "I", Cond.arrayClass .byte, Cond.fieldLink RX6 41 "RankHouseModel" "tape" "[B", Cond.fieldLink RX6 45 "RankHouseModel" "out" "[B", Cond.methodLink RX6 48 yX6_begin, Cond.instanceMethod yX6_begin, Cond.selects RX6 yX6_begin yX6_begin, Cond.code yX6_begin cX6_begin 2 none, Cond.constantLong RX6 51 (4294967296), Cond.fieldLink RX6 53 "RankHouseModel" "steps" "I", Cond.constantLong RX6 56 (8589934592), Cond.fieldLink RX6 58 "RankHouseModel" "change" "J", Cond.fieldLink RX6 62 "RankHouseModel" "bound" "J", Cond.methodLink RL 33 yX5_feed, Cond.instanceMethod yX5_feed, Cond.selects RX5 yX5_feed yX5_feed, Cond.code yX5_feed cX5_feed 6 (some .int), Cond.methodLink RX5 57 yX0_putFour, Cond.instanceMethod yX0_putFour]
def wsL_law0_r6 : List Cond := [Cond.selects RX0 yX0_putFour yX0_putFour, Cond.code yX0_putFour cX0_putFour 2 none, Cond.methodLink RX0 25 yX0_put, Cond.instanceMethod yX0_put, Cond.selects RX0 yX0_put yX0_put, Cond.code yX0_put cX0_put 2 none, Cond.methodLink RL 37 yX6_feed, Cond.instanceMethod yX6_feed, Cond.selects RX6 yX6_feed yX6_feed, Cond.code yX6_feed cX6_feed 6 (some .int), Cond.fieldLink RX6 1 "RankHouseModel" "thrown" "I", Cond.fieldLink RX6 65 "RankHouseModel" "length" "I", Cond.methodLink RX6 68 yX6_four, Cond.instanceMethod yX6_four, Cond.selects RX6 yX6_four yX6_four, Cond.code yX6_four cX6_four 3 none, Cond.methodLink RL 38 yX5_end, Cond.instanceMethod yX5_end, Cond.selects RX5 yX5_end yX5_end, Cond.code yX5_end cX5_end 2 (some .boolean), Cond.methodLink RL 42 yX6_end, Cond.instanceMethod yX6_end, Cond.selects RX6 yX6_end yX6_end, Cond.code yX6_end cX6_end 2 (some .boolean)]
def wsL_law0_r7 : List Cond := [Cond.methodLink RL 43 yX5_read, Cond.instanceMethod yX5_read, Cond.selects RX5 yX5_read yX5_read, Cond.code yX5_read cX5_read 2 (some .int), Cond.methodLink RX5 60 yX1_decode, Cond.instanceMethod yX1_decode, Cond.selects RX1 yX1_decode yX1_decode, Cond.code yX1_decode cX1_decode 4 (some .boolean), Cond.methodLink RX1 27 yX1_unsigned, Cond.instanceMethod yX1_unsigned, Cond.selects RX1 yX1_unsigned yX1_unsigned, Cond.code yX1_unsigned cX1_unsigned 7 (some .int), Cond.constant RX1 65 (65535), Cond.methodLink RX1 37 yX1_refuse, Cond.instanceMethod yX1_refuse, Cond.selects RX1 yX1_refuse yX1_refuse, Cond.code yX1_refuse cX1_refuse 3 (some .boolean), Cond.methodLink RX1 66 yX1_refuseUnsigned, Cond.instanceMethod yX1_refuseUnsigned, Cond.selects RX1 yX1_refuseUnsigned yX1_refuseUnsigned, Cond.code yX1_refuseUnsigned cX1_refuseUnsigned 2 (some .int), Cond.methodLink RX1 31 yX2_canHave, Cond.static yX2_canHave, Cond.code yX2_canHave cX2_canHave 1 (some .boolean)]
def wsL_law0_r8 : List Cond := [Cond.methodLink RX1 41 yX2_reset, Cond.instanceMethod yX2_reset, Cond.selects RX2 yX2_reset yX2_reset, Cond.code yX2_reset cX2_reset 3 none, Cond.methodLink RX2 31 yX2_canHave, Cond.methodLink RX1 45 yX1_decodeNode, Cond.instanceMethod yX1_decodeNode, Cond.selects RX1 yX1_decodeNode yX1_decodeNode, Cond.code yX1_decodeNode cX1_decodeNode 9 (some .boolean), Cond.methodLink RX1 54 yX1_signed, Cond.static yX1_signed, Cond.code yX1_signed cX1_signed 1 (some .int), Cond.methodLink RX1 58 yX2_join, Cond.instanceMethod yX2_join, Cond.selects RX2 yX2_join yX2_join, Cond.code yX2_join cX2_join 4 (some .boolean), Cond.methodLink RX2 50 arraycopyName, Cond.native arraycopyName, Cond.static arraycopyName, Cond.initialized "java/lang/System", Cond.methodLink RX2 35 yX2_isNode, Cond.instanceMethod yX2_isNode, Cond.selects RX2 yX2_isNode yX2_isNode, Cond.code yX2_isNode cX2_isNode 2 (some .boolean)]
def wsL_law0_r9 : List Cond := [Cond.methodLink RX2 42 yX2_joins, Cond.instanceMethod yX2_joins, Cond.selects RX2 yX2_joins yX2_joins, Cond.code yX2_joins cX2_joins 4 (some .boolean), Cond.methodLink RX2 46 yX2_spot, Cond.instanceMethod yX2_spot, Cond.selects RX2 yX2_spot yX2_spot, Cond.code yX2_spot cX2_spot 4 (some .int), Cond.methodLink RX2 56 yX2_grow, Cond.instanceMethod yX2_grow, Cond.selects RX2 yX2_grow yX2_grow, Cond.code yX2_grow cX2_grow 4 none, Cond.methodLink RX5 64 yX5_beginIf, Cond.instanceMethod yX5_beginIf, Cond.selects RX5 yX5_beginIf yX5_beginIf, Cond.code yX5_beginIf cX5_beginIf 2 (some .boolean), Cond.methodLink RL 47 yX6_read, Cond.instanceMethod yX6_read, Cond.selects RX6 yX6_read yX6_read, Cond.code yX6_read cX6_read 3 (some .int), Cond.fieldLink RX6 87 "RankHouseModel" "size" "I", Cond.fieldLink RX6 78 "RankHouseModel" "at" "I", Cond.fieldLink RX6 72 "RankHouseModel" "fault" "I", Cond.fieldLink RX6 75 "RankHouseModel" "faultAt" "I"]
def wsL_law0_r10 : List Cond := [Cond.fieldLink RX6 99 "RankHouseModel" "newNodes" "I", Cond.fieldLink RX6 102 "RankHouseModel" "edges" "I", Cond.methodLink RX6 95 yX6_graph, Cond.instanceMethod yX6_graph, Cond.selects RX6 yX6_graph yX6_graph, Cond.code yX6_graph cX6_graph 7 (some .int), Cond.fieldLink RX6 84 "RankHouseModel" "number" "I", Cond.fieldLink RX6 81 "RankHouseModel" "from" "I", Cond.methodLink RX6 105 yX6_reads, Cond.instanceMethod yX6_reads, Cond.selects RX6 yX6_reads yX6_reads, Cond.code yX6_reads cX6_reads 3 (some .boolean), Cond.constant RX6 94 (65536), Cond.methodLink RX6 90 yX6_wrong, Cond.instanceMethod yX6_wrong, Cond.selects RX6 yX6_wrong yX6_wrong, Cond.code yX6_wrong cX6_wrong 3 (some .boolean), Cond.methodLink RX6 109 yX6_bad, Cond.instanceMethod yX6_bad, Cond.selects RX6 yX6_bad yX6_bad, Cond.code yX6_bad cX6_bad 3 (some .int), Cond.methodLink RL 48 yX5_fault, Cond.instanceMethod yX5_fault, Cond.selects RX5 yX5_fault yX5_fault]
def wsL_law0_r11 : List Cond := [Cond.code yX5_fault cX5_fault 1 (some .int), Cond.methodLink RL 51 yX6_fault, Cond.instanceMethod yX6_fault, Cond.selects RX6 yX6_fault yX6_fault, Cond.code yX6_fault cX6_fault 1 (some .int), Cond.methodLink RL 52 yX5_clear, Cond.instanceMethod yX5_clear, Cond.selects RX5 yX5_clear yX5_clear, Cond.code yX5_clear cX5_clear 2 (some .boolean), Cond.methodLink RX5 77 yX2_canHave, Cond.methodLink RX5 81 yX2_reset, Cond.methodLink RL 55 yX6_clear, Cond.instanceMethod yX6_clear, Cond.selects RX6 yX6_clear yX6_clear, Cond.code yX6_clear cX6_clear 3 (some .boolean), Cond.methodLink RL 56 yX5_add, Cond.instanceMethod yX5_add, Cond.selects RX5 yX5_add yX5_add, Cond.code yX5_add cX5_add 3 (some .boolean), Cond.methodLink RX5 84 yX2_join, Cond.methodLink RL 60 yX6_add, Cond.instanceMethod yX6_add, Cond.selects RX6 yX6_add yX6_add, Cond.code yX6_add cX6_add 3 (some .boolean)]
def wsL_law0_r12 : List Cond := [Cond.methodLink RX6 113 yX6_no, Cond.instanceMethod yX6_no, Cond.selects RX6 yX6_no yX6_no, Cond.code yX6_no cX6_no 2 (some .boolean), Cond.methodLink RX6 117 yX6_goes, Cond.instanceMethod yX6_goes, Cond.selects RX6 yX6_goes yX6_goes, Cond.code yX6_goes cX6_goes 3 (some .boolean), Cond.methodLink RL 61 yX5_cut, Cond.instanceMethod yX5_cut, Cond.selects RX5 yX5_cut yX5_cut, Cond.code yX5_cut cX5_cut 3 (some .boolean), Cond.methodLink RX5 88 yX2_part, Cond.instanceMethod yX2_part, Cond.selects RX2 yX2_part yX2_part, Cond.code yX2_part cX2_part 4 (some .boolean), Cond.methodLink RL 64 yX6_cut, Cond.instanceMethod yX6_cut, Cond.selects RX6 yX6_cut yX6_cut, Cond.code yX6_cut cX6_cut 3 (some .boolean), Cond.methodLink RL 65 yX5_has, Cond.instanceMethod yX5_has, Cond.selects RX5 yX5_has yX5_has, Cond.code yX5_has cX5_has 3 (some .boolean)]
def wsL_law0_r13 : List Cond := [Cond.methodLink RX5 91 yX2_joins, Cond.methodLink RL 68 yX6_has, Cond.instanceMethod yX6_has, Cond.selects RX6 yX6_has yX6_has, Cond.code yX6_has cX6_has 3 (some .boolean), Cond.methodLink RL 69 yL_edges, Cond.static yL_edges, Cond.initialized RL, Cond.codeWith yL_edges cL_edges 5 (some .int) [(0, 10, 13, 13)], Cond.classLink RL 13 "java/util/NoSuchElementException", Cond.methodLink RL 7 yX5_edges, Cond.instanceMethod yX5_edges, Cond.selects RX5 yX5_edges yX5_edges, Cond.code yX5_edges cX5_edges 3 (some .int), Cond.classLink RX5 97 "java/util/NoSuchElementException", Cond.initialized "java/util/NoSuchElementException", Cond.methodLink RX5 94 yX2_isNode, Cond.methodLink RX5 100 yX2_outOf, Cond.instanceMethod yX2_outOf, Cond.selects RX2 yX2_outOf yX2_outOf, Cond.code yX2_outOf cX2_outOf 2 (some .int), Cond.methodLink RX5 104 yX2_into, Cond.instanceMethod yX2_into, Cond.selects RX2 yX2_into yX2_into]
def wsL_law0_r14 : List Cond := [Cond.code yX2_into cX2_into 4 (some .int), Cond.methodLink RL 74 yX6_edges, Cond.instanceMethod yX6_edges, Cond.selects RX6 yX6_edges yX6_edges, Cond.code yX6_edges cX6_edges 3 (some .int), Cond.methodLink RX6 120 yX6_throwsIf, Cond.instanceMethod yX6_throwsIf, Cond.selects RX6 yX6_throwsIf yX6_throwsIf, Cond.code yX6_throwsIf cX6_throwsIf 2 (some .boolean), Cond.methodLink RX6 124 yX6_many, Cond.instanceMethod yX6_many, Cond.selects RX6 yX6_many yX6_many, Cond.code yX6_many cX6_many 5 (some .int), Cond.methodLink RL 75 yX6_thrown, Cond.instanceMethod yX6_thrown, Cond.selects RX6 yX6_thrown yX6_thrown, Cond.code yX6_thrown cX6_thrown 1 (some .int), Cond.methodLink RL 78 yX5_other, Cond.instanceMethod yX5_other, Cond.selects RX5 yX5_other yX5_other, Cond.code yX5_other cX5_other 4 (some .int), Cond.methodLink RX5 107 yX2_target, Cond.instanceMethod yX2_target, Cond.selects RX2 yX2_target yX2_target]
def wsL_law0_r15 : List Cond := [Cond.code yX2_target cX2_target 3 (some .int), Cond.methodLink RX2 38 yX2_outOf, Cond.methodLink RX5 111 yX2_source, Cond.instanceMethod yX2_source, Cond.selects RX2 yX2_source yX2_source, Cond.code yX2_source cX2_source 5 (some .int), Cond.methodLink RL 82 yX6_other, Cond.instanceMethod yX6_other, Cond.selects RX6 yX6_other yX6_other, Cond.code yX6_other cX6_other 6 (some .int), Cond.methodLink RL 83 yX5_weight, Cond.instanceMethod yX5_weight, Cond.selects RX5 yX5_weight yX5_weight, Cond.code yX5_weight cX5_weight 3 (some .boolean), Cond.methodLink RX5 114 yX2_weigh, Cond.instanceMethod yX2_weigh, Cond.selects RX2 yX2_weigh yX2_weigh, Cond.code yX2_weigh cX2_weigh 3 (some .boolean), Cond.methodLink RL 86 yX6_weight, Cond.instanceMethod yX6_weight, Cond.selects RX6 yX6_weight yX6_weight, Cond.code yX6_weight cX6_weight 3 (some .boolean), Cond.methodLink RX6 127 yX6_whole, Cond.instanceMethod yX6_whole]
def wsL_law0_r16 : List Cond := [Cond.selects RX6 yX6_whole yX6_whole, Cond.code yX6_whole cX6_whole 3 (some .int), Cond.methodLink RL 87 yX5_damping, Cond.instanceMethod yX5_damping, Cond.selects RX5 yX5_damping yX5_damping, Cond.code yX5_damping cX5_damping 3 (some .boolean), Cond.methodLink RX5 117 yX4_damp, Cond.instanceMethod yX4_damp, Cond.selects RX4 yX4_damp yX4_damp, Cond.code yX4_damp cX4_damp 3 (some .boolean), Cond.constant RX4 48 (1073741824), Cond.methodLink RL 90 yX6_damping, Cond.instanceMethod yX6_damping, Cond.selects RX6 yX6_damping yX6_damping, Cond.code yX6_damping cX6_damping 3 (some .boolean), Cond.constant RX6 130 (1073741824), Cond.methodLink RL 93 yL_run, Cond.static yL_run, Cond.codeWith yL_run cL_run 6 (some .int) [(0, 11, 14, 19)], Cond.classLink RL 19 "java/lang/IllegalArgumentException", Cond.methodLink RL 15 yX5_run, Cond.instanceMethod yX5_run, Cond.selects RX5 yX5_run yX5_run, Cond.code yX5_run cX5_run 5 (some .int)]
def wsL_law0_r17 : List Cond := [Cond.classLink RX5 120 "java/lang/IllegalArgumentException", Cond.initialized "java/lang/IllegalArgumentException", Cond.methodLink RX5 123 yX4_areStill, Cond.instanceMethod yX4_areStill, Cond.selects RX4 yX4_areStill yX4_areStill, Cond.code yX4_areStill cX4_areStill 3 (some .boolean), Cond.methodLink RX5 127 yX4_step, Cond.instanceMethod yX4_step, Cond.selects RX4 yX4_step yX4_step, Cond.code yX4_step cX4_step 5 none, Cond.methodLink RX4 49 yX4_bareSum, Cond.instanceMethod yX4_bareSum, Cond.selects RX4 yX4_bareSum yX4_bareSum, Cond.code yX4_bareSum cX4_bareSum 5 (some .long), Cond.methodLink RX4 68 yX2_outOf, Cond.methodLink RX4 60 yX4_shareOut, Cond.instanceMethod yX4_shareOut, Cond.selects RX4 yX4_shareOut yX4_shareOut, Cond.code yX4_shareOut cX4_shareOut 7 none, Cond.methodLink RX4 77 yX4_share, Cond.instanceMethod yX4_share, Cond.selects RX4 yX4_share yX4_share, Cond.code yX4_share cX4_share 3 (some .long), Cond.methodLink RX4 64 yX4_distance]
def wsL_law0_r18 : List Cond := [Cond.instanceMethod yX4_distance, Cond.selects RX4 yX4_distance yX4_distance, Cond.code yX4_distance cX4_distance 5 (some .long), Cond.methodLink RX4 87 Lib.MathLoose.abs_long.x, Cond.static Lib.MathLoose.abs_long.x, Cond.code Lib.MathLoose.abs_long.x Lib.MathLoose.abs_long.code 2 (some .long), Cond.methodLink RL 96 yX6_run, Cond.instanceMethod yX6_run, Cond.selects RX6 yX6_run yX6_run, Cond.code yX6_run cX6_run 5 (some .int), Cond.methodLink RX6 139 yX6_step, Cond.instanceMethod yX6_step, Cond.selects RX6 yX6_step yX6_step, Cond.code yX6_step cX6_step 8 none, Cond.methodLink RX6 131 yX6_bare, Cond.instanceMethod yX6_bare, Cond.selects RX6 yX6_bare yX6_bare, Cond.code yX6_bare cX6_bare 4 (some .long), Cond.methodLink RX6 135 yX6_share, Cond.instanceMethod yX6_share, Cond.selects RX6 yX6_share yX6_share, Cond.code yX6_share cX6_share 2 (some .long), Cond.methodLink RL 97 yX5_again, Cond.instanceMethod yX5_again]
def wsL_law0_r19 : List Cond := [Cond.selects RX5 yX5_again yX5_again, Cond.code yX5_again cX5_again 1 none, Cond.methodLink RL 100 yX6_again, Cond.instanceMethod yX6_again, Cond.selects RX6 yX6_again yX6_again, Cond.code yX6_again cX6_again 1 none, Cond.methodLink RL 101 yL_rank, Cond.static yL_rank, Cond.codeWith yL_rank cL_rank 4 (some .int) [(0, 8, 11, 13)], Cond.methodLink RL 21 yX5_rank, Cond.instanceMethod yX5_rank, Cond.selects RX5 yX5_rank yX5_rank, Cond.code yX5_rank cX5_rank 2 (some .long), Cond.methodLink RL 104 yX6_rank, Cond.instanceMethod yX6_rank, Cond.selects RX6 yX6_rank yX6_rank, Cond.code yX6_rank cX6_rank 2 (some .long), Cond.methodLink RL 105 yX5_look, Cond.instanceMethod yX5_look, Cond.selects RX5 yX5_look yX5_look, Cond.code yX5_look cX5_look 2 (some .long), Cond.constantLong RX5 151 (-1), Cond.methodLink RX5 134 yX4_sum, Cond.instanceMethod yX4_sum]
def wsL_law0_r20 : List Cond := [Cond.selects RX4 yX4_sum yX4_sum, Cond.code yX4_sum cX4_sum 5 (some .long), Cond.methodLink RX5 142 yX4_bound, Cond.instanceMethod yX4_bound, Cond.selects RX4 yX4_bound yX4_bound, Cond.code yX4_bound cX4_bound 4 (some .long), Cond.constantLong RX4 75 (2), Cond.methodLink RX5 148 yX4_bareSum, Cond.methodLink RL 108 yX6_look, Cond.instanceMethod yX6_look, Cond.selects RX6 yX6_look yX6_look, Cond.code yX6_look cX6_look 5 (some .long), Cond.constantLong RX6 142 (2), Cond.constantLong RX6 144 (-1), Cond.methodLink RL 109 yX5_top, Cond.instanceMethod yX5_top, Cond.selects RX5 yX5_top yX5_top, Cond.code yX5_top cX5_top 3 (some .int), Cond.methodLink RX5 157 yX3_place, Cond.instanceMethod yX3_place, Cond.selects RX3 yX3_place yX3_place, Cond.code yX3_place cX3_place 5 none, Cond.methodLink RX5 160 yX3_node, Cond.instanceMethod yX3_node]
def wsL_law0_r21 : List Cond := [Cond.selects RX3 yX3_node yX3_node, Cond.code yX3_node cX3_node 2 (some .int), Cond.methodLink RL 112 yX6_top, Cond.instanceMethod yX6_top, Cond.selects RX6 yX6_top yX6_top, Cond.code yX6_top cX6_top 5 (some .int), Cond.methodLink RL 113 yX5_gives, Cond.instanceMethod yX5_gives, Cond.selects RX5 yX5_gives yX5_gives, Cond.code yX5_gives cX5_gives 3 (some .long), Cond.methodLink RX5 163 yX4_share, Cond.methodLink RL 117 yX6_gives, Cond.instanceMethod yX6_gives, Cond.selects RX6 yX6_gives yX6_gives, Cond.code yX6_gives cX6_gives 3 (some .long), Cond.methodLink RL 118 yX5_giver, Cond.instanceMethod yX5_giver, Cond.selects RX5 yX5_giver yX5_giver, Cond.code yX5_giver cX5_giver 4 (some .int), Cond.methodLink RL 121 yX6_giver, Cond.instanceMethod yX6_giver, Cond.selects RX6 yX6_giver yX6_giver, Cond.code yX6_giver cX6_giver 6 (some .int), Cond.methodLink RL 122 yX5_write]
def wsL_law0_r22 : List Cond := [Cond.instanceMethod yX5_write, Cond.selects RX5 yX5_write yX5_write, Cond.code yX5_write cX5_write 2 (some .int), Cond.methodLink RX5 167 yX0_putUnsigned, Cond.instanceMethod yX0_putUnsigned, Cond.selects RX0 yX0_putUnsigned yX0_putUnsigned, Cond.code yX0_putUnsigned cX0_putUnsigned 4 none, Cond.methodLink RX5 170 yX5_putNode, Cond.instanceMethod yX5_putNode, Cond.selects RX5 yX5_putNode yX5_putNode, Cond.code yX5_putNode cX5_putNode 6 none, Cond.methodLink RL 125 yX6_write, Cond.instanceMethod yX6_write, Cond.selects RX6 yX6_write yX6_write, Cond.code yX6_write cX6_write 4 (some .int), Cond.fieldLink RX6 146 "RankHouseModel" "outMany" "I", Cond.methodLink RX6 149 yX6_put, Cond.instanceMethod yX6_put, Cond.selects RX6 yX6_put yX6_put, Cond.code yX6_put cX6_put 3 none, Cond.methodLink RL 126 yL_octet, Cond.static yL_octet, Cond.codeWith yL_octet cL_octet 4 (some .int) [(0, 9, 12, 13)], Cond.methodLink RL 25 yX5_octet]
def wsL_law0_r23 : List Cond := [Cond.instanceMethod yX5_octet, Cond.selects RX5 yX5_octet yX5_octet, Cond.code yX5_octet cX5_octet 2 (some .int), Cond.methodLink RL 128 yX6_octet, Cond.instanceMethod yX6_octet, Cond.selects RX6 yX6_octet yX6_octet, Cond.code yX6_octet cX6_octet 2 (some .int), Cond.methodLink RL 129 yX5_count, Cond.instanceMethod yX5_count, Cond.selects RX5 yX5_count yX5_count, Cond.code yX5_count cX5_count 2 (some .int), Cond.methodLink RX5 177 yX2_bareNodes, Cond.instanceMethod yX2_bareNodes, Cond.selects RX2 yX2_bareNodes yX2_bareNodes, Cond.code yX2_bareNodes cX2_bareNodes 3 (some .int), Cond.methodLink RL 132 yX6_count, Cond.instanceMethod yX6_count, Cond.selects RX6 yX6_count yX6_count, Cond.code yX6_count cX6_count 4 (some .int)]
def wsL_law0 : List Cond := (wsL_law0_r1 ++ (wsL_law0_r2 ++ (wsL_law0_r3 ++ (wsL_law0_r4 ++ (wsL_law0_r5 ++ (wsL_law0_r6 ++ (wsL_law0_r7 ++ (wsL_law0_r8 ++ (wsL_law0_r9 ++ (wsL_law0_r10 ++ (wsL_law0_r11 ++ (wsL_law0_r12 ++ (wsL_law0_r13 ++ (wsL_law0_r14 ++ (wsL_law0_r15 ++ (wsL_law0_r16 ++ (wsL_law0_r17 ++ (wsL_law0_r18 ++ (wsL_law0_r19 ++ (wsL_law0_r20 ++ (wsL_law0_r21 ++ (wsL_law0_r22 ++ wsL_law0_r23)))))))))))))))))))))) ++ wsX50 ++ wsX60 ++ wsX00 ++ wsX10 ++ wsX40 ++ wsX30 ++ wsX20 ++ ([] : List Cond)
def wsL_law : List Cond := wsL_law0 ++ (vx_at0 RX5 99 "java/util/NoSuchElementException" ["java/lang/RuntimeException", "java/lang/Exception"]).filter goodWord ++ (vx_at0 RX5 122 "java/lang/IllegalArgumentException" ["java/lang/RuntimeException", "java/lang/Exception"]).filter goodWord
theorem dJ9_abs_067f4_0 : decode cJ9_abs_067f4 0 = .ok (.lload_n 0, 1) := by decide +kernel
theorem dJ9_abs_067f4_1 : decode cJ9_abs_067f4 1 = .ok (.lconst 0, 1) := by decide +kernel
theorem dJ9_abs_067f4_2 : decode cJ9_abs_067f4 2 = .ok (.lcmp, 1) := by decide +kernel
theorem dJ9_abs_067f4_3 : decode cJ9_abs_067f4 3 = .ok (.ifCond .ge 8, 3) := by decide +kernel
theorem dJ9_abs_067f4_6 : decode cJ9_abs_067f4 6 = .ok (.lload_n 0, 1) := by decide +kernel
theorem dJ9_abs_067f4_7 : decode cJ9_abs_067f4 7 = .ok (.lneg, 1) := by decide +kernel
theorem dJ9_abs_067f4_8 : decode cJ9_abs_067f4 8 = .ok (.goto 4, 3) := by decide +kernel
theorem dJ9_abs_067f4_11 : decode cJ9_abs_067f4 11 = .ok (.lload_n 0, 1) := by decide +kernel
theorem dJ9_abs_067f4_12 : decode cJ9_abs_067f4 12 = .ok (.lreturn, 1) := by decide +kernel
theorem dJ9_max_7cf53_0 : decode cJ9_max_7cf53 0 = .ok (.iload_n 0, 1) := by decide +kernel
theorem dJ9_max_7cf53_1 : decode cJ9_max_7cf53 1 = .ok (.iload_n 1, 1) := by decide +kernel
theorem dJ9_max_7cf53_2 : decode cJ9_max_7cf53 2 = .ok (.if_icmp .lt 7, 3) := by decide +kernel
theorem dJ9_max_7cf53_5 : decode cJ9_max_7cf53 5 = .ok (.iload_n 0, 1) := by decide +kernel
theorem dJ9_max_7cf53_6 : decode cJ9_max_7cf53 6 = .ok (.goto 4, 3) := by decide +kernel
theorem dJ9_max_7cf53_9 : decode cJ9_max_7cf53 9 = .ok (.iload_n 1, 1) := by decide +kernel
theorem dJ9_max_7cf53_10 : decode cJ9_max_7cf53 10 = .ok (.ireturn, 1) := by decide +kernel

abbrev vwCl : List vw_C := [(RX0, TX0, 2), (RX1, TX1, 5), (RX2, TX2, 6), (RX3, TX3, 3), (RX4, TX4, 7), (RX5, TX5, 6), (RX6, TX6, 24)]
end
section
theorem dX0_init_0 : decode cX0_init 0 = .ok (.aload_n 0, 1) := by decide +kernel
theorem dX0_init_1 : decode cX0_init 1 = .ok (.invokespecial 3, 3) := by decide +kernel
theorem dX0_init_4 : decode cX0_init 4 = .ok (.aload_n 0, 1) := by decide +kernel
theorem dX0_init_5 : decode cX0_init 5 = .ok (.iconst 0, 1) := by decide +kernel
theorem dX0_init_6 : decode cX0_init 6 = .ok (.putfield 9, 3) := by decide +kernel
theorem dX0_init_9 : decode cX0_init 9 = .ok (.aload_n 0, 1) := by decide +kernel
theorem dX0_init_10 : decode cX0_init 10 = .ok (.iload_n 1, 1) := by decide +kernel
theorem dX0_init_11 : decode cX0_init 11 = .ok (.iconst 0, 1) := by decide +kernel
theorem dX0_init_12 : decode cX0_init 12 = .ok (.invokestatic 15, 3) := by decide +kernel
theorem dX0_init_15 : decode cX0_init 15 = .ok (.newarray .int, 2) := by decide +kernel
theorem dX0_init_17 : decode cX0_init 17 = .ok (.putfield 21, 3) := by decide +kernel
theorem dX0_init_20 : decode cX0_init 20 = .ok (.return_, 1) := by decide +kernel
theorem dX0_put_0 : decode cX0_put 0 = .ok (.aload_n 0, 1) := by decide +kernel
theorem dX0_put_1 : decode cX0_put 1 = .ok (.getfield 9, 3) := by decide +kernel
theorem dX0_put_4 : decode cX0_put 4 = .ok (.aload_n 0, 1) := by decide +kernel
theorem dX0_put_5 : decode cX0_put 5 = .ok (.getfield 21, 3) := by decide +kernel
theorem dX0_put_8 : decode cX0_put 8 = .ok (.arraylength, 1) := by decide +kernel
theorem dX0_put_9 : decode cX0_put 9 = .ok (.if_icmp .ge 27, 3) := by decide +kernel
theorem dX0_put_12 : decode cX0_put 12 = .ok (.aload_n 0, 1) := by decide +kernel
theorem dX0_put_13 : decode cX0_put 13 = .ok (.getfield 21, 3) := by decide +kernel
theorem dX0_put_16 : decode cX0_put 16 = .ok (.aload_n 0, 1) := by decide +kernel
theorem dX0_put_17 : decode cX0_put 17 = .ok (.getfield 9, 3) := by decide +kernel
theorem dX0_put_20 : decode cX0_put 20 = .ok (.iload_n 1, 1) := by decide +kernel
theorem dX0_put_21 : decode cX0_put 21 = .ok (.sipush 255, 3) := by decide +kernel
theorem dX0_put_24 : decode cX0_put 24 = .ok (.iand, 1) := by decide +kernel
theorem dX0_put_25 : decode cX0_put 25 = .ok (.iastore, 1) := by decide +kernel
theorem dX0_put_26 : decode cX0_put 26 = .ok (.aload_n 0, 1) := by decide +kernel
theorem dX0_put_27 : decode cX0_put 27 = .ok (.dup, 1) := by decide +kernel
theorem dX0_put_28 : decode cX0_put 28 = .ok (.getfield 9, 3) := by decide +kernel
theorem dX0_put_31 : decode cX0_put 31 = .ok (.iconst 1, 1) := by decide +kernel
theorem dX0_put_32 : decode cX0_put 32 = .ok (.iadd, 1) := by decide +kernel
theorem dX0_put_33 : decode cX0_put 33 = .ok (.putfield 9, 3) := by decide +kernel
theorem dX0_put_36 : decode cX0_put 36 = .ok (.return_, 1) := by decide +kernel
set_option maxRecDepth 20000 in
theorem ggX0_putFour_X0_put : GoodIn wsX0_putFour wsX0_put := goodIn_r _ [5, 6, 7, 8, 9] (by decide +kernel) (by decide +kernel)
set_option maxRecDepth 20000 in
theorem gX0_putFour_X0_put : GoodIn wsX0_putFour (wsV RX0 25 RX0 yX0_put wsX0_put) := goodIn_app (goodIn_of _ (by decide +kernel)) ggX0_putFour_X0_put
theorem dX0_putFour_0 : decode cX0_putFour 0 = .ok (.aload_n 0, 1) := by decide +kernel
theorem dX0_putFour_1 : decode cX0_putFour 1 = .ok (.iload_n 1, 1) := by decide +kernel
theorem dX0_putFour_2 : decode cX0_putFour 2 = .ok (.bipush 24, 2) := by decide +kernel
theorem dX0_putFour_4 : decode cX0_putFour 4 = .ok (.iushr, 1) := by decide +kernel
theorem dX0_putFour_5 : decode cX0_putFour 5 = .ok (.invokevirtual 25, 3) := by decide +kernel
theorem dX0_putFour_8 : decode cX0_putFour 8 = .ok (.aload_n 0, 1) := by decide +kernel
theorem dX0_putFour_9 : decode cX0_putFour 9 = .ok (.iload_n 1, 1) := by decide +kernel
theorem dX0_putFour_10 : decode cX0_putFour 10 = .ok (.bipush 16, 2) := by decide +kernel
theorem dX0_putFour_12 : decode cX0_putFour 12 = .ok (.iushr, 1) := by decide +kernel
theorem dX0_putFour_13 : decode cX0_putFour 13 = .ok (.invokevirtual 25, 3) := by decide +kernel
theorem dX0_putFour_16 : decode cX0_putFour 16 = .ok (.aload_n 0, 1) := by decide +kernel
theorem dX0_putFour_17 : decode cX0_putFour 17 = .ok (.iload_n 1, 1) := by decide +kernel
theorem dX0_putFour_18 : decode cX0_putFour 18 = .ok (.bipush 8, 2) := by decide +kernel
theorem dX0_putFour_20 : decode cX0_putFour 20 = .ok (.iushr, 1) := by decide +kernel
theorem dX0_putFour_21 : decode cX0_putFour 21 = .ok (.invokevirtual 25, 3) := by decide +kernel
theorem dX0_putFour_24 : decode cX0_putFour 24 = .ok (.aload_n 0, 1) := by decide +kernel
theorem dX0_putFour_25 : decode cX0_putFour 25 = .ok (.iload_n 1, 1) := by decide +kernel
theorem dX0_putFour_26 : decode cX0_putFour 26 = .ok (.invokevirtual 25, 3) := by decide +kernel
theorem dX0_putFour_29 : decode cX0_putFour 29 = .ok (.return_, 1) := by decide +kernel
set_option maxRecDepth 20000 in
theorem ggX0_putUnsigned_X0_put : GoodIn wsX0_putUnsigned wsX0_put := goodIn_r _ [5, 6, 7, 8, 9] (by decide +kernel) (by decide +kernel)
set_option maxRecDepth 20000 in
theorem gX0_putUnsigned_X0_put : GoodIn wsX0_putUnsigned (wsV RX0 25 RX0 yX0_put wsX0_put) := goodIn_app (goodIn_of _ (by decide +kernel)) ggX0_putUnsigned_X0_put
theorem dX0_putUnsigned_0 : decode cX0_putUnsigned 0 = .ok (.iload_n 1, 1) := by decide +kernel
theorem dX0_putUnsigned_1 : decode cX0_putUnsigned 1 = .ok (.istore_n 2, 1) := by decide +kernel
theorem dX0_putUnsigned_2 : decode cX0_putUnsigned 2 = .ok (.iconst 0, 1) := by decide +kernel
theorem dX0_putUnsigned_3 : decode cX0_putUnsigned 3 = .ok (.istore_n 3, 1) := by decide +kernel
theorem dX0_putUnsigned_4 : decode cX0_putUnsigned 4 = .ok (.iload_n 3, 1) := by decide +kernel
theorem dX0_putUnsigned_5 : decode cX0_putUnsigned 5 = .ok (.bipush 14, 2) := by decide +kernel
theorem dX0_putUnsigned_7 : decode cX0_putUnsigned 7 = .ok (.if_icmp .ge 32, 3) := by decide +kernel
theorem dX0_putUnsigned_10 : decode cX0_putUnsigned 10 = .ok (.iload_n 2, 1) := by decide +kernel
theorem dX0_putUnsigned_11 : decode cX0_putUnsigned 11 = .ok (.bipush 127, 2) := by decide +kernel
theorem dX0_putUnsigned_13 : decode cX0_putUnsigned 13 = .ok (.if_icmp .le 26, 3) := by decide +kernel
theorem dX0_putUnsigned_16 : decode cX0_putUnsigned 16 = .ok (.aload_n 0, 1) := by decide +kernel
theorem dX0_putUnsigned_17 : decode cX0_putUnsigned 17 = .ok (.sipush 128, 3) := by decide +kernel
theorem dX0_putUnsigned_20 : decode cX0_putUnsigned 20 = .ok (.iload_n 2, 1) := by decide +kernel
theorem dX0_putUnsigned_21 : decode cX0_putUnsigned 21 = .ok (.bipush 127, 2) := by decide +kernel
theorem dX0_putUnsigned_23 : decode cX0_putUnsigned 23 = .ok (.iand, 1) := by decide +kernel
theorem dX0_putUnsigned_24 : decode cX0_putUnsigned 24 = .ok (.ior, 1) := by decide +kernel
theorem dX0_putUnsigned_25 : decode cX0_putUnsigned 25 = .ok (.invokevirtual 25, 3) := by decide +kernel
theorem dX0_putUnsigned_28 : decode cX0_putUnsigned 28 = .ok (.iload_n 2, 1) := by decide +kernel
theorem dX0_putUnsigned_29 : decode cX0_putUnsigned 29 = .ok (.bipush 7, 2) := by decide +kernel
theorem dX0_putUnsigned_31 : decode cX0_putUnsigned 31 = .ok (.iushr, 1) := by decide +kernel
theorem dX0_putUnsigned_32 : decode cX0_putUnsigned 32 = .ok (.istore_n 2, 1) := by decide +kernel
theorem dX0_putUnsigned_33 : decode cX0_putUnsigned 33 = .ok (.iinc 3 7, 3) := by decide +kernel
theorem dX0_putUnsigned_36 : decode cX0_putUnsigned 36 = .ok (.goto (-32), 3) := by decide +kernel
theorem dX0_putUnsigned_39 : decode cX0_putUnsigned 39 = .ok (.aload_n 0, 1) := by decide +kernel
theorem dX0_putUnsigned_40 : decode cX0_putUnsigned 40 = .ok (.iload_n 2, 1) := by decide +kernel
theorem dX0_putUnsigned_41 : decode cX0_putUnsigned 41 = .ok (.invokevirtual 25, 3) := by decide +kernel
theorem dX0_putUnsigned_44 : decode cX0_putUnsigned 44 = .ok (.return_, 1) := by decide +kernel
theorem dX1_init_0 : decode cX1_init 0 = .ok (.aload_n 0, 1) := by decide +kernel
theorem dX1_init_1 : decode cX1_init 1 = .ok (.invokespecial 3, 3) := by decide +kernel
theorem dX1_init_4 : decode cX1_init 4 = .ok (.aload_n 0, 1) := by decide +kernel
theorem dX1_init_5 : decode cX1_init 5 = .ok (.iconst 0, 1) := by decide +kernel
theorem dX1_init_6 : decode cX1_init 6 = .ok (.putfield 9, 3) := by decide +kernel
theorem dX1_init_9 : decode cX1_init 9 = .ok (.aload_n 0, 1) := by decide +kernel
theorem dX1_init_10 : decode cX1_init 10 = .ok (.iconst 0, 1) := by decide +kernel
theorem dX1_init_11 : decode cX1_init 11 = .ok (.putfield 15, 3) := by decide +kernel
theorem dX1_init_14 : decode cX1_init 14 = .ok (.aload_n 0, 1) := by decide +kernel
theorem dX1_init_15 : decode cX1_init 15 = .ok (.iconst 0, 1) := by decide +kernel
theorem dX1_init_16 : decode cX1_init 16 = .ok (.putfield 18, 3) := by decide +kernel
theorem dX1_init_19 : decode cX1_init 19 = .ok (.aload_n 0, 1) := by decide +kernel
theorem dX1_init_20 : decode cX1_init 20 = .ok (.iconst 0, 1) := by decide +kernel
theorem dX1_init_21 : decode cX1_init 21 = .ok (.putfield 21, 3) := by decide +kernel
theorem dX1_init_24 : decode cX1_init 24 = .ok (.aload_n 0, 1) := by decide +kernel
theorem dX1_init_25 : decode cX1_init 25 = .ok (.iconst 0, 1) := by decide +kernel
theorem dX1_init_26 : decode cX1_init 26 = .ok (.putfield 24, 3) := by decide +kernel
theorem dX1_init_29 : decode cX1_init 29 = .ok (.return_, 1) := by decide +kernel
set_option maxRecDepth 20000 in
theorem ggX1_decode_X1_unsigned : GoodIn wsX1_decode wsX1_unsigned := goodIn_r _ [9, 1, 10, 11, 12, 13, 8, 14, 2, 15, 16, 17, 18, 19, 66, 67, 68, 69, 70, 71, 72] (by decide +kernel) (by decide +kernel)
set_option maxRecDepth 20000 in
theorem gX1_decode_X1_unsigned : GoodIn wsX1_decode (wsV RX1 27 RX1 yX1_unsigned wsX1_unsigned) := goodIn_app (goodIn_of _ (by decide +kernel)) ggX1_decode_X1_unsigned
set_option maxRecDepth 20000 in
theorem ggX1_decode_X2_canHave : GoodIn wsX1_decode wsX2_canHave := goodIn_r _ [23] (by decide +kernel) (by decide +kernel)
set_option maxRecDepth 20000 in
theorem gX1_decode_X2_canHave : GoodIn wsX1_decode (va_wsS RX1 31 yX2_canHave wsX2_canHave) := goodIn_app (goodIn_of _ (by decide +kernel)) ggX1_decode_X2_canHave
set_option maxRecDepth 20000 in
theorem ggX1_decode_X1_refuse : GoodIn wsX1_decode wsX1_refuse := goodIn_r _ [14, 2, 15, 66, 67, 68, 69, 70] (by decide +kernel) (by decide +kernel)
set_option maxRecDepth 20000 in
theorem gX1_decode_X1_refuse : GoodIn wsX1_decode (wsV RX1 37 RX1 yX1_refuse wsX1_refuse) := goodIn_app (goodIn_of _ (by decide +kernel)) ggX1_decode_X1_refuse
set_option maxRecDepth 20000 in
theorem ggX1_decode_X2_reset : GoodIn wsX1_decode wsX2_reset := goodIn_r _ [27, 28, 29, 30, 31, 32, 33, 21, 22, 23, 73, 74, 75, 76, 77, 78] (by decide +kernel) (by decide +kernel)
set_option maxRecDepth 20000 in
theorem gX1_decode_X2_reset : GoodIn wsX1_decode (wsV RX1 41 RX2 yX2_reset wsX2_reset) := goodIn_app (goodIn_of _ (by decide +kernel)) ggX1_decode_X2_reset
set_option maxRecDepth 20000 in
theorem ggX1_decode_X1_decodeNode : GoodIn wsX1_decode wsX1_decodeNode := goodIn_r _ [37, 1, 4, 3, 5, 6, 7, 8, 9, 10, 11, 12, 13, 14, 2, 15, 16, 17, 18, 19, 38, 39, 40, 41, 42, 43, 22, 44, 29, 45, 46, 47, 48, 49, 50, 51, 52, 53, 28, 54, 55, 56, 57, 32, 58, 59, 60, 61, 62, 63, 64, 65, 66, 67, 68, 69, 70, 71, 72, 73, 74, 75, 76, 77, 78] (by decide +kernel) (by decide +kernel)
set_option maxRecDepth 20000 in
theorem gX1_decode_X1_decodeNode : GoodIn wsX1_decode (wsV RX1 45 RX1 yX1_decodeNode wsX1_decodeNode) := goodIn_app (goodIn_of _ (by decide +kernel)) ggX1_decode_X1_decodeNode
theorem dX1_decode_0 : decode cX1_decode 0 = .ok (.aload_n 0, 1) := by decide +kernel
theorem dX1_decode_1 : decode cX1_decode 1 = .ok (.iconst 0, 1) := by decide +kernel
theorem dX1_decode_2 : decode cX1_decode 2 = .ok (.putfield 9, 3) := by decide +kernel
theorem dX1_decode_5 : decode cX1_decode 5 = .ok (.aload_n 0, 1) := by decide +kernel
theorem dX1_decode_6 : decode cX1_decode 6 = .ok (.iconst 0, 1) := by decide +kernel
theorem dX1_decode_7 : decode cX1_decode 7 = .ok (.putfield 21, 3) := by decide +kernel
theorem dX1_decode_10 : decode cX1_decode 10 = .ok (.aload_n 0, 1) := by decide +kernel
theorem dX1_decode_11 : decode cX1_decode 11 = .ok (.iconst 0, 1) := by decide +kernel
theorem dX1_decode_12 : decode cX1_decode 12 = .ok (.putfield 18, 3) := by decide +kernel
theorem dX1_decode_15 : decode cX1_decode 15 = .ok (.aload_n 0, 1) := by decide +kernel
theorem dX1_decode_16 : decode cX1_decode 16 = .ok (.aload_n 0, 1) := by decide +kernel
theorem dX1_decode_17 : decode cX1_decode 17 = .ok (.aload_n 1, 1) := by decide +kernel
theorem dX1_decode_18 : decode cX1_decode 18 = .ok (.invokevirtual 27, 3) := by decide +kernel
theorem dX1_decode_21 : decode cX1_decode 21 = .ok (.putfield 15, 3) := by decide +kernel
theorem dX1_decode_24 : decode cX1_decode 24 = .ok (.aload_n 0, 1) := by decide +kernel
theorem dX1_decode_25 : decode cX1_decode 25 = .ok (.getfield 15, 3) := by decide +kernel
theorem dX1_decode_28 : decode cX1_decode 28 = .ok (.iconst (-1), 1) := by decide +kernel
theorem dX1_decode_29 : decode cX1_decode 29 = .ok (.if_icmp .ne 5, 3) := by decide +kernel
theorem dX1_decode_32 : decode cX1_decode 32 = .ok (.iconst 0, 1) := by decide +kernel
theorem dX1_decode_33 : decode cX1_decode 33 = .ok (.ireturn, 1) := by decide +kernel
theorem dX1_decode_34 : decode cX1_decode 34 = .ok (.aload_n 0, 1) := by decide +kernel
theorem dX1_decode_35 : decode cX1_decode 35 = .ok (.getfield 15, 3) := by decide +kernel
theorem dX1_decode_38 : decode cX1_decode 38 = .ok (.invokestatic 31, 3) := by decide +kernel
theorem dX1_decode_41 : decode cX1_decode 41 = .ok (.ifCond .ne 10, 3) := by decide +kernel
theorem dX1_decode_44 : decode cX1_decode 44 = .ok (.aload_n 0, 1) := by decide +kernel
theorem dX1_decode_45 : decode cX1_decode 45 = .ok (.iconst 3, 1) := by decide +kernel
theorem dX1_decode_46 : decode cX1_decode 46 = .ok (.iconst 0, 1) := by decide +kernel
theorem dX1_decode_47 : decode cX1_decode 47 = .ok (.invokevirtual 37, 3) := by decide +kernel
theorem dX1_decode_50 : decode cX1_decode 50 = .ok (.ireturn, 1) := by decide +kernel
theorem dX1_decode_51 : decode cX1_decode 51 = .ok (.aload_n 2, 1) := by decide +kernel
theorem dX1_decode_52 : decode cX1_decode 52 = .ok (.ifnull 11, 3) := by decide +kernel
theorem dX1_decode_55 : decode cX1_decode 55 = .ok (.aload_n 2, 1) := by decide +kernel
theorem dX1_decode_56 : decode cX1_decode 56 = .ok (.aload_n 0, 1) := by decide +kernel
theorem dX1_decode_57 : decode cX1_decode 57 = .ok (.getfield 15, 3) := by decide +kernel
theorem dX1_decode_60 : decode cX1_decode 60 = .ok (.invokevirtual 41, 3) := by decide +kernel
theorem dX1_decode_63 : decode cX1_decode 63 = .ok (.iconst 0, 1) := by decide +kernel
theorem dX1_decode_64 : decode cX1_decode 64 = .ok (.istore_n 3, 1) := by decide +kernel
theorem dX1_decode_65 : decode cX1_decode 65 = .ok (.iload_n 3, 1) := by decide +kernel
theorem dX1_decode_66 : decode cX1_decode 66 = .ok (.aload_n 0, 1) := by decide +kernel
theorem dX1_decode_67 : decode cX1_decode 67 = .ok (.getfield 15, 3) := by decide +kernel
theorem dX1_decode_70 : decode cX1_decode 70 = .ok (.if_icmp .ge 21, 3) := by decide +kernel
theorem dX1_decode_73 : decode cX1_decode 73 = .ok (.aload_n 0, 1) := by decide +kernel
theorem dX1_decode_74 : decode cX1_decode 74 = .ok (.aload_n 1, 1) := by decide +kernel
theorem dX1_decode_75 : decode cX1_decode 75 = .ok (.aload_n 2, 1) := by decide +kernel
theorem dX1_decode_76 : decode cX1_decode 76 = .ok (.iload_n 3, 1) := by decide +kernel
theorem dX1_decode_77 : decode cX1_decode 77 = .ok (.invokevirtual 45, 3) := by decide +kernel
theorem dX1_decode_80 : decode cX1_decode 80 = .ok (.ifCond .ne 5, 3) := by decide +kernel
theorem dX1_decode_83 : decode cX1_decode 83 = .ok (.iconst 0, 1) := by decide +kernel
theorem dX1_decode_84 : decode cX1_decode 84 = .ok (.ireturn, 1) := by decide +kernel
theorem dX1_decode_85 : decode cX1_decode 85 = .ok (.iinc 3 1, 3) := by decide +kernel
theorem dX1_decode_88 : decode cX1_decode 88 = .ok (.goto (-23), 3) := by decide +kernel
theorem dX1_decode_91 : decode cX1_decode 91 = .ok (.aload_n 0, 1) := by decide +kernel
theorem dX1_decode_92 : decode cX1_decode 92 = .ok (.getfield 9, 3) := by decide +kernel
theorem dX1_decode_95 : decode cX1_decode 95 = .ok (.aload_n 1, 1) := by decide +kernel
theorem dX1_decode_96 : decode cX1_decode 96 = .ok (.getfield 49, 3) := by decide +kernel
theorem dX1_decode_99 : decode cX1_decode 99 = .ok (.if_icmp .ge 15, 3) := by decide +kernel
theorem dX1_decode_102 : decode cX1_decode 102 = .ok (.aload_n 0, 1) := by decide +kernel
theorem dX1_decode_103 : decode cX1_decode 103 = .ok (.iconst 4, 1) := by decide +kernel
theorem dX1_decode_104 : decode cX1_decode 104 = .ok (.aload_n 0, 1) := by decide +kernel
theorem dX1_decode_105 : decode cX1_decode 105 = .ok (.getfield 9, 3) := by decide +kernel
theorem dX1_decode_108 : decode cX1_decode 108 = .ok (.invokevirtual 37, 3) := by decide +kernel
theorem dX1_decode_111 : decode cX1_decode 111 = .ok (.ifCond .eq 7, 3) := by decide +kernel
theorem dX1_decode_114 : decode cX1_decode 114 = .ok (.iconst 1, 1) := by decide +kernel
theorem dX1_decode_115 : decode cX1_decode 115 = .ok (.goto 4, 3) := by decide +kernel
theorem dX1_decode_118 : decode cX1_decode 118 = .ok (.iconst 0, 1) := by decide +kernel
theorem dX1_decode_119 : decode cX1_decode 119 = .ok (.ireturn, 1) := by decide +kernel
set_option maxRecDepth 20000 in
theorem ggX1_decodeNode_X1_unsigned : GoodIn wsX1_decodeNode wsX1_unsigned := goodIn_r _ [8, 1, 9, 10, 11, 12, 7, 13, 14, 15, 16, 17, 18, 19, 52, 53, 54, 55, 56, 57, 58] (by decide +kernel) (by decide +kernel)
set_option maxRecDepth 20000 in
theorem gX1_decodeNode_X1_unsigned : GoodIn wsX1_decodeNode (wsV RX1 27 RX1 yX1_unsigned wsX1_unsigned) := goodIn_app (goodIn_of _ (by decide +kernel)) ggX1_decodeNode_X1_unsigned
set_option maxRecDepth 20000 in
theorem ggX1_decodeNode_X1_refuse : GoodIn wsX1_decodeNode wsX1_refuse := goodIn_r _ [13, 14, 15, 52, 53, 54, 55, 56] (by decide +kernel) (by decide +kernel)
set_option maxRecDepth 20000 in
theorem gX1_decodeNode_X1_refuse : GoodIn wsX1_decodeNode (wsV RX1 37 RX1 yX1_refuse wsX1_refuse) := goodIn_app (goodIn_of _ (by decide +kernel)) ggX1_decodeNode_X1_refuse
set_option maxRecDepth 20000 in
theorem ggX1_decodeNode_X1_signed : GoodIn wsX1_decodeNode wsX1_signed := goodIn_r _ [22] (by decide +kernel) (by decide +kernel)
set_option maxRecDepth 20000 in
theorem gX1_decodeNode_X1_signed : GoodIn wsX1_decodeNode (va_wsS RX1 54 yX1_signed wsX1_signed) := goodIn_app (goodIn_of _ (by decide +kernel)) ggX1_decodeNode_X1_signed
set_option maxRecDepth 20000 in
theorem ggX1_decodeNode_X2_join : GoodIn wsX1_decodeNode wsX2_join := goodIn_r _ [27, 28, 29, 30, 31, 32, 33, 34, 35, 36, 26, 37, 38, 39, 40, 41, 42, 43, 44, 45, 46, 47, 48, 49, 50, 51, 59, 60, 61, 62, 63, 64] (by decide +kernel) (by decide +kernel)
set_option maxRecDepth 20000 in
theorem gX1_decodeNode_X2_join : GoodIn wsX1_decodeNode (wsV RX1 58 RX2 yX2_join wsX2_join) := goodIn_app (goodIn_of _ (by decide +kernel)) ggX1_decodeNode_X2_join
theorem dX1_decodeNode_0 : decode cX1_decodeNode 0 = .ok (.aload_n 0, 1) := by decide +kernel
theorem dX1_decodeNode_1 : decode cX1_decodeNode 1 = .ok (.getfield 9, 3) := by decide +kernel
theorem dX1_decodeNode_4 : decode cX1_decodeNode 4 = .ok (.istore 4, 2) := by decide +kernel
theorem dX1_decodeNode_6 : decode cX1_decodeNode 6 = .ok (.aload_n 0, 1) := by decide +kernel
theorem dX1_decodeNode_7 : decode cX1_decodeNode 7 = .ok (.aload_n 1, 1) := by decide +kernel
theorem dX1_decodeNode_8 : decode cX1_decodeNode 8 = .ok (.invokevirtual 27, 3) := by decide +kernel
theorem dX1_decodeNode_11 : decode cX1_decodeNode 11 = .ok (.istore 5, 2) := by decide +kernel
theorem dX1_decodeNode_13 : decode cX1_decodeNode 13 = .ok (.iload 5, 2) := by decide +kernel
theorem dX1_decodeNode_15 : decode cX1_decodeNode 15 = .ok (.iconst (-1), 1) := by decide +kernel
theorem dX1_decodeNode_16 : decode cX1_decodeNode 16 = .ok (.if_icmp .ne 5, 3) := by decide +kernel
theorem dX1_decodeNode_19 : decode cX1_decodeNode 19 = .ok (.iconst 0, 1) := by decide +kernel
theorem dX1_decodeNode_20 : decode cX1_decodeNode 20 = .ok (.ireturn, 1) := by decide +kernel
theorem dX1_decodeNode_21 : decode cX1_decodeNode 21 = .ok (.iload 5, 2) := by decide +kernel
theorem dX1_decodeNode_23 : decode cX1_decodeNode 23 = .ok (.aload_n 0, 1) := by decide +kernel
theorem dX1_decodeNode_24 : decode cX1_decodeNode 24 = .ok (.getfield 15, 3) := by decide +kernel
theorem dX1_decodeNode_27 : decode cX1_decodeNode 27 = .ok (.if_icmp .gt 16, 3) := by decide +kernel
theorem dX1_decodeNode_30 : decode cX1_decodeNode 30 = .ok (.iload 5, 2) := by decide +kernel
theorem dX1_decodeNode_32 : decode cX1_decodeNode 32 = .ok (.sipush 2500, 3) := by decide +kernel
theorem dX1_decodeNode_35 : decode cX1_decodeNode 35 = .ok (.aload_n 0, 1) := by decide +kernel
theorem dX1_decodeNode_36 : decode cX1_decodeNode 36 = .ok (.getfield 18, 3) := by decide +kernel
theorem dX1_decodeNode_39 : decode cX1_decodeNode 39 = .ok (.isub, 1) := by decide +kernel
theorem dX1_decodeNode_40 : decode cX1_decodeNode 40 = .ok (.if_icmp .le 11, 3) := by decide +kernel
theorem dX1_decodeNode_43 : decode cX1_decodeNode 43 = .ok (.aload_n 0, 1) := by decide +kernel
theorem dX1_decodeNode_44 : decode cX1_decodeNode 44 = .ok (.iconst 3, 1) := by decide +kernel
theorem dX1_decodeNode_45 : decode cX1_decodeNode 45 = .ok (.iload 4, 2) := by decide +kernel
theorem dX1_decodeNode_47 : decode cX1_decodeNode 47 = .ok (.invokevirtual 37, 3) := by decide +kernel
theorem dX1_decodeNode_50 : decode cX1_decodeNode 50 = .ok (.ireturn, 1) := by decide +kernel
theorem dX1_decodeNode_51 : decode cX1_decodeNode 51 = .ok (.aload_n 0, 1) := by decide +kernel
theorem dX1_decodeNode_52 : decode cX1_decodeNode 52 = .ok (.dup, 1) := by decide +kernel
theorem dX1_decodeNode_53 : decode cX1_decodeNode 53 = .ok (.getfield 18, 3) := by decide +kernel
theorem dX1_decodeNode_56 : decode cX1_decodeNode 56 = .ok (.iload 5, 2) := by decide +kernel
theorem dX1_decodeNode_58 : decode cX1_decodeNode 58 = .ok (.iadd, 1) := by decide +kernel
theorem dX1_decodeNode_59 : decode cX1_decodeNode 59 = .ok (.putfield 18, 3) := by decide +kernel
theorem dX1_decodeNode_62 : decode cX1_decodeNode 62 = .ok (.iconst (-1), 1) := by decide +kernel
theorem dX1_decodeNode_63 : decode cX1_decodeNode 63 = .ok (.istore 6, 2) := by decide +kernel
theorem dX1_decodeNode_65 : decode cX1_decodeNode 65 = .ok (.iconst 0, 1) := by decide +kernel
theorem dX1_decodeNode_66 : decode cX1_decodeNode 66 = .ok (.istore 7, 2) := by decide +kernel
theorem dX1_decodeNode_68 : decode cX1_decodeNode 68 = .ok (.iload 7, 2) := by decide +kernel
theorem dX1_decodeNode_70 : decode cX1_decodeNode 70 = .ok (.iload 5, 2) := by decide +kernel
theorem dX1_decodeNode_72 : decode cX1_decodeNode 72 = .ok (.if_icmp .ge 88, 3) := by decide +kernel
theorem dX1_decodeNode_75 : decode cX1_decodeNode 75 = .ok (.aload_n 0, 1) := by decide +kernel
theorem dX1_decodeNode_76 : decode cX1_decodeNode 76 = .ok (.getfield 9, 3) := by decide +kernel
theorem dX1_decodeNode_79 : decode cX1_decodeNode 79 = .ok (.istore 4, 2) := by decide +kernel
theorem dX1_decodeNode_81 : decode cX1_decodeNode 81 = .ok (.aload_n 0, 1) := by decide +kernel
theorem dX1_decodeNode_82 : decode cX1_decodeNode 82 = .ok (.aload_n 1, 1) := by decide +kernel
theorem dX1_decodeNode_83 : decode cX1_decodeNode 83 = .ok (.invokevirtual 27, 3) := by decide +kernel
theorem dX1_decodeNode_86 : decode cX1_decodeNode 86 = .ok (.istore 8, 2) := by decide +kernel
theorem dX1_decodeNode_88 : decode cX1_decodeNode 88 = .ok (.iload 8, 2) := by decide +kernel
theorem dX1_decodeNode_90 : decode cX1_decodeNode 90 = .ok (.iconst (-1), 1) := by decide +kernel
theorem dX1_decodeNode_91 : decode cX1_decodeNode 91 = .ok (.if_icmp .ne 5, 3) := by decide +kernel
theorem dX1_decodeNode_94 : decode cX1_decodeNode 94 = .ok (.iconst 0, 1) := by decide +kernel
theorem dX1_decodeNode_95 : decode cX1_decodeNode 95 = .ok (.ireturn, 1) := by decide +kernel
theorem dX1_decodeNode_96 : decode cX1_decodeNode 96 = .ok (.iload 7, 2) := by decide +kernel
theorem dX1_decodeNode_98 : decode cX1_decodeNode 98 = .ok (.ifCond .le 13, 3) := by decide +kernel
theorem dX1_decodeNode_101 : decode cX1_decodeNode 101 = .ok (.iload 6, 2) := by decide +kernel
theorem dX1_decodeNode_103 : decode cX1_decodeNode 103 = .ok (.iconst 1, 1) := by decide +kernel
theorem dX1_decodeNode_104 : decode cX1_decodeNode 104 = .ok (.iadd, 1) := by decide +kernel
theorem dX1_decodeNode_105 : decode cX1_decodeNode 105 = .ok (.iload 8, 2) := by decide +kernel
theorem dX1_decodeNode_107 : decode cX1_decodeNode 107 = .ok (.iadd, 1) := by decide +kernel
theorem dX1_decodeNode_108 : decode cX1_decodeNode 108 = .ok (.goto 10, 3) := by decide +kernel
theorem dX1_decodeNode_111 : decode cX1_decodeNode 111 = .ok (.iload_n 3, 1) := by decide +kernel
theorem dX1_decodeNode_112 : decode cX1_decodeNode 112 = .ok (.iload 8, 2) := by decide +kernel
theorem dX1_decodeNode_114 : decode cX1_decodeNode 114 = .ok (.invokestatic 54, 3) := by decide +kernel
theorem dX1_decodeNode_117 : decode cX1_decodeNode 117 = .ok (.iadd, 1) := by decide +kernel
theorem dX1_decodeNode_118 : decode cX1_decodeNode 118 = .ok (.istore 6, 2) := by decide +kernel
theorem dX1_decodeNode_120 : decode cX1_decodeNode 120 = .ok (.iload 6, 2) := by decide +kernel
theorem dX1_decodeNode_122 : decode cX1_decodeNode 122 = .ok (.ifCond .lt 12, 3) := by decide +kernel
theorem dX1_decodeNode_125 : decode cX1_decodeNode 125 = .ok (.iload 6, 2) := by decide +kernel
theorem dX1_decodeNode_127 : decode cX1_decodeNode 127 = .ok (.aload_n 0, 1) := by decide +kernel
theorem dX1_decodeNode_128 : decode cX1_decodeNode 128 = .ok (.getfield 15, 3) := by decide +kernel
theorem dX1_decodeNode_131 : decode cX1_decodeNode 131 = .ok (.if_icmp .lt 11, 3) := by decide +kernel
theorem dX1_decodeNode_134 : decode cX1_decodeNode 134 = .ok (.aload_n 0, 1) := by decide +kernel
theorem dX1_decodeNode_135 : decode cX1_decodeNode 135 = .ok (.iconst 3, 1) := by decide +kernel
theorem dX1_decodeNode_136 : decode cX1_decodeNode 136 = .ok (.iload 4, 2) := by decide +kernel
theorem dX1_decodeNode_138 : decode cX1_decodeNode 138 = .ok (.invokevirtual 37, 3) := by decide +kernel
theorem dX1_decodeNode_141 : decode cX1_decodeNode 141 = .ok (.ireturn, 1) := by decide +kernel
theorem dX1_decodeNode_142 : decode cX1_decodeNode 142 = .ok (.aload_n 2, 1) := by decide +kernel
theorem dX1_decodeNode_143 : decode cX1_decodeNode 143 = .ok (.ifnull 11, 3) := by decide +kernel
theorem dX1_decodeNode_146 : decode cX1_decodeNode 146 = .ok (.aload_n 2, 1) := by decide +kernel
theorem dX1_decodeNode_147 : decode cX1_decodeNode 147 = .ok (.iload_n 3, 1) := by decide +kernel
theorem dX1_decodeNode_148 : decode cX1_decodeNode 148 = .ok (.iload 6, 2) := by decide +kernel
theorem dX1_decodeNode_150 : decode cX1_decodeNode 150 = .ok (.invokevirtual 58, 3) := by decide +kernel
theorem dX1_decodeNode_153 : decode cX1_decodeNode 153 = .ok (.pop, 1) := by decide +kernel
theorem dX1_decodeNode_154 : decode cX1_decodeNode 154 = .ok (.iinc 7 1, 3) := by decide +kernel
theorem dX1_decodeNode_157 : decode cX1_decodeNode 157 = .ok (.goto (-89), 3) := by decide +kernel
theorem dX1_decodeNode_160 : decode cX1_decodeNode 160 = .ok (.iconst 1, 1) := by decide +kernel
theorem dX1_decodeNode_161 : decode cX1_decodeNode 161 = .ok (.ireturn, 1) := by decide +kernel
set_option maxRecDepth 20000 in
theorem ggX1_unsigned_X1_refuse : GoodIn wsX1_unsigned wsX1_refuse := goodIn_r _ [7, 8, 9, 14, 15, 16, 17, 18] (by decide +kernel) (by decide +kernel)
set_option maxRecDepth 20000 in
theorem gX1_unsigned_X1_refuse : GoodIn wsX1_unsigned (wsV RX1 37 RX1 yX1_refuse wsX1_refuse) := goodIn_app (goodIn_of _ (by decide +kernel)) ggX1_unsigned_X1_refuse
set_option maxRecDepth 20000 in
theorem ggX1_unsigned_X1_refuseUnsigned : GoodIn wsX1_unsigned wsX1_refuseUnsigned := goodIn_r _ [13, 3, 4, 5, 6, 7, 8, 9, 14, 15, 16, 17, 18] (by decide +kernel) (by decide +kernel)
set_option maxRecDepth 20000 in
theorem gX1_unsigned_X1_refuseUnsigned : GoodIn wsX1_unsigned (wsV RX1 66 RX1 yX1_refuseUnsigned wsX1_refuseUnsigned) := goodIn_app (goodIn_of _ (by decide +kernel)) ggX1_unsigned_X1_refuseUnsigned
theorem dX1_unsigned_0 : decode cX1_unsigned 0 = .ok (.aload_n 0, 1) := by decide +kernel
theorem dX1_unsigned_1 : decode cX1_unsigned 1 = .ok (.getfield 9, 3) := by decide +kernel
theorem dX1_unsigned_4 : decode cX1_unsigned 4 = .ok (.istore_n 2, 1) := by decide +kernel
theorem dX1_unsigned_5 : decode cX1_unsigned 5 = .ok (.iconst 0, 1) := by decide +kernel
theorem dX1_unsigned_6 : decode cX1_unsigned 6 = .ok (.istore_n 3, 1) := by decide +kernel
theorem dX1_unsigned_7 : decode cX1_unsigned 7 = .ok (.iconst 0, 1) := by decide +kernel
theorem dX1_unsigned_8 : decode cX1_unsigned 8 = .ok (.istore 4, 2) := by decide +kernel
theorem dX1_unsigned_10 : decode cX1_unsigned 10 = .ok (.iload 4, 2) := by decide +kernel
theorem dX1_unsigned_12 : decode cX1_unsigned 12 = .ok (.bipush 14, 2) := by decide +kernel
theorem dX1_unsigned_14 : decode cX1_unsigned 14 = .ok (.if_icmp .gt 110, 3) := by decide +kernel
theorem dX1_unsigned_17 : decode cX1_unsigned 17 = .ok (.aload_n 0, 1) := by decide +kernel
theorem dX1_unsigned_18 : decode cX1_unsigned 18 = .ok (.getfield 9, 3) := by decide +kernel
theorem dX1_unsigned_21 : decode cX1_unsigned 21 = .ok (.aload_n 1, 1) := by decide +kernel
theorem dX1_unsigned_22 : decode cX1_unsigned 22 = .ok (.getfield 49, 3) := by decide +kernel
theorem dX1_unsigned_25 : decode cX1_unsigned 25 = .ok (.if_icmp .lt 15, 3) := by decide +kernel
theorem dX1_unsigned_28 : decode cX1_unsigned 28 = .ok (.aload_n 0, 1) := by decide +kernel
theorem dX1_unsigned_29 : decode cX1_unsigned 29 = .ok (.iconst 1, 1) := by decide +kernel
theorem dX1_unsigned_30 : decode cX1_unsigned 30 = .ok (.aload_n 1, 1) := by decide +kernel
theorem dX1_unsigned_31 : decode cX1_unsigned 31 = .ok (.getfield 49, 3) := by decide +kernel
theorem dX1_unsigned_34 : decode cX1_unsigned 34 = .ok (.invokevirtual 37, 3) := by decide +kernel
theorem dX1_unsigned_37 : decode cX1_unsigned 37 = .ok (.pop, 1) := by decide +kernel
theorem dX1_unsigned_38 : decode cX1_unsigned 38 = .ok (.iconst (-1), 1) := by decide +kernel
theorem dX1_unsigned_39 : decode cX1_unsigned 39 = .ok (.ireturn, 1) := by decide +kernel
theorem dX1_unsigned_40 : decode cX1_unsigned 40 = .ok (.aload_n 1, 1) := by decide +kernel
theorem dX1_unsigned_41 : decode cX1_unsigned 41 = .ok (.getfield 61, 3) := by decide +kernel
theorem dX1_unsigned_44 : decode cX1_unsigned 44 = .ok (.aload_n 0, 1) := by decide +kernel
theorem dX1_unsigned_45 : decode cX1_unsigned 45 = .ok (.getfield 9, 3) := by decide +kernel
theorem dX1_unsigned_48 : decode cX1_unsigned 48 = .ok (.iaload, 1) := by decide +kernel
theorem dX1_unsigned_49 : decode cX1_unsigned 49 = .ok (.istore 5, 2) := by decide +kernel
theorem dX1_unsigned_51 : decode cX1_unsigned 51 = .ok (.aload_n 0, 1) := by decide +kernel
theorem dX1_unsigned_52 : decode cX1_unsigned 52 = .ok (.dup, 1) := by decide +kernel
theorem dX1_unsigned_53 : decode cX1_unsigned 53 = .ok (.getfield 9, 3) := by decide +kernel
theorem dX1_unsigned_56 : decode cX1_unsigned 56 = .ok (.iconst 1, 1) := by decide +kernel
theorem dX1_unsigned_57 : decode cX1_unsigned 57 = .ok (.iadd, 1) := by decide +kernel
theorem dX1_unsigned_58 : decode cX1_unsigned 58 = .ok (.putfield 9, 3) := by decide +kernel
theorem dX1_unsigned_61 : decode cX1_unsigned 61 = .ok (.iload_n 3, 1) := by decide +kernel
theorem dX1_unsigned_62 : decode cX1_unsigned 62 = .ok (.iload 5, 2) := by decide +kernel
theorem dX1_unsigned_64 : decode cX1_unsigned 64 = .ok (.bipush 127, 2) := by decide +kernel
theorem dX1_unsigned_66 : decode cX1_unsigned 66 = .ok (.iand, 1) := by decide +kernel
theorem dX1_unsigned_67 : decode cX1_unsigned 67 = .ok (.iload 4, 2) := by decide +kernel
theorem dX1_unsigned_69 : decode cX1_unsigned 69 = .ok (.ishl, 1) := by decide +kernel
theorem dX1_unsigned_70 : decode cX1_unsigned 70 = .ok (.iadd, 1) := by decide +kernel
theorem dX1_unsigned_71 : decode cX1_unsigned 71 = .ok (.istore_n 3, 1) := by decide +kernel
theorem dX1_unsigned_72 : decode cX1_unsigned 72 = .ok (.iload 5, 2) := by decide +kernel
theorem dX1_unsigned_74 : decode cX1_unsigned 74 = .ok (.sipush 128, 3) := by decide +kernel
theorem dX1_unsigned_77 : decode cX1_unsigned 77 = .ok (.if_icmp .ge 41, 3) := by decide +kernel
theorem dX1_unsigned_80 : decode cX1_unsigned 80 = .ok (.iload 4, 2) := by decide +kernel
theorem dX1_unsigned_82 : decode cX1_unsigned 82 = .ok (.ifCond .le 12, 3) := by decide +kernel
theorem dX1_unsigned_85 : decode cX1_unsigned 85 = .ok (.iload 5, 2) := by decide +kernel
theorem dX1_unsigned_87 : decode cX1_unsigned 87 = .ok (.ifCond .ne 7, 3) := by decide +kernel
theorem dX1_unsigned_90 : decode cX1_unsigned 90 = .ok (.iconst 1, 1) := by decide +kernel
theorem dX1_unsigned_91 : decode cX1_unsigned 91 = .ok (.goto 4, 3) := by decide +kernel
theorem dX1_unsigned_94 : decode cX1_unsigned 94 = .ok (.iconst 0, 1) := by decide +kernel
theorem dX1_unsigned_95 : decode cX1_unsigned 95 = .ok (.istore 6, 2) := by decide +kernel
theorem dX1_unsigned_97 : decode cX1_unsigned 97 = .ok (.iload 6, 2) := by decide +kernel
theorem dX1_unsigned_99 : decode cX1_unsigned 99 = .ok (.ifCond .ne 9, 3) := by decide +kernel
theorem dX1_unsigned_102 : decode cX1_unsigned 102 = .ok (.iload_n 3, 1) := by decide +kernel
theorem dX1_unsigned_103 : decode cX1_unsigned 103 = .ok (.ldc 65, 2) := by decide +kernel
theorem dX1_unsigned_105 : decode cX1_unsigned 105 = .ok (.if_icmp .le 11, 3) := by decide +kernel
theorem dX1_unsigned_108 : decode cX1_unsigned 108 = .ok (.aload_n 0, 1) := by decide +kernel
theorem dX1_unsigned_109 : decode cX1_unsigned 109 = .ok (.iload_n 2, 1) := by decide +kernel
theorem dX1_unsigned_110 : decode cX1_unsigned 110 = .ok (.invokevirtual 66, 3) := by decide +kernel
theorem dX1_unsigned_113 : decode cX1_unsigned 113 = .ok (.goto 4, 3) := by decide +kernel
theorem dX1_unsigned_116 : decode cX1_unsigned 116 = .ok (.iload_n 3, 1) := by decide +kernel
theorem dX1_unsigned_117 : decode cX1_unsigned 117 = .ok (.ireturn, 1) := by decide +kernel
theorem dX1_unsigned_118 : decode cX1_unsigned 118 = .ok (.iinc 4 7, 3) := by decide +kernel
theorem dX1_unsigned_121 : decode cX1_unsigned 121 = .ok (.goto (-111), 3) := by decide +kernel
theorem dX1_unsigned_124 : decode cX1_unsigned 124 = .ok (.aload_n 0, 1) := by decide +kernel
theorem dX1_unsigned_125 : decode cX1_unsigned 125 = .ok (.iload_n 2, 1) := by decide +kernel
theorem dX1_unsigned_126 : decode cX1_unsigned 126 = .ok (.invokevirtual 66, 3) := by decide +kernel
theorem dX1_unsigned_129 : decode cX1_unsigned 129 = .ok (.ireturn, 1) := by decide +kernel
set_option maxRecDepth 20000 in
theorem ggX1_refuseUnsigned_X1_refuse : GoodIn wsX1_refuseUnsigned wsX1_refuse := goodIn_r _ [5, 6, 7, 8, 9, 10, 11, 12] (by decide +kernel) (by decide +kernel)
set_option maxRecDepth 20000 in
theorem gX1_refuseUnsigned_X1_refuse : GoodIn wsX1_refuseUnsigned (wsV RX1 37 RX1 yX1_refuse wsX1_refuse) := goodIn_app (goodIn_of _ (by decide +kernel)) ggX1_refuseUnsigned_X1_refuse
theorem dX1_refuseUnsigned_0 : decode cX1_refuseUnsigned 0 = .ok (.aload_n 0, 1) := by decide +kernel
theorem dX1_refuseUnsigned_1 : decode cX1_refuseUnsigned 1 = .ok (.iconst 2, 1) := by decide +kernel
theorem dX1_refuseUnsigned_2 : decode cX1_refuseUnsigned 2 = .ok (.iload_n 1, 1) := by decide +kernel
theorem dX1_refuseUnsigned_3 : decode cX1_refuseUnsigned 3 = .ok (.invokevirtual 37, 3) := by decide +kernel
theorem dX1_refuseUnsigned_6 : decode cX1_refuseUnsigned 6 = .ok (.pop, 1) := by decide +kernel
theorem dX1_refuseUnsigned_7 : decode cX1_refuseUnsigned 7 = .ok (.iconst (-1), 1) := by decide +kernel
theorem dX1_refuseUnsigned_8 : decode cX1_refuseUnsigned 8 = .ok (.ireturn, 1) := by decide +kernel
theorem dX1_refuse_0 : decode cX1_refuse 0 = .ok (.aload_n 0, 1) := by decide +kernel
theorem dX1_refuse_1 : decode cX1_refuse 1 = .ok (.iload_n 1, 1) := by decide +kernel
theorem dX1_refuse_2 : decode cX1_refuse 2 = .ok (.putfield 21, 3) := by decide +kernel
theorem dX1_refuse_5 : decode cX1_refuse 5 = .ok (.aload_n 0, 1) := by decide +kernel
theorem dX1_refuse_6 : decode cX1_refuse 6 = .ok (.iload_n 2, 1) := by decide +kernel
theorem dX1_refuse_7 : decode cX1_refuse 7 = .ok (.putfield 24, 3) := by decide +kernel
theorem dX1_refuse_10 : decode cX1_refuse 10 = .ok (.iconst 0, 1) := by decide +kernel
theorem dX1_refuse_11 : decode cX1_refuse 11 = .ok (.ireturn, 1) := by decide +kernel
theorem dX1_signed_0 : decode cX1_signed 0 = .ok (.iload_n 0, 1) := by decide +kernel
theorem dX1_signed_1 : decode cX1_signed 1 = .ok (.iconst 1, 1) := by decide +kernel
theorem dX1_signed_2 : decode cX1_signed 2 = .ok (.iand, 1) := by decide +kernel
theorem dX1_signed_3 : decode cX1_signed 3 = .ok (.ifCond .ne 9, 3) := by decide +kernel
theorem dX1_signed_6 : decode cX1_signed 6 = .ok (.iload_n 0, 1) := by decide +kernel
theorem dX1_signed_7 : decode cX1_signed 7 = .ok (.iconst 1, 1) := by decide +kernel
theorem dX1_signed_8 : decode cX1_signed 8 = .ok (.ishr, 1) := by decide +kernel
theorem dX1_signed_9 : decode cX1_signed 9 = .ok (.goto 9, 3) := by decide +kernel
theorem dX1_signed_12 : decode cX1_signed 12 = .ok (.iload_n 0, 1) := by decide +kernel
theorem dX1_signed_13 : decode cX1_signed 13 = .ok (.iconst 1, 1) := by decide +kernel
theorem dX1_signed_14 : decode cX1_signed 14 = .ok (.iadd, 1) := by decide +kernel
theorem dX1_signed_15 : decode cX1_signed 15 = .ok (.iconst 1, 1) := by decide +kernel
theorem dX1_signed_16 : decode cX1_signed 16 = .ok (.ishr, 1) := by decide +kernel
theorem dX1_signed_17 : decode cX1_signed 17 = .ok (.ineg, 1) := by decide +kernel
theorem dX1_signed_18 : decode cX1_signed 18 = .ok (.ireturn, 1) := by decide +kernel
theorem dX2_init_0 : decode cX2_init 0 = .ok (.aload_n 0, 1) := by decide +kernel
theorem dX2_init_1 : decode cX2_init 1 = .ok (.invokespecial 3, 3) := by decide +kernel
theorem dX2_init_4 : decode cX2_init 4 = .ok (.aload_n 0, 1) := by decide +kernel
theorem dX2_init_5 : decode cX2_init 5 = .ok (.sipush 251, 3) := by decide +kernel
theorem dX2_init_8 : decode cX2_init 8 = .ok (.newarray .int, 2) := by decide +kernel
theorem dX2_init_10 : decode cX2_init 10 = .ok (.putfield 9, 3) := by decide +kernel
theorem dX2_init_13 : decode cX2_init 13 = .ok (.aload_n 0, 1) := by decide +kernel
theorem dX2_init_14 : decode cX2_init 14 = .ok (.sipush 2500, 3) := by decide +kernel
theorem dX2_init_17 : decode cX2_init 17 = .ok (.newarray .int, 2) := by decide +kernel
theorem dX2_init_19 : decode cX2_init 19 = .ok (.putfield 15, 3) := by decide +kernel
theorem dX2_init_22 : decode cX2_init 22 = .ok (.aload_n 0, 1) := by decide +kernel
theorem dX2_init_23 : decode cX2_init 23 = .ok (.sipush 250, 3) := by decide +kernel
theorem dX2_init_26 : decode cX2_init 26 = .ok (.newarray .int, 2) := by decide +kernel
theorem dX2_init_28 : decode cX2_init 28 = .ok (.putfield 18, 3) := by decide +kernel
theorem dX2_init_31 : decode cX2_init 31 = .ok (.aload_n 0, 1) := by decide +kernel
theorem dX2_init_32 : decode cX2_init 32 = .ok (.iconst 1, 1) := by decide +kernel
theorem dX2_init_33 : decode cX2_init 33 = .ok (.putfield 21, 3) := by decide +kernel
theorem dX2_init_36 : decode cX2_init 36 = .ok (.aload_n 0, 1) := by decide +kernel
theorem dX2_init_37 : decode cX2_init 37 = .ok (.iconst 0, 1) := by decide +kernel
theorem dX2_init_38 : decode cX2_init 38 = .ok (.putfield 25, 3) := by decide +kernel
theorem dX2_init_41 : decode cX2_init 41 = .ok (.aload_n 0, 1) := by decide +kernel
theorem dX2_init_42 : decode cX2_init 42 = .ok (.iconst 1, 1) := by decide +kernel
theorem dX2_init_43 : decode cX2_init 43 = .ok (.putfield 28, 3) := by decide +kernel
theorem dX2_init_46 : decode cX2_init 46 = .ok (.aload_n 0, 1) := by decide +kernel
theorem dX2_init_47 : decode cX2_init 47 = .ok (.getfield 18, 3) := by decide +kernel
theorem dX2_init_50 : decode cX2_init 50 = .ok (.iconst 0, 1) := by decide +kernel
theorem dX2_init_51 : decode cX2_init 51 = .ok (.iconst 1, 1) := by decide +kernel
theorem dX2_init_52 : decode cX2_init 52 = .ok (.iastore, 1) := by decide +kernel
theorem dX2_init_53 : decode cX2_init 53 = .ok (.return_, 1) := by decide +kernel
theorem dX2_canHave_0 : decode cX2_canHave 0 = .ok (.iload_n 0, 1) := by decide +kernel
theorem dX2_canHave_1 : decode cX2_canHave 1 = .ok (.iconst 1, 1) := by decide +kernel
theorem dX2_canHave_2 : decode cX2_canHave 2 = .ok (.if_icmp .lt 14, 3) := by decide +kernel
theorem dX2_canHave_5 : decode cX2_canHave 5 = .ok (.iload_n 0, 1) := by decide +kernel
theorem dX2_canHave_6 : decode cX2_canHave 6 = .ok (.sipush 250, 3) := by decide +kernel
theorem dX2_canHave_9 : decode cX2_canHave 9 = .ok (.if_icmp .gt 7, 3) := by decide +kernel
theorem dX2_canHave_12 : decode cX2_canHave 12 = .ok (.iconst 1, 1) := by decide +kernel
theorem dX2_canHave_13 : decode cX2_canHave 13 = .ok (.goto 4, 3) := by decide +kernel
theorem dX2_canHave_16 : decode cX2_canHave 16 = .ok (.iconst 0, 1) := by decide +kernel
theorem dX2_canHave_17 : decode cX2_canHave 17 = .ok (.ireturn, 1) := by decide +kernel
set_option maxRecDepth 20000 in
theorem ggX2_reset_X2_canHave : GoodIn wsX2_reset wsX2_canHave := goodIn_r _ [9] (by decide +kernel) (by decide +kernel)
set_option maxRecDepth 20000 in
theorem gX2_reset_X2_canHave : GoodIn wsX2_reset (va_wsS RX2 31 yX2_canHave wsX2_canHave) := goodIn_app (goodIn_of _ (by decide +kernel)) ggX2_reset_X2_canHave
theorem dX2_reset_0 : decode cX2_reset 0 = .ok (.iload_n 1, 1) := by decide +kernel
theorem dX2_reset_1 : decode cX2_reset 1 = .ok (.invokestatic 31, 3) := by decide +kernel
theorem dX2_reset_4 : decode cX2_reset 4 = .ok (.ifCond .ne 4, 3) := by decide +kernel
theorem dX2_reset_7 : decode cX2_reset 7 = .ok (.return_, 1) := by decide +kernel
theorem dX2_reset_8 : decode cX2_reset 8 = .ok (.aload_n 0, 1) := by decide +kernel
theorem dX2_reset_9 : decode cX2_reset 9 = .ok (.iload_n 1, 1) := by decide +kernel
theorem dX2_reset_10 : decode cX2_reset 10 = .ok (.putfield 21, 3) := by decide +kernel
theorem dX2_reset_13 : decode cX2_reset 13 = .ok (.aload_n 0, 1) := by decide +kernel
theorem dX2_reset_14 : decode cX2_reset 14 = .ok (.iconst 0, 1) := by decide +kernel
theorem dX2_reset_15 : decode cX2_reset 15 = .ok (.putfield 25, 3) := by decide +kernel
theorem dX2_reset_18 : decode cX2_reset 18 = .ok (.aload_n 0, 1) := by decide +kernel
theorem dX2_reset_19 : decode cX2_reset 19 = .ok (.iload_n 1, 1) := by decide +kernel
theorem dX2_reset_20 : decode cX2_reset 20 = .ok (.putfield 28, 3) := by decide +kernel
theorem dX2_reset_23 : decode cX2_reset 23 = .ok (.iconst 0, 1) := by decide +kernel
theorem dX2_reset_24 : decode cX2_reset 24 = .ok (.istore_n 2, 1) := by decide +kernel
theorem dX2_reset_25 : decode cX2_reset 25 = .ok (.iload_n 2, 1) := by decide +kernel
theorem dX2_reset_26 : decode cX2_reset 26 = .ok (.iload_n 1, 1) := by decide +kernel
theorem dX2_reset_27 : decode cX2_reset 27 = .ok (.if_icmp .ge 23, 3) := by decide +kernel
theorem dX2_reset_30 : decode cX2_reset 30 = .ok (.aload_n 0, 1) := by decide +kernel
theorem dX2_reset_31 : decode cX2_reset 31 = .ok (.getfield 18, 3) := by decide +kernel
theorem dX2_reset_34 : decode cX2_reset 34 = .ok (.iload_n 2, 1) := by decide +kernel
theorem dX2_reset_35 : decode cX2_reset 35 = .ok (.iconst 1, 1) := by decide +kernel
theorem dX2_reset_36 : decode cX2_reset 36 = .ok (.iastore, 1) := by decide +kernel
theorem dX2_reset_37 : decode cX2_reset 37 = .ok (.aload_n 0, 1) := by decide +kernel
theorem dX2_reset_38 : decode cX2_reset 38 = .ok (.getfield 9, 3) := by decide +kernel
theorem dX2_reset_41 : decode cX2_reset 41 = .ok (.iload_n 2, 1) := by decide +kernel
theorem dX2_reset_42 : decode cX2_reset 42 = .ok (.iconst 0, 1) := by decide +kernel
theorem dX2_reset_43 : decode cX2_reset 43 = .ok (.iastore, 1) := by decide +kernel
theorem dX2_reset_44 : decode cX2_reset 44 = .ok (.iinc 2 1, 3) := by decide +kernel
theorem dX2_reset_47 : decode cX2_reset 47 = .ok (.goto (-22), 3) := by decide +kernel
theorem dX2_reset_50 : decode cX2_reset 50 = .ok (.aload_n 0, 1) := by decide +kernel
theorem dX2_reset_51 : decode cX2_reset 51 = .ok (.getfield 9, 3) := by decide +kernel
theorem dX2_reset_54 : decode cX2_reset 54 = .ok (.iload_n 1, 1) := by decide +kernel
theorem dX2_reset_55 : decode cX2_reset 55 = .ok (.iconst 0, 1) := by decide +kernel
theorem dX2_reset_56 : decode cX2_reset 56 = .ok (.iastore, 1) := by decide +kernel
theorem dX2_reset_57 : decode cX2_reset 57 = .ok (.return_, 1) := by decide +kernel
theorem dX2_isNode_0 : decode cX2_isNode 0 = .ok (.iload_n 1, 1) := by decide +kernel
theorem dX2_isNode_1 : decode cX2_isNode 1 = .ok (.ifCond .lt 15, 3) := by decide +kernel
theorem dX2_isNode_4 : decode cX2_isNode 4 = .ok (.iload_n 1, 1) := by decide +kernel
theorem dX2_isNode_5 : decode cX2_isNode 5 = .ok (.aload_n 0, 1) := by decide +kernel
theorem dX2_isNode_6 : decode cX2_isNode 6 = .ok (.getfield 21, 3) := by decide +kernel
theorem dX2_isNode_9 : decode cX2_isNode 9 = .ok (.if_icmp .ge 7, 3) := by decide +kernel
theorem dX2_isNode_12 : decode cX2_isNode 12 = .ok (.iconst 1, 1) := by decide +kernel
theorem dX2_isNode_13 : decode cX2_isNode 13 = .ok (.goto 4, 3) := by decide +kernel
theorem dX2_isNode_16 : decode cX2_isNode 16 = .ok (.iconst 0, 1) := by decide +kernel
theorem dX2_isNode_17 : decode cX2_isNode 17 = .ok (.ireturn, 1) := by decide +kernel
set_option maxRecDepth 20000 in
theorem ggX2_outOf_X2_isNode : GoodIn wsX2_outOf wsX2_isNode := goodIn_r _ [6, 7, 8, 9, 10, 11, 12, 13] (by decide +kernel) (by decide +kernel)
set_option maxRecDepth 20000 in
theorem gX2_outOf_X2_isNode : GoodIn wsX2_outOf (wsV RX2 35 RX2 yX2_isNode wsX2_isNode) := goodIn_app (goodIn_of _ (by decide +kernel)) ggX2_outOf_X2_isNode
theorem dX2_outOf_0 : decode cX2_outOf 0 = .ok (.aload_n 0, 1) := by decide +kernel
theorem dX2_outOf_1 : decode cX2_outOf 1 = .ok (.iload_n 1, 1) := by decide +kernel
theorem dX2_outOf_2 : decode cX2_outOf 2 = .ok (.invokevirtual 35, 3) := by decide +kernel
theorem dX2_outOf_5 : decode cX2_outOf 5 = .ok (.ifCond .eq 21, 3) := by decide +kernel
theorem dX2_outOf_8 : decode cX2_outOf 8 = .ok (.aload_n 0, 1) := by decide +kernel
theorem dX2_outOf_9 : decode cX2_outOf 9 = .ok (.getfield 9, 3) := by decide +kernel
theorem dX2_outOf_12 : decode cX2_outOf 12 = .ok (.iload_n 1, 1) := by decide +kernel
theorem dX2_outOf_13 : decode cX2_outOf 13 = .ok (.iconst 1, 1) := by decide +kernel
theorem dX2_outOf_14 : decode cX2_outOf 14 = .ok (.iadd, 1) := by decide +kernel
theorem dX2_outOf_15 : decode cX2_outOf 15 = .ok (.iaload, 1) := by decide +kernel
theorem dX2_outOf_16 : decode cX2_outOf 16 = .ok (.aload_n 0, 1) := by decide +kernel
theorem dX2_outOf_17 : decode cX2_outOf 17 = .ok (.getfield 9, 3) := by decide +kernel
theorem dX2_outOf_20 : decode cX2_outOf 20 = .ok (.iload_n 1, 1) := by decide +kernel
theorem dX2_outOf_21 : decode cX2_outOf 21 = .ok (.iaload, 1) := by decide +kernel
theorem dX2_outOf_22 : decode cX2_outOf 22 = .ok (.isub, 1) := by decide +kernel
theorem dX2_outOf_23 : decode cX2_outOf 23 = .ok (.goto 4, 3) := by decide +kernel
theorem dX2_outOf_26 : decode cX2_outOf 26 = .ok (.iconst 0, 1) := by decide +kernel
theorem dX2_outOf_27 : decode cX2_outOf 27 = .ok (.ireturn, 1) := by decide +kernel
theorem dX2_into_0 : decode cX2_into 0 = .ok (.iconst 0, 1) := by decide +kernel
theorem dX2_into_1 : decode cX2_into 1 = .ok (.istore_n 2, 1) := by decide +kernel
theorem dX2_into_2 : decode cX2_into 2 = .ok (.iconst 0, 1) := by decide +kernel
theorem dX2_into_3 : decode cX2_into 3 = .ok (.istore_n 3, 1) := by decide +kernel
theorem dX2_into_4 : decode cX2_into 4 = .ok (.iload_n 3, 1) := by decide +kernel
theorem dX2_into_5 : decode cX2_into 5 = .ok (.aload_n 0, 1) := by decide +kernel
theorem dX2_into_6 : decode cX2_into 6 = .ok (.getfield 25, 3) := by decide +kernel
theorem dX2_into_9 : decode cX2_into 9 = .ok (.if_icmp .ge 22, 3) := by decide +kernel
theorem dX2_into_12 : decode cX2_into 12 = .ok (.aload_n 0, 1) := by decide +kernel
theorem dX2_into_13 : decode cX2_into 13 = .ok (.getfield 15, 3) := by decide +kernel
theorem dX2_into_16 : decode cX2_into 16 = .ok (.iload_n 3, 1) := by decide +kernel
theorem dX2_into_17 : decode cX2_into 17 = .ok (.iaload, 1) := by decide +kernel
theorem dX2_into_18 : decode cX2_into 18 = .ok (.iload_n 1, 1) := by decide +kernel
theorem dX2_into_19 : decode cX2_into 19 = .ok (.if_icmp .ne 6, 3) := by decide +kernel
theorem dX2_into_22 : decode cX2_into 22 = .ok (.iinc 2 1, 3) := by decide +kernel
theorem dX2_into_25 : decode cX2_into 25 = .ok (.iinc 3 1, 3) := by decide +kernel
theorem dX2_into_28 : decode cX2_into 28 = .ok (.goto (-24), 3) := by decide +kernel
theorem dX2_into_31 : decode cX2_into 31 = .ok (.iload_n 2, 1) := by decide +kernel
theorem dX2_into_32 : decode cX2_into 32 = .ok (.ireturn, 1) := by decide +kernel
set_option maxRecDepth 20000 in
theorem ggX2_target_X2_outOf : GoodIn wsX2_target wsX2_outOf := goodIn_r _ [7, 2, 8, 9, 10, 6, 11, 12, 13, 14, 15, 16, 17, 18] (by decide +kernel) (by decide +kernel)
set_option maxRecDepth 20000 in
theorem gX2_target_X2_outOf : GoodIn wsX2_target (wsV RX2 38 RX2 yX2_outOf wsX2_outOf) := goodIn_app (goodIn_of _ (by decide +kernel)) ggX2_target_X2_outOf
theorem dX2_target_0 : decode cX2_target 0 = .ok (.iload_n 2, 1) := by decide +kernel
theorem dX2_target_1 : decode cX2_target 1 = .ok (.ifCond .lt 28, 3) := by decide +kernel
theorem dX2_target_4 : decode cX2_target 4 = .ok (.iload_n 2, 1) := by decide +kernel
theorem dX2_target_5 : decode cX2_target 5 = .ok (.aload_n 0, 1) := by decide +kernel
theorem dX2_target_6 : decode cX2_target 6 = .ok (.iload_n 1, 1) := by decide +kernel
theorem dX2_target_7 : decode cX2_target 7 = .ok (.invokevirtual 38, 3) := by decide +kernel
theorem dX2_target_10 : decode cX2_target 10 = .ok (.if_icmp .ge 19, 3) := by decide +kernel
theorem dX2_target_13 : decode cX2_target 13 = .ok (.aload_n 0, 1) := by decide +kernel
theorem dX2_target_14 : decode cX2_target 14 = .ok (.getfield 15, 3) := by decide +kernel
theorem dX2_target_17 : decode cX2_target 17 = .ok (.aload_n 0, 1) := by decide +kernel
theorem dX2_target_18 : decode cX2_target 18 = .ok (.getfield 9, 3) := by decide +kernel
theorem dX2_target_21 : decode cX2_target 21 = .ok (.iload_n 1, 1) := by decide +kernel
theorem dX2_target_22 : decode cX2_target 22 = .ok (.iaload, 1) := by decide +kernel
theorem dX2_target_23 : decode cX2_target 23 = .ok (.iload_n 2, 1) := by decide +kernel
theorem dX2_target_24 : decode cX2_target 24 = .ok (.iadd, 1) := by decide +kernel
theorem dX2_target_25 : decode cX2_target 25 = .ok (.iaload, 1) := by decide +kernel
theorem dX2_target_26 : decode cX2_target 26 = .ok (.goto 4, 3) := by decide +kernel
theorem dX2_target_29 : decode cX2_target 29 = .ok (.iconst (-1), 1) := by decide +kernel
theorem dX2_target_30 : decode cX2_target 30 = .ok (.ireturn, 1) := by decide +kernel
set_option maxRecDepth 20000 in
theorem ggX2_source_X2_joins : GoodIn wsX2_source wsX2_joins := goodIn_r _ [6, 7, 8, 9, 10, 11, 5, 12, 1, 13, 14, 15, 16, 17, 18, 19, 20, 21, 22] (by decide +kernel) (by decide +kernel)
set_option maxRecDepth 20000 in
theorem gX2_source_X2_joins : GoodIn wsX2_source (wsV RX2 42 RX2 yX2_joins wsX2_joins) := goodIn_app (goodIn_of _ (by decide +kernel)) ggX2_source_X2_joins
theorem dX2_source_0 : decode cX2_source 0 = .ok (.iconst 0, 1) := by decide +kernel
theorem dX2_source_1 : decode cX2_source 1 = .ok (.istore_n 3, 1) := by decide +kernel
theorem dX2_source_2 : decode cX2_source 2 = .ok (.iconst 0, 1) := by decide +kernel
theorem dX2_source_3 : decode cX2_source 3 = .ok (.istore 4, 2) := by decide +kernel
theorem dX2_source_5 : decode cX2_source 5 = .ok (.iload 4, 2) := by decide +kernel
theorem dX2_source_7 : decode cX2_source 7 = .ok (.aload_n 0, 1) := by decide +kernel
theorem dX2_source_8 : decode cX2_source 8 = .ok (.getfield 21, 3) := by decide +kernel
theorem dX2_source_11 : decode cX2_source 11 = .ok (.if_icmp .ge 30, 3) := by decide +kernel
theorem dX2_source_14 : decode cX2_source 14 = .ok (.aload_n 0, 1) := by decide +kernel
theorem dX2_source_15 : decode cX2_source 15 = .ok (.iload 4, 2) := by decide +kernel
theorem dX2_source_17 : decode cX2_source 17 = .ok (.iload_n 1, 1) := by decide +kernel
theorem dX2_source_18 : decode cX2_source 18 = .ok (.invokevirtual 42, 3) := by decide +kernel
theorem dX2_source_21 : decode cX2_source 21 = .ok (.ifCond .eq 14, 3) := by decide +kernel
theorem dX2_source_24 : decode cX2_source 24 = .ok (.iload_n 3, 1) := by decide +kernel
theorem dX2_source_25 : decode cX2_source 25 = .ok (.iload_n 2, 1) := by decide +kernel
theorem dX2_source_26 : decode cX2_source 26 = .ok (.if_icmp .ne 6, 3) := by decide +kernel
theorem dX2_source_29 : decode cX2_source 29 = .ok (.iload 4, 2) := by decide +kernel
theorem dX2_source_31 : decode cX2_source 31 = .ok (.ireturn, 1) := by decide +kernel
theorem dX2_source_32 : decode cX2_source 32 = .ok (.iinc 3 1, 3) := by decide +kernel
theorem dX2_source_35 : decode cX2_source 35 = .ok (.iinc 4 1, 3) := by decide +kernel
theorem dX2_source_38 : decode cX2_source 38 = .ok (.goto (-33), 3) := by decide +kernel
theorem dX2_source_41 : decode cX2_source 41 = .ok (.iconst (-1), 1) := by decide +kernel
theorem dX2_source_42 : decode cX2_source 42 = .ok (.ireturn, 1) := by decide +kernel
set_option maxRecDepth 20000 in
theorem ggX2_joins_X2_isNode : GoodIn wsX2_joins wsX2_isNode := goodIn_r _ [7, 8, 13, 14, 15, 16, 17, 18] (by decide +kernel) (by decide +kernel)
set_option maxRecDepth 20000 in
theorem gX2_joins_X2_isNode : GoodIn wsX2_joins (wsV RX2 35 RX2 yX2_isNode wsX2_isNode) := goodIn_app (goodIn_of _ (by decide +kernel)) ggX2_joins_X2_isNode
set_option maxRecDepth 20000 in
theorem ggX2_joins_X2_spot : GoodIn wsX2_joins wsX2_spot := goodIn_r _ [12, 1, 2, 13, 14, 15, 16, 17, 18] (by decide +kernel) (by decide +kernel)
set_option maxRecDepth 20000 in
theorem gX2_joins_X2_spot : GoodIn wsX2_joins (wsV RX2 46 RX2 yX2_spot wsX2_spot) := goodIn_app (goodIn_of _ (by decide +kernel)) ggX2_joins_X2_spot
theorem dX2_joins_0 : decode cX2_joins 0 = .ok (.aload_n 0, 1) := by decide +kernel
theorem dX2_joins_1 : decode cX2_joins 1 = .ok (.iload_n 1, 1) := by decide +kernel
theorem dX2_joins_2 : decode cX2_joins 2 = .ok (.invokevirtual 35, 3) := by decide +kernel
theorem dX2_joins_5 : decode cX2_joins 5 = .ok (.ifCond .eq 11, 3) := by decide +kernel
theorem dX2_joins_8 : decode cX2_joins 8 = .ok (.aload_n 0, 1) := by decide +kernel
theorem dX2_joins_9 : decode cX2_joins 9 = .ok (.iload_n 2, 1) := by decide +kernel
theorem dX2_joins_10 : decode cX2_joins 10 = .ok (.invokevirtual 35, 3) := by decide +kernel
theorem dX2_joins_13 : decode cX2_joins 13 = .ok (.ifCond .ne 5, 3) := by decide +kernel
theorem dX2_joins_16 : decode cX2_joins 16 = .ok (.iconst 0, 1) := by decide +kernel
theorem dX2_joins_17 : decode cX2_joins 17 = .ok (.ireturn, 1) := by decide +kernel
theorem dX2_joins_18 : decode cX2_joins 18 = .ok (.aload_n 0, 1) := by decide +kernel
theorem dX2_joins_19 : decode cX2_joins 19 = .ok (.iload_n 1, 1) := by decide +kernel
theorem dX2_joins_20 : decode cX2_joins 20 = .ok (.iload_n 2, 1) := by decide +kernel
theorem dX2_joins_21 : decode cX2_joins 21 = .ok (.invokevirtual 46, 3) := by decide +kernel
theorem dX2_joins_24 : decode cX2_joins 24 = .ok (.istore_n 3, 1) := by decide +kernel
theorem dX2_joins_25 : decode cX2_joins 25 = .ok (.iload_n 3, 1) := by decide +kernel
theorem dX2_joins_26 : decode cX2_joins 26 = .ok (.aload_n 0, 1) := by decide +kernel
theorem dX2_joins_27 : decode cX2_joins 27 = .ok (.getfield 9, 3) := by decide +kernel
theorem dX2_joins_30 : decode cX2_joins 30 = .ok (.iload_n 1, 1) := by decide +kernel
theorem dX2_joins_31 : decode cX2_joins 31 = .ok (.iconst 1, 1) := by decide +kernel
theorem dX2_joins_32 : decode cX2_joins 32 = .ok (.iadd, 1) := by decide +kernel
theorem dX2_joins_33 : decode cX2_joins 33 = .ok (.iaload, 1) := by decide +kernel
theorem dX2_joins_34 : decode cX2_joins 34 = .ok (.if_icmp .ge 17, 3) := by decide +kernel
theorem dX2_joins_37 : decode cX2_joins 37 = .ok (.aload_n 0, 1) := by decide +kernel
theorem dX2_joins_38 : decode cX2_joins 38 = .ok (.getfield 15, 3) := by decide +kernel
theorem dX2_joins_41 : decode cX2_joins 41 = .ok (.iload_n 3, 1) := by decide +kernel
theorem dX2_joins_42 : decode cX2_joins 42 = .ok (.iaload, 1) := by decide +kernel
theorem dX2_joins_43 : decode cX2_joins 43 = .ok (.iload_n 2, 1) := by decide +kernel
theorem dX2_joins_44 : decode cX2_joins 44 = .ok (.if_icmp .ne 7, 3) := by decide +kernel
theorem dX2_joins_47 : decode cX2_joins 47 = .ok (.iconst 1, 1) := by decide +kernel
theorem dX2_joins_48 : decode cX2_joins 48 = .ok (.goto 4, 3) := by decide +kernel
theorem dX2_joins_51 : decode cX2_joins 51 = .ok (.iconst 0, 1) := by decide +kernel
theorem dX2_joins_52 : decode cX2_joins 52 = .ok (.ireturn, 1) := by decide +kernel
set_option maxRecDepth 20000 in
theorem ggX2_join_X2_isNode : GoodIn wsX2_join wsX2_isNode := goodIn_r _ [11, 12, 26, 27, 28, 29, 30, 31] (by decide +kernel) (by decide +kernel)
set_option maxRecDepth 20000 in
theorem gX2_join_X2_isNode : GoodIn wsX2_join (wsV RX2 35 RX2 yX2_isNode wsX2_isNode) := goodIn_app (goodIn_of _ (by decide +kernel)) ggX2_join_X2_isNode
set_option maxRecDepth 20000 in
theorem ggX2_join_X2_joins : GoodIn wsX2_join wsX2_joins := goodIn_r _ [16, 17, 2, 7, 8, 9, 10, 11, 12, 18, 19, 20, 21, 26, 27, 28, 29, 30, 31] (by decide +kernel) (by decide +kernel)
set_option maxRecDepth 20000 in
theorem gX2_join_X2_joins : GoodIn wsX2_join (wsV RX2 42 RX2 yX2_joins wsX2_joins) := goodIn_app (goodIn_of _ (by decide +kernel)) ggX2_join_X2_joins
set_option maxRecDepth 20000 in
theorem ggX2_join_X2_spot : GoodIn wsX2_join wsX2_spot := goodIn_r _ [21, 17, 2, 26, 27, 28, 29, 30, 31] (by decide +kernel) (by decide +kernel)
set_option maxRecDepth 20000 in
theorem gX2_join_X2_spot : GoodIn wsX2_join (wsV RX2 46 RX2 yX2_spot wsX2_spot) := goodIn_app (goodIn_of _ (by decide +kernel)) ggX2_join_X2_spot
set_option maxRecDepth 20000 in
theorem ggX2_join_X2_grow : GoodIn wsX2_join wsX2_grow := goodIn_r _ [25, 1, 12, 17, 26, 27, 28, 29, 30, 31] (by decide +kernel) (by decide +kernel)
set_option maxRecDepth 20000 in
theorem gX2_join_X2_grow : GoodIn wsX2_join (wsV RX2 56 RX2 yX2_grow wsX2_grow) := goodIn_app (goodIn_of _ (by decide +kernel)) ggX2_join_X2_grow
theorem dX2_join_0 : decode cX2_join 0 = .ok (.aload_n 0, 1) := by decide +kernel
theorem dX2_join_1 : decode cX2_join 1 = .ok (.iload_n 1, 1) := by decide +kernel
theorem dX2_join_2 : decode cX2_join 2 = .ok (.invokevirtual 35, 3) := by decide +kernel
theorem dX2_join_5 : decode cX2_join 5 = .ok (.ifCond .eq 30, 3) := by decide +kernel
theorem dX2_join_8 : decode cX2_join 8 = .ok (.aload_n 0, 1) := by decide +kernel
theorem dX2_join_9 : decode cX2_join 9 = .ok (.iload_n 2, 1) := by decide +kernel
theorem dX2_join_10 : decode cX2_join 10 = .ok (.invokevirtual 35, 3) := by decide +kernel
theorem dX2_join_13 : decode cX2_join 13 = .ok (.ifCond .eq 22, 3) := by decide +kernel
theorem dX2_join_16 : decode cX2_join 16 = .ok (.aload_n 0, 1) := by decide +kernel
theorem dX2_join_17 : decode cX2_join 17 = .ok (.getfield 25, 3) := by decide +kernel
theorem dX2_join_20 : decode cX2_join 20 = .ok (.sipush 2500, 3) := by decide +kernel
theorem dX2_join_23 : decode cX2_join 23 = .ok (.if_icmp .ge 12, 3) := by decide +kernel
theorem dX2_join_26 : decode cX2_join 26 = .ok (.aload_n 0, 1) := by decide +kernel
theorem dX2_join_27 : decode cX2_join 27 = .ok (.iload_n 1, 1) := by decide +kernel
theorem dX2_join_28 : decode cX2_join 28 = .ok (.iload_n 2, 1) := by decide +kernel
theorem dX2_join_29 : decode cX2_join 29 = .ok (.invokevirtual 42, 3) := by decide +kernel
theorem dX2_join_32 : decode cX2_join 32 = .ok (.ifCond .eq 5, 3) := by decide +kernel
theorem dX2_join_35 : decode cX2_join 35 = .ok (.iconst 0, 1) := by decide +kernel
theorem dX2_join_36 : decode cX2_join 36 = .ok (.ireturn, 1) := by decide +kernel
theorem dX2_join_37 : decode cX2_join 37 = .ok (.aload_n 0, 1) := by decide +kernel
theorem dX2_join_38 : decode cX2_join 38 = .ok (.iload_n 1, 1) := by decide +kernel
theorem dX2_join_39 : decode cX2_join 39 = .ok (.iload_n 2, 1) := by decide +kernel
theorem dX2_join_40 : decode cX2_join 40 = .ok (.invokevirtual 46, 3) := by decide +kernel
theorem dX2_join_43 : decode cX2_join 43 = .ok (.istore_n 3, 1) := by decide +kernel
theorem dX2_join_44 : decode cX2_join 44 = .ok (.aload_n 0, 1) := by decide +kernel
theorem dX2_join_45 : decode cX2_join 45 = .ok (.getfield 15, 3) := by decide +kernel
theorem dX2_join_48 : decode cX2_join 48 = .ok (.iload_n 3, 1) := by decide +kernel
theorem dX2_join_49 : decode cX2_join 49 = .ok (.aload_n 0, 1) := by decide +kernel
theorem dX2_join_50 : decode cX2_join 50 = .ok (.getfield 15, 3) := by decide +kernel
theorem dX2_join_53 : decode cX2_join 53 = .ok (.iload_n 3, 1) := by decide +kernel
theorem dX2_join_54 : decode cX2_join 54 = .ok (.iconst 1, 1) := by decide +kernel
theorem dX2_join_55 : decode cX2_join 55 = .ok (.iadd, 1) := by decide +kernel
theorem dX2_join_56 : decode cX2_join 56 = .ok (.aload_n 0, 1) := by decide +kernel
theorem dX2_join_57 : decode cX2_join 57 = .ok (.getfield 25, 3) := by decide +kernel
theorem dX2_join_60 : decode cX2_join 60 = .ok (.iload_n 3, 1) := by decide +kernel
theorem dX2_join_61 : decode cX2_join 61 = .ok (.isub, 1) := by decide +kernel
theorem dX2_join_62 : decode cX2_join 62 = .ok (.invokestatic 50, 3) := by decide +kernel
theorem dX2_join_65 : decode cX2_join 65 = .ok (.aload_n 0, 1) := by decide +kernel
theorem dX2_join_66 : decode cX2_join 66 = .ok (.getfield 15, 3) := by decide +kernel
theorem dX2_join_69 : decode cX2_join 69 = .ok (.iload_n 3, 1) := by decide +kernel
theorem dX2_join_70 : decode cX2_join 70 = .ok (.iload_n 2, 1) := by decide +kernel
theorem dX2_join_71 : decode cX2_join 71 = .ok (.iastore, 1) := by decide +kernel
theorem dX2_join_72 : decode cX2_join 72 = .ok (.aload_n 0, 1) := by decide +kernel
theorem dX2_join_73 : decode cX2_join 73 = .ok (.iload_n 1, 1) := by decide +kernel
theorem dX2_join_74 : decode cX2_join 74 = .ok (.iconst 1, 1) := by decide +kernel
theorem dX2_join_75 : decode cX2_join 75 = .ok (.invokevirtual 56, 3) := by decide +kernel
theorem dX2_join_78 : decode cX2_join 78 = .ok (.iconst 1, 1) := by decide +kernel
theorem dX2_join_79 : decode cX2_join 79 = .ok (.ireturn, 1) := by decide +kernel
set_option maxRecDepth 20000 in
theorem ggX2_part_X2_joins : GoodIn wsX2_part wsX2_joins := goodIn_r _ [11, 12, 1, 13, 14, 15, 10, 16, 17, 18, 19, 20, 21, 26, 27, 28, 29, 30, 31] (by decide +kernel) (by decide +kernel)
set_option maxRecDepth 20000 in
theorem gX2_part_X2_joins : GoodIn wsX2_part (wsV RX2 42 RX2 yX2_joins wsX2_joins) := goodIn_app (goodIn_of _ (by decide +kernel)) ggX2_part_X2_joins
set_option maxRecDepth 20000 in
theorem ggX2_part_X2_spot : GoodIn wsX2_part wsX2_spot := goodIn_r _ [21, 12, 1, 26, 27, 28, 29, 30, 31] (by decide +kernel) (by decide +kernel)
set_option maxRecDepth 20000 in
theorem gX2_part_X2_spot : GoodIn wsX2_part (wsV RX2 46 RX2 yX2_spot wsX2_spot) := goodIn_app (goodIn_of _ (by decide +kernel)) ggX2_part_X2_spot
set_option maxRecDepth 20000 in
theorem ggX2_part_X2_grow : GoodIn wsX2_part wsX2_grow := goodIn_r _ [25, 2, 17, 12, 26, 27, 28, 29, 30, 31] (by decide +kernel) (by decide +kernel)
set_option maxRecDepth 20000 in
theorem gX2_part_X2_grow : GoodIn wsX2_part (wsV RX2 56 RX2 yX2_grow wsX2_grow) := goodIn_app (goodIn_of _ (by decide +kernel)) ggX2_part_X2_grow
theorem dX2_part_0 : decode cX2_part 0 = .ok (.aload_n 0, 1) := by decide +kernel
theorem dX2_part_1 : decode cX2_part 1 = .ok (.iload_n 1, 1) := by decide +kernel
theorem dX2_part_2 : decode cX2_part 2 = .ok (.iload_n 2, 1) := by decide +kernel
theorem dX2_part_3 : decode cX2_part 3 = .ok (.invokevirtual 42, 3) := by decide +kernel
theorem dX2_part_6 : decode cX2_part 6 = .ok (.ifCond .ne 5, 3) := by decide +kernel
theorem dX2_part_9 : decode cX2_part 9 = .ok (.iconst 0, 1) := by decide +kernel
theorem dX2_part_10 : decode cX2_part 10 = .ok (.ireturn, 1) := by decide +kernel
theorem dX2_part_11 : decode cX2_part 11 = .ok (.aload_n 0, 1) := by decide +kernel
theorem dX2_part_12 : decode cX2_part 12 = .ok (.iload_n 1, 1) := by decide +kernel
theorem dX2_part_13 : decode cX2_part 13 = .ok (.iload_n 2, 1) := by decide +kernel
theorem dX2_part_14 : decode cX2_part 14 = .ok (.invokevirtual 46, 3) := by decide +kernel
theorem dX2_part_17 : decode cX2_part 17 = .ok (.istore_n 3, 1) := by decide +kernel
theorem dX2_part_18 : decode cX2_part 18 = .ok (.aload_n 0, 1) := by decide +kernel
theorem dX2_part_19 : decode cX2_part 19 = .ok (.getfield 15, 3) := by decide +kernel
theorem dX2_part_22 : decode cX2_part 22 = .ok (.iload_n 3, 1) := by decide +kernel
theorem dX2_part_23 : decode cX2_part 23 = .ok (.iconst 1, 1) := by decide +kernel
theorem dX2_part_24 : decode cX2_part 24 = .ok (.iadd, 1) := by decide +kernel
theorem dX2_part_25 : decode cX2_part 25 = .ok (.aload_n 0, 1) := by decide +kernel
theorem dX2_part_26 : decode cX2_part 26 = .ok (.getfield 15, 3) := by decide +kernel
theorem dX2_part_29 : decode cX2_part 29 = .ok (.iload_n 3, 1) := by decide +kernel
theorem dX2_part_30 : decode cX2_part 30 = .ok (.aload_n 0, 1) := by decide +kernel
theorem dX2_part_31 : decode cX2_part 31 = .ok (.getfield 25, 3) := by decide +kernel
theorem dX2_part_34 : decode cX2_part 34 = .ok (.iload_n 3, 1) := by decide +kernel
theorem dX2_part_35 : decode cX2_part 35 = .ok (.isub, 1) := by decide +kernel
theorem dX2_part_36 : decode cX2_part 36 = .ok (.iconst 1, 1) := by decide +kernel
theorem dX2_part_37 : decode cX2_part 37 = .ok (.isub, 1) := by decide +kernel
theorem dX2_part_38 : decode cX2_part 38 = .ok (.invokestatic 50, 3) := by decide +kernel
theorem dX2_part_41 : decode cX2_part 41 = .ok (.aload_n 0, 1) := by decide +kernel
theorem dX2_part_42 : decode cX2_part 42 = .ok (.iload_n 1, 1) := by decide +kernel
theorem dX2_part_43 : decode cX2_part 43 = .ok (.iconst (-1), 1) := by decide +kernel
theorem dX2_part_44 : decode cX2_part 44 = .ok (.invokevirtual 56, 3) := by decide +kernel
theorem dX2_part_47 : decode cX2_part 47 = .ok (.iconst 1, 1) := by decide +kernel
theorem dX2_part_48 : decode cX2_part 48 = .ok (.ireturn, 1) := by decide +kernel
set_option maxRecDepth 20000 in
theorem ggX2_weigh_X2_isNode : GoodIn wsX2_weigh wsX2_isNode := goodIn_r _ [7, 8, 9, 10, 11, 12, 13, 14] (by decide +kernel) (by decide +kernel)
set_option maxRecDepth 20000 in
theorem gX2_weigh_X2_isNode : GoodIn wsX2_weigh (wsV RX2 35 RX2 yX2_isNode wsX2_isNode) := goodIn_app (goodIn_of _ (by decide +kernel)) ggX2_weigh_X2_isNode
theorem dX2_weigh_0 : decode cX2_weigh 0 = .ok (.aload_n 0, 1) := by decide +kernel
theorem dX2_weigh_1 : decode cX2_weigh 1 = .ok (.iload_n 1, 1) := by decide +kernel
theorem dX2_weigh_2 : decode cX2_weigh 2 = .ok (.invokevirtual 35, 3) := by decide +kernel
theorem dX2_weigh_5 : decode cX2_weigh 5 = .ok (.ifCond .eq 30, 3) := by decide +kernel
theorem dX2_weigh_8 : decode cX2_weigh 8 = .ok (.iload_n 2, 1) := by decide +kernel
theorem dX2_weigh_9 : decode cX2_weigh 9 = .ok (.ifCond .lt 26, 3) := by decide +kernel
theorem dX2_weigh_12 : decode cX2_weigh 12 = .ok (.iload_n 2, 1) := by decide +kernel
theorem dX2_weigh_13 : decode cX2_weigh 13 = .ok (.sipush 1000, 3) := by decide +kernel
theorem dX2_weigh_16 : decode cX2_weigh 16 = .ok (.if_icmp .gt 19, 3) := by decide +kernel
theorem dX2_weigh_19 : decode cX2_weigh 19 = .ok (.aload_n 0, 1) := by decide +kernel
theorem dX2_weigh_20 : decode cX2_weigh 20 = .ok (.getfield 28, 3) := by decide +kernel
theorem dX2_weigh_23 : decode cX2_weigh 23 = .ok (.aload_n 0, 1) := by decide +kernel
theorem dX2_weigh_24 : decode cX2_weigh 24 = .ok (.getfield 18, 3) := by decide +kernel
theorem dX2_weigh_27 : decode cX2_weigh 27 = .ok (.iload_n 1, 1) := by decide +kernel
theorem dX2_weigh_28 : decode cX2_weigh 28 = .ok (.iaload, 1) := by decide +kernel
theorem dX2_weigh_29 : decode cX2_weigh 29 = .ok (.isub, 1) := by decide +kernel
theorem dX2_weigh_30 : decode cX2_weigh 30 = .ok (.iload_n 2, 1) := by decide +kernel
theorem dX2_weigh_31 : decode cX2_weigh 31 = .ok (.iadd, 1) := by decide +kernel
theorem dX2_weigh_32 : decode cX2_weigh 32 = .ok (.ifCond .ne 5, 3) := by decide +kernel
theorem dX2_weigh_35 : decode cX2_weigh 35 = .ok (.iconst 0, 1) := by decide +kernel
theorem dX2_weigh_36 : decode cX2_weigh 36 = .ok (.ireturn, 1) := by decide +kernel
theorem dX2_weigh_37 : decode cX2_weigh 37 = .ok (.aload_n 0, 1) := by decide +kernel
theorem dX2_weigh_38 : decode cX2_weigh 38 = .ok (.dup, 1) := by decide +kernel
theorem dX2_weigh_39 : decode cX2_weigh 39 = .ok (.getfield 28, 3) := by decide +kernel
theorem dX2_weigh_42 : decode cX2_weigh 42 = .ok (.iload_n 2, 1) := by decide +kernel
theorem dX2_weigh_43 : decode cX2_weigh 43 = .ok (.aload_n 0, 1) := by decide +kernel
theorem dX2_weigh_44 : decode cX2_weigh 44 = .ok (.getfield 18, 3) := by decide +kernel
theorem dX2_weigh_47 : decode cX2_weigh 47 = .ok (.iload_n 1, 1) := by decide +kernel
theorem dX2_weigh_48 : decode cX2_weigh 48 = .ok (.iaload, 1) := by decide +kernel
theorem dX2_weigh_49 : decode cX2_weigh 49 = .ok (.isub, 1) := by decide +kernel
theorem dX2_weigh_50 : decode cX2_weigh 50 = .ok (.iadd, 1) := by decide +kernel
theorem dX2_weigh_51 : decode cX2_weigh 51 = .ok (.putfield 28, 3) := by decide +kernel
theorem dX2_weigh_54 : decode cX2_weigh 54 = .ok (.aload_n 0, 1) := by decide +kernel
theorem dX2_weigh_55 : decode cX2_weigh 55 = .ok (.getfield 18, 3) := by decide +kernel
theorem dX2_weigh_58 : decode cX2_weigh 58 = .ok (.iload_n 1, 1) := by decide +kernel
theorem dX2_weigh_59 : decode cX2_weigh 59 = .ok (.iload_n 2, 1) := by decide +kernel
theorem dX2_weigh_60 : decode cX2_weigh 60 = .ok (.iastore, 1) := by decide +kernel
theorem dX2_weigh_61 : decode cX2_weigh 61 = .ok (.iconst 1, 1) := by decide +kernel
theorem dX2_weigh_62 : decode cX2_weigh 62 = .ok (.ireturn, 1) := by decide +kernel
set_option maxRecDepth 20000 in
theorem ggX2_bareNodes_X2_outOf : GoodIn wsX2_bareNodes wsX2_outOf := goodIn_r _ [6, 7, 8, 9, 10, 5, 11, 1, 12, 13, 14, 15, 16, 17] (by decide +kernel) (by decide +kernel)
set_option maxRecDepth 20000 in
theorem gX2_bareNodes_X2_outOf : GoodIn wsX2_bareNodes (wsV RX2 38 RX2 yX2_outOf wsX2_outOf) := goodIn_app (goodIn_of _ (by decide +kernel)) ggX2_bareNodes_X2_outOf
theorem dX2_bareNodes_0 : decode cX2_bareNodes 0 = .ok (.iconst 0, 1) := by decide +kernel
theorem dX2_bareNodes_1 : decode cX2_bareNodes 1 = .ok (.istore_n 1, 1) := by decide +kernel
theorem dX2_bareNodes_2 : decode cX2_bareNodes 2 = .ok (.iconst 0, 1) := by decide +kernel
theorem dX2_bareNodes_3 : decode cX2_bareNodes 3 = .ok (.istore_n 2, 1) := by decide +kernel
theorem dX2_bareNodes_4 : decode cX2_bareNodes 4 = .ok (.iload_n 2, 1) := by decide +kernel
theorem dX2_bareNodes_5 : decode cX2_bareNodes 5 = .ok (.aload_n 0, 1) := by decide +kernel
theorem dX2_bareNodes_6 : decode cX2_bareNodes 6 = .ok (.getfield 21, 3) := by decide +kernel
theorem dX2_bareNodes_9 : decode cX2_bareNodes 9 = .ok (.if_icmp .ge 20, 3) := by decide +kernel
theorem dX2_bareNodes_12 : decode cX2_bareNodes 12 = .ok (.aload_n 0, 1) := by decide +kernel
theorem dX2_bareNodes_13 : decode cX2_bareNodes 13 = .ok (.iload_n 2, 1) := by decide +kernel
theorem dX2_bareNodes_14 : decode cX2_bareNodes 14 = .ok (.invokevirtual 38, 3) := by decide +kernel
theorem dX2_bareNodes_17 : decode cX2_bareNodes 17 = .ok (.ifCond .ne 6, 3) := by decide +kernel
theorem dX2_bareNodes_20 : decode cX2_bareNodes 20 = .ok (.iinc 1 1, 3) := by decide +kernel
theorem dX2_bareNodes_23 : decode cX2_bareNodes 23 = .ok (.iinc 2 1, 3) := by decide +kernel
theorem dX2_bareNodes_26 : decode cX2_bareNodes 26 = .ok (.goto (-22), 3) := by decide +kernel
theorem dX2_bareNodes_29 : decode cX2_bareNodes 29 = .ok (.iload_n 1, 1) := by decide +kernel
theorem dX2_bareNodes_30 : decode cX2_bareNodes 30 = .ok (.ireturn, 1) := by decide +kernel
theorem dX2_spot_0 : decode cX2_spot 0 = .ok (.aload_n 0, 1) := by decide +kernel
theorem dX2_spot_1 : decode cX2_spot 1 = .ok (.getfield 9, 3) := by decide +kernel
theorem dX2_spot_4 : decode cX2_spot 4 = .ok (.iload_n 1, 1) := by decide +kernel
theorem dX2_spot_5 : decode cX2_spot 5 = .ok (.iaload, 1) := by decide +kernel
theorem dX2_spot_6 : decode cX2_spot 6 = .ok (.istore_n 3, 1) := by decide +kernel
theorem dX2_spot_7 : decode cX2_spot 7 = .ok (.iload_n 3, 1) := by decide +kernel
theorem dX2_spot_8 : decode cX2_spot 8 = .ok (.aload_n 0, 1) := by decide +kernel
theorem dX2_spot_9 : decode cX2_spot 9 = .ok (.getfield 9, 3) := by decide +kernel
theorem dX2_spot_12 : decode cX2_spot 12 = .ok (.iload_n 1, 1) := by decide +kernel
theorem dX2_spot_13 : decode cX2_spot 13 = .ok (.iconst 1, 1) := by decide +kernel
theorem dX2_spot_14 : decode cX2_spot 14 = .ok (.iadd, 1) := by decide +kernel
theorem dX2_spot_15 : decode cX2_spot 15 = .ok (.iaload, 1) := by decide +kernel
theorem dX2_spot_16 : decode cX2_spot 16 = .ok (.if_icmp .ge 19, 3) := by decide +kernel
theorem dX2_spot_19 : decode cX2_spot 19 = .ok (.aload_n 0, 1) := by decide +kernel
theorem dX2_spot_20 : decode cX2_spot 20 = .ok (.getfield 15, 3) := by decide +kernel
theorem dX2_spot_23 : decode cX2_spot 23 = .ok (.iload_n 3, 1) := by decide +kernel
theorem dX2_spot_24 : decode cX2_spot 24 = .ok (.iaload, 1) := by decide +kernel
theorem dX2_spot_25 : decode cX2_spot 25 = .ok (.iload_n 2, 1) := by decide +kernel
theorem dX2_spot_26 : decode cX2_spot 26 = .ok (.if_icmp .ge 9, 3) := by decide +kernel
theorem dX2_spot_29 : decode cX2_spot 29 = .ok (.iinc 3 1, 3) := by decide +kernel
theorem dX2_spot_32 : decode cX2_spot 32 = .ok (.goto (-25), 3) := by decide +kernel
theorem dX2_spot_35 : decode cX2_spot 35 = .ok (.iload_n 3, 1) := by decide +kernel
theorem dX2_spot_36 : decode cX2_spot 36 = .ok (.ireturn, 1) := by decide +kernel
theorem dX2_grow_0 : decode cX2_grow 0 = .ok (.aload_n 0, 1) := by decide +kernel
theorem dX2_grow_1 : decode cX2_grow 1 = .ok (.dup, 1) := by decide +kernel
theorem dX2_grow_2 : decode cX2_grow 2 = .ok (.getfield 25, 3) := by decide +kernel
theorem dX2_grow_5 : decode cX2_grow 5 = .ok (.iload_n 2, 1) := by decide +kernel
theorem dX2_grow_6 : decode cX2_grow 6 = .ok (.iadd, 1) := by decide +kernel
theorem dX2_grow_7 : decode cX2_grow 7 = .ok (.putfield 25, 3) := by decide +kernel
theorem dX2_grow_10 : decode cX2_grow 10 = .ok (.iload_n 1, 1) := by decide +kernel
theorem dX2_grow_11 : decode cX2_grow 11 = .ok (.iconst 1, 1) := by decide +kernel
theorem dX2_grow_12 : decode cX2_grow 12 = .ok (.iadd, 1) := by decide +kernel
theorem dX2_grow_13 : decode cX2_grow 13 = .ok (.istore_n 3, 1) := by decide +kernel
theorem dX2_grow_14 : decode cX2_grow 14 = .ok (.iload_n 3, 1) := by decide +kernel
theorem dX2_grow_15 : decode cX2_grow 15 = .ok (.aload_n 0, 1) := by decide +kernel
theorem dX2_grow_16 : decode cX2_grow 16 = .ok (.getfield 21, 3) := by decide +kernel
theorem dX2_grow_19 : decode cX2_grow 19 = .ok (.if_icmp .gt 19, 3) := by decide +kernel
theorem dX2_grow_22 : decode cX2_grow 22 = .ok (.aload_n 0, 1) := by decide +kernel
theorem dX2_grow_23 : decode cX2_grow 23 = .ok (.getfield 9, 3) := by decide +kernel
theorem dX2_grow_26 : decode cX2_grow 26 = .ok (.iload_n 3, 1) := by decide +kernel
theorem dX2_grow_27 : decode cX2_grow 27 = .ok (.dup2, 1) := by decide +kernel
theorem dX2_grow_28 : decode cX2_grow 28 = .ok (.iaload, 1) := by decide +kernel
theorem dX2_grow_29 : decode cX2_grow 29 = .ok (.iload_n 2, 1) := by decide +kernel
theorem dX2_grow_30 : decode cX2_grow 30 = .ok (.iadd, 1) := by decide +kernel
theorem dX2_grow_31 : decode cX2_grow 31 = .ok (.iastore, 1) := by decide +kernel
theorem dX2_grow_32 : decode cX2_grow 32 = .ok (.iinc 3 1, 3) := by decide +kernel
theorem dX2_grow_35 : decode cX2_grow 35 = .ok (.goto (-21), 3) := by decide +kernel
theorem dX2_grow_38 : decode cX2_grow 38 = .ok (.return_, 1) := by decide +kernel
theorem dX3_init_0 : decode cX3_init 0 = .ok (.aload_n 0, 1) := by decide +kernel
theorem dX3_init_1 : decode cX3_init 1 = .ok (.invokespecial 3, 3) := by decide +kernel
theorem dX3_init_4 : decode cX3_init 4 = .ok (.aload_n 0, 1) := by decide +kernel
theorem dX3_init_5 : decode cX3_init 5 = .ok (.sipush 250, 3) := by decide +kernel
theorem dX3_init_8 : decode cX3_init 8 = .ok (.newarray .int, 2) := by decide +kernel
theorem dX3_init_10 : decode cX3_init 10 = .ok (.putfield 9, 3) := by decide +kernel
theorem dX3_init_13 : decode cX3_init 13 = .ok (.aload_n 0, 1) := by decide +kernel
theorem dX3_init_14 : decode cX3_init 14 = .ok (.sipush 250, 3) := by decide +kernel
theorem dX3_init_17 : decode cX3_init 17 = .ok (.newarray .long, 2) := by decide +kernel
theorem dX3_init_19 : decode cX3_init 19 = .ok (.putfield 15, 3) := by decide +kernel
theorem dX3_init_22 : decode cX3_init 22 = .ok (.aload_n 0, 1) := by decide +kernel
theorem dX3_init_23 : decode cX3_init 23 = .ok (.iconst 0, 1) := by decide +kernel
theorem dX3_init_24 : decode cX3_init 24 = .ok (.putfield 19, 3) := by decide +kernel
theorem dX3_init_27 : decode cX3_init 27 = .ok (.return_, 1) := by decide +kernel
theorem dX3_place_0 : decode cX3_place 0 = .ok (.aload_n 0, 1) := by decide +kernel
theorem dX3_place_1 : decode cX3_place 1 = .ok (.getfield 19, 3) := by decide +kernel
theorem dX3_place_4 : decode cX3_place 4 = .ok (.sipush 250, 3) := by decide +kernel
theorem dX3_place_7 : decode cX3_place 7 = .ok (.if_icmp .lt 4, 3) := by decide +kernel
theorem dX3_place_10 : decode cX3_place 10 = .ok (.return_, 1) := by decide +kernel
theorem dX3_place_11 : decode cX3_place 11 = .ok (.aload_n 0, 1) := by decide +kernel
theorem dX3_place_12 : decode cX3_place 12 = .ok (.getfield 19, 3) := by decide +kernel
theorem dX3_place_15 : decode cX3_place 15 = .ok (.istore 4, 2) := by decide +kernel
theorem dX3_place_17 : decode cX3_place 17 = .ok (.iload 4, 2) := by decide +kernel
theorem dX3_place_19 : decode cX3_place 19 = .ok (.ifCond .le 55, 3) := by decide +kernel
theorem dX3_place_22 : decode cX3_place 22 = .ok (.aload_n 0, 1) := by decide +kernel
theorem dX3_place_23 : decode cX3_place 23 = .ok (.getfield 15, 3) := by decide +kernel
theorem dX3_place_26 : decode cX3_place 26 = .ok (.iload 4, 2) := by decide +kernel
theorem dX3_place_28 : decode cX3_place 28 = .ok (.iconst 1, 1) := by decide +kernel
theorem dX3_place_29 : decode cX3_place 29 = .ok (.isub, 1) := by decide +kernel
theorem dX3_place_30 : decode cX3_place 30 = .ok (.laload, 1) := by decide +kernel
theorem dX3_place_31 : decode cX3_place 31 = .ok (.lload_n 2, 1) := by decide +kernel
theorem dX3_place_32 : decode cX3_place 32 = .ok (.lcmp, 1) := by decide +kernel
theorem dX3_place_33 : decode cX3_place 33 = .ok (.ifCond .ge 41, 3) := by decide +kernel
theorem dX3_place_36 : decode cX3_place 36 = .ok (.aload_n 0, 1) := by decide +kernel
theorem dX3_place_37 : decode cX3_place 37 = .ok (.getfield 9, 3) := by decide +kernel
theorem dX3_place_40 : decode cX3_place 40 = .ok (.iload 4, 2) := by decide +kernel
theorem dX3_place_42 : decode cX3_place 42 = .ok (.aload_n 0, 1) := by decide +kernel
theorem dX3_place_43 : decode cX3_place 43 = .ok (.getfield 9, 3) := by decide +kernel
theorem dX3_place_46 : decode cX3_place 46 = .ok (.iload 4, 2) := by decide +kernel
theorem dX3_place_48 : decode cX3_place 48 = .ok (.iconst 1, 1) := by decide +kernel
theorem dX3_place_49 : decode cX3_place 49 = .ok (.isub, 1) := by decide +kernel
theorem dX3_place_50 : decode cX3_place 50 = .ok (.iaload, 1) := by decide +kernel
theorem dX3_place_51 : decode cX3_place 51 = .ok (.iastore, 1) := by decide +kernel
theorem dX3_place_52 : decode cX3_place 52 = .ok (.aload_n 0, 1) := by decide +kernel
theorem dX3_place_53 : decode cX3_place 53 = .ok (.getfield 15, 3) := by decide +kernel
theorem dX3_place_56 : decode cX3_place 56 = .ok (.iload 4, 2) := by decide +kernel
theorem dX3_place_58 : decode cX3_place 58 = .ok (.aload_n 0, 1) := by decide +kernel
theorem dX3_place_59 : decode cX3_place 59 = .ok (.getfield 15, 3) := by decide +kernel
theorem dX3_place_62 : decode cX3_place 62 = .ok (.iload 4, 2) := by decide +kernel
theorem dX3_place_64 : decode cX3_place 64 = .ok (.iconst 1, 1) := by decide +kernel
theorem dX3_place_65 : decode cX3_place 65 = .ok (.isub, 1) := by decide +kernel
theorem dX3_place_66 : decode cX3_place 66 = .ok (.laload, 1) := by decide +kernel
theorem dX3_place_67 : decode cX3_place 67 = .ok (.lastore, 1) := by decide +kernel
theorem dX3_place_68 : decode cX3_place 68 = .ok (.iinc 4 (-1), 3) := by decide +kernel
theorem dX3_place_71 : decode cX3_place 71 = .ok (.goto (-54), 3) := by decide +kernel
theorem dX3_place_74 : decode cX3_place 74 = .ok (.aload_n 0, 1) := by decide +kernel
theorem dX3_place_75 : decode cX3_place 75 = .ok (.getfield 9, 3) := by decide +kernel
theorem dX3_place_78 : decode cX3_place 78 = .ok (.iload 4, 2) := by decide +kernel
theorem dX3_place_80 : decode cX3_place 80 = .ok (.iload_n 1, 1) := by decide +kernel
theorem dX3_place_81 : decode cX3_place 81 = .ok (.iastore, 1) := by decide +kernel
theorem dX3_place_82 : decode cX3_place 82 = .ok (.aload_n 0, 1) := by decide +kernel
theorem dX3_place_83 : decode cX3_place 83 = .ok (.getfield 15, 3) := by decide +kernel
theorem dX3_place_86 : decode cX3_place 86 = .ok (.iload 4, 2) := by decide +kernel
theorem dX3_place_88 : decode cX3_place 88 = .ok (.lload_n 2, 1) := by decide +kernel
theorem dX3_place_89 : decode cX3_place 89 = .ok (.lastore, 1) := by decide +kernel
theorem dX3_place_90 : decode cX3_place 90 = .ok (.aload_n 0, 1) := by decide +kernel
theorem dX3_place_91 : decode cX3_place 91 = .ok (.dup, 1) := by decide +kernel
theorem dX3_place_92 : decode cX3_place 92 = .ok (.getfield 19, 3) := by decide +kernel
theorem dX3_place_95 : decode cX3_place 95 = .ok (.iconst 1, 1) := by decide +kernel
theorem dX3_place_96 : decode cX3_place 96 = .ok (.iadd, 1) := by decide +kernel
theorem dX3_place_97 : decode cX3_place 97 = .ok (.putfield 19, 3) := by decide +kernel
theorem dX3_place_100 : decode cX3_place 100 = .ok (.return_, 1) := by decide +kernel
theorem dX3_node_0 : decode cX3_node 0 = .ok (.iload_n 1, 1) := by decide +kernel
theorem dX3_node_1 : decode cX3_node 1 = .ok (.ifCond .lt 20, 3) := by decide +kernel
theorem dX3_node_4 : decode cX3_node 4 = .ok (.iload_n 1, 1) := by decide +kernel
theorem dX3_node_5 : decode cX3_node 5 = .ok (.aload_n 0, 1) := by decide +kernel
theorem dX3_node_6 : decode cX3_node 6 = .ok (.getfield 19, 3) := by decide +kernel
theorem dX3_node_9 : decode cX3_node 9 = .ok (.if_icmp .ge 12, 3) := by decide +kernel
theorem dX3_node_12 : decode cX3_node 12 = .ok (.aload_n 0, 1) := by decide +kernel
theorem dX3_node_13 : decode cX3_node 13 = .ok (.getfield 9, 3) := by decide +kernel
theorem dX3_node_16 : decode cX3_node 16 = .ok (.iload_n 1, 1) := by decide +kernel
theorem dX3_node_17 : decode cX3_node 17 = .ok (.iaload, 1) := by decide +kernel
theorem dX3_node_18 : decode cX3_node 18 = .ok (.goto 4, 3) := by decide +kernel
theorem dX3_node_21 : decode cX3_node 21 = .ok (.iconst (-1), 1) := by decide +kernel
theorem dX3_node_22 : decode cX3_node 22 = .ok (.ireturn, 1) := by decide +kernel
end
section
theorem dX4_init_0 : decode cX4_init 0 = .ok (.aload_n 0, 1) := by decide +kernel
theorem dX4_init_1 : decode cX4_init 1 = .ok (.invokespecial 3, 3) := by decide +kernel
theorem dX4_init_4 : decode cX4_init 4 = .ok (.aload_n 0, 1) := by decide +kernel
theorem dX4_init_5 : decode cX4_init 5 = .ok (.sipush 250, 3) := by decide +kernel
theorem dX4_init_8 : decode cX4_init 8 = .ok (.newarray .long, 2) := by decide +kernel
theorem dX4_init_10 : decode cX4_init 10 = .ok (.putfield 9, 3) := by decide +kernel
theorem dX4_init_13 : decode cX4_init 13 = .ok (.aload_n 0, 1) := by decide +kernel
theorem dX4_init_14 : decode cX4_init 14 = .ok (.sipush 250, 3) := by decide +kernel
theorem dX4_init_17 : decode cX4_init 17 = .ok (.newarray .long, 2) := by decide +kernel
theorem dX4_init_19 : decode cX4_init 19 = .ok (.putfield 15, 3) := by decide +kernel
theorem dX4_init_22 : decode cX4_init 22 = .ok (.aload_n 0, 1) := by decide +kernel
theorem dX4_init_23 : decode cX4_init 23 = .ok (.bipush 17, 2) := by decide +kernel
theorem dX4_init_25 : decode cX4_init 25 = .ok (.putfield 18, 3) := by decide +kernel
theorem dX4_init_28 : decode cX4_init 28 = .ok (.aload_n 0, 1) := by decide +kernel
theorem dX4_init_29 : decode cX4_init 29 = .ok (.bipush 20, 2) := by decide +kernel
theorem dX4_init_31 : decode cX4_init 31 = .ok (.putfield 22, 3) := by decide +kernel
theorem dX4_init_34 : decode cX4_init 34 = .ok (.return_, 1) := by decide +kernel
set_option maxRecDepth 20000 in
theorem ggX4_begin_X5_quotient : GoodIn wsX4_begin wsX5_quotient := goodIn_r _ [9] (by decide +kernel) (by decide +kernel)
set_option maxRecDepth 20000 in
theorem gX4_begin_X5_quotient_n32 : GoodIn wsX4_begin (wsX5_quotient) := ggX4_begin_X5_quotient
theorem dX4_begin_0 : decode cX4_begin 0 = .ok (.aload_n 1, 1) := by decide +kernel
theorem dX4_begin_1 : decode cX4_begin 1 = .ok (.getfield 25, 3) := by decide +kernel
theorem dX4_begin_4 : decode cX4_begin 4 = .ok (.istore_n 2, 1) := by decide +kernel
theorem dX4_begin_5 : decode cX4_begin 5 = .ok (.ldc2_w 30, 3) := by decide +kernel
theorem dX4_begin_8 : decode cX4_begin 8 = .ok (.iload_n 2, 1) := by decide +kernel
theorem dX4_begin_9 : decode cX4_begin 9 = .ok (.i2l, 1) := by decide +kernel
theorem dX4_begin_10 : decode cX4_begin 10 = .ok (.invokestatic 32, 3) := by decide +kernel
theorem dX4_begin_13 : decode cX4_begin 13 = .ok (.lstore_n 3, 1) := by decide +kernel
theorem dX4_begin_14 : decode cX4_begin 14 = .ok (.ldc2_w 30, 3) := by decide +kernel
theorem dX4_begin_17 : decode cX4_begin 17 = .ok (.lload_n 3, 1) := by decide +kernel
theorem dX4_begin_18 : decode cX4_begin 18 = .ok (.iload_n 2, 1) := by decide +kernel
theorem dX4_begin_19 : decode cX4_begin 19 = .ok (.i2l, 1) := by decide +kernel
theorem dX4_begin_20 : decode cX4_begin 20 = .ok (.lmul, 1) := by decide +kernel
theorem dX4_begin_21 : decode cX4_begin 21 = .ok (.lsub, 1) := by decide +kernel
theorem dX4_begin_22 : decode cX4_begin 22 = .ok (.lstore 5, 2) := by decide +kernel
theorem dX4_begin_24 : decode cX4_begin 24 = .ok (.iconst 0, 1) := by decide +kernel
theorem dX4_begin_25 : decode cX4_begin 25 = .ok (.istore 7, 2) := by decide +kernel
theorem dX4_begin_27 : decode cX4_begin 27 = .ok (.iload 7, 2) := by decide +kernel
theorem dX4_begin_29 : decode cX4_begin 29 = .ok (.iload_n 2, 1) := by decide +kernel
theorem dX4_begin_30 : decode cX4_begin 30 = .ok (.if_icmp .ge 32, 3) := by decide +kernel
theorem dX4_begin_33 : decode cX4_begin 33 = .ok (.aload_n 0, 1) := by decide +kernel
theorem dX4_begin_34 : decode cX4_begin 34 = .ok (.getfield 9, 3) := by decide +kernel
theorem dX4_begin_37 : decode cX4_begin 37 = .ok (.iload 7, 2) := by decide +kernel
theorem dX4_begin_39 : decode cX4_begin 39 = .ok (.iload 7, 2) := by decide +kernel
theorem dX4_begin_41 : decode cX4_begin 41 = .ok (.i2l, 1) := by decide +kernel
theorem dX4_begin_42 : decode cX4_begin 42 = .ok (.lload 5, 2) := by decide +kernel
theorem dX4_begin_44 : decode cX4_begin 44 = .ok (.lcmp, 1) := by decide +kernel
theorem dX4_begin_45 : decode cX4_begin 45 = .ok (.ifCond .ge 9, 3) := by decide +kernel
theorem dX4_begin_48 : decode cX4_begin 48 = .ok (.lload_n 3, 1) := by decide +kernel
theorem dX4_begin_49 : decode cX4_begin 49 = .ok (.lconst 1, 1) := by decide +kernel
theorem dX4_begin_50 : decode cX4_begin 50 = .ok (.ladd, 1) := by decide +kernel
theorem dX4_begin_51 : decode cX4_begin 51 = .ok (.goto 4, 3) := by decide +kernel
theorem dX4_begin_54 : decode cX4_begin 54 = .ok (.lload_n 3, 1) := by decide +kernel
theorem dX4_begin_55 : decode cX4_begin 55 = .ok (.lastore, 1) := by decide +kernel
theorem dX4_begin_56 : decode cX4_begin 56 = .ok (.iinc 7 1, 3) := by decide +kernel
theorem dX4_begin_59 : decode cX4_begin 59 = .ok (.goto (-32), 3) := by decide +kernel
theorem dX4_begin_62 : decode cX4_begin 62 = .ok (.aload_n 0, 1) := by decide +kernel
theorem dX4_begin_63 : decode cX4_begin 63 = .ok (.iconst 0, 1) := by decide +kernel
theorem dX4_begin_64 : decode cX4_begin 64 = .ok (.putfield 36, 3) := by decide +kernel
theorem dX4_begin_67 : decode cX4_begin 67 = .ok (.aload_n 0, 1) := by decide +kernel
theorem dX4_begin_68 : decode cX4_begin 68 = .ok (.ldc2_w 39, 3) := by decide +kernel
theorem dX4_begin_71 : decode cX4_begin 71 = .ok (.putfield 41, 3) := by decide +kernel
theorem dX4_begin_74 : decode cX4_begin 74 = .ok (.aload_n 0, 1) := by decide +kernel
theorem dX4_begin_75 : decode cX4_begin 75 = .ok (.ldc2_w 39, 3) := by decide +kernel
theorem dX4_begin_78 : decode cX4_begin 78 = .ok (.putfield 45, 3) := by decide +kernel
theorem dX4_begin_81 : decode cX4_begin 81 = .ok (.return_, 1) := by decide +kernel
theorem dX4_damp_0 : decode cX4_damp 0 = .ok (.iload_n 1, 1) := by decide +kernel
theorem dX4_damp_1 : decode cX4_damp 1 = .ok (.ifCond .lt 14, 3) := by decide +kernel
theorem dX4_damp_4 : decode cX4_damp 4 = .ok (.iload_n 1, 1) := by decide +kernel
theorem dX4_damp_5 : decode cX4_damp 5 = .ok (.iload_n 2, 1) := by decide +kernel
theorem dX4_damp_6 : decode cX4_damp 6 = .ok (.if_icmp .ge 9, 3) := by decide +kernel
theorem dX4_damp_9 : decode cX4_damp 9 = .ok (.iload_n 2, 1) := by decide +kernel
theorem dX4_damp_10 : decode cX4_damp 10 = .ok (.ldc 48, 2) := by decide +kernel
theorem dX4_damp_12 : decode cX4_damp 12 = .ok (.if_icmp .lt 5, 3) := by decide +kernel
theorem dX4_damp_15 : decode cX4_damp 15 = .ok (.iconst 0, 1) := by decide +kernel
theorem dX4_damp_16 : decode cX4_damp 16 = .ok (.ireturn, 1) := by decide +kernel
theorem dX4_damp_17 : decode cX4_damp 17 = .ok (.aload_n 0, 1) := by decide +kernel
theorem dX4_damp_18 : decode cX4_damp 18 = .ok (.iload_n 1, 1) := by decide +kernel
theorem dX4_damp_19 : decode cX4_damp 19 = .ok (.putfield 18, 3) := by decide +kernel
theorem dX4_damp_22 : decode cX4_damp 22 = .ok (.aload_n 0, 1) := by decide +kernel
theorem dX4_damp_23 : decode cX4_damp 23 = .ok (.iload_n 2, 1) := by decide +kernel
theorem dX4_damp_24 : decode cX4_damp 24 = .ok (.putfield 22, 3) := by decide +kernel
theorem dX4_damp_27 : decode cX4_damp 27 = .ok (.iconst 1, 1) := by decide +kernel
theorem dX4_damp_28 : decode cX4_damp 28 = .ok (.ireturn, 1) := by decide +kernel
theorem dX4_areStill_0 : decode cX4_areStill 0 = .ok (.aload_n 0, 1) := by decide +kernel
theorem dX4_areStill_1 : decode cX4_areStill 1 = .ok (.getfield 36, 3) := by decide +kernel
theorem dX4_areStill_4 : decode cX4_areStill 4 = .ok (.ifCond .le 16, 3) := by decide +kernel
theorem dX4_areStill_7 : decode cX4_areStill 7 = .ok (.aload_n 0, 1) := by decide +kernel
theorem dX4_areStill_8 : decode cX4_areStill 8 = .ok (.getfield 41, 3) := by decide +kernel
theorem dX4_areStill_11 : decode cX4_areStill 11 = .ok (.lload_n 1, 1) := by decide +kernel
theorem dX4_areStill_12 : decode cX4_areStill 12 = .ok (.lcmp, 1) := by decide +kernel
theorem dX4_areStill_13 : decode cX4_areStill 13 = .ok (.ifCond .gt 7, 3) := by decide +kernel
theorem dX4_areStill_16 : decode cX4_areStill 16 = .ok (.iconst 1, 1) := by decide +kernel
theorem dX4_areStill_17 : decode cX4_areStill 17 = .ok (.goto 4, 3) := by decide +kernel
theorem dX4_areStill_20 : decode cX4_areStill 20 = .ok (.iconst 0, 1) := by decide +kernel
theorem dX4_areStill_21 : decode cX4_areStill 21 = .ok (.ireturn, 1) := by decide +kernel
set_option maxRecDepth 20000 in
theorem ggX4_step_X4_bareSum : GoodIn wsX4_step wsX4_bareSum := goodIn_r _ [13, 6, 14, 15, 16, 17, 18, 19, 20, 21, 22, 23, 24, 51, 52, 53, 54, 55, 56, 44, 45, 46, 47, 48, 49, 50] (by decide +kernel) (by decide +kernel)
set_option maxRecDepth 20000 in
theorem gX4_step_X4_bareSum : GoodIn wsX4_step (wsV RX4 49 RX4 yX4_bareSum wsX4_bareSum) := goodIn_app (goodIn_of _ (by decide +kernel)) ggX4_step_X4_bareSum
set_option maxRecDepth 20000 in
theorem ggX4_step_X5_quotient : GoodIn wsX4_step wsX5_quotient := goodIn_r _ [27] (by decide +kernel) (by decide +kernel)
set_option maxRecDepth 20000 in
theorem gX4_step_X5_quotient_n32 : GoodIn wsX4_step (wsX5_quotient) := ggX4_step_X5_quotient
set_option maxRecDepth 20000 in
theorem ggX4_step_X4_shareOut : GoodIn wsX4_step wsX4_shareOut := goodIn_r _ [31, 4, 32, 33, 34, 12, 35, 2, 6, 1, 14, 15, 16, 17, 18, 19, 20, 21, 22, 23, 24, 25, 26, 27, 51, 52, 53, 54, 55, 56, 44, 45, 46, 47, 48, 49, 50] (by decide +kernel) (by decide +kernel)
set_option maxRecDepth 20000 in
theorem gX4_step_X4_shareOut : GoodIn wsX4_step (wsV RX4 60 RX4 yX4_shareOut wsX4_shareOut) := goodIn_app (goodIn_of _ (by decide +kernel)) ggX4_step_X4_shareOut
set_option maxRecDepth 20000 in
theorem ggX4_step_X4_distance : GoodIn wsX4_step wsX4_distance := goodIn_r _ [39, 4, 6, 40, 41, 42, 43, 44, 45, 46, 47, 48, 49, 50] (by decide +kernel) (by decide +kernel)
set_option maxRecDepth 20000 in
theorem gX4_step_X4_distance : GoodIn wsX4_step (wsV RX4 64 RX4 yX4_distance wsX4_distance) := goodIn_app (goodIn_of _ (by decide +kernel)) ggX4_step_X4_distance
theorem dX4_step_0 : decode cX4_step 0 = .ok (.aload_n 0, 1) := by decide +kernel
theorem dX4_step_1 : decode cX4_step 1 = .ok (.getfield 22, 3) := by decide +kernel
theorem dX4_step_4 : decode cX4_step 4 = .ok (.aload_n 0, 1) := by decide +kernel
theorem dX4_step_5 : decode cX4_step 5 = .ok (.getfield 18, 3) := by decide +kernel
theorem dX4_step_8 : decode cX4_step 8 = .ok (.isub, 1) := by decide +kernel
theorem dX4_step_9 : decode cX4_step 9 = .ok (.i2l, 1) := by decide +kernel
theorem dX4_step_10 : decode cX4_step 10 = .ok (.ldc2_w 30, 3) := by decide +kernel
theorem dX4_step_13 : decode cX4_step 13 = .ok (.lmul, 1) := by decide +kernel
theorem dX4_step_14 : decode cX4_step 14 = .ok (.aload_n 0, 1) := by decide +kernel
theorem dX4_step_15 : decode cX4_step 15 = .ok (.getfield 18, 3) := by decide +kernel
theorem dX4_step_18 : decode cX4_step 18 = .ok (.i2l, 1) := by decide +kernel
theorem dX4_step_19 : decode cX4_step 19 = .ok (.aload_n 0, 1) := by decide +kernel
theorem dX4_step_20 : decode cX4_step 20 = .ok (.aload_n 1, 1) := by decide +kernel
theorem dX4_step_21 : decode cX4_step 21 = .ok (.invokevirtual 49, 3) := by decide +kernel
theorem dX4_step_24 : decode cX4_step 24 = .ok (.lmul, 1) := by decide +kernel
theorem dX4_step_25 : decode cX4_step 25 = .ok (.ladd, 1) := by decide +kernel
theorem dX4_step_26 : decode cX4_step 26 = .ok (.aload_n 0, 1) := by decide +kernel
theorem dX4_step_27 : decode cX4_step 27 = .ok (.getfield 22, 3) := by decide +kernel
theorem dX4_step_30 : decode cX4_step 30 = .ok (.i2l, 1) := by decide +kernel
theorem dX4_step_31 : decode cX4_step 31 = .ok (.invokestatic 32, 3) := by decide +kernel
theorem dX4_step_34 : decode cX4_step 34 = .ok (.lstore_n 2, 1) := by decide +kernel
theorem dX4_step_35 : decode cX4_step 35 = .ok (.iconst 0, 1) := by decide +kernel
theorem dX4_step_36 : decode cX4_step 36 = .ok (.istore 4, 2) := by decide +kernel
theorem dX4_step_38 : decode cX4_step 38 = .ok (.iload 4, 2) := by decide +kernel
theorem dX4_step_40 : decode cX4_step 40 = .ok (.aload_n 1, 1) := by decide +kernel
theorem dX4_step_41 : decode cX4_step 41 = .ok (.getfield 25, 3) := by decide +kernel
theorem dX4_step_44 : decode cX4_step 44 = .ok (.if_icmp .ge 34, 3) := by decide +kernel
theorem dX4_step_47 : decode cX4_step 47 = .ok (.aload_n 0, 1) := by decide +kernel
theorem dX4_step_48 : decode cX4_step 48 = .ok (.getfield 15, 3) := by decide +kernel
theorem dX4_step_51 : decode cX4_step 51 = .ok (.iload 4, 2) := by decide +kernel
theorem dX4_step_53 : decode cX4_step 53 = .ok (.lload_n 2, 1) := by decide +kernel
theorem dX4_step_54 : decode cX4_step 54 = .ok (.aload_n 1, 1) := by decide +kernel
theorem dX4_step_55 : decode cX4_step 55 = .ok (.getfield 53, 3) := by decide +kernel
theorem dX4_step_58 : decode cX4_step 58 = .ok (.iload 4, 2) := by decide +kernel
theorem dX4_step_60 : decode cX4_step 60 = .ok (.iaload, 1) := by decide +kernel
theorem dX4_step_61 : decode cX4_step 61 = .ok (.i2l, 1) := by decide +kernel
theorem dX4_step_62 : decode cX4_step 62 = .ok (.lmul, 1) := by decide +kernel
theorem dX4_step_63 : decode cX4_step 63 = .ok (.aload_n 1, 1) := by decide +kernel
theorem dX4_step_64 : decode cX4_step 64 = .ok (.getfield 57, 3) := by decide +kernel
theorem dX4_step_67 : decode cX4_step 67 = .ok (.i2l, 1) := by decide +kernel
theorem dX4_step_68 : decode cX4_step 68 = .ok (.invokestatic 32, 3) := by decide +kernel
theorem dX4_step_71 : decode cX4_step 71 = .ok (.lastore, 1) := by decide +kernel
theorem dX4_step_72 : decode cX4_step 72 = .ok (.iinc 4 1, 3) := by decide +kernel
theorem dX4_step_75 : decode cX4_step 75 = .ok (.goto (-37), 3) := by decide +kernel
theorem dX4_step_78 : decode cX4_step 78 = .ok (.iconst 0, 1) := by decide +kernel
theorem dX4_step_79 : decode cX4_step 79 = .ok (.istore 4, 2) := by decide +kernel
theorem dX4_step_81 : decode cX4_step 81 = .ok (.iload 4, 2) := by decide +kernel
theorem dX4_step_83 : decode cX4_step 83 = .ok (.aload_n 1, 1) := by decide +kernel
theorem dX4_step_84 : decode cX4_step 84 = .ok (.getfield 25, 3) := by decide +kernel
theorem dX4_step_87 : decode cX4_step 87 = .ok (.if_icmp .ge 16, 3) := by decide +kernel
theorem dX4_step_90 : decode cX4_step 90 = .ok (.aload_n 0, 1) := by decide +kernel
theorem dX4_step_91 : decode cX4_step 91 = .ok (.aload_n 1, 1) := by decide +kernel
theorem dX4_step_92 : decode cX4_step 92 = .ok (.iload 4, 2) := by decide +kernel
theorem dX4_step_94 : decode cX4_step 94 = .ok (.invokevirtual 60, 3) := by decide +kernel
theorem dX4_step_97 : decode cX4_step 97 = .ok (.iinc 4 1, 3) := by decide +kernel
theorem dX4_step_100 : decode cX4_step 100 = .ok (.goto (-19), 3) := by decide +kernel
theorem dX4_step_103 : decode cX4_step 103 = .ok (.aload_n 0, 1) := by decide +kernel
theorem dX4_step_104 : decode cX4_step 104 = .ok (.aload_n 0, 1) := by decide +kernel
theorem dX4_step_105 : decode cX4_step 105 = .ok (.aload_n 1, 1) := by decide +kernel
theorem dX4_step_106 : decode cX4_step 106 = .ok (.getfield 25, 3) := by decide +kernel
theorem dX4_step_109 : decode cX4_step 109 = .ok (.invokevirtual 64, 3) := by decide +kernel
theorem dX4_step_112 : decode cX4_step 112 = .ok (.putfield 41, 3) := by decide +kernel
theorem dX4_step_115 : decode cX4_step 115 = .ok (.aload_n 0, 1) := by decide +kernel
theorem dX4_step_116 : decode cX4_step 116 = .ok (.getfield 9, 3) := by decide +kernel
theorem dX4_step_119 : decode cX4_step 119 = .ok (.astore 4, 2) := by decide +kernel
theorem dX4_step_121 : decode cX4_step 121 = .ok (.aload_n 0, 1) := by decide +kernel
theorem dX4_step_122 : decode cX4_step 122 = .ok (.aload_n 0, 1) := by decide +kernel
theorem dX4_step_123 : decode cX4_step 123 = .ok (.getfield 15, 3) := by decide +kernel
theorem dX4_step_126 : decode cX4_step 126 = .ok (.putfield 9, 3) := by decide +kernel
theorem dX4_step_129 : decode cX4_step 129 = .ok (.aload_n 0, 1) := by decide +kernel
theorem dX4_step_130 : decode cX4_step 130 = .ok (.aload 4, 2) := by decide +kernel
theorem dX4_step_132 : decode cX4_step 132 = .ok (.putfield 15, 3) := by decide +kernel
theorem dX4_step_135 : decode cX4_step 135 = .ok (.aload_n 0, 1) := by decide +kernel
theorem dX4_step_136 : decode cX4_step 136 = .ok (.dup, 1) := by decide +kernel
theorem dX4_step_137 : decode cX4_step 137 = .ok (.getfield 36, 3) := by decide +kernel
theorem dX4_step_140 : decode cX4_step 140 = .ok (.iconst 1, 1) := by decide +kernel
theorem dX4_step_141 : decode cX4_step 141 = .ok (.iadd, 1) := by decide +kernel
theorem dX4_step_142 : decode cX4_step 142 = .ok (.putfield 36, 3) := by decide +kernel
theorem dX4_step_145 : decode cX4_step 145 = .ok (.aload_n 0, 1) := by decide +kernel
theorem dX4_step_146 : decode cX4_step 146 = .ok (.aload_n 0, 1) := by decide +kernel
theorem dX4_step_147 : decode cX4_step 147 = .ok (.getfield 45, 3) := by decide +kernel
theorem dX4_step_150 : decode cX4_step 150 = .ok (.aload_n 0, 1) := by decide +kernel
theorem dX4_step_151 : decode cX4_step 151 = .ok (.getfield 18, 3) := by decide +kernel
theorem dX4_step_154 : decode cX4_step 154 = .ok (.i2l, 1) := by decide +kernel
theorem dX4_step_155 : decode cX4_step 155 = .ok (.lmul, 1) := by decide +kernel
theorem dX4_step_156 : decode cX4_step 156 = .ok (.aload_n 0, 1) := by decide +kernel
theorem dX4_step_157 : decode cX4_step 157 = .ok (.getfield 22, 3) := by decide +kernel
theorem dX4_step_160 : decode cX4_step 160 = .ok (.i2l, 1) := by decide +kernel
theorem dX4_step_161 : decode cX4_step 161 = .ok (.invokestatic 32, 3) := by decide +kernel
theorem dX4_step_164 : decode cX4_step 164 = .ok (.lconst 1, 1) := by decide +kernel
theorem dX4_step_165 : decode cX4_step 165 = .ok (.ladd, 1) := by decide +kernel
theorem dX4_step_166 : decode cX4_step 166 = .ok (.putfield 45, 3) := by decide +kernel
theorem dX4_step_169 : decode cX4_step 169 = .ok (.return_, 1) := by decide +kernel
set_option maxRecDepth 20000 in
theorem ggX4_share_X2_outOf : GoodIn wsX4_share wsX2_outOf := goodIn_r _ [8, 9, 10, 11, 12, 7, 13, 14, 25, 26, 27, 28, 29, 30] (by decide +kernel) (by decide +kernel)
set_option maxRecDepth 20000 in
theorem gX4_share_X2_outOf : GoodIn wsX4_share (wsV RX4 68 RX2 yX2_outOf wsX2_outOf) := goodIn_app (goodIn_of _ (by decide +kernel)) ggX4_share_X2_outOf
set_option maxRecDepth 20000 in
theorem ggX4_share_X5_quotient : GoodIn wsX4_share wsX5_quotient := goodIn_r _ [17] (by decide +kernel) (by decide +kernel)
set_option maxRecDepth 20000 in
theorem gX4_share_X5_quotient_n32 : GoodIn wsX4_share (wsX5_quotient) := ggX4_share_X5_quotient
theorem dX4_share_0 : decode cX4_share 0 = .ok (.aload_n 0, 1) := by decide +kernel
theorem dX4_share_1 : decode cX4_share 1 = .ok (.getfield 18, 3) := by decide +kernel
theorem dX4_share_4 : decode cX4_share 4 = .ok (.i2l, 1) := by decide +kernel
theorem dX4_share_5 : decode cX4_share 5 = .ok (.aload_n 0, 1) := by decide +kernel
theorem dX4_share_6 : decode cX4_share 6 = .ok (.getfield 9, 3) := by decide +kernel
theorem dX4_share_9 : decode cX4_share 9 = .ok (.iload_n 2, 1) := by decide +kernel
theorem dX4_share_10 : decode cX4_share 10 = .ok (.laload, 1) := by decide +kernel
theorem dX4_share_11 : decode cX4_share 11 = .ok (.lmul, 1) := by decide +kernel
theorem dX4_share_12 : decode cX4_share 12 = .ok (.aload_n 0, 1) := by decide +kernel
theorem dX4_share_13 : decode cX4_share 13 = .ok (.getfield 22, 3) := by decide +kernel
theorem dX4_share_16 : decode cX4_share 16 = .ok (.i2l, 1) := by decide +kernel
theorem dX4_share_17 : decode cX4_share 17 = .ok (.aload_n 1, 1) := by decide +kernel
theorem dX4_share_18 : decode cX4_share 18 = .ok (.iload_n 2, 1) := by decide +kernel
theorem dX4_share_19 : decode cX4_share 19 = .ok (.invokevirtual 68, 3) := by decide +kernel
theorem dX4_share_22 : decode cX4_share 22 = .ok (.i2l, 1) := by decide +kernel
theorem dX4_share_23 : decode cX4_share 23 = .ok (.lmul, 1) := by decide +kernel
theorem dX4_share_24 : decode cX4_share 24 = .ok (.invokestatic 32, 3) := by decide +kernel
theorem dX4_share_27 : decode cX4_share 27 = .ok (.lreturn, 1) := by decide +kernel
theorem dX4_sum_0 : decode cX4_sum 0 = .ok (.lconst 0, 1) := by decide +kernel
theorem dX4_sum_1 : decode cX4_sum 1 = .ok (.lstore_n 2, 1) := by decide +kernel
theorem dX4_sum_2 : decode cX4_sum 2 = .ok (.iconst 0, 1) := by decide +kernel
theorem dX4_sum_3 : decode cX4_sum 3 = .ok (.istore 4, 2) := by decide +kernel
theorem dX4_sum_5 : decode cX4_sum 5 = .ok (.iload 4, 2) := by decide +kernel
theorem dX4_sum_7 : decode cX4_sum 7 = .ok (.aload_n 1, 1) := by decide +kernel
theorem dX4_sum_8 : decode cX4_sum 8 = .ok (.getfield 25, 3) := by decide +kernel
theorem dX4_sum_11 : decode cX4_sum 11 = .ok (.if_icmp .ge 19, 3) := by decide +kernel
theorem dX4_sum_14 : decode cX4_sum 14 = .ok (.lload_n 2, 1) := by decide +kernel
theorem dX4_sum_15 : decode cX4_sum 15 = .ok (.aload_n 0, 1) := by decide +kernel
theorem dX4_sum_16 : decode cX4_sum 16 = .ok (.getfield 9, 3) := by decide +kernel
theorem dX4_sum_19 : decode cX4_sum 19 = .ok (.iload 4, 2) := by decide +kernel
theorem dX4_sum_21 : decode cX4_sum 21 = .ok (.laload, 1) := by decide +kernel
theorem dX4_sum_22 : decode cX4_sum 22 = .ok (.ladd, 1) := by decide +kernel
theorem dX4_sum_23 : decode cX4_sum 23 = .ok (.lstore_n 2, 1) := by decide +kernel
theorem dX4_sum_24 : decode cX4_sum 24 = .ok (.iinc 4 1, 3) := by decide +kernel
theorem dX4_sum_27 : decode cX4_sum 27 = .ok (.goto (-22), 3) := by decide +kernel
theorem dX4_sum_30 : decode cX4_sum 30 = .ok (.lload_n 2, 1) := by decide +kernel
theorem dX4_sum_31 : decode cX4_sum 31 = .ok (.lreturn, 1) := by decide +kernel
set_option maxRecDepth 20000 in
theorem ggX4_bareSum_X2_outOf : GoodIn wsX4_bareSum wsX2_outOf := goodIn_r _ [6, 7, 8, 9, 10, 5, 11, 12, 13, 14, 15, 16, 17, 18] (by decide +kernel) (by decide +kernel)
set_option maxRecDepth 20000 in
theorem gX4_bareSum_X2_outOf : GoodIn wsX4_bareSum (wsV RX4 68 RX2 yX2_outOf wsX2_outOf) := goodIn_app (goodIn_of _ (by decide +kernel)) ggX4_bareSum_X2_outOf
theorem dX4_bareSum_0 : decode cX4_bareSum 0 = .ok (.lconst 0, 1) := by decide +kernel
theorem dX4_bareSum_1 : decode cX4_bareSum 1 = .ok (.lstore_n 2, 1) := by decide +kernel
theorem dX4_bareSum_2 : decode cX4_bareSum 2 = .ok (.iconst 0, 1) := by decide +kernel
theorem dX4_bareSum_3 : decode cX4_bareSum 3 = .ok (.istore 4, 2) := by decide +kernel
theorem dX4_bareSum_5 : decode cX4_bareSum 5 = .ok (.iload 4, 2) := by decide +kernel
theorem dX4_bareSum_7 : decode cX4_bareSum 7 = .ok (.aload_n 1, 1) := by decide +kernel
theorem dX4_bareSum_8 : decode cX4_bareSum 8 = .ok (.getfield 25, 3) := by decide +kernel
theorem dX4_bareSum_11 : decode cX4_bareSum 11 = .ok (.if_icmp .ge 28, 3) := by decide +kernel
theorem dX4_bareSum_14 : decode cX4_bareSum 14 = .ok (.aload_n 1, 1) := by decide +kernel
theorem dX4_bareSum_15 : decode cX4_bareSum 15 = .ok (.iload 4, 2) := by decide +kernel
theorem dX4_bareSum_17 : decode cX4_bareSum 17 = .ok (.invokevirtual 68, 3) := by decide +kernel
theorem dX4_bareSum_20 : decode cX4_bareSum 20 = .ok (.ifCond .ne 13, 3) := by decide +kernel
theorem dX4_bareSum_23 : decode cX4_bareSum 23 = .ok (.lload_n 2, 1) := by decide +kernel
theorem dX4_bareSum_24 : decode cX4_bareSum 24 = .ok (.aload_n 0, 1) := by decide +kernel
theorem dX4_bareSum_25 : decode cX4_bareSum 25 = .ok (.getfield 9, 3) := by decide +kernel
theorem dX4_bareSum_28 : decode cX4_bareSum 28 = .ok (.iload 4, 2) := by decide +kernel
theorem dX4_bareSum_30 : decode cX4_bareSum 30 = .ok (.laload, 1) := by decide +kernel
theorem dX4_bareSum_31 : decode cX4_bareSum 31 = .ok (.ladd, 1) := by decide +kernel
theorem dX4_bareSum_32 : decode cX4_bareSum 32 = .ok (.lstore_n 2, 1) := by decide +kernel
theorem dX4_bareSum_33 : decode cX4_bareSum 33 = .ok (.iinc 4 1, 3) := by decide +kernel
theorem dX4_bareSum_36 : decode cX4_bareSum 36 = .ok (.goto (-31), 3) := by decide +kernel
theorem dX4_bareSum_39 : decode cX4_bareSum 39 = .ok (.lload_n 2, 1) := by decide +kernel
theorem dX4_bareSum_40 : decode cX4_bareSum 40 = .ok (.lreturn, 1) := by decide +kernel
set_option maxRecDepth 20000 in
theorem ggX4_bound_X5_quotient : GoodIn wsX4_bound wsX5_quotient := goodIn_r _ [7] (by decide +kernel) (by decide +kernel)
set_option maxRecDepth 20000 in
theorem gX4_bound_X5_quotient_n32 : GoodIn wsX4_bound (wsX5_quotient) := ggX4_bound_X5_quotient
theorem dX4_bound_0 : decode cX4_bound 0 = .ok (.aload_n 1, 1) := by decide +kernel
theorem dX4_bound_1 : decode cX4_bound 1 = .ok (.getfield 72, 3) := by decide +kernel
theorem dX4_bound_4 : decode cX4_bound 4 = .ok (.i2l, 1) := by decide +kernel
theorem dX4_bound_5 : decode cX4_bound 5 = .ok (.ldc2_w 75, 3) := by decide +kernel
theorem dX4_bound_8 : decode cX4_bound 8 = .ok (.aload_n 1, 1) := by decide +kernel
theorem dX4_bound_9 : decode cX4_bound 9 = .ok (.getfield 25, 3) := by decide +kernel
theorem dX4_bound_12 : decode cX4_bound 12 = .ok (.i2l, 1) := by decide +kernel
theorem dX4_bound_13 : decode cX4_bound 13 = .ok (.lmul, 1) := by decide +kernel
theorem dX4_bound_14 : decode cX4_bound 14 = .ok (.ladd, 1) := by decide +kernel
theorem dX4_bound_15 : decode cX4_bound 15 = .ok (.lstore_n 2, 1) := by decide +kernel
theorem dX4_bound_16 : decode cX4_bound 16 = .ok (.aload_n 0, 1) := by decide +kernel
theorem dX4_bound_17 : decode cX4_bound 17 = .ok (.getfield 45, 3) := by decide +kernel
theorem dX4_bound_20 : decode cX4_bound 20 = .ok (.lload_n 2, 1) := by decide +kernel
theorem dX4_bound_21 : decode cX4_bound 21 = .ok (.aload_n 0, 1) := by decide +kernel
theorem dX4_bound_22 : decode cX4_bound 22 = .ok (.getfield 22, 3) := by decide +kernel
theorem dX4_bound_25 : decode cX4_bound 25 = .ok (.i2l, 1) := by decide +kernel
theorem dX4_bound_26 : decode cX4_bound 26 = .ok (.lmul, 1) := by decide +kernel
theorem dX4_bound_27 : decode cX4_bound 27 = .ok (.aload_n 0, 1) := by decide +kernel
theorem dX4_bound_28 : decode cX4_bound 28 = .ok (.getfield 22, 3) := by decide +kernel
theorem dX4_bound_31 : decode cX4_bound 31 = .ok (.aload_n 0, 1) := by decide +kernel
theorem dX4_bound_32 : decode cX4_bound 32 = .ok (.getfield 18, 3) := by decide +kernel
theorem dX4_bound_35 : decode cX4_bound 35 = .ok (.isub, 1) := by decide +kernel
theorem dX4_bound_36 : decode cX4_bound 36 = .ok (.i2l, 1) := by decide +kernel
theorem dX4_bound_37 : decode cX4_bound 37 = .ok (.invokestatic 32, 3) := by decide +kernel
theorem dX4_bound_40 : decode cX4_bound 40 = .ok (.ladd, 1) := by decide +kernel
theorem dX4_bound_41 : decode cX4_bound 41 = .ok (.lconst 1, 1) := by decide +kernel
theorem dX4_bound_42 : decode cX4_bound 42 = .ok (.ladd, 1) := by decide +kernel
theorem dX4_bound_43 : decode cX4_bound 43 = .ok (.lreturn, 1) := by decide +kernel
set_option maxRecDepth 20000 in
theorem ggX4_shareOut_X4_share : GoodIn wsX4_shareOut wsX4_share := goodIn_r _ [6, 7, 8, 9, 10, 11, 12, 13, 14, 15, 16, 17, 18, 19, 20, 21, 22, 23, 30, 31, 32, 33, 34, 35, 36, 24, 25, 26, 27, 28, 29] (by decide +kernel) (by decide +kernel)
set_option maxRecDepth 20000 in
theorem gX4_shareOut_X4_share : GoodIn wsX4_shareOut (wsV RX4 77 RX4 yX4_share wsX4_share) := goodIn_app (goodIn_of _ (by decide +kernel)) ggX4_shareOut_X4_share
theorem dX4_shareOut_0 : decode cX4_shareOut 0 = .ok (.aload_n 0, 1) := by decide +kernel
theorem dX4_shareOut_1 : decode cX4_shareOut 1 = .ok (.aload_n 1, 1) := by decide +kernel
theorem dX4_shareOut_2 : decode cX4_shareOut 2 = .ok (.iload_n 2, 1) := by decide +kernel
theorem dX4_shareOut_3 : decode cX4_shareOut 3 = .ok (.invokevirtual 77, 3) := by decide +kernel
theorem dX4_shareOut_6 : decode cX4_shareOut 6 = .ok (.lstore_n 3, 1) := by decide +kernel
theorem dX4_shareOut_7 : decode cX4_shareOut 7 = .ok (.aload_n 1, 1) := by decide +kernel
theorem dX4_shareOut_8 : decode cX4_shareOut 8 = .ok (.getfield 81, 3) := by decide +kernel
theorem dX4_shareOut_11 : decode cX4_shareOut 11 = .ok (.iload_n 2, 1) := by decide +kernel
theorem dX4_shareOut_12 : decode cX4_shareOut 12 = .ok (.iconst 1, 1) := by decide +kernel
theorem dX4_shareOut_13 : decode cX4_shareOut 13 = .ok (.iadd, 1) := by decide +kernel
theorem dX4_shareOut_14 : decode cX4_shareOut 14 = .ok (.iaload, 1) := by decide +kernel
theorem dX4_shareOut_15 : decode cX4_shareOut 15 = .ok (.istore 5, 2) := by decide +kernel
theorem dX4_shareOut_17 : decode cX4_shareOut 17 = .ok (.aload_n 1, 1) := by decide +kernel
theorem dX4_shareOut_18 : decode cX4_shareOut 18 = .ok (.getfield 81, 3) := by decide +kernel
theorem dX4_shareOut_21 : decode cX4_shareOut 21 = .ok (.iload_n 2, 1) := by decide +kernel
theorem dX4_shareOut_22 : decode cX4_shareOut 22 = .ok (.iaload, 1) := by decide +kernel
theorem dX4_shareOut_23 : decode cX4_shareOut 23 = .ok (.istore 6, 2) := by decide +kernel
theorem dX4_shareOut_25 : decode cX4_shareOut 25 = .ok (.iload 6, 2) := by decide +kernel
theorem dX4_shareOut_27 : decode cX4_shareOut 27 = .ok (.iload 5, 2) := by decide +kernel
theorem dX4_shareOut_29 : decode cX4_shareOut 29 = .ok (.if_icmp .ge 25, 3) := by decide +kernel
theorem dX4_shareOut_32 : decode cX4_shareOut 32 = .ok (.aload_n 0, 1) := by decide +kernel
theorem dX4_shareOut_33 : decode cX4_shareOut 33 = .ok (.getfield 15, 3) := by decide +kernel
theorem dX4_shareOut_36 : decode cX4_shareOut 36 = .ok (.aload_n 1, 1) := by decide +kernel
theorem dX4_shareOut_37 : decode cX4_shareOut 37 = .ok (.getfield 84, 3) := by decide +kernel
theorem dX4_shareOut_40 : decode cX4_shareOut 40 = .ok (.iload 6, 2) := by decide +kernel
theorem dX4_shareOut_42 : decode cX4_shareOut 42 = .ok (.iaload, 1) := by decide +kernel
theorem dX4_shareOut_43 : decode cX4_shareOut 43 = .ok (.dup2, 1) := by decide +kernel
theorem dX4_shareOut_44 : decode cX4_shareOut 44 = .ok (.laload, 1) := by decide +kernel
theorem dX4_shareOut_45 : decode cX4_shareOut 45 = .ok (.lload_n 3, 1) := by decide +kernel
theorem dX4_shareOut_46 : decode cX4_shareOut 46 = .ok (.ladd, 1) := by decide +kernel
theorem dX4_shareOut_47 : decode cX4_shareOut 47 = .ok (.lastore, 1) := by decide +kernel
theorem dX4_shareOut_48 : decode cX4_shareOut 48 = .ok (.iinc 6 1, 3) := by decide +kernel
theorem dX4_shareOut_51 : decode cX4_shareOut 51 = .ok (.goto (-26), 3) := by decide +kernel
theorem dX4_shareOut_54 : decode cX4_shareOut 54 = .ok (.return_, 1) := by decide +kernel
theorem dX4_distance_0 : decode cX4_distance 0 = .ok (.lconst 0, 1) := by decide +kernel
theorem dX4_distance_1 : decode cX4_distance 1 = .ok (.lstore_n 2, 1) := by decide +kernel
theorem dX4_distance_2 : decode cX4_distance 2 = .ok (.iconst 0, 1) := by decide +kernel
theorem dX4_distance_3 : decode cX4_distance 3 = .ok (.istore 4, 2) := by decide +kernel
theorem dX4_distance_5 : decode cX4_distance 5 = .ok (.iload 4, 2) := by decide +kernel
theorem dX4_distance_7 : decode cX4_distance 7 = .ok (.iload_n 1, 1) := by decide +kernel
theorem dX4_distance_8 : decode cX4_distance 8 = .ok (.if_icmp .ge 30, 3) := by decide +kernel
theorem dX4_distance_11 : decode cX4_distance 11 = .ok (.lload_n 2, 1) := by decide +kernel
theorem dX4_distance_12 : decode cX4_distance 12 = .ok (.aload_n 0, 1) := by decide +kernel
theorem dX4_distance_13 : decode cX4_distance 13 = .ok (.getfield 15, 3) := by decide +kernel
theorem dX4_distance_16 : decode cX4_distance 16 = .ok (.iload 4, 2) := by decide +kernel
theorem dX4_distance_18 : decode cX4_distance 18 = .ok (.laload, 1) := by decide +kernel
theorem dX4_distance_19 : decode cX4_distance 19 = .ok (.aload_n 0, 1) := by decide +kernel
theorem dX4_distance_20 : decode cX4_distance 20 = .ok (.getfield 9, 3) := by decide +kernel
theorem dX4_distance_23 : decode cX4_distance 23 = .ok (.iload 4, 2) := by decide +kernel
theorem dX4_distance_25 : decode cX4_distance 25 = .ok (.laload, 1) := by decide +kernel
theorem dX4_distance_26 : decode cX4_distance 26 = .ok (.lsub, 1) := by decide +kernel
theorem dX4_distance_27 : decode cX4_distance 27 = .ok (.invokestatic 87, 3) := by decide +kernel
theorem dX4_distance_30 : decode cX4_distance 30 = .ok (.ladd, 1) := by decide +kernel
theorem dX4_distance_31 : decode cX4_distance 31 = .ok (.lstore_n 2, 1) := by decide +kernel
theorem dX4_distance_32 : decode cX4_distance 32 = .ok (.iinc 4 1, 3) := by decide +kernel
theorem dX4_distance_35 : decode cX4_distance 35 = .ok (.goto (-30), 3) := by decide +kernel
theorem dX4_distance_38 : decode cX4_distance 38 = .ok (.lload_n 2, 1) := by decide +kernel
theorem dX4_distance_39 : decode cX4_distance 39 = .ok (.lreturn, 1) := by decide +kernel
set_option maxRecDepth 20000 in
theorem ggX5_init_X0_init : GoodIn wsX5_init wsX0_init := goodIn_r _ [27, 28, 2, 3, 29, 30, 31, 32, 33, 34, 35, 80, 81] (by decide +kernel) (by decide +kernel)
set_option maxRecDepth 20000 in
theorem gX5_init_X0_init : GoodIn wsX5_init (wsX0_init) := ggX5_init_X0_init
set_option maxRecDepth 20000 in
theorem ggX5_init_X1_init : GoodIn wsX5_init wsX1_init := goodIn_r _ [37, 38, 2, 3, 39, 40, 41, 42, 43, 88, 89, 90, 91, 92] (by decide +kernel) (by decide +kernel)
set_option maxRecDepth 20000 in
theorem gX5_init_X1_init_n23 : GoodIn wsX5_init (wsX1_init) := ggX5_init_X1_init
set_option maxRecDepth 20000 in
theorem ggX5_init_X4_init : GoodIn wsX5_init wsX4_init := goodIn_r _ [45, 46, 2, 3, 47, 48, 49, 50, 51, 93, 94, 95, 96, 97, 98, 99] (by decide +kernel) (by decide +kernel)
set_option maxRecDepth 20000 in
theorem gX5_init_X4_init_n30 : GoodIn wsX5_init (wsX4_init) := ggX5_init_X4_init
set_option maxRecDepth 20000 in
theorem ggX5_init_X3_init : GoodIn wsX5_init wsX3_init := goodIn_r _ [53, 54, 2, 3, 34, 55, 47, 56, 57, 100, 101, 102] (by decide +kernel) (by decide +kernel)
set_option maxRecDepth 20000 in
theorem gX5_init_X3_init_n37 : GoodIn wsX5_init (wsX3_init) := ggX5_init_X3_init
set_option maxRecDepth 20000 in
theorem ggX5_init_X2_init : GoodIn wsX5_init wsX2_init := goodIn_r _ [60, 61, 2, 3, 34, 62, 63, 64, 65, 66, 67, 103, 104, 105, 106, 107, 108] (by decide +kernel) (by decide +kernel)
set_option maxRecDepth 20000 in
theorem gX5_init_X2_init : GoodIn wsX5_init (wsX2_init) := ggX5_init_X2_init
set_option maxRecDepth 20000 in
theorem ggX5_init_X4_begin : GoodIn wsX5_init wsX4_begin := goodIn_r _ [71, 72, 48, 73, 74, 75, 76, 77, 78, 79, 103, 104, 105, 106, 107, 108, 93, 94, 95, 96, 97, 98, 99] (by decide +kernel) (by decide +kernel)
set_option maxRecDepth 20000 in
theorem gX5_init_X4_begin : GoodIn wsX5_init (wsV RX5 49 RX4 yX4_begin wsX4_begin) := goodIn_app (goodIn_of _ (by decide +kernel)) ggX5_init_X4_begin
theorem dX5_init_0 : decode cX5_init 0 = .ok (.aload_n 0, 1) := by decide +kernel
theorem dX5_init_1 : decode cX5_init 1 = .ok (.invokespecial 3, 3) := by decide +kernel
theorem dX5_init_4 : decode cX5_init 4 = .ok (.aload_n 0, 1) := by decide +kernel
theorem dX5_init_5 : decode cX5_init 5 = .ok (.new 9, 3) := by decide +kernel
theorem dX5_init_8 : decode cX5_init 8 = .ok (.dup, 1) := by decide +kernel
theorem dX5_init_9 : decode cX5_init 9 = .ok (.sipush 2000, 3) := by decide +kernel
theorem dX5_init_12 : decode cX5_init 12 = .ok (.invokespecial 11, 3) := by decide +kernel
theorem dX5_init_15 : decode cX5_init 15 = .ok (.putfield 14, 3) := by decide +kernel
theorem dX5_init_18 : decode cX5_init 18 = .ok (.aload_n 0, 1) := by decide +kernel
theorem dX5_init_19 : decode cX5_init 19 = .ok (.new 9, 3) := by decide +kernel
theorem dX5_init_22 : decode cX5_init 22 = .ok (.dup, 1) := by decide +kernel
theorem dX5_init_23 : decode cX5_init 23 = .ok (.sipush 3502, 3) := by decide +kernel
theorem dX5_init_26 : decode cX5_init 26 = .ok (.invokespecial 11, 3) := by decide +kernel
theorem dX5_init_29 : decode cX5_init 29 = .ok (.putfield 18, 3) := by decide +kernel
theorem dX5_init_32 : decode cX5_init 32 = .ok (.aload_n 0, 1) := by decide +kernel
theorem dX5_init_33 : decode cX5_init 33 = .ok (.new 21, 3) := by decide +kernel
theorem dX5_init_36 : decode cX5_init 36 = .ok (.dup, 1) := by decide +kernel
theorem dX5_init_37 : decode cX5_init 37 = .ok (.invokespecial 23, 3) := by decide +kernel
theorem dX5_init_40 : decode cX5_init 40 = .ok (.putfield 24, 3) := by decide +kernel
theorem dX5_init_43 : decode cX5_init 43 = .ok (.aload_n 0, 1) := by decide +kernel
theorem dX5_init_44 : decode cX5_init 44 = .ok (.new 28, 3) := by decide +kernel
theorem dX5_init_47 : decode cX5_init 47 = .ok (.dup, 1) := by decide +kernel
theorem dX5_init_48 : decode cX5_init 48 = .ok (.invokespecial 30, 3) := by decide +kernel
theorem dX5_init_51 : decode cX5_init 51 = .ok (.putfield 31, 3) := by decide +kernel
theorem dX5_init_54 : decode cX5_init 54 = .ok (.aload_n 0, 1) := by decide +kernel
theorem dX5_init_55 : decode cX5_init 55 = .ok (.new 35, 3) := by decide +kernel
theorem dX5_init_58 : decode cX5_init 58 = .ok (.dup, 1) := by decide +kernel
theorem dX5_init_59 : decode cX5_init 59 = .ok (.invokespecial 37, 3) := by decide +kernel
theorem dX5_init_62 : decode cX5_init 62 = .ok (.putfield 38, 3) := by decide +kernel
theorem dX5_init_65 : decode cX5_init 65 = .ok (.aload_n 0, 1) := by decide +kernel
theorem dX5_init_66 : decode cX5_init 66 = .ok (.new 42, 3) := by decide +kernel
theorem dX5_init_69 : decode cX5_init 69 = .ok (.dup, 1) := by decide +kernel
theorem dX5_init_70 : decode cX5_init 70 = .ok (.invokespecial 44, 3) := by decide +kernel
theorem dX5_init_73 : decode cX5_init 73 = .ok (.putfield 45, 3) := by decide +kernel
theorem dX5_init_76 : decode cX5_init 76 = .ok (.aload_n 0, 1) := by decide +kernel
theorem dX5_init_77 : decode cX5_init 77 = .ok (.getfield 31, 3) := by decide +kernel
theorem dX5_init_80 : decode cX5_init 80 = .ok (.aload_n 0, 1) := by decide +kernel
theorem dX5_init_81 : decode cX5_init 81 = .ok (.getfield 45, 3) := by decide +kernel
theorem dX5_init_84 : decode cX5_init 84 = .ok (.invokevirtual 49, 3) := by decide +kernel
theorem dX5_init_87 : decode cX5_init 87 = .ok (.return_, 1) := by decide +kernel
set_option maxRecDepth 20000 in
theorem ggX5_feed_X0_putFour : GoodIn wsX5_feed wsX0_putFour := goodIn_r _ [6, 7, 8, 9, 5, 10, 11, 12, 19, 20] (by decide +kernel) (by decide +kernel)
set_option maxRecDepth 20000 in
theorem gX5_feed_X0_putFour : GoodIn wsX5_feed (wsV RX5 57 RX0 yX0_putFour wsX0_putFour) := goodIn_app (goodIn_of _ (by decide +kernel)) ggX5_feed_X0_putFour
theorem dX5_feed_0 : decode cX5_feed 0 = .ok (.aload_n 0, 1) := by decide +kernel
theorem dX5_feed_1 : decode cX5_feed 1 = .ok (.getfield 14, 3) := by decide +kernel
theorem dX5_feed_4 : decode cX5_feed 4 = .ok (.getfield 53, 3) := by decide +kernel
theorem dX5_feed_7 : decode cX5_feed 7 = .ok (.sipush 1980, 3) := by decide +kernel
theorem dX5_feed_10 : decode cX5_feed 10 = .ok (.if_icmp .le 5, 3) := by decide +kernel
theorem dX5_feed_13 : decode cX5_feed 13 = .ok (.iconst (-1), 1) := by decide +kernel
theorem dX5_feed_14 : decode cX5_feed 14 = .ok (.ireturn, 1) := by decide +kernel
theorem dX5_feed_15 : decode cX5_feed 15 = .ok (.aload_n 0, 1) := by decide +kernel
theorem dX5_feed_16 : decode cX5_feed 16 = .ok (.getfield 14, 3) := by decide +kernel
theorem dX5_feed_19 : decode cX5_feed 19 = .ok (.iload_n 1, 1) := by decide +kernel
theorem dX5_feed_20 : decode cX5_feed 20 = .ok (.invokevirtual 57, 3) := by decide +kernel
theorem dX5_feed_23 : decode cX5_feed 23 = .ok (.aload_n 0, 1) := by decide +kernel
theorem dX5_feed_24 : decode cX5_feed 24 = .ok (.getfield 14, 3) := by decide +kernel
theorem dX5_feed_27 : decode cX5_feed 27 = .ok (.iload_n 2, 1) := by decide +kernel
theorem dX5_feed_28 : decode cX5_feed 28 = .ok (.invokevirtual 57, 3) := by decide +kernel
theorem dX5_feed_31 : decode cX5_feed 31 = .ok (.aload_n 0, 1) := by decide +kernel
theorem dX5_feed_32 : decode cX5_feed 32 = .ok (.getfield 14, 3) := by decide +kernel
theorem dX5_feed_35 : decode cX5_feed 35 = .ok (.iload_n 3, 1) := by decide +kernel
theorem dX5_feed_36 : decode cX5_feed 36 = .ok (.invokevirtual 57, 3) := by decide +kernel
theorem dX5_feed_39 : decode cX5_feed 39 = .ok (.aload_n 0, 1) := by decide +kernel
theorem dX5_feed_40 : decode cX5_feed 40 = .ok (.getfield 14, 3) := by decide +kernel
theorem dX5_feed_43 : decode cX5_feed 43 = .ok (.iload 4, 2) := by decide +kernel
theorem dX5_feed_45 : decode cX5_feed 45 = .ok (.invokevirtual 57, 3) := by decide +kernel
theorem dX5_feed_48 : decode cX5_feed 48 = .ok (.aload_n 0, 1) := by decide +kernel
theorem dX5_feed_49 : decode cX5_feed 49 = .ok (.getfield 14, 3) := by decide +kernel
theorem dX5_feed_52 : decode cX5_feed 52 = .ok (.iload 5, 2) := by decide +kernel
theorem dX5_feed_54 : decode cX5_feed 54 = .ok (.invokevirtual 57, 3) := by decide +kernel
theorem dX5_feed_57 : decode cX5_feed 57 = .ok (.aload_n 0, 1) := by decide +kernel
theorem dX5_feed_58 : decode cX5_feed 58 = .ok (.getfield 14, 3) := by decide +kernel
theorem dX5_feed_61 : decode cX5_feed 61 = .ok (.getfield 53, 3) := by decide +kernel
theorem dX5_feed_64 : decode cX5_feed 64 = .ok (.ireturn, 1) := by decide +kernel
theorem dX5_end_0 : decode cX5_end 0 = .ok (.iload_n 1, 1) := by decide +kernel
theorem dX5_end_1 : decode cX5_end 1 = .ok (.ifCond .lt 14, 3) := by decide +kernel
theorem dX5_end_4 : decode cX5_end 4 = .ok (.iload_n 1, 1) := by decide +kernel
theorem dX5_end_5 : decode cX5_end 5 = .ok (.aload_n 0, 1) := by decide +kernel
theorem dX5_end_6 : decode cX5_end 6 = .ok (.getfield 14, 3) := by decide +kernel
theorem dX5_end_9 : decode cX5_end 9 = .ok (.getfield 53, 3) := by decide +kernel
theorem dX5_end_12 : decode cX5_end 12 = .ok (.if_icmp .le 5, 3) := by decide +kernel
theorem dX5_end_15 : decode cX5_end 15 = .ok (.iconst 0, 1) := by decide +kernel
theorem dX5_end_16 : decode cX5_end 16 = .ok (.ireturn, 1) := by decide +kernel
theorem dX5_end_17 : decode cX5_end 17 = .ok (.aload_n 0, 1) := by decide +kernel
theorem dX5_end_18 : decode cX5_end 18 = .ok (.getfield 14, 3) := by decide +kernel
theorem dX5_end_21 : decode cX5_end 21 = .ok (.iload_n 1, 1) := by decide +kernel
theorem dX5_end_22 : decode cX5_end 22 = .ok (.putfield 53, 3) := by decide +kernel
theorem dX5_end_25 : decode cX5_end 25 = .ok (.iconst 1, 1) := by decide +kernel
theorem dX5_end_26 : decode cX5_end 26 = .ok (.ireturn, 1) := by decide +kernel
set_option maxRecDepth 20000 in
theorem ggX5_read_X1_decode : GoodIn wsX5_read wsX1_decode := goodIn_r _ [8, 9, 10, 11, 12, 13, 14, 15, 7, 16, 17, 18, 19, 20, 21, 22, 23, 24, 25, 26, 27, 28, 29, 30, 31, 32, 33, 34, 35, 36, 37, 38, 39, 40, 41, 42, 43, 44, 45, 46, 47, 48, 49, 50, 51, 52, 53, 54, 55, 56, 57, 58, 59, 60, 61, 62, 63, 64, 65, 66, 67, 68, 69, 70, 71, 72, 106, 107, 108, 109, 110, 98, 99, 100, 101, 102, 103, 104, 105] (by decide +kernel) (by decide +kernel)
set_option maxRecDepth 20000 in
theorem gX5_read_X1_decode : GoodIn wsX5_read (wsV RX5 60 RX1 yX1_decode wsX1_decode) := goodIn_app (goodIn_of _ (by decide +kernel)) ggX5_read_X1_decode
set_option maxRecDepth 20000 in
theorem ggX5_read_X5_beginIf : GoodIn wsX5_read wsX5_beginIf := goodIn_r _ [77, 78, 3, 79, 80, 81, 82, 83, 84, 85, 86, 87, 88, 89, 90, 76, 91, 92, 93, 94, 95, 96, 97, 100, 101, 102, 103, 104, 105, 111, 112, 113, 114, 115, 116, 117] (by decide +kernel) (by decide +kernel)
set_option maxRecDepth 20000 in
theorem gX5_read_X5_beginIf : GoodIn wsX5_read (wsV RX5 64 RX5 yX5_beginIf wsX5_beginIf) := goodIn_app (goodIn_of _ (by decide +kernel)) ggX5_read_X5_beginIf
theorem dX5_read_0 : decode cX5_read 0 = .ok (.aload_n 0, 1) := by decide +kernel
theorem dX5_read_1 : decode cX5_read 1 = .ok (.getfield 24, 3) := by decide +kernel
theorem dX5_read_4 : decode cX5_read 4 = .ok (.aload_n 0, 1) := by decide +kernel
theorem dX5_read_5 : decode cX5_read 5 = .ok (.getfield 14, 3) := by decide +kernel
theorem dX5_read_8 : decode cX5_read 8 = .ok (.aconst_null, 1) := by decide +kernel
theorem dX5_read_9 : decode cX5_read 9 = .ok (.invokevirtual 60, 3) := by decide +kernel
theorem dX5_read_12 : decode cX5_read 12 = .ok (.istore_n 1, 1) := by decide +kernel
theorem dX5_read_13 : decode cX5_read 13 = .ok (.iload_n 1, 1) := by decide +kernel
theorem dX5_read_14 : decode cX5_read 14 = .ok (.ifCond .eq 19, 3) := by decide +kernel
theorem dX5_read_17 : decode cX5_read 17 = .ok (.aload_n 0, 1) := by decide +kernel
theorem dX5_read_18 : decode cX5_read 18 = .ok (.getfield 24, 3) := by decide +kernel
theorem dX5_read_21 : decode cX5_read 21 = .ok (.aload_n 0, 1) := by decide +kernel
theorem dX5_read_22 : decode cX5_read 22 = .ok (.getfield 14, 3) := by decide +kernel
theorem dX5_read_25 : decode cX5_read 25 = .ok (.aload_n 0, 1) := by decide +kernel
theorem dX5_read_26 : decode cX5_read 26 = .ok (.getfield 45, 3) := by decide +kernel
theorem dX5_read_29 : decode cX5_read 29 = .ok (.invokevirtual 60, 3) := by decide +kernel
theorem dX5_read_32 : decode cX5_read 32 = .ok (.pop, 1) := by decide +kernel
theorem dX5_read_33 : decode cX5_read 33 = .ok (.aload_n 0, 1) := by decide +kernel
theorem dX5_read_34 : decode cX5_read 34 = .ok (.getfield 14, 3) := by decide +kernel
theorem dX5_read_37 : decode cX5_read 37 = .ok (.iconst 0, 1) := by decide +kernel
theorem dX5_read_38 : decode cX5_read 38 = .ok (.putfield 53, 3) := by decide +kernel
theorem dX5_read_41 : decode cX5_read 41 = .ok (.aload_n 0, 1) := by decide +kernel
theorem dX5_read_42 : decode cX5_read 42 = .ok (.iload_n 1, 1) := by decide +kernel
theorem dX5_read_43 : decode cX5_read 43 = .ok (.invokevirtual 64, 3) := by decide +kernel
theorem dX5_read_46 : decode cX5_read 46 = .ok (.ifCond .eq 13, 3) := by decide +kernel
theorem dX5_read_49 : decode cX5_read 49 = .ok (.aload_n 0, 1) := by decide +kernel
theorem dX5_read_50 : decode cX5_read 50 = .ok (.getfield 45, 3) := by decide +kernel
theorem dX5_read_53 : decode cX5_read 53 = .ok (.getfield 68, 3) := by decide +kernel
theorem dX5_read_56 : decode cX5_read 56 = .ok (.goto 12, 3) := by decide +kernel
theorem dX5_read_59 : decode cX5_read 59 = .ok (.iconst (-1), 1) := by decide +kernel
theorem dX5_read_60 : decode cX5_read 60 = .ok (.aload_n 0, 1) := by decide +kernel
theorem dX5_read_61 : decode cX5_read 61 = .ok (.getfield 24, 3) := by decide +kernel
theorem dX5_read_64 : decode cX5_read 64 = .ok (.getfield 71, 3) := by decide +kernel
theorem dX5_read_67 : decode cX5_read 67 = .ok (.isub, 1) := by decide +kernel
theorem dX5_read_68 : decode cX5_read 68 = .ok (.ireturn, 1) := by decide +kernel
theorem dX5_fault_0 : decode cX5_fault 0 = .ok (.aload_n 0, 1) := by decide +kernel
theorem dX5_fault_1 : decode cX5_fault 1 = .ok (.getfield 24, 3) := by decide +kernel
theorem dX5_fault_4 : decode cX5_fault 4 = .ok (.getfield 74, 3) := by decide +kernel
theorem dX5_fault_7 : decode cX5_fault 7 = .ok (.ireturn, 1) := by decide +kernel
set_option maxRecDepth 20000 in
theorem ggX5_clear_X2_canHave : GoodIn wsX5_clear wsX2_canHave := goodIn_r _ [6] (by decide +kernel) (by decide +kernel)
set_option maxRecDepth 20000 in
theorem gX5_clear_X2_canHave : GoodIn wsX5_clear (va_wsS RX5 77 yX2_canHave wsX2_canHave) := goodIn_app (goodIn_of _ (by decide +kernel)) ggX5_clear_X2_canHave
set_option maxRecDepth 20000 in
theorem ggX5_clear_X2_reset : GoodIn wsX5_clear wsX2_reset := goodIn_r _ [10, 11, 12, 13, 14, 15, 16, 4, 5, 6, 37, 38, 39, 40, 41, 42] (by decide +kernel) (by decide +kernel)
set_option maxRecDepth 20000 in
theorem gX5_clear_X2_reset : GoodIn wsX5_clear (wsV RX5 81 RX2 yX2_reset wsX2_reset) := goodIn_app (goodIn_of _ (by decide +kernel)) ggX5_clear_X2_reset
set_option maxRecDepth 20000 in
theorem ggX5_clear_X4_begin : GoodIn wsX5_clear wsX4_begin := goodIn_r _ [21, 22, 23, 24, 25, 26, 27, 28, 29, 30, 37, 38, 39, 40, 41, 42, 43, 44, 45, 46, 47, 48, 49] (by decide +kernel) (by decide +kernel)
set_option maxRecDepth 20000 in
theorem gX5_clear_X4_begin : GoodIn wsX5_clear (wsV RX5 49 RX4 yX4_begin wsX4_begin) := goodIn_app (goodIn_of _ (by decide +kernel)) ggX5_clear_X4_begin
theorem dX5_clear_0 : decode cX5_clear 0 = .ok (.iload_n 1, 1) := by decide +kernel
theorem dX5_clear_1 : decode cX5_clear 1 = .ok (.invokestatic 77, 3) := by decide +kernel
theorem dX5_clear_4 : decode cX5_clear 4 = .ok (.ifCond .ne 5, 3) := by decide +kernel
theorem dX5_clear_7 : decode cX5_clear 7 = .ok (.iconst 0, 1) := by decide +kernel
theorem dX5_clear_8 : decode cX5_clear 8 = .ok (.ireturn, 1) := by decide +kernel
theorem dX5_clear_9 : decode cX5_clear 9 = .ok (.aload_n 0, 1) := by decide +kernel
theorem dX5_clear_10 : decode cX5_clear 10 = .ok (.getfield 45, 3) := by decide +kernel
theorem dX5_clear_13 : decode cX5_clear 13 = .ok (.iload_n 1, 1) := by decide +kernel
theorem dX5_clear_14 : decode cX5_clear 14 = .ok (.invokevirtual 81, 3) := by decide +kernel
theorem dX5_clear_17 : decode cX5_clear 17 = .ok (.aload_n 0, 1) := by decide +kernel
theorem dX5_clear_18 : decode cX5_clear 18 = .ok (.getfield 31, 3) := by decide +kernel
theorem dX5_clear_21 : decode cX5_clear 21 = .ok (.aload_n 0, 1) := by decide +kernel
theorem dX5_clear_22 : decode cX5_clear 22 = .ok (.getfield 45, 3) := by decide +kernel
theorem dX5_clear_25 : decode cX5_clear 25 = .ok (.invokevirtual 49, 3) := by decide +kernel
theorem dX5_clear_28 : decode cX5_clear 28 = .ok (.iconst 1, 1) := by decide +kernel
theorem dX5_clear_29 : decode cX5_clear 29 = .ok (.ireturn, 1) := by decide +kernel
set_option maxRecDepth 20000 in
theorem ggX5_add_X2_join : GoodIn wsX5_add wsX2_join := goodIn_r _ [6, 7, 8, 9, 10, 11, 12, 13, 14, 15, 5, 16, 17, 18, 19, 20, 21, 22, 23, 24, 25, 26, 27, 28, 29, 30, 56, 57, 58, 59, 60, 61] (by decide +kernel) (by decide +kernel)
set_option maxRecDepth 20000 in
theorem gX5_add_X2_join : GoodIn wsX5_add (wsV RX5 84 RX2 yX2_join wsX2_join) := goodIn_app (goodIn_of _ (by decide +kernel)) ggX5_add_X2_join
set_option maxRecDepth 20000 in
theorem ggX5_add_X5_beginIf : GoodIn wsX5_add wsX5_beginIf := goodIn_r _ [35, 36, 1, 37, 38, 39, 40, 41, 42, 43, 44, 45, 46, 47, 48, 34, 49, 50, 51, 52, 53, 54, 55, 56, 57, 58, 59, 60, 61, 62, 63, 64, 65, 66, 67, 68] (by decide +kernel) (by decide +kernel)
set_option maxRecDepth 20000 in
theorem gX5_add_X5_beginIf : GoodIn wsX5_add (wsV RX5 64 RX5 yX5_beginIf wsX5_beginIf) := goodIn_app (goodIn_of _ (by decide +kernel)) ggX5_add_X5_beginIf
theorem dX5_add_0 : decode cX5_add 0 = .ok (.aload_n 0, 1) := by decide +kernel
theorem dX5_add_1 : decode cX5_add 1 = .ok (.aload_n 0, 1) := by decide +kernel
theorem dX5_add_2 : decode cX5_add 2 = .ok (.getfield 45, 3) := by decide +kernel
theorem dX5_add_5 : decode cX5_add 5 = .ok (.iload_n 1, 1) := by decide +kernel
theorem dX5_add_6 : decode cX5_add 6 = .ok (.iload_n 2, 1) := by decide +kernel
theorem dX5_add_7 : decode cX5_add 7 = .ok (.invokevirtual 84, 3) := by decide +kernel
theorem dX5_add_10 : decode cX5_add 10 = .ok (.invokevirtual 64, 3) := by decide +kernel
theorem dX5_add_13 : decode cX5_add 13 = .ok (.ireturn, 1) := by decide +kernel
set_option maxRecDepth 20000 in
theorem ggX5_cut_X2_part : GoodIn wsX5_cut wsX2_part := goodIn_r _ [6, 7, 8, 9, 10, 11, 12, 13, 14, 15, 5, 16, 17, 18, 19, 20, 21, 22, 23, 24, 25, 26, 27, 28, 29, 30, 56, 57, 58, 59, 60, 61] (by decide +kernel) (by decide +kernel)
set_option maxRecDepth 20000 in
theorem gX5_cut_X2_part : GoodIn wsX5_cut (wsV RX5 88 RX2 yX2_part wsX2_part) := goodIn_app (goodIn_of _ (by decide +kernel)) ggX5_cut_X2_part
set_option maxRecDepth 20000 in
theorem ggX5_cut_X5_beginIf : GoodIn wsX5_cut wsX5_beginIf := goodIn_r _ [35, 36, 1, 37, 38, 39, 40, 41, 42, 43, 44, 45, 46, 47, 48, 34, 49, 50, 51, 52, 53, 54, 55, 56, 57, 58, 59, 60, 61, 62, 63, 64, 65, 66, 67, 68] (by decide +kernel) (by decide +kernel)
set_option maxRecDepth 20000 in
theorem gX5_cut_X5_beginIf : GoodIn wsX5_cut (wsV RX5 64 RX5 yX5_beginIf wsX5_beginIf) := goodIn_app (goodIn_of _ (by decide +kernel)) ggX5_cut_X5_beginIf
theorem dX5_cut_0 : decode cX5_cut 0 = .ok (.aload_n 0, 1) := by decide +kernel
theorem dX5_cut_1 : decode cX5_cut 1 = .ok (.aload_n 0, 1) := by decide +kernel
theorem dX5_cut_2 : decode cX5_cut 2 = .ok (.getfield 45, 3) := by decide +kernel
theorem dX5_cut_5 : decode cX5_cut 5 = .ok (.iload_n 1, 1) := by decide +kernel
theorem dX5_cut_6 : decode cX5_cut 6 = .ok (.iload_n 2, 1) := by decide +kernel
theorem dX5_cut_7 : decode cX5_cut 7 = .ok (.invokevirtual 88, 3) := by decide +kernel
theorem dX5_cut_10 : decode cX5_cut 10 = .ok (.invokevirtual 64, 3) := by decide +kernel
theorem dX5_cut_13 : decode cX5_cut 13 = .ok (.ireturn, 1) := by decide +kernel
set_option maxRecDepth 20000 in
theorem ggX5_has_X2_joins : GoodIn wsX5_has wsX2_joins := goodIn_r _ [6, 7, 8, 9, 10, 11, 5, 12, 13, 14, 15, 16, 17, 24, 25, 26, 27, 28, 29] (by decide +kernel) (by decide +kernel)
set_option maxRecDepth 20000 in
theorem gX5_has_X2_joins : GoodIn wsX5_has (wsV RX5 91 RX2 yX2_joins wsX2_joins) := goodIn_app (goodIn_of _ (by decide +kernel)) ggX5_has_X2_joins
theorem dX5_has_0 : decode cX5_has 0 = .ok (.aload_n 0, 1) := by decide +kernel
theorem dX5_has_1 : decode cX5_has 1 = .ok (.getfield 45, 3) := by decide +kernel
theorem dX5_has_4 : decode cX5_has 4 = .ok (.iload_n 1, 1) := by decide +kernel
theorem dX5_has_5 : decode cX5_has 5 = .ok (.iload_n 2, 1) := by decide +kernel
theorem dX5_has_6 : decode cX5_has 6 = .ok (.invokevirtual 91, 3) := by decide +kernel
theorem dX5_has_9 : decode cX5_has 9 = .ok (.ireturn, 1) := by decide +kernel
set_option maxRecDepth 20000 in
theorem ggX5_edges_X2_isNode : GoodIn wsX5_edges wsX2_isNode := goodIn_r _ [8, 9, 28, 29, 30, 31, 32, 33] (by decide +kernel) (by decide +kernel)
set_option maxRecDepth 20000 in
theorem gX5_edges_X2_isNode : GoodIn wsX5_edges (wsV RX5 94 RX2 yX2_isNode wsX2_isNode) := goodIn_app (goodIn_of _ (by decide +kernel)) ggX5_edges_X2_isNode
set_option maxRecDepth 20000 in
theorem ggX5_edges_X2_outOf : GoodIn wsX5_edges wsX2_outOf := goodIn_r _ [13, 14, 15, 5, 6, 7, 8, 9, 28, 29, 30, 31, 32, 33] (by decide +kernel) (by decide +kernel)
set_option maxRecDepth 20000 in
theorem gX5_edges_X2_outOf : GoodIn wsX5_edges (wsV RX5 100 RX2 yX2_outOf wsX2_outOf) := goodIn_app (goodIn_of _ (by decide +kernel)) ggX5_edges_X2_outOf
set_option maxRecDepth 20000 in
theorem ggX5_edges_X2_into : GoodIn wsX5_edges wsX2_into := goodIn_r _ [19, 20, 21, 28, 29, 30, 31, 32, 33] (by decide +kernel) (by decide +kernel)
set_option maxRecDepth 20000 in
theorem gX5_edges_X2_into : GoodIn wsX5_edges (wsV RX5 104 RX2 yX2_into wsX2_into) := goodIn_app (goodIn_of _ (by decide +kernel)) ggX5_edges_X2_into
theorem dX5_edges_0 : decode cX5_edges 0 = .ok (.aload_n 0, 1) := by decide +kernel
theorem dX5_edges_1 : decode cX5_edges 1 = .ok (.getfield 45, 3) := by decide +kernel
theorem dX5_edges_4 : decode cX5_edges 4 = .ok (.iload_n 1, 1) := by decide +kernel
theorem dX5_edges_5 : decode cX5_edges 5 = .ok (.invokevirtual 94, 3) := by decide +kernel
theorem dX5_edges_8 : decode cX5_edges 8 = .ok (.ifCond .eq 12, 3) := by decide +kernel
theorem dX5_edges_11 : decode cX5_edges 11 = .ok (.iload_n 2, 1) := by decide +kernel
theorem dX5_edges_12 : decode cX5_edges 12 = .ok (.ifCond .eq 16, 3) := by decide +kernel
theorem dX5_edges_15 : decode cX5_edges 15 = .ok (.iload_n 2, 1) := by decide +kernel
theorem dX5_edges_16 : decode cX5_edges 16 = .ok (.iconst 1, 1) := by decide +kernel
theorem dX5_edges_17 : decode cX5_edges 17 = .ok (.if_icmp .eq 11, 3) := by decide +kernel
theorem dX5_edges_20 : decode cX5_edges 20 = .ok (.new 97, 3) := by decide +kernel
theorem dX5_edges_23 : decode cX5_edges 23 = .ok (.dup, 1) := by decide +kernel
theorem dX5_edges_24 : decode cX5_edges 24 = .ok (.invokespecial 99, 3) := by decide +kernel
theorem dX5_edges_27 : decode cX5_edges 27 = .ok (.athrow, 1) := by decide +kernel
theorem dX5_edges_28 : decode cX5_edges 28 = .ok (.iload_n 2, 1) := by decide +kernel
theorem dX5_edges_29 : decode cX5_edges 29 = .ok (.ifCond .ne 14, 3) := by decide +kernel
theorem dX5_edges_32 : decode cX5_edges 32 = .ok (.aload_n 0, 1) := by decide +kernel
theorem dX5_edges_33 : decode cX5_edges 33 = .ok (.getfield 45, 3) := by decide +kernel
theorem dX5_edges_36 : decode cX5_edges 36 = .ok (.iload_n 1, 1) := by decide +kernel
theorem dX5_edges_37 : decode cX5_edges 37 = .ok (.invokevirtual 100, 3) := by decide +kernel
theorem dX5_edges_40 : decode cX5_edges 40 = .ok (.goto 11, 3) := by decide +kernel
theorem dX5_edges_43 : decode cX5_edges 43 = .ok (.aload_n 0, 1) := by decide +kernel
theorem dX5_edges_44 : decode cX5_edges 44 = .ok (.getfield 45, 3) := by decide +kernel
theorem dX5_edges_47 : decode cX5_edges 47 = .ok (.iload_n 1, 1) := by decide +kernel
theorem dX5_edges_48 : decode cX5_edges 48 = .ok (.invokevirtual 104, 3) := by decide +kernel
theorem dX5_edges_51 : decode cX5_edges 51 = .ok (.ireturn, 1) := by decide +kernel
set_option maxRecDepth 20000 in
theorem ggX5_other_X2_target : GoodIn wsX5_other wsX2_target := goodIn_r _ [6, 7, 8, 9, 10, 11, 5, 12, 13, 14, 15, 16, 17, 36, 37, 38, 39, 40, 41] (by decide +kernel) (by decide +kernel)
set_option maxRecDepth 20000 in
theorem gX5_other_X2_target : GoodIn wsX5_other (wsV RX5 107 RX2 yX2_target wsX2_target) := goodIn_app (goodIn_of _ (by decide +kernel)) ggX5_other_X2_target
set_option maxRecDepth 20000 in
theorem ggX5_other_X2_source : GoodIn wsX5_other wsX2_source := goodIn_r _ [21, 17, 22, 23, 24, 5, 25, 8, 7, 13, 14, 15, 16, 26, 27, 28, 29, 36, 37, 38, 39, 40, 41] (by decide +kernel) (by decide +kernel)
set_option maxRecDepth 20000 in
theorem gX5_other_X2_source : GoodIn wsX5_other (wsV RX5 111 RX2 yX2_source wsX2_source) := goodIn_app (goodIn_of _ (by decide +kernel)) ggX5_other_X2_source
theorem dX5_other_0 : decode cX5_other 0 = .ok (.iload_n 2, 1) := by decide +kernel
theorem dX5_other_1 : decode cX5_other 1 = .ok (.ifCond .ne 13, 3) := by decide +kernel
theorem dX5_other_4 : decode cX5_other 4 = .ok (.aload_n 0, 1) := by decide +kernel
theorem dX5_other_5 : decode cX5_other 5 = .ok (.getfield 45, 3) := by decide +kernel
theorem dX5_other_8 : decode cX5_other 8 = .ok (.iload_n 1, 1) := by decide +kernel
theorem dX5_other_9 : decode cX5_other 9 = .ok (.iload_n 3, 1) := by decide +kernel
theorem dX5_other_10 : decode cX5_other 10 = .ok (.invokevirtual 107, 3) := by decide +kernel
theorem dX5_other_13 : decode cX5_other 13 = .ok (.ireturn, 1) := by decide +kernel
theorem dX5_other_14 : decode cX5_other 14 = .ok (.iload_n 2, 1) := by decide +kernel
theorem dX5_other_15 : decode cX5_other 15 = .ok (.iconst 1, 1) := by decide +kernel
theorem dX5_other_16 : decode cX5_other 16 = .ok (.if_icmp .ne 15, 3) := by decide +kernel
theorem dX5_other_19 : decode cX5_other 19 = .ok (.aload_n 0, 1) := by decide +kernel
theorem dX5_other_20 : decode cX5_other 20 = .ok (.getfield 45, 3) := by decide +kernel
theorem dX5_other_23 : decode cX5_other 23 = .ok (.iload_n 1, 1) := by decide +kernel
theorem dX5_other_24 : decode cX5_other 24 = .ok (.iload_n 3, 1) := by decide +kernel
theorem dX5_other_25 : decode cX5_other 25 = .ok (.invokevirtual 111, 3) := by decide +kernel
theorem dX5_other_28 : decode cX5_other 28 = .ok (.goto 4, 3) := by decide +kernel
theorem dX5_other_31 : decode cX5_other 31 = .ok (.iconst (-1), 1) := by decide +kernel
theorem dX5_other_32 : decode cX5_other 32 = .ok (.ireturn, 1) := by decide +kernel
set_option maxRecDepth 20000 in
theorem ggX5_weight_X2_weigh : GoodIn wsX5_weight wsX2_weigh := goodIn_r _ [6, 7, 8, 9, 10, 11, 5, 12, 13, 39, 40, 41, 42, 43, 44] (by decide +kernel) (by decide +kernel)
set_option maxRecDepth 20000 in
theorem gX5_weight_X2_weigh : GoodIn wsX5_weight (wsV RX5 114 RX2 yX2_weigh wsX2_weigh) := goodIn_app (goodIn_of _ (by decide +kernel)) ggX5_weight_X2_weigh
set_option maxRecDepth 20000 in
theorem ggX5_weight_X5_beginIf : GoodIn wsX5_weight wsX5_beginIf := goodIn_r _ [18, 19, 1, 20, 21, 22, 23, 24, 25, 26, 27, 28, 29, 30, 31, 17, 32, 33, 34, 35, 36, 37, 38, 39, 40, 41, 42, 43, 44, 45, 46, 47, 48, 49, 50, 51] (by decide +kernel) (by decide +kernel)
set_option maxRecDepth 20000 in
theorem gX5_weight_X5_beginIf : GoodIn wsX5_weight (wsV RX5 64 RX5 yX5_beginIf wsX5_beginIf) := goodIn_app (goodIn_of _ (by decide +kernel)) ggX5_weight_X5_beginIf
theorem dX5_weight_0 : decode cX5_weight 0 = .ok (.aload_n 0, 1) := by decide +kernel
theorem dX5_weight_1 : decode cX5_weight 1 = .ok (.aload_n 0, 1) := by decide +kernel
theorem dX5_weight_2 : decode cX5_weight 2 = .ok (.getfield 45, 3) := by decide +kernel
theorem dX5_weight_5 : decode cX5_weight 5 = .ok (.iload_n 1, 1) := by decide +kernel
theorem dX5_weight_6 : decode cX5_weight 6 = .ok (.iload_n 2, 1) := by decide +kernel
theorem dX5_weight_7 : decode cX5_weight 7 = .ok (.invokevirtual 114, 3) := by decide +kernel
theorem dX5_weight_10 : decode cX5_weight 10 = .ok (.invokevirtual 64, 3) := by decide +kernel
theorem dX5_weight_13 : decode cX5_weight 13 = .ok (.ireturn, 1) := by decide +kernel
set_option maxRecDepth 20000 in
theorem ggX5_damping_X4_damp : GoodIn wsX5_damping wsX4_damp := goodIn_r _ [6, 7, 8, 9, 34, 35, 36, 37, 38, 39, 40] (by decide +kernel) (by decide +kernel)
set_option maxRecDepth 20000 in
theorem gX5_damping_X4_damp : GoodIn wsX5_damping (wsV RX5 117 RX4 yX4_damp wsX4_damp) := goodIn_app (goodIn_of _ (by decide +kernel)) ggX5_damping_X4_damp
set_option maxRecDepth 20000 in
theorem ggX5_damping_X5_beginIf : GoodIn wsX5_damping wsX5_beginIf := goodIn_r _ [14, 1, 15, 16, 17, 18, 5, 19, 20, 21, 22, 23, 24, 25, 26, 13, 27, 28, 29, 30, 31, 32, 33, 41, 42, 43, 44, 45, 46, 34, 35, 36, 37, 38, 39, 40] (by decide +kernel) (by decide +kernel)
set_option maxRecDepth 20000 in
theorem gX5_damping_X5_beginIf : GoodIn wsX5_damping (wsV RX5 64 RX5 yX5_beginIf wsX5_beginIf) := goodIn_app (goodIn_of _ (by decide +kernel)) ggX5_damping_X5_beginIf
theorem dX5_damping_0 : decode cX5_damping 0 = .ok (.aload_n 0, 1) := by decide +kernel
theorem dX5_damping_1 : decode cX5_damping 1 = .ok (.aload_n 0, 1) := by decide +kernel
theorem dX5_damping_2 : decode cX5_damping 2 = .ok (.getfield 31, 3) := by decide +kernel
theorem dX5_damping_5 : decode cX5_damping 5 = .ok (.iload_n 1, 1) := by decide +kernel
theorem dX5_damping_6 : decode cX5_damping 6 = .ok (.iload_n 2, 1) := by decide +kernel
theorem dX5_damping_7 : decode cX5_damping 7 = .ok (.invokevirtual 117, 3) := by decide +kernel
theorem dX5_damping_10 : decode cX5_damping 10 = .ok (.invokevirtual 64, 3) := by decide +kernel
theorem dX5_damping_13 : decode cX5_damping 13 = .ok (.ireturn, 1) := by decide +kernel
set_option maxRecDepth 20000 in
theorem ggX5_run_X4_areStill : GoodIn wsX5_run wsX4_areStill := goodIn_r _ [9, 10, 11, 62, 63, 64, 65, 66, 67, 68] (by decide +kernel) (by decide +kernel)
set_option maxRecDepth 20000 in
theorem gX5_run_X4_areStill : GoodIn wsX5_run (wsV RX5 123 RX4 yX4_areStill wsX4_areStill) := goodIn_app (goodIn_of _ (by decide +kernel)) ggX5_run_X4_areStill
set_option maxRecDepth 20000 in
theorem ggX5_run_X4_step : GoodIn wsX5_run wsX4_step := goodIn_r _ [15, 16, 17, 18, 19, 11, 20, 10, 21, 22, 23, 24, 8, 25, 26, 27, 28, 29, 30, 31, 32, 33, 34, 35, 36, 37, 38, 39, 40, 41, 42, 43, 44, 45, 46, 47, 48, 49, 50, 51, 52, 53, 54, 55, 62, 63, 64, 65, 66, 67, 68, 69, 70, 71, 72, 73, 74] (by decide +kernel) (by decide +kernel)
set_option maxRecDepth 20000 in
theorem gX5_run_X4_step : GoodIn wsX5_run (wsV RX5 127 RX4 yX4_step wsX4_step) := goodIn_app (goodIn_of _ (by decide +kernel)) ggX5_run_X4_step
theorem dX5_run_0 : decode cX5_run 0 = .ok (.iload_n 1, 1) := by decide +kernel
theorem dX5_run_1 : decode cX5_run 1 = .ok (.ifCond .lt 15, 3) := by decide +kernel
theorem dX5_run_4 : decode cX5_run 4 = .ok (.iload_n 1, 1) := by decide +kernel
theorem dX5_run_5 : decode cX5_run 5 = .ok (.bipush 100, 2) := by decide +kernel
theorem dX5_run_7 : decode cX5_run 7 = .ok (.if_icmp .gt 9, 3) := by decide +kernel
theorem dX5_run_10 : decode cX5_run 10 = .ok (.lload_n 2, 1) := by decide +kernel
theorem dX5_run_11 : decode cX5_run 11 = .ok (.lconst 0, 1) := by decide +kernel
theorem dX5_run_12 : decode cX5_run 12 = .ok (.lcmp, 1) := by decide +kernel
theorem dX5_run_13 : decode cX5_run 13 = .ok (.ifCond .ge 11, 3) := by decide +kernel
theorem dX5_run_16 : decode cX5_run 16 = .ok (.new 120, 3) := by decide +kernel
theorem dX5_run_19 : decode cX5_run 19 = .ok (.dup, 1) := by decide +kernel
theorem dX5_run_20 : decode cX5_run 20 = .ok (.invokespecial 122, 3) := by decide +kernel
theorem dX5_run_23 : decode cX5_run 23 = .ok (.athrow, 1) := by decide +kernel
theorem dX5_run_24 : decode cX5_run 24 = .ok (.iconst 0, 1) := by decide +kernel
theorem dX5_run_25 : decode cX5_run 25 = .ok (.istore 4, 2) := by decide +kernel
theorem dX5_run_27 : decode cX5_run 27 = .ok (.iload 4, 2) := by decide +kernel
theorem dX5_run_29 : decode cX5_run 29 = .ok (.iload_n 1, 1) := by decide +kernel
theorem dX5_run_30 : decode cX5_run 30 = .ok (.if_icmp .ge 31, 3) := by decide +kernel
theorem dX5_run_33 : decode cX5_run 33 = .ok (.aload_n 0, 1) := by decide +kernel
theorem dX5_run_34 : decode cX5_run 34 = .ok (.getfield 31, 3) := by decide +kernel
theorem dX5_run_37 : decode cX5_run 37 = .ok (.lload_n 2, 1) := by decide +kernel
theorem dX5_run_38 : decode cX5_run 38 = .ok (.invokevirtual 123, 3) := by decide +kernel
theorem dX5_run_41 : decode cX5_run 41 = .ok (.ifCond .ne 20, 3) := by decide +kernel
theorem dX5_run_44 : decode cX5_run 44 = .ok (.aload_n 0, 1) := by decide +kernel
theorem dX5_run_45 : decode cX5_run 45 = .ok (.getfield 31, 3) := by decide +kernel
theorem dX5_run_48 : decode cX5_run 48 = .ok (.aload_n 0, 1) := by decide +kernel
theorem dX5_run_49 : decode cX5_run 49 = .ok (.getfield 45, 3) := by decide +kernel
theorem dX5_run_52 : decode cX5_run 52 = .ok (.invokevirtual 127, 3) := by decide +kernel
theorem dX5_run_55 : decode cX5_run 55 = .ok (.iinc 4 1, 3) := by decide +kernel
theorem dX5_run_58 : decode cX5_run 58 = .ok (.goto (-31), 3) := by decide +kernel
theorem dX5_run_61 : decode cX5_run 61 = .ok (.iload 4, 2) := by decide +kernel
theorem dX5_run_63 : decode cX5_run 63 = .ok (.ireturn, 1) := by decide +kernel
set_option maxRecDepth 20000 in
theorem ggX5_again_X4_begin : GoodIn wsX5_again wsX4_begin := goodIn_r _ [7, 8, 9, 10, 11, 12, 13, 14, 15, 16, 23, 24, 25, 26, 27, 28, 29, 30, 31, 32, 33, 34, 35] (by decide +kernel) (by decide +kernel)
set_option maxRecDepth 20000 in
theorem gX5_again_X4_begin : GoodIn wsX5_again (wsV RX5 49 RX4 yX4_begin wsX4_begin) := goodIn_app (goodIn_of _ (by decide +kernel)) ggX5_again_X4_begin
theorem dX5_again_0 : decode cX5_again 0 = .ok (.aload_n 0, 1) := by decide +kernel
theorem dX5_again_1 : decode cX5_again 1 = .ok (.getfield 31, 3) := by decide +kernel
theorem dX5_again_4 : decode cX5_again 4 = .ok (.aload_n 0, 1) := by decide +kernel
theorem dX5_again_5 : decode cX5_again 5 = .ok (.getfield 45, 3) := by decide +kernel
theorem dX5_again_8 : decode cX5_again 8 = .ok (.invokevirtual 49, 3) := by decide +kernel
theorem dX5_again_11 : decode cX5_again 11 = .ok (.return_, 1) := by decide +kernel
set_option maxRecDepth 20000 in
theorem ggX5_rank_X2_isNode : GoodIn wsX5_rank wsX2_isNode := goodIn_r _ [9, 10, 24, 25, 26, 27, 28, 29] (by decide +kernel) (by decide +kernel)
set_option maxRecDepth 20000 in
theorem gX5_rank_X2_isNode : GoodIn wsX5_rank (wsV RX5 94 RX2 yX2_isNode wsX2_isNode) := goodIn_app (goodIn_of _ (by decide +kernel)) ggX5_rank_X2_isNode
theorem dX5_rank_0 : decode cX5_rank 0 = .ok (.aload_n 0, 1) := by decide +kernel
theorem dX5_rank_1 : decode cX5_rank 1 = .ok (.getfield 45, 3) := by decide +kernel
theorem dX5_rank_4 : decode cX5_rank 4 = .ok (.iload_n 1, 1) := by decide +kernel
theorem dX5_rank_5 : decode cX5_rank 5 = .ok (.invokevirtual 94, 3) := by decide +kernel
theorem dX5_rank_8 : decode cX5_rank 8 = .ok (.ifCond .ne 11, 3) := by decide +kernel
theorem dX5_rank_11 : decode cX5_rank 11 = .ok (.new 97, 3) := by decide +kernel
theorem dX5_rank_14 : decode cX5_rank 14 = .ok (.dup, 1) := by decide +kernel
theorem dX5_rank_15 : decode cX5_rank 15 = .ok (.invokespecial 99, 3) := by decide +kernel
theorem dX5_rank_18 : decode cX5_rank 18 = .ok (.athrow, 1) := by decide +kernel
theorem dX5_rank_19 : decode cX5_rank 19 = .ok (.aload_n 0, 1) := by decide +kernel
theorem dX5_rank_20 : decode cX5_rank 20 = .ok (.getfield 31, 3) := by decide +kernel
theorem dX5_rank_23 : decode cX5_rank 23 = .ok (.getfield 130, 3) := by decide +kernel
theorem dX5_rank_26 : decode cX5_rank 26 = .ok (.iload_n 1, 1) := by decide +kernel
theorem dX5_rank_27 : decode cX5_rank 27 = .ok (.laload, 1) := by decide +kernel
theorem dX5_rank_28 : decode cX5_rank 28 = .ok (.lreturn, 1) := by decide +kernel
set_option maxRecDepth 20000 in
theorem ggX5_look_X4_sum : GoodIn wsX5_look wsX4_sum := goodIn_r _ [8, 9, 49, 50, 51, 52, 53, 54, 42, 43, 44, 45, 46, 47, 48] (by decide +kernel) (by decide +kernel)
set_option maxRecDepth 20000 in
theorem gX5_look_X4_sum : GoodIn wsX5_look (wsV RX5 134 RX4 yX4_sum wsX4_sum) := goodIn_app (goodIn_of _ (by decide +kernel)) ggX5_look_X4_sum
set_option maxRecDepth 20000 in
theorem ggX5_look_X4_bound : GoodIn wsX5_look wsX4_bound := goodIn_r _ [13, 14, 15, 16, 17, 18, 19, 20, 49, 50, 51, 52, 53, 54, 42, 43, 44, 45, 46, 47, 48] (by decide +kernel) (by decide +kernel)
set_option maxRecDepth 20000 in
theorem gX5_look_X4_bound : GoodIn wsX5_look (wsV RX5 142 RX4 yX4_bound wsX4_bound) := goodIn_app (goodIn_of _ (by decide +kernel)) ggX5_look_X4_bound
set_option maxRecDepth 20000 in
theorem ggX5_look_X4_bareSum : GoodIn wsX5_look wsX4_bareSum := goodIn_r _ [24, 9, 25, 26, 27, 28, 29, 30, 31, 32, 33, 34, 35, 49, 50, 51, 52, 53, 54, 42, 43, 44, 45, 46, 47, 48] (by decide +kernel) (by decide +kernel)
set_option maxRecDepth 20000 in
theorem gX5_look_X4_bareSum : GoodIn wsX5_look (wsV RX5 148 RX4 yX4_bareSum wsX4_bareSum) := goodIn_app (goodIn_of _ (by decide +kernel)) ggX5_look_X4_bareSum
theorem dX5_look_0 : decode cX5_look 0 = .ok (.iload_n 1, 1) := by decide +kernel
theorem dX5_look_1 : decode cX5_look 1 = .ok (.tableswitch 88 0 4 #[35, 47, 55, 67, 76], 35) := by decide +kernel
theorem dX5_look_36 : decode cX5_look 36 = .ok (.aload_n 0, 1) := by decide +kernel
theorem dX5_look_37 : decode cX5_look 37 = .ok (.getfield 31, 3) := by decide +kernel
theorem dX5_look_40 : decode cX5_look 40 = .ok (.aload_n 0, 1) := by decide +kernel
theorem dX5_look_41 : decode cX5_look 41 = .ok (.getfield 45, 3) := by decide +kernel
theorem dX5_look_44 : decode cX5_look 44 = .ok (.invokevirtual 134, 3) := by decide +kernel
theorem dX5_look_47 : decode cX5_look 47 = .ok (.lreturn, 1) := by decide +kernel
theorem dX5_look_48 : decode cX5_look 48 = .ok (.aload_n 0, 1) := by decide +kernel
theorem dX5_look_49 : decode cX5_look 49 = .ok (.getfield 31, 3) := by decide +kernel
theorem dX5_look_52 : decode cX5_look 52 = .ok (.getfield 138, 3) := by decide +kernel
theorem dX5_look_55 : decode cX5_look 55 = .ok (.lreturn, 1) := by decide +kernel
theorem dX5_look_56 : decode cX5_look 56 = .ok (.aload_n 0, 1) := by decide +kernel
theorem dX5_look_57 : decode cX5_look 57 = .ok (.getfield 31, 3) := by decide +kernel
theorem dX5_look_60 : decode cX5_look 60 = .ok (.aload_n 0, 1) := by decide +kernel
theorem dX5_look_61 : decode cX5_look 61 = .ok (.getfield 45, 3) := by decide +kernel
theorem dX5_look_64 : decode cX5_look 64 = .ok (.invokevirtual 142, 3) := by decide +kernel
theorem dX5_look_67 : decode cX5_look 67 = .ok (.lreturn, 1) := by decide +kernel
theorem dX5_look_68 : decode cX5_look 68 = .ok (.aload_n 0, 1) := by decide +kernel
theorem dX5_look_69 : decode cX5_look 69 = .ok (.getfield 31, 3) := by decide +kernel
theorem dX5_look_72 : decode cX5_look 72 = .ok (.getfield 145, 3) := by decide +kernel
theorem dX5_look_75 : decode cX5_look 75 = .ok (.i2l, 1) := by decide +kernel
theorem dX5_look_76 : decode cX5_look 76 = .ok (.lreturn, 1) := by decide +kernel
theorem dX5_look_77 : decode cX5_look 77 = .ok (.aload_n 0, 1) := by decide +kernel
theorem dX5_look_78 : decode cX5_look 78 = .ok (.getfield 31, 3) := by decide +kernel
theorem dX5_look_81 : decode cX5_look 81 = .ok (.aload_n 0, 1) := by decide +kernel
theorem dX5_look_82 : decode cX5_look 82 = .ok (.getfield 45, 3) := by decide +kernel
theorem dX5_look_85 : decode cX5_look 85 = .ok (.invokevirtual 148, 3) := by decide +kernel
theorem dX5_look_88 : decode cX5_look 88 = .ok (.lreturn, 1) := by decide +kernel
theorem dX5_look_89 : decode cX5_look 89 = .ok (.ldc2_w 151, 3) := by decide +kernel
theorem dX5_look_92 : decode cX5_look 92 = .ok (.lreturn, 1) := by decide +kernel
set_option maxRecDepth 20000 in
theorem ggX5_top_X3_place : GoodIn wsX5_top wsX3_place := goodIn_r _ [8, 9, 10, 11, 22, 23, 24] (by decide +kernel) (by decide +kernel)
set_option maxRecDepth 20000 in
theorem gX5_top_X3_place : GoodIn wsX5_top (wsV RX5 157 RX3 yX3_place wsX3_place) := goodIn_app (goodIn_of _ (by decide +kernel)) ggX5_top_X3_place
set_option maxRecDepth 20000 in
theorem ggX5_top_X3_node : GoodIn wsX5_top wsX3_node := goodIn_r _ [15, 9, 11, 22, 23, 24] (by decide +kernel) (by decide +kernel)
set_option maxRecDepth 20000 in
theorem gX5_top_X3_node : GoodIn wsX5_top (wsV RX5 160 RX3 yX3_node wsX3_node) := goodIn_app (goodIn_of _ (by decide +kernel)) ggX5_top_X3_node
theorem dX5_top_0 : decode cX5_top 0 = .ok (.aload_n 0, 1) := by decide +kernel
theorem dX5_top_1 : decode cX5_top 1 = .ok (.getfield 38, 3) := by decide +kernel
theorem dX5_top_4 : decode cX5_top 4 = .ok (.iconst 0, 1) := by decide +kernel
theorem dX5_top_5 : decode cX5_top 5 = .ok (.putfield 153, 3) := by decide +kernel
theorem dX5_top_8 : decode cX5_top 8 = .ok (.iconst 0, 1) := by decide +kernel
theorem dX5_top_9 : decode cX5_top 9 = .ok (.istore_n 2, 1) := by decide +kernel
theorem dX5_top_10 : decode cX5_top 10 = .ok (.iload_n 2, 1) := by decide +kernel
theorem dX5_top_11 : decode cX5_top 11 = .ok (.aload_n 0, 1) := by decide +kernel
theorem dX5_top_12 : decode cX5_top 12 = .ok (.getfield 45, 3) := by decide +kernel
theorem dX5_top_15 : decode cX5_top 15 = .ok (.getfield 154, 3) := by decide +kernel
theorem dX5_top_18 : decode cX5_top 18 = .ok (.if_icmp .ge 26, 3) := by decide +kernel
theorem dX5_top_21 : decode cX5_top 21 = .ok (.aload_n 0, 1) := by decide +kernel
theorem dX5_top_22 : decode cX5_top 22 = .ok (.getfield 38, 3) := by decide +kernel
theorem dX5_top_25 : decode cX5_top 25 = .ok (.iload_n 2, 1) := by decide +kernel
theorem dX5_top_26 : decode cX5_top 26 = .ok (.aload_n 0, 1) := by decide +kernel
theorem dX5_top_27 : decode cX5_top 27 = .ok (.getfield 31, 3) := by decide +kernel
theorem dX5_top_30 : decode cX5_top 30 = .ok (.getfield 130, 3) := by decide +kernel
theorem dX5_top_33 : decode cX5_top 33 = .ok (.iload_n 2, 1) := by decide +kernel
theorem dX5_top_34 : decode cX5_top 34 = .ok (.laload, 1) := by decide +kernel
theorem dX5_top_35 : decode cX5_top 35 = .ok (.invokevirtual 157, 3) := by decide +kernel
theorem dX5_top_38 : decode cX5_top 38 = .ok (.iinc 2 1, 3) := by decide +kernel
theorem dX5_top_41 : decode cX5_top 41 = .ok (.goto (-31), 3) := by decide +kernel
theorem dX5_top_44 : decode cX5_top 44 = .ok (.aload_n 0, 1) := by decide +kernel
theorem dX5_top_45 : decode cX5_top 45 = .ok (.getfield 38, 3) := by decide +kernel
theorem dX5_top_48 : decode cX5_top 48 = .ok (.iload_n 1, 1) := by decide +kernel
theorem dX5_top_49 : decode cX5_top 49 = .ok (.invokevirtual 160, 3) := by decide +kernel
theorem dX5_top_52 : decode cX5_top 52 = .ok (.ireturn, 1) := by decide +kernel
set_option maxRecDepth 20000 in
theorem ggX5_gives_X2_joins : GoodIn wsX5_gives wsX2_joins := goodIn_r _ [8, 9, 10, 11, 12, 13, 7, 14, 15, 16, 17, 18, 19, 41, 42, 43, 44, 45, 46] (by decide +kernel) (by decide +kernel)
set_option maxRecDepth 20000 in
theorem gX5_gives_X2_joins : GoodIn wsX5_gives (wsV RX5 91 RX2 yX2_joins wsX2_joins) := goodIn_app (goodIn_of _ (by decide +kernel)) ggX5_gives_X2_joins
set_option maxRecDepth 20000 in
theorem ggX5_gives_X4_share : GoodIn wsX5_gives wsX4_share := goodIn_r _ [24, 25, 26, 27, 28, 29, 30, 7, 31, 9, 11, 12, 13, 14, 15, 32, 33, 34, 47, 48, 49, 50, 51, 52, 53, 41, 42, 43, 44, 45, 46] (by decide +kernel) (by decide +kernel)
set_option maxRecDepth 20000 in
theorem gX5_gives_X4_share : GoodIn wsX5_gives (wsV RX5 163 RX4 yX4_share wsX4_share) := goodIn_app (goodIn_of _ (by decide +kernel)) ggX5_gives_X4_share
theorem dX5_gives_0 : decode cX5_gives 0 = .ok (.aload_n 0, 1) := by decide +kernel
theorem dX5_gives_1 : decode cX5_gives 1 = .ok (.getfield 45, 3) := by decide +kernel
theorem dX5_gives_4 : decode cX5_gives 4 = .ok (.iload_n 1, 1) := by decide +kernel
theorem dX5_gives_5 : decode cX5_gives 5 = .ok (.iload_n 2, 1) := by decide +kernel
theorem dX5_gives_6 : decode cX5_gives 6 = .ok (.invokevirtual 91, 3) := by decide +kernel
theorem dX5_gives_9 : decode cX5_gives 9 = .ok (.ifCond .eq 18, 3) := by decide +kernel
theorem dX5_gives_12 : decode cX5_gives 12 = .ok (.aload_n 0, 1) := by decide +kernel
theorem dX5_gives_13 : decode cX5_gives 13 = .ok (.getfield 31, 3) := by decide +kernel
theorem dX5_gives_16 : decode cX5_gives 16 = .ok (.aload_n 0, 1) := by decide +kernel
theorem dX5_gives_17 : decode cX5_gives 17 = .ok (.getfield 45, 3) := by decide +kernel
theorem dX5_gives_20 : decode cX5_gives 20 = .ok (.iload_n 1, 1) := by decide +kernel
theorem dX5_gives_21 : decode cX5_gives 21 = .ok (.invokevirtual 163, 3) := by decide +kernel
theorem dX5_gives_24 : decode cX5_gives 24 = .ok (.goto 6, 3) := by decide +kernel
theorem dX5_gives_27 : decode cX5_gives 27 = .ok (.ldc2_w 151, 3) := by decide +kernel
theorem dX5_gives_30 : decode cX5_gives 30 = .ok (.lreturn, 1) := by decide +kernel
set_option maxRecDepth 20000 in
theorem ggX5_giver_X2_joins : GoodIn wsX5_giver wsX2_joins := goodIn_r _ [8, 9, 10, 11, 12, 13, 7, 14, 15, 16, 17, 18, 19, 56, 57, 58, 59, 60, 61] (by decide +kernel) (by decide +kernel)
set_option maxRecDepth 20000 in
theorem gX5_giver_X2_joins : GoodIn wsX5_giver (wsV RX5 91 RX2 yX2_joins wsX2_joins) := goodIn_app (goodIn_of _ (by decide +kernel)) ggX5_giver_X2_joins
set_option maxRecDepth 20000 in
theorem ggX5_giver_X4_share : GoodIn wsX5_giver wsX4_share := goodIn_r _ [24, 25, 26, 27, 28, 29, 30, 7, 31, 9, 11, 12, 13, 14, 15, 32, 33, 34, 62, 63, 64, 65, 66, 67, 68, 56, 57, 58, 59, 60, 61] (by decide +kernel) (by decide +kernel)
set_option maxRecDepth 20000 in
theorem gX5_giver_X4_share : GoodIn wsX5_giver (wsV RX5 163 RX4 yX4_share wsX4_share) := goodIn_app (goodIn_of _ (by decide +kernel)) ggX5_giver_X4_share
set_option maxRecDepth 20000 in
theorem ggX5_giver_X3_place : GoodIn wsX5_giver wsX3_place := goodIn_r _ [39, 40, 41, 42, 53, 54, 55] (by decide +kernel) (by decide +kernel)
set_option maxRecDepth 20000 in
theorem gX5_giver_X3_place : GoodIn wsX5_giver (wsV RX5 157 RX3 yX3_place wsX3_place) := goodIn_app (goodIn_of _ (by decide +kernel)) ggX5_giver_X3_place
set_option maxRecDepth 20000 in
theorem ggX5_giver_X3_node : GoodIn wsX5_giver wsX3_node := goodIn_r _ [46, 40, 42, 53, 54, 55] (by decide +kernel) (by decide +kernel)
set_option maxRecDepth 20000 in
theorem gX5_giver_X3_node : GoodIn wsX5_giver (wsV RX5 160 RX3 yX3_node wsX3_node) := goodIn_app (goodIn_of _ (by decide +kernel)) ggX5_giver_X3_node
theorem dX5_giver_0 : decode cX5_giver 0 = .ok (.aload_n 0, 1) := by decide +kernel
theorem dX5_giver_1 : decode cX5_giver 1 = .ok (.getfield 38, 3) := by decide +kernel
theorem dX5_giver_4 : decode cX5_giver 4 = .ok (.iconst 0, 1) := by decide +kernel
theorem dX5_giver_5 : decode cX5_giver 5 = .ok (.putfield 153, 3) := by decide +kernel
theorem dX5_giver_8 : decode cX5_giver 8 = .ok (.iconst 0, 1) := by decide +kernel
theorem dX5_giver_9 : decode cX5_giver 9 = .ok (.istore_n 3, 1) := by decide +kernel
theorem dX5_giver_10 : decode cX5_giver 10 = .ok (.iload_n 3, 1) := by decide +kernel
theorem dX5_giver_11 : decode cX5_giver 11 = .ok (.aload_n 0, 1) := by decide +kernel
theorem dX5_giver_12 : decode cX5_giver 12 = .ok (.getfield 45, 3) := by decide +kernel
theorem dX5_giver_15 : decode cX5_giver 15 = .ok (.getfield 154, 3) := by decide +kernel
theorem dX5_giver_18 : decode cX5_giver 18 = .ok (.if_icmp .ge 41, 3) := by decide +kernel
theorem dX5_giver_21 : decode cX5_giver 21 = .ok (.aload_n 0, 1) := by decide +kernel
theorem dX5_giver_22 : decode cX5_giver 22 = .ok (.getfield 45, 3) := by decide +kernel
theorem dX5_giver_25 : decode cX5_giver 25 = .ok (.iload_n 3, 1) := by decide +kernel
theorem dX5_giver_26 : decode cX5_giver 26 = .ok (.iload_n 1, 1) := by decide +kernel
theorem dX5_giver_27 : decode cX5_giver 27 = .ok (.invokevirtual 91, 3) := by decide +kernel
theorem dX5_giver_30 : decode cX5_giver 30 = .ok (.ifCond .eq 23, 3) := by decide +kernel
theorem dX5_giver_33 : decode cX5_giver 33 = .ok (.aload_n 0, 1) := by decide +kernel
theorem dX5_giver_34 : decode cX5_giver 34 = .ok (.getfield 38, 3) := by decide +kernel
theorem dX5_giver_37 : decode cX5_giver 37 = .ok (.iload_n 3, 1) := by decide +kernel
theorem dX5_giver_38 : decode cX5_giver 38 = .ok (.aload_n 0, 1) := by decide +kernel
theorem dX5_giver_39 : decode cX5_giver 39 = .ok (.getfield 31, 3) := by decide +kernel
theorem dX5_giver_42 : decode cX5_giver 42 = .ok (.aload_n 0, 1) := by decide +kernel
theorem dX5_giver_43 : decode cX5_giver 43 = .ok (.getfield 45, 3) := by decide +kernel
theorem dX5_giver_46 : decode cX5_giver 46 = .ok (.iload_n 3, 1) := by decide +kernel
theorem dX5_giver_47 : decode cX5_giver 47 = .ok (.invokevirtual 163, 3) := by decide +kernel
theorem dX5_giver_50 : decode cX5_giver 50 = .ok (.invokevirtual 157, 3) := by decide +kernel
theorem dX5_giver_53 : decode cX5_giver 53 = .ok (.iinc 3 1, 3) := by decide +kernel
theorem dX5_giver_56 : decode cX5_giver 56 = .ok (.goto (-46), 3) := by decide +kernel
theorem dX5_giver_59 : decode cX5_giver 59 = .ok (.aload_n 0, 1) := by decide +kernel
theorem dX5_giver_60 : decode cX5_giver 60 = .ok (.getfield 38, 3) := by decide +kernel
theorem dX5_giver_63 : decode cX5_giver 63 = .ok (.iload_n 2, 1) := by decide +kernel
theorem dX5_giver_64 : decode cX5_giver 64 = .ok (.invokevirtual 160, 3) := by decide +kernel
theorem dX5_giver_67 : decode cX5_giver 67 = .ok (.ireturn, 1) := by decide +kernel
set_option maxRecDepth 20000 in
theorem ggX5_write_X0_putUnsigned : GoodIn wsX5_write wsX0_putUnsigned := goodIn_r _ [7, 8, 9, 10, 6, 11, 12, 13, 42, 43] (by decide +kernel) (by decide +kernel)
set_option maxRecDepth 20000 in
theorem gX5_write_X0_putUnsigned : GoodIn wsX5_write (wsV RX5 167 RX0 yX0_putUnsigned wsX0_putUnsigned) := goodIn_app (goodIn_of _ (by decide +kernel)) ggX5_write_X0_putUnsigned
set_option maxRecDepth 20000 in
theorem ggX5_write_X5_putNode : GoodIn wsX5_write wsX5_putNode := goodIn_r _ [18, 2, 1, 19, 20, 21, 22, 23, 24, 25, 26, 27, 28, 29, 3, 4, 5, 6, 7, 8, 9, 10, 11, 12, 13, 30, 31, 32, 33, 34, 35, 36, 37, 38, 39, 40, 41, 44, 45, 46, 47, 48, 49, 42, 43] (by decide +kernel) (by decide +kernel)
set_option maxRecDepth 20000 in
theorem gX5_write_X5_putNode : GoodIn wsX5_write (wsV RX5 170 RX5 yX5_putNode wsX5_putNode) := goodIn_app (goodIn_of _ (by decide +kernel)) ggX5_write_X5_putNode
theorem dX5_write_0 : decode cX5_write 0 = .ok (.aload_n 0, 1) := by decide +kernel
theorem dX5_write_1 : decode cX5_write 1 = .ok (.getfield 18, 3) := by decide +kernel
theorem dX5_write_4 : decode cX5_write 4 = .ok (.iconst 0, 1) := by decide +kernel
theorem dX5_write_5 : decode cX5_write 5 = .ok (.putfield 53, 3) := by decide +kernel
theorem dX5_write_8 : decode cX5_write 8 = .ok (.aload_n 0, 1) := by decide +kernel
theorem dX5_write_9 : decode cX5_write 9 = .ok (.getfield 18, 3) := by decide +kernel
theorem dX5_write_12 : decode cX5_write 12 = .ok (.aload_n 0, 1) := by decide +kernel
theorem dX5_write_13 : decode cX5_write 13 = .ok (.getfield 45, 3) := by decide +kernel
theorem dX5_write_16 : decode cX5_write 16 = .ok (.getfield 154, 3) := by decide +kernel
theorem dX5_write_19 : decode cX5_write 19 = .ok (.invokevirtual 167, 3) := by decide +kernel
theorem dX5_write_22 : decode cX5_write 22 = .ok (.iconst 0, 1) := by decide +kernel
theorem dX5_write_23 : decode cX5_write 23 = .ok (.istore_n 1, 1) := by decide +kernel
theorem dX5_write_24 : decode cX5_write 24 = .ok (.iload_n 1, 1) := by decide +kernel
theorem dX5_write_25 : decode cX5_write 25 = .ok (.aload_n 0, 1) := by decide +kernel
theorem dX5_write_26 : decode cX5_write 26 = .ok (.getfield 45, 3) := by decide +kernel
theorem dX5_write_29 : decode cX5_write 29 = .ok (.getfield 154, 3) := by decide +kernel
theorem dX5_write_32 : decode cX5_write 32 = .ok (.if_icmp .ge 14, 3) := by decide +kernel
theorem dX5_write_35 : decode cX5_write 35 = .ok (.aload_n 0, 1) := by decide +kernel
theorem dX5_write_36 : decode cX5_write 36 = .ok (.iload_n 1, 1) := by decide +kernel
theorem dX5_write_37 : decode cX5_write 37 = .ok (.invokevirtual 170, 3) := by decide +kernel
theorem dX5_write_40 : decode cX5_write 40 = .ok (.iinc 1 1, 3) := by decide +kernel
theorem dX5_write_43 : decode cX5_write 43 = .ok (.goto (-19), 3) := by decide +kernel
theorem dX5_write_46 : decode cX5_write 46 = .ok (.aload_n 0, 1) := by decide +kernel
theorem dX5_write_47 : decode cX5_write 47 = .ok (.getfield 18, 3) := by decide +kernel
theorem dX5_write_50 : decode cX5_write 50 = .ok (.getfield 53, 3) := by decide +kernel
theorem dX5_write_53 : decode cX5_write 53 = .ok (.ireturn, 1) := by decide +kernel
theorem dX5_octet_0 : decode cX5_octet 0 = .ok (.iload_n 1, 1) := by decide +kernel
theorem dX5_octet_1 : decode cX5_octet 1 = .ok (.ifCond .lt 14, 3) := by decide +kernel
theorem dX5_octet_4 : decode cX5_octet 4 = .ok (.iload_n 1, 1) := by decide +kernel
theorem dX5_octet_5 : decode cX5_octet 5 = .ok (.aload_n 0, 1) := by decide +kernel
theorem dX5_octet_6 : decode cX5_octet 6 = .ok (.getfield 18, 3) := by decide +kernel
theorem dX5_octet_9 : decode cX5_octet 9 = .ok (.getfield 53, 3) := by decide +kernel
theorem dX5_octet_12 : decode cX5_octet 12 = .ok (.if_icmp .lt 11, 3) := by decide +kernel
theorem dX5_octet_15 : decode cX5_octet 15 = .ok (.new 97, 3) := by decide +kernel
theorem dX5_octet_18 : decode cX5_octet 18 = .ok (.dup, 1) := by decide +kernel
theorem dX5_octet_19 : decode cX5_octet 19 = .ok (.invokespecial 99, 3) := by decide +kernel
theorem dX5_octet_22 : decode cX5_octet 22 = .ok (.athrow, 1) := by decide +kernel
theorem dX5_octet_23 : decode cX5_octet 23 = .ok (.aload_n 0, 1) := by decide +kernel
theorem dX5_octet_24 : decode cX5_octet 24 = .ok (.getfield 18, 3) := by decide +kernel
theorem dX5_octet_27 : decode cX5_octet 27 = .ok (.getfield 173, 3) := by decide +kernel
theorem dX5_octet_30 : decode cX5_octet 30 = .ok (.iload_n 1, 1) := by decide +kernel
theorem dX5_octet_31 : decode cX5_octet 31 = .ok (.iaload, 1) := by decide +kernel
theorem dX5_octet_32 : decode cX5_octet 32 = .ok (.ireturn, 1) := by decide +kernel
set_option maxRecDepth 20000 in
theorem ggX5_count_X2_bareNodes : GoodIn wsX5_count wsX2_bareNodes := goodIn_r _ [9, 10, 11, 12, 13, 8, 14, 15, 16, 17, 18, 19, 26, 27, 28, 29, 30, 31] (by decide +kernel) (by decide +kernel)
set_option maxRecDepth 20000 in
theorem gX5_count_X2_bareNodes : GoodIn wsX5_count (wsV RX5 177 RX2 yX2_bareNodes wsX2_bareNodes) := goodIn_app (goodIn_of _ (by decide +kernel)) ggX5_count_X2_bareNodes
theorem dX5_count_0 : decode cX5_count 0 = .ok (.iload_n 1, 1) := by decide +kernel
theorem dX5_count_1 : decode cX5_count 1 = .ok (.tableswitch 111 0 7 #[47, 55, 63, 71, 79, 87, 95, 103], 47) := by decide +kernel
theorem dX5_count_48 : decode cX5_count 48 = .ok (.aload_n 0, 1) := by decide +kernel
theorem dX5_count_49 : decode cX5_count 49 = .ok (.getfield 45, 3) := by decide +kernel
theorem dX5_count_52 : decode cX5_count 52 = .ok (.getfield 154, 3) := by decide +kernel
theorem dX5_count_55 : decode cX5_count 55 = .ok (.ireturn, 1) := by decide +kernel
theorem dX5_count_56 : decode cX5_count 56 = .ok (.aload_n 0, 1) := by decide +kernel
theorem dX5_count_57 : decode cX5_count 57 = .ok (.getfield 45, 3) := by decide +kernel
theorem dX5_count_60 : decode cX5_count 60 = .ok (.getfield 68, 3) := by decide +kernel
theorem dX5_count_63 : decode cX5_count 63 = .ok (.ireturn, 1) := by decide +kernel
theorem dX5_count_64 : decode cX5_count 64 = .ok (.aload_n 0, 1) := by decide +kernel
theorem dX5_count_65 : decode cX5_count 65 = .ok (.getfield 45, 3) := by decide +kernel
theorem dX5_count_68 : decode cX5_count 68 = .ok (.invokevirtual 177, 3) := by decide +kernel
theorem dX5_count_71 : decode cX5_count 71 = .ok (.ireturn, 1) := by decide +kernel
theorem dX5_count_72 : decode cX5_count 72 = .ok (.aload_n 0, 1) := by decide +kernel
theorem dX5_count_73 : decode cX5_count 73 = .ok (.getfield 45, 3) := by decide +kernel
theorem dX5_count_76 : decode cX5_count 76 = .ok (.getfield 181, 3) := by decide +kernel
theorem dX5_count_79 : decode cX5_count 79 = .ok (.ireturn, 1) := by decide +kernel
theorem dX5_count_80 : decode cX5_count 80 = .ok (.aload_n 0, 1) := by decide +kernel
theorem dX5_count_81 : decode cX5_count 81 = .ok (.getfield 14, 3) := by decide +kernel
theorem dX5_count_84 : decode cX5_count 84 = .ok (.getfield 53, 3) := by decide +kernel
theorem dX5_count_87 : decode cX5_count 87 = .ok (.ireturn, 1) := by decide +kernel
theorem dX5_count_88 : decode cX5_count 88 = .ok (.aload_n 0, 1) := by decide +kernel
theorem dX5_count_89 : decode cX5_count 89 = .ok (.getfield 18, 3) := by decide +kernel
theorem dX5_count_92 : decode cX5_count 92 = .ok (.getfield 53, 3) := by decide +kernel
theorem dX5_count_95 : decode cX5_count 95 = .ok (.ireturn, 1) := by decide +kernel
theorem dX5_count_96 : decode cX5_count 96 = .ok (.aload_n 0, 1) := by decide +kernel
theorem dX5_count_97 : decode cX5_count 97 = .ok (.getfield 31, 3) := by decide +kernel
theorem dX5_count_100 : decode cX5_count 100 = .ok (.getfield 184, 3) := by decide +kernel
theorem dX5_count_103 : decode cX5_count 103 = .ok (.ireturn, 1) := by decide +kernel
theorem dX5_count_104 : decode cX5_count 104 = .ok (.aload_n 0, 1) := by decide +kernel
theorem dX5_count_105 : decode cX5_count 105 = .ok (.getfield 31, 3) := by decide +kernel
theorem dX5_count_108 : decode cX5_count 108 = .ok (.getfield 187, 3) := by decide +kernel
end
section
theorem dX5_count_111 : decode cX5_count 111 = .ok (.ireturn, 1) := by decide +kernel
theorem dX5_count_112 : decode cX5_count 112 = .ok (.iconst (-1), 1) := by decide +kernel
theorem dX5_count_113 : decode cX5_count 113 = .ok (.ireturn, 1) := by decide +kernel
set_option maxRecDepth 20000 in
theorem ggX5_beginIf_X4_begin : GoodIn wsX5_beginIf wsX4_begin := goodIn_r _ [7, 8, 9, 10, 11, 12, 13, 14, 15, 16, 23, 24, 25, 26, 27, 28, 29, 30, 31, 32, 33, 34, 35] (by decide +kernel) (by decide +kernel)
set_option maxRecDepth 20000 in
theorem gX5_beginIf_X4_begin : GoodIn wsX5_beginIf (wsV RX5 49 RX4 yX4_begin wsX4_begin) := goodIn_app (goodIn_of _ (by decide +kernel)) ggX5_beginIf_X4_begin
theorem dX5_beginIf_0 : decode cX5_beginIf 0 = .ok (.iload_n 1, 1) := by decide +kernel
theorem dX5_beginIf_1 : decode cX5_beginIf 1 = .ok (.ifCond .eq 14, 3) := by decide +kernel
theorem dX5_beginIf_4 : decode cX5_beginIf 4 = .ok (.aload_n 0, 1) := by decide +kernel
theorem dX5_beginIf_5 : decode cX5_beginIf 5 = .ok (.getfield 31, 3) := by decide +kernel
theorem dX5_beginIf_8 : decode cX5_beginIf 8 = .ok (.aload_n 0, 1) := by decide +kernel
theorem dX5_beginIf_9 : decode cX5_beginIf 9 = .ok (.getfield 45, 3) := by decide +kernel
theorem dX5_beginIf_12 : decode cX5_beginIf 12 = .ok (.invokevirtual 49, 3) := by decide +kernel
theorem dX5_beginIf_15 : decode cX5_beginIf 15 = .ok (.iload_n 1, 1) := by decide +kernel
theorem dX5_beginIf_16 : decode cX5_beginIf 16 = .ok (.ireturn, 1) := by decide +kernel
set_option maxRecDepth 20000 in
theorem ggX5_putNode_X2_outOf : GoodIn wsX5_putNode wsX2_outOf := goodIn_r _ [7, 8, 9, 10, 11, 6, 12, 13, 37, 38, 39, 40, 41, 42] (by decide +kernel) (by decide +kernel)
set_option maxRecDepth 20000 in
theorem gX5_putNode_X2_outOf : GoodIn wsX5_putNode (wsV RX5 100 RX2 yX2_outOf wsX2_outOf) := goodIn_app (goodIn_of _ (by decide +kernel)) ggX5_putNode_X2_outOf
set_option maxRecDepth 20000 in
theorem ggX5_putNode_X0_putUnsigned : GoodIn wsX5_putNode wsX0_putUnsigned := goodIn_r _ [18, 19, 20, 21, 17, 22, 23, 24, 43, 44] (by decide +kernel) (by decide +kernel)
set_option maxRecDepth 20000 in
theorem gX5_putNode_X0_putUnsigned : GoodIn wsX5_putNode (wsV RX5 167 RX0 yX0_putUnsigned wsX0_putUnsigned) := goodIn_app (goodIn_of _ (by decide +kernel)) ggX5_putNode_X0_putUnsigned
set_option maxRecDepth 20000 in
theorem ggX5_putNode_X2_target : GoodIn wsX5_putNode wsX2_target := goodIn_r _ [28, 29, 8, 30, 4, 5, 6, 7, 9, 10, 11, 12, 13, 37, 38, 39, 40, 41, 42] (by decide +kernel) (by decide +kernel)
set_option maxRecDepth 20000 in
theorem gX5_putNode_X2_target : GoodIn wsX5_putNode (wsV RX5 107 RX2 yX2_target wsX2_target) := goodIn_app (goodIn_of _ (by decide +kernel)) ggX5_putNode_X2_target
theorem dX5_putNode_0 : decode cX5_putNode 0 = .ok (.aload_n 0, 1) := by decide +kernel
theorem dX5_putNode_1 : decode cX5_putNode 1 = .ok (.getfield 45, 3) := by decide +kernel
theorem dX5_putNode_4 : decode cX5_putNode 4 = .ok (.iload_n 1, 1) := by decide +kernel
theorem dX5_putNode_5 : decode cX5_putNode 5 = .ok (.invokevirtual 100, 3) := by decide +kernel
theorem dX5_putNode_8 : decode cX5_putNode 8 = .ok (.istore_n 2, 1) := by decide +kernel
theorem dX5_putNode_9 : decode cX5_putNode 9 = .ok (.aload_n 0, 1) := by decide +kernel
theorem dX5_putNode_10 : decode cX5_putNode 10 = .ok (.getfield 18, 3) := by decide +kernel
theorem dX5_putNode_13 : decode cX5_putNode 13 = .ok (.iload_n 2, 1) := by decide +kernel
theorem dX5_putNode_14 : decode cX5_putNode 14 = .ok (.invokevirtual 167, 3) := by decide +kernel
theorem dX5_putNode_17 : decode cX5_putNode 17 = .ok (.iconst (-1), 1) := by decide +kernel
theorem dX5_putNode_18 : decode cX5_putNode 18 = .ok (.istore_n 3, 1) := by decide +kernel
theorem dX5_putNode_19 : decode cX5_putNode 19 = .ok (.iconst 0, 1) := by decide +kernel
theorem dX5_putNode_20 : decode cX5_putNode 20 = .ok (.istore 4, 2) := by decide +kernel
theorem dX5_putNode_22 : decode cX5_putNode 22 = .ok (.iload 4, 2) := by decide +kernel
theorem dX5_putNode_24 : decode cX5_putNode 24 = .ok (.iload_n 2, 1) := by decide +kernel
theorem dX5_putNode_25 : decode cX5_putNode 25 = .ok (.if_icmp .ge 75, 3) := by decide +kernel
theorem dX5_putNode_28 : decode cX5_putNode 28 = .ok (.aload_n 0, 1) := by decide +kernel
theorem dX5_putNode_29 : decode cX5_putNode 29 = .ok (.getfield 45, 3) := by decide +kernel
theorem dX5_putNode_32 : decode cX5_putNode 32 = .ok (.iload_n 1, 1) := by decide +kernel
theorem dX5_putNode_33 : decode cX5_putNode 33 = .ok (.iload 4, 2) := by decide +kernel
theorem dX5_putNode_35 : decode cX5_putNode 35 = .ok (.invokevirtual 107, 3) := by decide +kernel
theorem dX5_putNode_38 : decode cX5_putNode 38 = .ok (.istore 5, 2) := by decide +kernel
theorem dX5_putNode_40 : decode cX5_putNode 40 = .ok (.iload 4, 2) := by decide +kernel
theorem dX5_putNode_42 : decode cX5_putNode 42 = .ok (.ifCond .le 19, 3) := by decide +kernel
theorem dX5_putNode_45 : decode cX5_putNode 45 = .ok (.aload_n 0, 1) := by decide +kernel
theorem dX5_putNode_46 : decode cX5_putNode 46 = .ok (.getfield 18, 3) := by decide +kernel
theorem dX5_putNode_49 : decode cX5_putNode 49 = .ok (.iload 5, 2) := by decide +kernel
theorem dX5_putNode_51 : decode cX5_putNode 51 = .ok (.iload_n 3, 1) := by decide +kernel
theorem dX5_putNode_52 : decode cX5_putNode 52 = .ok (.isub, 1) := by decide +kernel
theorem dX5_putNode_53 : decode cX5_putNode 53 = .ok (.iconst 1, 1) := by decide +kernel
theorem dX5_putNode_54 : decode cX5_putNode 54 = .ok (.isub, 1) := by decide +kernel
theorem dX5_putNode_55 : decode cX5_putNode 55 = .ok (.invokevirtual 167, 3) := by decide +kernel
theorem dX5_putNode_58 : decode cX5_putNode 58 = .ok (.goto 33, 3) := by decide +kernel
theorem dX5_putNode_61 : decode cX5_putNode 61 = .ok (.aload_n 0, 1) := by decide +kernel
theorem dX5_putNode_62 : decode cX5_putNode 62 = .ok (.getfield 18, 3) := by decide +kernel
theorem dX5_putNode_65 : decode cX5_putNode 65 = .ok (.iload 5, 2) := by decide +kernel
theorem dX5_putNode_67 : decode cX5_putNode 67 = .ok (.iload_n 1, 1) := by decide +kernel
theorem dX5_putNode_68 : decode cX5_putNode 68 = .ok (.if_icmp .ge 14, 3) := by decide +kernel
theorem dX5_putNode_71 : decode cX5_putNode 71 = .ok (.iconst 2, 1) := by decide +kernel
theorem dX5_putNode_72 : decode cX5_putNode 72 = .ok (.iload_n 1, 1) := by decide +kernel
theorem dX5_putNode_73 : decode cX5_putNode 73 = .ok (.iload 5, 2) := by decide +kernel
theorem dX5_putNode_75 : decode cX5_putNode 75 = .ok (.isub, 1) := by decide +kernel
theorem dX5_putNode_76 : decode cX5_putNode 76 = .ok (.imul, 1) := by decide +kernel
theorem dX5_putNode_77 : decode cX5_putNode 77 = .ok (.iconst 1, 1) := by decide +kernel
theorem dX5_putNode_78 : decode cX5_putNode 78 = .ok (.isub, 1) := by decide +kernel
theorem dX5_putNode_79 : decode cX5_putNode 79 = .ok (.goto 9, 3) := by decide +kernel
theorem dX5_putNode_82 : decode cX5_putNode 82 = .ok (.iconst 2, 1) := by decide +kernel
theorem dX5_putNode_83 : decode cX5_putNode 83 = .ok (.iload 5, 2) := by decide +kernel
theorem dX5_putNode_85 : decode cX5_putNode 85 = .ok (.iload_n 1, 1) := by decide +kernel
theorem dX5_putNode_86 : decode cX5_putNode 86 = .ok (.isub, 1) := by decide +kernel
theorem dX5_putNode_87 : decode cX5_putNode 87 = .ok (.imul, 1) := by decide +kernel
theorem dX5_putNode_88 : decode cX5_putNode 88 = .ok (.invokevirtual 167, 3) := by decide +kernel
theorem dX5_putNode_91 : decode cX5_putNode 91 = .ok (.iload 5, 2) := by decide +kernel
theorem dX5_putNode_93 : decode cX5_putNode 93 = .ok (.istore_n 3, 1) := by decide +kernel
theorem dX5_putNode_94 : decode cX5_putNode 94 = .ok (.iinc 4 1, 3) := by decide +kernel
theorem dX5_putNode_97 : decode cX5_putNode 97 = .ok (.goto (-75), 3) := by decide +kernel
theorem dX5_putNode_100 : decode cX5_putNode 100 = .ok (.return_, 1) := by decide +kernel
theorem dX5_quotient_0 : decode cX5_quotient 0 = .ok (.lload_n 2, 1) := by decide +kernel
theorem dX5_quotient_1 : decode cX5_quotient 1 = .ok (.lconst 0, 1) := by decide +kernel
theorem dX5_quotient_2 : decode cX5_quotient 2 = .ok (.lcmp, 1) := by decide +kernel
theorem dX5_quotient_3 : decode cX5_quotient 3 = .ok (.ifCond .le 9, 3) := by decide +kernel
theorem dX5_quotient_6 : decode cX5_quotient 6 = .ok (.lload_n 0, 1) := by decide +kernel
theorem dX5_quotient_7 : decode cX5_quotient 7 = .ok (.lload_n 2, 1) := by decide +kernel
theorem dX5_quotient_8 : decode cX5_quotient 8 = .ok (.ldiv, 1) := by decide +kernel
theorem dX5_quotient_9 : decode cX5_quotient 9 = .ok (.goto 4, 3) := by decide +kernel
theorem dX5_quotient_12 : decode cX5_quotient 12 = .ok (.lconst 0, 1) := by decide +kernel
theorem dX5_quotient_13 : decode cX5_quotient 13 = .ok (.lreturn, 1) := by decide +kernel
end
section
/-! plain facts to paste, each family by itself; over the kit's nI, lN and upd -/
/-! ===== drawers: more things than places ===== -/
theorem fb_holes : ∀ (m n : Nat) (f : Nat → Nat), (∀ i, i < n → f i < m) → (∀ i j, i < j → j < n → f i ≠ f j) → n ≤ m := by
  intro m
  induction m with
  | zero =>
    intro n f h1 _
    rcases Nat.eq_zero_or_pos n with h | h
    · omega
    · exact absurd (h1 0 h) (Nat.not_lt_zero _)
  | succ m ih =>
    intro n f h1 h2
    by_cases hx : ∃ i, i < n ∧ f i = m
    · obtain ⟨a, ha, hfa⟩ := hx
      have hg := ih (n - 1) (fun i => if i < a then f i else f (i + 1)) (by
        intro i hi
        by_cases q : i < a
        · simp only [if_pos q]
          have b1 := h1 i (by omega)
          have b2 := h2 i a q ha
          omega
        · simp only [if_neg q]
          have b1 := h1 (i + 1) (by omega)
          have b2 := h2 a (i + 1) (by omega) (by omega)
          omega) (by
        intro i j hij hj
        by_cases q : i < a
        · by_cases r : j < a
          · simp only [if_pos q, if_pos r]
            exact h2 i j hij (by omega)
          · simp only [if_pos q, if_neg r]
            exact h2 i (j + 1) (by omega) (by omega)
        · have r : ¬ j < a := by omega
          simp only [if_neg q, if_neg r]
          exact h2 (i + 1) (j + 1) (by omega) (by omega))
      omega
    · have hg := ih n f (fun i hi => by
        have b1 := h1 i hi
        have b2 : f i ≠ m := fun e => hx ⟨i, hi, e⟩
        omega) h2
      omega
/-- two of them in one place -/
theorem fb_twice {m n : Nat} {f : Nat → Nat} (h : ∀ i, i < n → f i < m) (hm : m < n) : ∃ i j, i < j ∧ j < n ∧ f i = f j := by
  refine Classical.byContradiction fun hx => ?_
  have := fb_holes m n f h (fun i j hij hj e => hx ⟨i, j, hij, hj, e⟩)
  omega
/-- as many as places, none twice: each place is taken -/
theorem fb_onto {n : Nat} {f : Nat → Nat} (h : ∀ i, i < n → f i < n) (h2 : ∀ i j, i < j → j < n → f i ≠ f j) {y : Nat} (hy : y < n) : ∃ i, i < n ∧ f i = y := by
  refine Classical.byContradiction fun hx => ?_
  have hne : ∀ i, i < n → f i ≠ y := fun i hi e => hx ⟨i, hi, e⟩
  have := fb_holes (n - 1) n (fun i => if f i < y then f i else f i - 1) (by
    intro i hi
    have b1 := h i hi
    have b2 := hne i hi
    by_cases q : f i < y
    · simp only [if_pos q]; omega
    · simp only [if_neg q]; omega) (by
    intro i j hij hj
    have b1 := hne i (by omega)
    have b2 := hne j hj
    have b3 := h2 i j hij hj
    by_cases q : f i < y
    · by_cases r : f j < y
      · simp only [if_pos q, if_pos r]; exact b3
      · simp only [if_pos q, if_neg r]; omega
    · by_cases r : f j < y
      · simp only [if_neg q, if_pos r]; omega
      · simp only [if_neg q, if_neg r]; omega)
  omega
/-! ===== how many places have a property ===== -/
def fb_ct (p : Nat → Bool) : Nat → Nat
  | 0 => 0
  | n + 1 => fb_ct p n + (if p n then 1 else 0)
theorem fb_ct_succ (p : Nat → Bool) (n : Nat) : fb_ct p (n + 1) = fb_ct p n + (if p n then 1 else 0) := rfl
theorem fb_ct_le (p : Nat → Bool) : ∀ n, fb_ct p n ≤ n
  | 0 => Nat.le_refl _
  | n + 1 => by
    have h := fb_ct_le p n
    rw [fb_ct_succ]
    split <;> omega
theorem fb_ct_step (p : Nat → Bool) (m : Nat) : ∀ n, fb_ct p m ≤ fb_ct p (m + n)
  | 0 => Nat.le_refl _
  | n + 1 => by
    have h := fb_ct_step p m n
    show fb_ct p m ≤ fb_ct p (m + n + 1)
    rw [fb_ct_succ]
    omega
theorem fb_ct_mono (p : Nat → Bool) {m n : Nat} (h : m ≤ n) : fb_ct p m ≤ fb_ct p n := by
  have := fb_ct_step p m (n - m)
  rwa [Nat.add_sub_cancel' h] at this
theorem fb_ct_cong {p q : Nat → Bool} : ∀ {n : Nat}, (∀ k, k < n → p k = q k) → fb_ct p n = fb_ct q n
  | 0, _ => rfl
  | n + 1, h => by
    rw [fb_ct_succ, fb_ct_succ, fb_ct_cong (fun k hk => h k (by omega)), h n (by omega)]
/-- one place changed -/
theorem fb_ct_out (p : Nat → Bool) (b : Bool) {i n : Nat} (h : n ≤ i) : fb_ct (fun k => if k = i then b else p k) n = fb_ct p n :=
  fb_ct_cong fun k hk => if_neg (by omega)
theorem fb_ct_upd (p : Nat → Bool) (b : Bool) {i : Nat} : ∀ {n : Nat}, i < n → fb_ct (fun k => if k = i then b else p k) n + (if p i then 1 else 0) = fb_ct p n + (if b then 1 else 0)
  | 0, h => absurd h (Nat.not_lt_zero i)
  | n + 1, h => by
    rw [fb_ct_succ, fb_ct_succ]
    rcases Nat.lt_or_ge i n with q | q
    · have := fb_ct_upd p b q
      have e : (if n = i then b else p n) = p n := if_neg (by omega)
      rw [e]
      omega
    · have e : i = n := by omega
      subst e
      rw [fb_ct_out p b (Nat.le_refl _)]
      simp only [if_true]
      omega
theorem fb_ct_sub {p q : Nat → Bool} : ∀ {n : Nat}, (∀ k, k < n → p k = true → q k = true) → fb_ct p n ≤ fb_ct q n
  | 0, _ => Nat.le_refl _
  | n + 1, h => by
    have h1 := fb_ct_sub (n := n) (p := p) (q := q) (fun k hk => h k (by omega))
    have h2 := h n (by omega)
    rw [fb_ct_succ, fb_ct_succ]
    cases hp : p n <;> cases hq : q n <;> simp_all <;> omega
theorem fb_ct_or {p q : Nat → Bool} : ∀ {n : Nat}, (∀ k, k < n → ¬ (p k = true ∧ q k = true)) → fb_ct (fun k => p k || q k) n = fb_ct p n + fb_ct q n
  | 0, _ => rfl
  | n + 1, h => by
    have h1 := fb_ct_or (n := n) (p := p) (q := q) (fun k hk => h k (by omega))
    have h2 := h n (by omega)
    rw [fb_ct_succ, fb_ct_succ, fb_ct_succ, h1]
    cases hp : p n <;> cases hq : q n <;> simp_all <;> omega
theorem fb_ct_not (p : Nat → Bool) : ∀ n, fb_ct p n + fb_ct (fun k => !p k) n = n
  | 0 => rfl
  | n + 1 => by
    have h := fb_ct_not p n
    rw [fb_ct_succ, fb_ct_succ]
    cases p n <;> simp <;> omega
theorem fb_ct_split (p : Nat → Bool) (m : Nat) : ∀ n, fb_ct p (m + n) = fb_ct p m + fb_ct (fun k => p (m + k)) n
  | 0 => rfl
  | n + 1 => by
    have h := fb_ct_split p m n
    show fb_ct p (m + n + 1) = _
    rw [fb_ct_succ, fb_ct_succ, h, Nat.add_assoc]
theorem fb_ct_zero {p : Nat → Bool} : ∀ {n : Nat}, fb_ct p n = 0 ↔ ∀ k, k < n → p k = false
  | 0 => ⟨fun _ k hk => absurd hk (Nat.not_lt_zero k), fun _ => rfl⟩
  | n + 1 => by
    have h := fb_ct_zero (p := p) (n := n)
    rw [fb_ct_succ]
    constructor
    · intro e k hk
      have e1 : fb_ct p n = 0 := by omega
      rcases Nat.lt_or_ge k n with q | q
      · exact h.mp e1 k q
      · have ek : k = n := by omega
        subst ek
        cases hp : p k
        · rfl
        · simp [hp] at e
    · intro a
      rw [h.mpr (fun k hk => a k (by omega)), a n (by omega)]
      rfl
theorem fb_ct_pos {p : Nat → Bool} {n : Nat} : 0 < fb_ct p n ↔ ∃ k, k < n ∧ p k = true := by
  constructor
  · intro h
    refine Classical.byContradiction fun hx => ?_
    have := fb_ct_zero.mpr (fun k hk => by
      cases hp : p k
      · rfl
      · exact absurd ⟨k, hk, hp⟩ hx : ∀ k, k < n → p k = false)
    omega
  · rintro ⟨k, hk, hp⟩
    rcases Nat.eq_zero_or_pos (fb_ct p n) with e | e
    · have := fb_ct_zero.mp e k hk
      rw [this] at hp
      cases hp
    · exact e
theorem fb_ct_all {p : Nat → Bool} {n : Nat} : fb_ct p n = n ↔ ∀ k, k < n → p k = true := by
  have h := fb_ct_not p n
  constructor
  · intro e k hk
    have z : fb_ct (fun k => !p k) n = 0 := by omega
    have := fb_ct_zero.mp z k hk
    cases hp : p k
    · simp [hp] at this
    · rfl
  · intro a
    have z : fb_ct (fun k => !p k) n = 0 := fb_ct_zero.mpr (fun k hk => by simp [a k hk])
    omega
/-- the k-th place with the property -/
theorem fb_ct_kth {p : Nat → Bool} {k : Nat} : ∀ {n : Nat}, k < fb_ct p n → ∃ i, i < n ∧ p i = true ∧ fb_ct p i = k
  | 0, h => absurd h (Nat.not_lt_zero k)
  | n + 1, h => by
    rcases Nat.lt_or_ge k (fb_ct p n) with q | q
    · obtain ⟨i, h1, h2⟩ := fb_ct_kth q
      exact ⟨i, by omega, h2⟩
    · rw [fb_ct_succ] at h
      cases hp : p n
      · simp [hp] at h; omega
      · simp [hp] at h
        exact ⟨n, by omega, hp, by omega⟩
theorem fb_ct_kth_one {p : Nat → Bool} {i j : Nat} (hi : p i = true) (hj : p j = true) (e : fb_ct p i = fb_ct p j) : i = j := by
  have key : ∀ a b : Nat, a < b → p a = true → fb_ct p a < fb_ct p b := by
    intro a b hab ha
    have h := fb_ct_mono p (show a + 1 ≤ b from hab)
    rw [fb_ct_succ, ha] at h
    simp at h
    omega
  rcases Nat.lt_trichotomy i j with q | q | q
  · have := key i j q hi; omega
  · exact q
  · have := key j i q hj; omega
/-! ===== sums over a range: one place changed, parts, bounds ===== -/
def fb_sm (f : Nat → Nat) : Nat → Nat
  | 0 => 0
  | n + 1 => fb_sm f n + f n
theorem fb_sm_succ (f : Nat → Nat) (n : Nat) : fb_sm f (n + 1) = fb_sm f n + f n := rfl
theorem fb_sm_cong {f g : Nat → Nat} : ∀ {n : Nat}, (∀ k, k < n → f k = g k) → fb_sm f n = fb_sm g n
  | 0, _ => rfl
  | n + 1, h => by rw [fb_sm_succ, fb_sm_succ, fb_sm_cong (fun k hk => h k (by omega)), h n (by omega)]
theorem fb_sm_out (f : Nat → Nat) (v : Nat) {i n : Nat} (h : n ≤ i) : fb_sm (fun k => if k = i then v else f k) n = fb_sm f n :=
  fb_sm_cong fun k hk => if_neg (by omega)
theorem fb_sm_upd (f : Nat → Nat) (v : Nat) {i : Nat} : ∀ {n : Nat}, i < n → fb_sm (fun k => if k = i then v else f k) n + f i = fb_sm f n + v
  | 0, h => absurd h (Nat.not_lt_zero i)
  | n + 1, h => by
    rw [fb_sm_succ, fb_sm_succ]
    rcases Nat.lt_or_ge i n with q | q
    · have := fb_sm_upd f v q
      have e : (if n = i then v else f n) = f n := if_neg (by omega)
      rw [e]
      omega
    · have e : i = n := by omega
      subst e
      rw [fb_sm_out f v (Nat.le_refl _)]
      simp only [if_true]
      omega
theorem fb_sm_add (f g : Nat → Nat) : ∀ n, fb_sm (fun k => f k + g k) n = fb_sm f n + fb_sm g n
  | 0 => rfl
  | n + 1 => by
    have h := fb_sm_add f g n
    rw [fb_sm_succ, fb_sm_succ, fb_sm_succ, h]
    omega
theorem fb_sm_le {f g : Nat → Nat} : ∀ {n : Nat}, (∀ k, k < n → f k ≤ g k) → fb_sm f n ≤ fb_sm g n
  | 0, _ => Nat.le_refl _
  | n + 1, h => by
    have h1 := fb_sm_le (n := n) (f := f) (g := g) (fun k hk => h k (by omega))
    have h2 := h n (by omega)
    rw [fb_sm_succ, fb_sm_succ]
    omega
theorem fb_sm_const (c : Nat) : ∀ n, fb_sm (fun _ => c) n = n * c
  | 0 => by rw [Nat.zero_mul]; rfl
  | n + 1 => by rw [fb_sm_succ, fb_sm_const c n, Nat.succ_mul]
theorem fb_sm_bound {f : Nat → Nat} {c n : Nat} (h : ∀ k, k < n → f k ≤ c) : fb_sm f n ≤ n * c := by
  rw [← fb_sm_const c n]
  exact fb_sm_le h
theorem fb_sm_mono (f : Nat → Nat) (m : Nat) : ∀ n, fb_sm f m ≤ fb_sm f (m + n)
  | 0 => Nat.le_refl _
  | n + 1 => by
    have h := fb_sm_mono f m n
    show fb_sm f m ≤ fb_sm f (m + n + 1)
    rw [fb_sm_succ]
    omega
theorem fb_sm_part (f : Nat → Nat) {i n : Nat} (h : i < n) : fb_sm f i + f i ≤ fb_sm f n := by
  have := fb_sm_mono f (i + 1) (n - (i + 1))
  rw [fb_sm_succ, show i + 1 + (n - (i + 1)) = n by omega] at this
  exact this
theorem fb_sm_split (f : Nat → Nat) (m : Nat) : ∀ n, fb_sm f (m + n) = fb_sm f m + fb_sm (fun k => f (m + k)) n
  | 0 => rfl
  | n + 1 => by
    have h := fb_sm_split f m n
    show fb_sm f (m + n + 1) = _
    rw [fb_sm_succ, fb_sm_succ, h, Nat.add_assoc]
theorem fb_sm_zero {f : Nat → Nat} {n : Nat} (h : fb_sm f n = 0) : ∀ k, k < n → f k = 0 := fun k hk => by
  have := fb_sm_part f hk
  omega
/-- the same over whole numbers -/
def fb_si (f : Nat → Int) : Nat → Int
  | 0 => 0
  | n + 1 => fb_si f n + f n
theorem fb_si_succ (f : Nat → Int) (n : Nat) : fb_si f (n + 1) = fb_si f n + f n := rfl
theorem fb_si_cong {f g : Nat → Int} : ∀ {n : Nat}, (∀ k, k < n → f k = g k) → fb_si f n = fb_si g n
  | 0, _ => rfl
  | n + 1, h => by rw [fb_si_succ, fb_si_succ, fb_si_cong (fun k hk => h k (by omega)), h n (by omega)]
theorem fb_si_out (f : Nat → Int) (v : Int) {i n : Nat} (h : n ≤ i) : fb_si (fun k => if k = i then v else f k) n = fb_si f n :=
  fb_si_cong fun k hk => if_neg (by omega)
theorem fb_si_upd (f : Nat → Int) (v : Int) {i : Nat} : ∀ {n : Nat}, i < n → fb_si (fun k => if k = i then v else f k) n = fb_si f n - f i + v
  | 0, h => absurd h (Nat.not_lt_zero i)
  | n + 1, h => by
    rw [fb_si_succ, fb_si_succ]
    rcases Nat.lt_or_ge i n with q | q
    · have := fb_si_upd f v q
      have e : (if n = i then v else f n) = f n := if_neg (by omega)
      rw [e]
      omega
    · have e : i = n := by omega
      subst e
      rw [fb_si_out f v (Nat.le_refl _)]
      simp only [if_true]
      omega
theorem fb_si_add (f g : Nat → Int) : ∀ n, fb_si (fun k => f k + g k) n = fb_si f n + fb_si g n
  | 0 => rfl
  | n + 1 => by
    have h := fb_si_add f g n
    rw [fb_si_succ, fb_si_succ, fb_si_succ, h]
    omega
theorem fb_si_sub (f g : Nat → Int) : ∀ n, fb_si (fun k => f k - g k) n = fb_si f n - fb_si g n
  | 0 => rfl
  | n + 1 => by
    have h := fb_si_sub f g n
    rw [fb_si_succ, fb_si_succ, fb_si_succ, h]
    omega
theorem fb_si_mul (c : Int) (f : Nat → Int) : ∀ n, fb_si (fun k => c * f k) n = c * fb_si f n
  | 0 => (Int.mul_zero c).symm
  | n + 1 => by
    have h := fb_si_mul c f n
    rw [fb_si_succ, fb_si_succ, h, Int.mul_add]
theorem fb_si_split (f : Nat → Int) (m : Nat) : ∀ n, fb_si f (m + n) = fb_si f m + fb_si (fun k => f (m + k)) n
  | 0 => (Int.add_zero _).symm
  | n + 1 => by
    have h := fb_si_split f m n
    show fb_si f (m + n + 1) = _
    rw [fb_si_succ, fb_si_succ, h, Int.add_assoc]
theorem fb_si_nat (f : Nat → Nat) : ∀ n, fb_si (fun k => (f k : Int)) n = (fb_sm f n : Int)
  | 0 => rfl
  | n + 1 => by
    have h := fb_si_nat f n
    rw [fb_si_succ, fb_sm_succ, h]
    omega
theorem fb_si_bound {f : Nat → Int} {c : Int} (hc : 0 ≤ c) : ∀ {n : Nat}, (∀ k, k < n → -c ≤ f k ∧ f k ≤ c) → -(n * c) ≤ fb_si f n ∧ fb_si f n ≤ n * c
  | 0, _ => by simp [fb_si]
  | n + 1, h => by
    have h1 := fb_si_bound (n := n) (f := f) hc (fun k hk => h k (by omega))
    have h2 := h n (by omega)
    have e : ((n + 1 : Nat) : Int) * c = n * c + c := by rw [Int.natCast_add, Int.add_mul]; simp
    rw [fb_si_succ, e]
    omega
/-! ===== bits of a long that isn't negative ===== -/
theorem fb_andL (a b : Nat) : lN a &&& lN b = lN (a &&& b) := by
  apply Int64.toBitVec_inj.1
  show BitVec.ofNat 64 a &&& BitVec.ofNat 64 b = BitVec.ofNat 64 (a &&& b)
  apply BitVec.eq_of_getLsbD_eq
  intro i hi
  simp [hi]
theorem fb_orL (a b : Nat) : lN a ||| lN b = lN (a ||| b) := by
  apply Int64.toBitVec_inj.1
  show BitVec.ofNat 64 a ||| BitVec.ofNat 64 b = BitVec.ofNat 64 (a ||| b)
  apply BitVec.eq_of_getLsbD_eq
  intro i hi
  simp [hi]
theorem fb_xorL (a b : Nat) : lN a ^^^ lN b = lN (a ^^^ b) := by
  apply Int64.toBitVec_inj.1
  show BitVec.ofNat 64 a ^^^ BitVec.ofNat 64 b = BitVec.ofNat 64 (a ^^^ b)
  apply BitVec.eq_of_getLsbD_eq
  intro i hi
  simp [hi]
theorem fb_xorI (a b : Nat) : nI a ^^^ nI b = nI (a ^^^ b) := by
  apply Int32.toBitVec_inj.1
  show BitVec.ofNat 32 a ^^^ BitVec.ofNat 32 b = BitVec.ofNat 32 (a ^^^ b)
  apply BitVec.eq_of_getLsbD_eq
  intro i hi
  simp [hi]
theorem fb_maskL (n k : Nat) : lN n &&& lN (2 ^ k - 1) = lN (n % 2 ^ k) := by rw [fb_andL, Nat.and_two_pow_sub_one_eq_mod]
theorem fb_or_sumL {a k : Nat} (b : Nat) (h : a < 2 ^ k) : lN (2 ^ k * b) ||| lN a = lN (2 ^ k * b + a) := by rw [fb_orL, Nat.two_pow_add_eq_or_of_lt h]
theorem fb_lN_inj {a b : Nat} (ha : a < 2 ^ 63) (hb : b < 2 ^ 63) : lN a = lN b ↔ a = b := by
  constructor
  · intro h
    have h1 : (BitVec.ofNat 64 a).toNat = (BitVec.ofNat 64 b).toNat := congrArg (fun x : Int64 => x.toBitVec.toNat) h
    rw [BitVec.toNat_ofNat, BitVec.toNat_ofNat, Nat.mod_eq_of_lt (by omega), Nat.mod_eq_of_lt (by omega)] at h1
    exact h1
  · rintro rfl; rfl
theorem fb_bit_nat (n j : Nat) : n &&& 2 ^ j = 0 ↔ n.testBit j = false := by
  constructor
  · intro h
    have h1 : (n &&& 2 ^ j).testBit j = false := by rw [h]; simp
    rw [Nat.testBit_and] at h1
    simpa using h1
  · intro h
    apply Nat.eq_of_testBit_eq
    intro i
    rw [Nat.testBit_and]
    by_cases hi : j = i
    · subst hi; simp [h]
    · first | (simp [Nat.testBit_two_pow, hi]; done) | (simp [Nat.testBit_two_pow_of_ne hi]; done)
/-- one bit of a long -/
theorem fb_bitL {n j : Nat} (hj : j < 63) : lN n &&& lN (2 ^ j) = 0 ↔ n.testBit j = false := by
  have h2 : (2 : Nat) ^ j < 2 ^ 63 := Nat.pow_lt_pow_right (by decide) hj
  have hle : n &&& 2 ^ j ≤ 2 ^ j := Nat.and_le_right
  rw [fb_andL, ← fb_bit_nat, show (0 : Int64) = lN 0 from rfl]
  exact fb_lN_inj (by omega) (by decide)
/-- a bit set, a bit taken off -/
theorem fb_bit_set (n j i : Nat) : (n ||| 2 ^ j).testBit i = (n.testBit i || decide (i = j)) := by
  rw [Nat.testBit_or]
  by_cases h : j = i
  · subst h; simp
  · have h2 : ¬ i = j := fun e => h e.symm
    first | (simp [Nat.testBit_two_pow, h, h2]; done) | (simp [Nat.testBit_two_pow_of_ne h, h2]; done)
theorem fb_bit_flip (n j i : Nat) : (n ^^^ 2 ^ j).testBit i = (n.testBit i ^^ decide (i = j)) := by
  rw [Nat.testBit_xor]
  by_cases h : j = i
  · subst h; simp
  · have h2 : ¬ i = j := fun e => h e.symm
    first | (simp [Nat.testBit_two_pow, h, h2]; done) | (simp [Nat.testBit_two_pow_of_ne h, h2]; done)
/-! ===== a stretch of an array written over by a function ===== -/
def fb_put {α : Type} (f g : Nat → α) (a n : Nat) : Nat → α := fun k => if a ≤ k ∧ k < a + n then g (k - a) else f k
theorem fb_put_0 {α : Type} (f g : Nat → α) (a : Nat) : fb_put f g a 0 = f := funext fun k => if_neg (by omega)
theorem fb_put_in {α : Type} {f g : Nat → α} {a n k : Nat} (h1 : a ≤ k) (h2 : k < a + n) : fb_put f g a n k = g (k - a) := if_pos ⟨h1, h2⟩
theorem fb_put_out {α : Type} {f g : Nat → α} {a n k : Nat} (h : k < a ∨ a + n ≤ k) : fb_put f g a n k = f k := if_neg (by omega)
theorem fb_put_succ (f g : Nat → Int32) (a n : Nat) : upd (fb_put f g a n) (a + n) (g n) = fb_put f g a (n + 1) := by
  funext k
  by_cases h : k = a + n
  · subst h
    simp [upd, fb_put]
  · by_cases h1 : a ≤ k ∧ k < a + n
    · have h2 : a ≤ k ∧ k < a + (n + 1) := by omega
      simp only [upd, fb_put, if_neg h, if_pos h1, if_pos h2]
    · have h2 : ¬ (a ≤ k ∧ k < a + (n + 1)) := by omega
      simp only [upd, fb_put, if_neg h, if_neg h1, if_neg h2]
/-- .. from the far end down -/
theorem fb_put_down (f g : Nat → Int32) {a n m : Nat} (h : m < n) : upd (fb_put f (fun k => g (k + (m + 1))) (a + (m + 1)) (n - (m + 1))) (a + m) (g m) = fb_put f (fun k => g (k + m)) (a + m) (n - m) := by
  funext k
  by_cases h0 : k = a + m
  · subst h0
    simp only [upd, if_true]
    rw [fb_put_in (by omega) (by omega)]
    exact congrArg g (by omega)
  · simp only [upd, if_neg h0]
    by_cases h1 : a + (m + 1) ≤ k ∧ k < a + (m + 1) + (n - (m + 1))
    · rw [fb_put_in h1.1 h1.2, fb_put_in (by omega) (by omega)]
      exact congrArg g (by omega)
    · rw [fb_put_out (by omega), fb_put_out (by omega)]
theorem fb_put_cong {α : Type} {f f2 g g2 : Nat → α} {a n : Nat} (hf : ∀ k, (k < a ∨ a + n ≤ k) → f k = f2 k) (hg : ∀ k, k < n → g k = g2 k) : fb_put f g a n = fb_put f2 g2 a n := by
  funext k
  by_cases h : a ≤ k ∧ k < a + n
  · rw [fb_put_in h.1 h.2, fb_put_in h.1 h.2, hg _ (by omega)]
  · rw [fb_put_out (by omega), fb_put_out (by omega), hf _ (by omega)]
/-! ===== the least, the first, the best so far; that there is one alone ===== -/
theorem fb_first {p : Nat → Prop} [DecidablePred p] : ∀ {n : Nat}, (∃ i, i < n ∧ p i) → ∃ i, i < n ∧ p i ∧ ∀ j, j < i → ¬ p j
  | 0, h => by obtain ⟨i, hi, -⟩ := h; exact absurd hi (Nat.not_lt_zero i)
  | n + 1, h => by
    by_cases q : ∃ i, i < n ∧ p i
    · obtain ⟨i, h1, h2⟩ := fb_first q
      exact ⟨i, by omega, h2⟩
    · obtain ⟨i, h1, h2⟩ := h
      have e : i = n := by
        rcases Nat.lt_or_ge i n with r | r
        · exact absurd ⟨i, r, h2⟩ q
        · omega
      subst e
      exact ⟨i, by omega, h2, fun j hj hp => q ⟨j, hj, hp⟩⟩
theorem fb_first_one {p : Nat → Prop} {i j : Nat} (hi : p i) (hi2 : ∀ k, k < i → ¬ p k) (hj : p j) (hj2 : ∀ k, k < j → ¬ p k) : i = j := by
  rcases Nat.lt_trichotomy i j with q | q | q
  · exact absurd hi (hj2 i q)
  · exact q
  · exact absurd hj (hi2 j q)
theorem fb_last {p : Nat → Prop} [DecidablePred p] : ∀ {n : Nat}, (∃ i, i < n ∧ p i) → ∃ i, i < n ∧ p i ∧ ∀ j, i < j → j < n → ¬ p j
  | 0, h => by obtain ⟨i, hi, -⟩ := h; exact absurd hi (Nat.not_lt_zero i)
  | n + 1, h => by
    by_cases q : p n
    · exact ⟨n, by omega, q, fun j h1 h2 => by omega⟩
    · obtain ⟨i, h1, h2⟩ := h
      have hi : i < n := by
        rcases Nat.lt_or_ge i n with r | r
        · exact r
        · have e : i = n := by omega
          subst e
          exact absurd h2 q
      obtain ⟨i2, a1, a2, a3⟩ := fb_last (n := n) ⟨i, hi, h2⟩
      refine ⟨i2, by omega, a2, fun j b1 b2 => ?_⟩
      rcases Nat.lt_or_ge j n with r | r
      · exact a3 j b1 r
      · have e : j = n := by omega
        subst e
        exact q
/-- the first greatest -/
theorem fb_best (f : Nat → Int) : ∀ {n : Nat}, 0 < n → ∃ i, i < n ∧ (∀ j, j < n → f j ≤ f i) ∧ ∀ j, j < i → f j < f i
  | 0, h => absurd h (Nat.lt_irrefl 0)
  | 1, _ => ⟨0, by omega, fun j hj => by have e : j = 0 := by omega
                                         subst e; exact Int.le_refl _, fun j hj => absurd hj (Nat.not_lt_zero j)⟩
  | n + 2, _ => by
    obtain ⟨i, h1, h2, h3⟩ := fb_best f (n := n + 1) (by omega)
    by_cases q : f i < f (n + 1)
    · refine ⟨n + 1, by omega, fun j hj => ?_, fun j hj => ?_⟩
      · rcases Nat.lt_or_ge j (n + 1) with r | r
        · have := h2 j r; omega
        · have e : j = n + 1 := by omega
          subst e; exact Int.le_refl _
      · have := h2 j hj; omega
    · refine ⟨i, by omega, fun j hj => ?_, h3⟩
      rcases Nat.lt_or_ge j (n + 1) with r | r
      · exact h2 j r
      · have e : j = n + 1 := by omega
        subst e; omega
theorem fb_best_one {f : Nat → Int} {n i j : Nat} (hi : i < n) (hi2 : ∀ k, k < n → f k ≤ f i) (hi3 : ∀ k, k < i → f k < f i) (hj : j < n) (hj2 : ∀ k, k < n → f k ≤ f j) (hj3 : ∀ k, k < j → f k < f j) : i = j := by
  rcases Nat.lt_trichotomy i j with q | q | q
  · have a := hj3 i q
    have b := hi2 j hj
    omega
  · exact q
  · have a := hi3 j q
    have b := hj2 i hi
    omega
/-- the first least -/
theorem fb_low (f : Nat → Int) {n : Nat} (h : 0 < n) : ∃ i, i < n ∧ (∀ j, j < n → f i ≤ f j) ∧ ∀ j, j < i → f i < f j := by
  obtain ⟨i, h1, h2, h3⟩ := fb_best (fun k => -f k) h
  exact ⟨i, h1, fun j hj => by have := h2 j hj; omega, fun j hj => by have := h3 j hj; omega⟩
/-! ===== signed ints as whole numbers, within bounds ===== -/
theorem fb_rng (x : Int32) : -2147483648 ≤ x.toInt ∧ x.toInt < 2147483648 := by
  have h1 := Int32.le_toInt x
  have h2 := Int32.toInt_lt x
  omega
theorem fb_bmod {z : Int} (h1 : -2147483648 ≤ z) (h2 : z < 2147483648) : z.bmod (2 ^ 32) = z := by
  rw [Int.bmod_eq_of_le (by omega) (by omega)]
theorem fb_addI {x y : Int32} (h1 : -2147483648 ≤ x.toInt + y.toInt) (h2 : x.toInt + y.toInt < 2147483648) : (x + y).toInt = x.toInt + y.toInt := by
  rw [Int32.toInt_add, fb_bmod h1 h2]
theorem fb_subI {x y : Int32} (h1 : -2147483648 ≤ x.toInt - y.toInt) (h2 : x.toInt - y.toInt < 2147483648) : (x - y).toInt = x.toInt - y.toInt := by
  rw [Int32.toInt_sub, fb_bmod h1 h2]
theorem fb_mulI {x y : Int32} (h1 : -2147483648 ≤ x.toInt * y.toInt) (h2 : x.toInt * y.toInt < 2147483648) : (x * y).toInt = x.toInt * y.toInt := by
  rw [Int32.toInt_mul, fb_bmod h1 h2]
theorem fb_negI {x : Int32} (h : x.toInt ≠ -2147483648) : (-x).toInt = -x.toInt := by
  have := fb_rng x
  rw [Int32.toInt_neg, fb_bmod (by omega) (by omega)]
theorem fb_ofI {z : Int} (h1 : -2147483648 ≤ z) (h2 : z < 2147483648) : (Int32.ofInt z).toInt = z := by
  rw [Int32.toInt_ofInt, fb_bmod h1 h2]
theorem fb_asI (x : Int32) : Int32.ofInt x.toInt = x := Int32.ofInt_toInt x
theorem fb_rngL (x : Int64) : -9223372036854775808 ≤ x.toInt ∧ x.toInt < 9223372036854775808 := by
  have h1 := Int64.le_toInt x
  have h2 := Int64.toInt_lt x
  omega
theorem fb_bmodL {z : Int} (h1 : -9223372036854775808 ≤ z) (h2 : z < 9223372036854775808) : z.bmod (2 ^ 64) = z := by
  rw [Int.bmod_eq_of_le (by omega) (by omega)]
theorem fb_addL {x y : Int64} (h1 : -9223372036854775808 ≤ x.toInt + y.toInt) (h2 : x.toInt + y.toInt < 9223372036854775808) : (x + y).toInt = x.toInt + y.toInt := by
  rw [Int64.toInt_add, fb_bmodL h1 h2]
theorem fb_subL {x y : Int64} (h1 : -9223372036854775808 ≤ x.toInt - y.toInt) (h2 : x.toInt - y.toInt < 9223372036854775808) : (x - y).toInt = x.toInt - y.toInt := by
  rw [Int64.toInt_sub, fb_bmodL h1 h2]
theorem fb_mulL {x y : Int64} (h1 : -9223372036854775808 ≤ x.toInt * y.toInt) (h2 : x.toInt * y.toInt < 9223372036854775808) : (x * y).toInt = x.toInt * y.toInt := by
  rw [Int64.toInt_mul, fb_bmodL h1 h2]
/-! ===== cuts of what is narrow already ===== -/
theorem fb_byte {x : Int32} (h1 : -128 ≤ x.toInt) (h2 : x.toInt < 128) : x.toInt8.toInt32 = x := by
  apply Int32.toInt_inj.1
  rw [Int8.toInt_toInt32, Int32.toInt_toInt8, Int.bmod_eq_of_le (by omega) (by omega)]
theorem fb_short {x : Int32} (h1 : -32768 ≤ x.toInt) (h2 : x.toInt < 32768) : x.toInt16.toInt32 = x := by
  apply Int32.toInt_inj.1
  rw [Int16.toInt_toInt32, Int32.toInt_toInt16, Int.bmod_eq_of_le (by omega) (by omega)]
theorem fb_byte_rng (x : Int32) : -128 ≤ x.toInt8.toInt32.toInt ∧ x.toInt8.toInt32.toInt < 128 := by
  rw [Int8.toInt_toInt32]
  have h1 := Int8.le_toInt x.toInt8
  have h2 := Int8.toInt_lt x.toInt8
  omega
theorem fb_short_rng (x : Int32) : -32768 ≤ x.toInt16.toInt32.toInt ∧ x.toInt16.toInt32.toInt < 32768 := by
  rw [Int16.toInt_toInt32]
  have h1 := Int16.le_toInt x.toInt16
  have h2 := Int16.toInt_lt x.toInt16
  omega
theorem fb_byte_twice (x : Int32) : x.toInt8.toInt32.toInt8.toInt32 = x.toInt8.toInt32 := fb_byte (fb_byte_rng x).1 (fb_byte_rng x).2
theorem fb_short_twice (x : Int32) : x.toInt16.toInt32.toInt16.toInt32 = x.toInt16.toInt32 := fb_short (fb_short_rng x).1 (fb_short_rng x).2
theorem fb_char {n : Nat} (h : n < 65536) : (nI n).toUInt32.toUInt16.toUInt32.toInt32 = nI n := by
  apply Int32.toBitVec_inj.1
  apply BitVec.eq_of_toNat_eq
  have e1 : (nI n).toBitVec.toNat = n := by
    show (BitVec.ofNat 32 n).toNat = n
    rw [BitVec.toNat_ofNat, Nat.mod_eq_of_lt (by omega)]
  have e2 : ((nI n).toUInt32.toUInt16.toUInt32).toNat = n := by
    rw [UInt16.toNat_toUInt32, UInt32.toNat_toUInt16]
    show (nI n).toBitVec.toNat % 2 ^ 16 = n
    rw [e1, Nat.mod_eq_of_lt (by omega)]
  rw [e1]
  exact e2
end
section
/-! numbers on the machine's stack as whole numbers: iZ, lZ; rows of them: aI, aL -/
def iZ (z : Int) : Int32 := Int32.ofInt z
def lZ (z : Int) : Int64 := Int64.ofInt z
def aI (f : Nat → Int) : Nat → Int32 := fun j => iZ (f j)
def aL (f : Nat → Int) : Nat → Int64 := fun j => lZ (f j)
def uZ (f : Nat → Int) (k : Nat) (x : Int) : Nat → Int := fun j => if j = k then x else f j
theorem uZ_s (f : Nat → Int) (k : Nat) (x : Int) : uZ f k x k = x := if_pos rfl
theorem uZ_n {f : Nat → Int} {k j : Nat} {x : Int} (h : j ≠ k) : uZ f k x j = f j := if_neg h
theorem iZ_add (a b : Int) : iZ a + iZ b = iZ (a + b) := Int32.toInt_inj.1 (by simp [iZ])
theorem iZ_sub (a b : Int) : iZ a - iZ b = iZ (a - b) := Int32.toInt_inj.1 (by simp [iZ])
theorem iZ_mul (a b : Int) : iZ a * iZ b = iZ (a * b) := Int32.toInt_inj.1 (by simp [iZ])
theorem iZ_neg (a : Int) : - iZ a = iZ (-a) := Int32.toInt_inj.1 (by simp [iZ])
theorem lZ_add (a b : Int) : lZ a + lZ b = lZ (a + b) := Int64.toInt_inj.1 (by simp [lZ])
theorem lZ_sub (a b : Int) : lZ a - lZ b = lZ (a - b) := Int64.toInt_inj.1 (by simp [lZ])
theorem lZ_mul (a b : Int) : lZ a * lZ b = lZ (a * b) := Int64.toInt_inj.1 (by simp [lZ])
theorem lZ_neg (a : Int) : - lZ a = lZ (-a) := Int64.toInt_inj.1 (by simp [lZ])
theorem iZ_t {z : Int} (h : -2147483648 ≤ z ∧ z < 2147483648) : (iZ z).toInt = z := Int32.toInt_ofInt_of_le (by omega) (by omega)
theorem lZ_t {z : Int} (h : -9223372036854775808 ≤ z ∧ z < 9223372036854775808) : (lZ z).toInt = z := Int64.toInt_ofInt_of_le (by omega) (by omega)
theorem iZ_of (x : Int32) : iZ x.toInt = x := Int32.ofInt_toInt x
theorem lZ_of (x : Int64) : lZ x.toInt = x := Int64.ofInt_toInt x
theorem iZ_r (x : Int32) : -2147483648 ≤ x.toInt ∧ x.toInt < 2147483648 := by
  have h1 := Int32.le_toInt x
  have h2 := Int32.toInt_lt x
  omega
theorem lZ_r (x : Int64) : -9223372036854775808 ≤ x.toInt ∧ x.toInt < 9223372036854775808 := by
  have h1 := Int64.le_toInt x
  have h2 := Int64.toInt_lt x
  omega
theorem iZ_lt {a b : Int} (ha : -2147483648 ≤ a ∧ a < 2147483648) (hb : -2147483648 ≤ b ∧ b < 2147483648) : iZ a < iZ b ↔ a < b := by rw [Int32.lt_iff_toInt_lt, iZ_t ha, iZ_t hb]
theorem iZ_le {a b : Int} (ha : -2147483648 ≤ a ∧ a < 2147483648) (hb : -2147483648 ≤ b ∧ b < 2147483648) : iZ a ≤ iZ b ↔ a ≤ b := by rw [Int32.le_iff_toInt_le, iZ_t ha, iZ_t hb]
theorem iZ_eq {a b : Int} (ha : -2147483648 ≤ a ∧ a < 2147483648) (hb : -2147483648 ≤ b ∧ b < 2147483648) : iZ a = iZ b ↔ a = b := by rw [← Int32.toInt_inj, iZ_t ha, iZ_t hb]
theorem lZ_lt {a b : Int} (ha : -9223372036854775808 ≤ a ∧ a < 9223372036854775808) (hb : -9223372036854775808 ≤ b ∧ b < 9223372036854775808) : lZ a < lZ b ↔ a < b := by rw [Int64.lt_iff_toInt_lt, lZ_t ha, lZ_t hb]
theorem lZ_le {a b : Int} (ha : -9223372036854775808 ≤ a ∧ a < 9223372036854775808) (hb : -9223372036854775808 ≤ b ∧ b < 9223372036854775808) : lZ a ≤ lZ b ↔ a ≤ b := by rw [Int64.le_iff_toInt_le, lZ_t ha, lZ_t hb]
theorem lZ_eq {a b : Int} (ha : -9223372036854775808 ≤ a ∧ a < 9223372036854775808) (hb : -9223372036854775808 ≤ b ∧ b < 9223372036854775808) : lZ a = lZ b ↔ a = b := by rw [← Int64.toInt_inj, lZ_t ha, lZ_t hb]
theorem iZ_0 : iZ 0 = 0 := rfl
theorem iZ_1 : iZ 1 = 1 := rfl
theorem lZ_0 : lZ 0 = 0 := rfl
theorem iZ_n (n : Nat) : iZ (n : Int) = nI n := Int32.ofInt_eq_ofNat
theorem lZ_n (n : Nat) : lZ (n : Int) = lN n := Int64.ofInt_eq_ofNat
theorem iZ_l {z : Int} (h : -2147483648 ≤ z ∧ z < 2147483648) : (iZ z).toInt64 = lZ z := Int64.toInt_inj.1 (by rw [Int32.toInt_toInt64, iZ_t h, lZ_t (by omega)])
theorem iZ_ix {i : Int} {k n : Nat} (h : i = (k : Int)) (hk : k < n) (hn : n < 2147483648) : vp_in (iZ i) n ∧ (iZ i).toNatClampNeg = k := by
  subst h
  rw [iZ_n]
  exact ⟨vp_in_nI hk hn, nI_clamp (by omega)⟩
theorem lZ_div {a b : Int} (ha : 0 ≤ a ∧ a < 9223372036854775808) (hb : 0 < b ∧ b < 9223372036854775808) : lZ a / lZ b = lZ (a / b) := by
  obtain ⟨x, rfl⟩ : ∃ x : Nat, a = (x : Int) := ⟨a.toNat, by omega⟩
  obtain ⟨y, rfl⟩ : ∃ y : Nat, b = (y : Int) := ⟨b.toNat, by omega⟩
  rw [lZ_n, lZ_n, pk_lDiv (by omega) (by omega) (by omega), ← lZ_n, Int.natCast_ediv]
theorem lZ_rem {a b : Int} (ha : 0 ≤ a ∧ a < 9223372036854775808) (hb : 0 < b ∧ b < 9223372036854775808) : lZ a - lZ a / lZ b * lZ b = lZ (a % b) := by
  rw [lZ_div ha hb, lZ_mul, lZ_sub, Int.emod_def, Int.mul_comm]
theorem iZ_div {a b : Int} (ha : 0 ≤ a ∧ a < 2147483648) (hb : 0 < b ∧ b < 2147483648) : iZ a / iZ b = iZ (a / b) := by
  obtain ⟨x, rfl⟩ : ∃ x : Nat, a = (x : Int) := ⟨a.toNat, by omega⟩
  obtain ⟨y, rfl⟩ : ∃ y : Nat, b = (y : Int) := ⟨b.toNat, by omega⟩
  rw [iZ_n, iZ_n, pk_div (by omega) (by omega) (by omega), ← iZ_n, Int.natCast_ediv]
theorem iZ_rem {a b : Int} (ha : 0 ≤ a ∧ a < 2147483648) (hb : 0 < b ∧ b < 2147483648) : iZ a - iZ a / iZ b * iZ b = iZ (a % b) := by
  rw [iZ_div ha hb, iZ_mul, iZ_sub, Int.emod_def, Int.mul_comm]
theorem aI_up (f : Nat → Int) (k : Nat) (x : Int) : upd (aI f) k (iZ x) = aI (uZ f k x) := by
  funext j
  by_cases h : j = k
  · subst h; simp [upd, aI, uZ]
  · simp [upd, aI, uZ, h]
theorem aL_up (f : Nat → Int) (k : Nat) (x : Int) : vp_updL (aL f) k (lZ x) = aL (uZ f k x) := by
  funext j
  by_cases h : j = k
  · subst h; simp [vp_updL, aL, uZ]
  · simp [vp_updL, aL, uZ, h]
theorem aI_0 : (fun _ => (0 : Int32)) = aI (fun _ => 0) := rfl
theorem aL_0 : (fun _ => (0 : Int64)) = aL (fun _ => 0) := rfl
def lc (a b : Int) : Int := if b < a then 1 else if a = b then 0 else -1
theorem lc_r (a b : Int) : -2147483648 ≤ lc a b ∧ lc a b < 2147483648 := by unfold lc; split <;> (try split) <;> omega
theorem lc_is {a b : Int} (h1 : -9223372036854775808 ≤ a ∧ a < 9223372036854775808) (h2 : -9223372036854775808 ≤ b ∧ b < 9223372036854775808) : lg_cmp (lZ a) (lZ b) = iZ (lc a b) := by
  unfold lg_cmp lc
  by_cases h : b < a
  · rw [if_pos h, if_pos ((lZ_lt h2 h1).mpr h)]; rfl
  · rw [if_neg h, if_neg (fun z => h ((lZ_lt h2 h1).mp z))]
    by_cases h3 : a = b
    · rw [if_pos h3, if_pos ((lZ_eq h1 h2).mpr h3)]; rfl
    · rw [if_neg h3, if_neg (fun z => h3 ((lZ_eq h1 h2).mp z))]; rfl
theorem lc_eq (a b : Int) : (lc a b = 0) ↔ (a = b) := by unfold lc; split <;> (try split) <;> omega
theorem lc_ne (a b : Int) : (¬ lc a b = 0) ↔ (¬ a = b) := by unfold lc; split <;> (try split) <;> omega
theorem lc_lt (a b : Int) : (lc a b < 0) ↔ (a < b) := by unfold lc; split <;> (try split) <;> omega
theorem lc_ge (a b : Int) : (0 ≤ lc a b) ↔ (b ≤ a) := by unfold lc; split <;> (try split) <;> omega
theorem lc_gt (a b : Int) : (0 < lc a b) ↔ (b < a) := by unfold lc; split <;> (try split) <;> omega
theorem lc_le (a b : Int) : (lc a b ≤ 0) ↔ (a ≤ b) := by unfold lc; split <;> (try split) <;> omega
section ZR
variable {p : Program} {l : Launch} {e : Env} {R : Room} {s : State} {m : MethodId} {args : Array Value} {below : List Frame} {meth : Method} {c : Code} {H : Heap} {locs : List Loc} {cells slots : Nat} {Q : State → Prop}
variable {cc : ByteArray} {pc : Nat} {ls : Array Slot} {rest : List Value} {a b : Int} {off : Int} {tgt : Nat}
theorem z_iconst (hx : p.tables.exec = Jvm.exec) (hb : c.code = cc) {n : Int} (hdg : decode cc pc = .ok (.iconst n, 1)) (k : W p l e R s m args below meth c H locs cells slots Q (F0 m (pc + 1) ls (.int (iZ n) :: rest))) : W p l e R s m args below meth c H locs cells slots Q (F0 m pc ls rest) := lv_iconst hx hb hdg rfl k
theorem z_bipush (hx : p.tables.exec = Jvm.exec) (hb : c.code = cc) {n : Int} (hdg : decode cc pc = .ok (.bipush n, 2)) (hv : (Int8.ofInt n).toInt32 = iZ n) (k : W p l e R s m args below meth c H locs cells slots Q (F0 m (pc + 2) ls (.int (iZ n) :: rest))) : W p l e R s m args below meth c H locs cells slots Q (F0 m pc ls rest) := lv_bipush hx hb hdg hv k
theorem z_sipush (hx : p.tables.exec = Jvm.exec) (hb : c.code = cc) {n : Int} (hdg : decode cc pc = .ok (.sipush n, 3)) (hv : (Int16.ofInt n).toInt32 = iZ n) (k : W p l e R s m args below meth c H locs cells slots Q (F0 m (pc + 3) ls (.int (iZ n) :: rest))) : W p l e R s m args below meth c H locs cells slots Q (F0 m pc ls rest) := lv_sipush hx hb hdg hv k
theorem z_lconst (hx : p.tables.exec = Jvm.exec) (hb : c.code = cc) {n : Fin 2} (z : Int) (hdg : decode cc pc = .ok (.lconst n, 1)) (hv : Int64.ofNat (n : Nat) = lZ z) (k : W p l e R s m args below meth c H locs cells slots Q (F0 m (pc + 1) ls (.long (lZ z) :: rest))) : W p l e R s m args below meth c H locs cells slots Q (F0 m pc ls rest) := lv_lconst hx hb hdg hv k
theorem z_ldc (hx : p.tables.exec = Jvm.exec) (hb : c.code = cc) {own : String} {index : Nat} {v : Int32} (z : Int) (hown : s.vm.findClass own = some m.cls) (hconst : (Jvm.Cond.constant own index v).before args s = true) (hv : v = iZ z) (hdg : decode cc pc = .ok (.ldc index, 2)) (k : W p l e R s m args below meth c H locs cells slots Q (F0 m (pc + 2) ls (.int (iZ z) :: rest))) : W p l e R s m args below meth c H locs cells slots Q (F0 m pc ls rest) := by subst hv; exact lv_ldc hx hb hown hconst hdg k
theorem z_ldc2 (hx : p.tables.exec = Jvm.exec) (hb : c.code = cc) {own : String} {index : Nat} {v : Int64} (z : Int) (hown : s.vm.findClass own = some m.cls) (hconst : (Jvm.Cond.constantLong own index v).before args s = true) (hv : v = lZ z) (hdg : decode cc pc = .ok (.ldc2_w index, 3)) (k : W p l e R s m args below meth c H locs cells slots Q (F0 m (pc + 3) ls (.long (lZ z) :: rest))) : W p l e R s m args below meth c H locs cells slots Q (F0 m pc ls rest) := by subst hv; exact lv_ldc2 hx hb hown hconst hdg k
theorem z_iadd (hx : p.tables.exec = Jvm.exec) (hb : c.code = cc) (hdg : decode cc pc = .ok (.iadd, 1)) (k : W p l e R s m args below meth c H locs cells slots Q (F0 m (pc + 1) ls (.int (iZ (a + b)) :: rest))) : W p l e R s m args below meth c H locs cells slots Q (F0 m pc ls (.int (iZ b) :: .int (iZ a) :: rest)) := lv_iadd hx hb hdg (by rw [iZ_add]; exact k)
theorem z_isub (hx : p.tables.exec = Jvm.exec) (hb : c.code = cc) (hdg : decode cc pc = .ok (.isub, 1)) (k : W p l e R s m args below meth c H locs cells slots Q (F0 m (pc + 1) ls (.int (iZ (a - b)) :: rest))) : W p l e R s m args below meth c H locs cells slots Q (F0 m pc ls (.int (iZ b) :: .int (iZ a) :: rest)) := lv_isub hx hb hdg (by rw [iZ_sub]; exact k)
theorem z_imul (hx : p.tables.exec = Jvm.exec) (hb : c.code = cc) (hdg : decode cc pc = .ok (.imul, 1)) (k : W p l e R s m args below meth c H locs cells slots Q (F0 m (pc + 1) ls (.int (iZ (a * b)) :: rest))) : W p l e R s m args below meth c H locs cells slots Q (F0 m pc ls (.int (iZ b) :: .int (iZ a) :: rest)) := lv_imul hx hb hdg (by rw [iZ_mul]; exact k)
theorem z_ineg (hx : p.tables.exec = Jvm.exec) (hb : c.code = cc) (hdg : decode cc pc = .ok (.ineg, 1)) (k : W p l e R s m args below meth c H locs cells slots Q (F0 m (pc + 1) ls (.int (iZ (-a)) :: rest))) : W p l e R s m args below meth c H locs cells slots Q (F0 m pc ls (.int (iZ a) :: rest)) := lv_ineg hx hb hdg (by rw [iZ_neg]; exact k)
theorem z_idiv (hx : p.tables.exec = Jvm.exec) (hb : c.code = cc) (hdg : decode cc pc = .ok (.idiv, 1)) (ha : 0 ≤ a ∧ a < 2147483648) (hb1 : 0 < b ∧ b < 2147483648) (k : W p l e R s m args below meth c H locs cells slots Q (F0 m (pc + 1) ls (.int (iZ (a / b)) :: rest))) : W p l e R s m args below meth c H locs cells slots Q (F0 m pc ls (.int (iZ b) :: .int (iZ a) :: rest)) := lv_idiv hx hb hdg (by rw [← iZ_0, iZ_eq (by omega) (by omega)]; omega) (by rw [iZ_div ha hb1]; exact k)
theorem z_irem (hx : p.tables.exec = Jvm.exec) (hb : c.code = cc) (hdg : decode cc pc = .ok (.irem, 1)) (ha : 0 ≤ a ∧ a < 2147483648) (hb1 : 0 < b ∧ b < 2147483648) (k : W p l e R s m args below meth c H locs cells slots Q (F0 m (pc + 1) ls (.int (iZ (a % b)) :: rest))) : W p l e R s m args below meth c H locs cells slots Q (F0 m pc ls (.int (iZ b) :: .int (iZ a) :: rest)) := lv_irem hx hb hdg (by rw [← iZ_0, iZ_eq (by omega) (by omega)]; omega) (by rw [iZ_rem ha hb1]; exact k)
theorem z_ladd (hx : p.tables.exec = Jvm.exec) (hb : c.code = cc) (hdg : decode cc pc = .ok (.ladd, 1)) (k : W p l e R s m args below meth c H locs cells slots Q (F0 m (pc + 1) ls (.long (lZ (a + b)) :: rest))) : W p l e R s m args below meth c H locs cells slots Q (F0 m pc ls (.long (lZ b) :: .long (lZ a) :: rest)) := lv_ladd hx hb hdg (by rw [lZ_add]; exact k)
theorem z_lsub (hx : p.tables.exec = Jvm.exec) (hb : c.code = cc) (hdg : decode cc pc = .ok (.lsub, 1)) (k : W p l e R s m args below meth c H locs cells slots Q (F0 m (pc + 1) ls (.long (lZ (a - b)) :: rest))) : W p l e R s m args below meth c H locs cells slots Q (F0 m pc ls (.long (lZ b) :: .long (lZ a) :: rest)) := lv_lsub hx hb hdg (by rw [lZ_sub]; exact k)
theorem z_lmul (hx : p.tables.exec = Jvm.exec) (hb : c.code = cc) (hdg : decode cc pc = .ok (.lmul, 1)) (k : W p l e R s m args below meth c H locs cells slots Q (F0 m (pc + 1) ls (.long (lZ (a * b)) :: rest))) : W p l e R s m args below meth c H locs cells slots Q (F0 m pc ls (.long (lZ b) :: .long (lZ a) :: rest)) := lv_lmul hx hb hdg (by rw [lZ_mul]; exact k)
theorem z_ldiv (hx : p.tables.exec = Jvm.exec) (hb : c.code = cc) (hdg : decode cc pc = .ok (.ldiv, 1)) (ha : 0 ≤ a ∧ a < 9223372036854775808) (hb1 : 0 < b ∧ b < 9223372036854775808) (k : W p l e R s m args below meth c H locs cells slots Q (F0 m (pc + 1) ls (.long (lZ (a / b)) :: rest))) : W p l e R s m args below meth c H locs cells slots Q (F0 m pc ls (.long (lZ b) :: .long (lZ a) :: rest)) := lv_ldiv hx hb hdg (by rw [← lZ_0, lZ_eq (by omega) (by omega)]; omega) (by rw [lZ_div ha hb1]; exact k)
theorem z_lrem (hx : p.tables.exec = Jvm.exec) (hb : c.code = cc) (hdg : decode cc pc = .ok (.lrem, 1)) (ha : 0 ≤ a ∧ a < 9223372036854775808) (hb1 : 0 < b ∧ b < 9223372036854775808) (k : W p l e R s m args below meth c H locs cells slots Q (F0 m (pc + 1) ls (.long (lZ (a % b)) :: rest))) : W p l e R s m args below meth c H locs cells slots Q (F0 m pc ls (.long (lZ b) :: .long (lZ a) :: rest)) := lv_lrem hx hb hdg (by rw [← lZ_0, lZ_eq (by omega) (by omega)]; omega) (by rw [lZ_rem ha hb1]; exact k)
theorem z_i2l (hx : p.tables.exec = Jvm.exec) (hb : c.code = cc) (hdg : decode cc pc = .ok (.i2l, 1)) (ha : -2147483648 ≤ a ∧ a < 2147483648) (k : W p l e R s m args below meth c H locs cells slots Q (F0 m (pc + 1) ls (.long (lZ a) :: rest))) : W p l e R s m args below meth c H locs cells slots Q (F0 m pc ls (.int (iZ a) :: rest)) := lv_i2l hx hb hdg (iZ_l ha) k
theorem z_icmp_eq (hx : p.tables.exec = Jvm.exec) (hb : c.code = cc) (hdg : decode cc pc = .ok (.if_icmp .eq off, 3)) (ht : (pc : Int) + off = (tgt : Int)) (h1 : -2147483648 ≤ a ∧ a < 2147483648) (h2 : -2147483648 ≤ b ∧ b < 2147483648) (kt : a = b → W p l e R s m args below meth c H locs cells slots Q (F0 m tgt ls rest)) (kf : ¬ (a = b) → W p l e R s m args below meth c H locs cells slots Q (F0 m (pc + 3) ls rest)) : W p l e R s m args below meth c H locs cells slots Q (F0 m pc ls (.int (iZ b) :: .int (iZ a) :: rest)) := lv_icmp_eq hx hb hdg ht (fun q => kt ((iZ_eq h1 h2).mp q)) (fun q => kf (fun z => q ((iZ_eq h1 h2).mpr z)))
theorem z_if_eq (hx : p.tables.exec = Jvm.exec) (hb : c.code = cc) (hdg : decode cc pc = .ok (.ifCond .eq off, 3)) (ht : (pc : Int) + off = (tgt : Int)) (h1 : -2147483648 ≤ a ∧ a < 2147483648) (kt : a = 0 → W p l e R s m args below meth c H locs cells slots Q (F0 m tgt ls rest)) (kf : ¬ (a = 0) → W p l e R s m args below meth c H locs cells slots Q (F0 m (pc + 3) ls rest)) : W p l e R s m args below meth c H locs cells slots Q (F0 m pc ls (.int (iZ a) :: rest)) := lv_if_eq hx hb hdg ht (fun q => kt ((iZ_eq (b := 0) h1 (by omega)).mp q)) (fun q => kf (fun z => q ((iZ_eq (b := 0) h1 (by omega)).mpr z)))
theorem z_lc_eq (hx : p.tables.exec = Jvm.exec) (hb : c.code = cc) (hd1 : decode cc pc = .ok (.lcmp, 1)) (hdg : decode cc (pc + 1) = .ok (.ifCond .eq off, 3)) (ht : ((pc + 1 : Nat) : Int) + off = (tgt : Int)) (h1 : -9223372036854775808 ≤ a ∧ a < 9223372036854775808) (h2 : -9223372036854775808 ≤ b ∧ b < 9223372036854775808) (kt : a = b → W p l e R s m args below meth c H locs cells slots Q (F0 m tgt ls rest)) (kf : ¬ (a = b) → W p l e R s m args below meth c H locs cells slots Q (F0 m (pc + 4) ls rest)) : W p l e R s m args below meth c H locs cells slots Q (F0 m pc ls (.long (lZ b) :: .long (lZ a) :: rest)) := W.lcmp hx hb hd1 (by rw [lc_is h1 h2]; exact z_if_eq hx hb hdg ht (lc_r a b) (fun q => kt ((lc_eq a b).mp q)) (fun q => kf (fun z => q ((lc_eq a b).mpr z))))
theorem z_icmp_ne (hx : p.tables.exec = Jvm.exec) (hb : c.code = cc) (hdg : decode cc pc = .ok (.if_icmp .ne off, 3)) (ht : (pc : Int) + off = (tgt : Int)) (h1 : -2147483648 ≤ a ∧ a < 2147483648) (h2 : -2147483648 ≤ b ∧ b < 2147483648) (kt : ¬ a = b → W p l e R s m args below meth c H locs cells slots Q (F0 m tgt ls rest)) (kf : a = b → W p l e R s m args below meth c H locs cells slots Q (F0 m (pc + 3) ls rest)) : W p l e R s m args below meth c H locs cells slots Q (F0 m pc ls (.int (iZ b) :: .int (iZ a) :: rest)) := lv_icmp_ne hx hb hdg ht (fun q => kt ((not_congr (iZ_eq h1 h2)).mp q)) (fun q => kf ((iZ_eq h1 h2).mp q))
theorem z_if_ne (hx : p.tables.exec = Jvm.exec) (hb : c.code = cc) (hdg : decode cc pc = .ok (.ifCond .ne off, 3)) (ht : (pc : Int) + off = (tgt : Int)) (h1 : -2147483648 ≤ a ∧ a < 2147483648) (kt : ¬ a = 0 → W p l e R s m args below meth c H locs cells slots Q (F0 m tgt ls rest)) (kf : a = 0 → W p l e R s m args below meth c H locs cells slots Q (F0 m (pc + 3) ls rest)) : W p l e R s m args below meth c H locs cells slots Q (F0 m pc ls (.int (iZ a) :: rest)) := lv_if_ne hx hb hdg ht (fun q => kt ((not_congr (iZ_eq (b := 0) h1 (by omega))).mp q)) (fun q => kf ((iZ_eq (b := 0) h1 (by omega)).mp q))
theorem z_lc_ne (hx : p.tables.exec = Jvm.exec) (hb : c.code = cc) (hd1 : decode cc pc = .ok (.lcmp, 1)) (hdg : decode cc (pc + 1) = .ok (.ifCond .ne off, 3)) (ht : ((pc + 1 : Nat) : Int) + off = (tgt : Int)) (h1 : -9223372036854775808 ≤ a ∧ a < 9223372036854775808) (h2 : -9223372036854775808 ≤ b ∧ b < 9223372036854775808) (kt : ¬ a = b → W p l e R s m args below meth c H locs cells slots Q (F0 m tgt ls rest)) (kf : a = b → W p l e R s m args below meth c H locs cells slots Q (F0 m (pc + 4) ls rest)) : W p l e R s m args below meth c H locs cells slots Q (F0 m pc ls (.long (lZ b) :: .long (lZ a) :: rest)) := W.lcmp hx hb hd1 (by rw [lc_is h1 h2]; exact z_if_ne hx hb hdg ht (lc_r a b) (fun q => kt ((lc_ne a b).mp q)) (fun q => kf (Decidable.byContradiction (fun z => (lc_ne a b).mpr z q))))
theorem z_icmp_lt (hx : p.tables.exec = Jvm.exec) (hb : c.code = cc) (hdg : decode cc pc = .ok (.if_icmp .lt off, 3)) (ht : (pc : Int) + off = (tgt : Int)) (h1 : -2147483648 ≤ a ∧ a < 2147483648) (h2 : -2147483648 ≤ b ∧ b < 2147483648) (kt : a < b → W p l e R s m args below meth c H locs cells slots Q (F0 m tgt ls rest)) (kf : ¬ (a < b) → W p l e R s m args below meth c H locs cells slots Q (F0 m (pc + 3) ls rest)) : W p l e R s m args below meth c H locs cells slots Q (F0 m pc ls (.int (iZ b) :: .int (iZ a) :: rest)) := lv_icmp_lt hx hb hdg ht (fun q => kt ((iZ_lt h1 h2).mp q)) (fun q => kf (fun z => q ((iZ_lt h1 h2).mpr z)))
theorem z_if_lt (hx : p.tables.exec = Jvm.exec) (hb : c.code = cc) (hdg : decode cc pc = .ok (.ifCond .lt off, 3)) (ht : (pc : Int) + off = (tgt : Int)) (h1 : -2147483648 ≤ a ∧ a < 2147483648) (kt : a < 0 → W p l e R s m args below meth c H locs cells slots Q (F0 m tgt ls rest)) (kf : ¬ (a < 0) → W p l e R s m args below meth c H locs cells slots Q (F0 m (pc + 3) ls rest)) : W p l e R s m args below meth c H locs cells slots Q (F0 m pc ls (.int (iZ a) :: rest)) := lv_if_lt hx hb hdg ht (fun q => kt ((iZ_lt (b := 0) h1 (by omega)).mp q)) (fun q => kf (fun z => q ((iZ_lt (b := 0) h1 (by omega)).mpr z)))
theorem z_lc_lt (hx : p.tables.exec = Jvm.exec) (hb : c.code = cc) (hd1 : decode cc pc = .ok (.lcmp, 1)) (hdg : decode cc (pc + 1) = .ok (.ifCond .lt off, 3)) (ht : ((pc + 1 : Nat) : Int) + off = (tgt : Int)) (h1 : -9223372036854775808 ≤ a ∧ a < 9223372036854775808) (h2 : -9223372036854775808 ≤ b ∧ b < 9223372036854775808) (kt : a < b → W p l e R s m args below meth c H locs cells slots Q (F0 m tgt ls rest)) (kf : ¬ (a < b) → W p l e R s m args below meth c H locs cells slots Q (F0 m (pc + 4) ls rest)) : W p l e R s m args below meth c H locs cells slots Q (F0 m pc ls (.long (lZ b) :: .long (lZ a) :: rest)) := W.lcmp hx hb hd1 (by rw [lc_is h1 h2]; exact z_if_lt hx hb hdg ht (lc_r a b) (fun q => kt ((lc_lt a b).mp q)) (fun q => kf (fun z => q ((lc_lt a b).mpr z))))
theorem z_icmp_ge (hx : p.tables.exec = Jvm.exec) (hb : c.code = cc) (hdg : decode cc pc = .ok (.if_icmp .ge off, 3)) (ht : (pc : Int) + off = (tgt : Int)) (h1 : -2147483648 ≤ a ∧ a < 2147483648) (h2 : -2147483648 ≤ b ∧ b < 2147483648) (kt : b ≤ a → W p l e R s m args below meth c H locs cells slots Q (F0 m tgt ls rest)) (kf : ¬ (b ≤ a) → W p l e R s m args below meth c H locs cells slots Q (F0 m (pc + 3) ls rest)) : W p l e R s m args below meth c H locs cells slots Q (F0 m pc ls (.int (iZ b) :: .int (iZ a) :: rest)) := lv_icmp_ge hx hb hdg ht (fun q => kt ((iZ_le h2 h1).mp q)) (fun q => kf (fun z => q ((iZ_le h2 h1).mpr z)))
theorem z_if_ge (hx : p.tables.exec = Jvm.exec) (hb : c.code = cc) (hdg : decode cc pc = .ok (.ifCond .ge off, 3)) (ht : (pc : Int) + off = (tgt : Int)) (h1 : -2147483648 ≤ a ∧ a < 2147483648) (kt : 0 ≤ a → W p l e R s m args below meth c H locs cells slots Q (F0 m tgt ls rest)) (kf : ¬ (0 ≤ a) → W p l e R s m args below meth c H locs cells slots Q (F0 m (pc + 3) ls rest)) : W p l e R s m args below meth c H locs cells slots Q (F0 m pc ls (.int (iZ a) :: rest)) := lv_if_ge hx hb hdg ht (fun q => kt ((iZ_le (a := 0) (by omega) h1).mp q)) (fun q => kf (fun z => q ((iZ_le (a := 0) (by omega) h1).mpr z)))
theorem z_lc_ge (hx : p.tables.exec = Jvm.exec) (hb : c.code = cc) (hd1 : decode cc pc = .ok (.lcmp, 1)) (hdg : decode cc (pc + 1) = .ok (.ifCond .ge off, 3)) (ht : ((pc + 1 : Nat) : Int) + off = (tgt : Int)) (h1 : -9223372036854775808 ≤ a ∧ a < 9223372036854775808) (h2 : -9223372036854775808 ≤ b ∧ b < 9223372036854775808) (kt : b ≤ a → W p l e R s m args below meth c H locs cells slots Q (F0 m tgt ls rest)) (kf : ¬ (b ≤ a) → W p l e R s m args below meth c H locs cells slots Q (F0 m (pc + 4) ls rest)) : W p l e R s m args below meth c H locs cells slots Q (F0 m pc ls (.long (lZ b) :: .long (lZ a) :: rest)) := W.lcmp hx hb hd1 (by rw [lc_is h1 h2]; exact z_if_ge hx hb hdg ht (lc_r a b) (fun q => kt ((lc_ge a b).mp q)) (fun q => kf (fun z => q ((lc_ge a b).mpr z))))
theorem z_icmp_gt (hx : p.tables.exec = Jvm.exec) (hb : c.code = cc) (hdg : decode cc pc = .ok (.if_icmp .gt off, 3)) (ht : (pc : Int) + off = (tgt : Int)) (h1 : -2147483648 ≤ a ∧ a < 2147483648) (h2 : -2147483648 ≤ b ∧ b < 2147483648) (kt : b < a → W p l e R s m args below meth c H locs cells slots Q (F0 m tgt ls rest)) (kf : ¬ (b < a) → W p l e R s m args below meth c H locs cells slots Q (F0 m (pc + 3) ls rest)) : W p l e R s m args below meth c H locs cells slots Q (F0 m pc ls (.int (iZ b) :: .int (iZ a) :: rest)) := lv_icmp_gt hx hb hdg ht (fun q => kt ((iZ_lt h2 h1).mp q)) (fun q => kf (fun z => q ((iZ_lt h2 h1).mpr z)))
theorem z_if_gt (hx : p.tables.exec = Jvm.exec) (hb : c.code = cc) (hdg : decode cc pc = .ok (.ifCond .gt off, 3)) (ht : (pc : Int) + off = (tgt : Int)) (h1 : -2147483648 ≤ a ∧ a < 2147483648) (kt : 0 < a → W p l e R s m args below meth c H locs cells slots Q (F0 m tgt ls rest)) (kf : ¬ (0 < a) → W p l e R s m args below meth c H locs cells slots Q (F0 m (pc + 3) ls rest)) : W p l e R s m args below meth c H locs cells slots Q (F0 m pc ls (.int (iZ a) :: rest)) := lv_if_gt hx hb hdg ht (fun q => kt ((iZ_lt (a := 0) (by omega) h1).mp q)) (fun q => kf (fun z => q ((iZ_lt (a := 0) (by omega) h1).mpr z)))
theorem z_lc_gt (hx : p.tables.exec = Jvm.exec) (hb : c.code = cc) (hd1 : decode cc pc = .ok (.lcmp, 1)) (hdg : decode cc (pc + 1) = .ok (.ifCond .gt off, 3)) (ht : ((pc + 1 : Nat) : Int) + off = (tgt : Int)) (h1 : -9223372036854775808 ≤ a ∧ a < 9223372036854775808) (h2 : -9223372036854775808 ≤ b ∧ b < 9223372036854775808) (kt : b < a → W p l e R s m args below meth c H locs cells slots Q (F0 m tgt ls rest)) (kf : ¬ (b < a) → W p l e R s m args below meth c H locs cells slots Q (F0 m (pc + 4) ls rest)) : W p l e R s m args below meth c H locs cells slots Q (F0 m pc ls (.long (lZ b) :: .long (lZ a) :: rest)) := W.lcmp hx hb hd1 (by rw [lc_is h1 h2]; exact z_if_gt hx hb hdg ht (lc_r a b) (fun q => kt ((lc_gt a b).mp q)) (fun q => kf (fun z => q ((lc_gt a b).mpr z))))
theorem z_icmp_le (hx : p.tables.exec = Jvm.exec) (hb : c.code = cc) (hdg : decode cc pc = .ok (.if_icmp .le off, 3)) (ht : (pc : Int) + off = (tgt : Int)) (h1 : -2147483648 ≤ a ∧ a < 2147483648) (h2 : -2147483648 ≤ b ∧ b < 2147483648) (kt : a ≤ b → W p l e R s m args below meth c H locs cells slots Q (F0 m tgt ls rest)) (kf : ¬ (a ≤ b) → W p l e R s m args below meth c H locs cells slots Q (F0 m (pc + 3) ls rest)) : W p l e R s m args below meth c H locs cells slots Q (F0 m pc ls (.int (iZ b) :: .int (iZ a) :: rest)) := lv_icmp_le hx hb hdg ht (fun q => kt ((iZ_le h1 h2).mp q)) (fun q => kf (fun z => q ((iZ_le h1 h2).mpr z)))
theorem z_if_le (hx : p.tables.exec = Jvm.exec) (hb : c.code = cc) (hdg : decode cc pc = .ok (.ifCond .le off, 3)) (ht : (pc : Int) + off = (tgt : Int)) (h1 : -2147483648 ≤ a ∧ a < 2147483648) (kt : a ≤ 0 → W p l e R s m args below meth c H locs cells slots Q (F0 m tgt ls rest)) (kf : ¬ (a ≤ 0) → W p l e R s m args below meth c H locs cells slots Q (F0 m (pc + 3) ls rest)) : W p l e R s m args below meth c H locs cells slots Q (F0 m pc ls (.int (iZ a) :: rest)) := lv_if_le hx hb hdg ht (fun q => kt ((iZ_le (b := 0) h1 (by omega)).mp q)) (fun q => kf (fun z => q ((iZ_le (b := 0) h1 (by omega)).mpr z)))
theorem z_lc_le (hx : p.tables.exec = Jvm.exec) (hb : c.code = cc) (hd1 : decode cc pc = .ok (.lcmp, 1)) (hdg : decode cc (pc + 1) = .ok (.ifCond .le off, 3)) (ht : ((pc + 1 : Nat) : Int) + off = (tgt : Int)) (h1 : -9223372036854775808 ≤ a ∧ a < 9223372036854775808) (h2 : -9223372036854775808 ≤ b ∧ b < 9223372036854775808) (kt : a ≤ b → W p l e R s m args below meth c H locs cells slots Q (F0 m tgt ls rest)) (kf : ¬ (a ≤ b) → W p l e R s m args below meth c H locs cells slots Q (F0 m (pc + 4) ls rest)) : W p l e R s m args below meth c H locs cells slots Q (F0 m pc ls (.long (lZ b) :: .long (lZ a) :: rest)) := W.lcmp hx hb hd1 (by rw [lc_is h1 h2]; exact z_if_le hx hb hdg ht (lc_r a b) (fun q => kt ((lc_le a b).mp q)) (fun q => kf (fun z => q ((lc_le a b).mpr z))))
end ZR
end
section
/-! the environment of every contract: the classes' places, the four array classes, the links between nest mates -/
def nestWs : List Cond := [.methodLinkNest RX4 32 yX5_quotient "RankHouse", .methodLinkNest RX5 37 yX3_init "RankHouse", .methodLinkNest RX5 30 yX4_init "RankHouse", .methodLinkNest RX5 23 yX1_init "RankHouse", .fieldLinkNest RX4 84 "RankHouse$Graph" "targets" "[I" "RankHouse", .fieldLinkNest RX4 81 "RankHouse$Graph" "first" "[I" "RankHouse", .fieldLinkNest RX4 72 "RankHouse$Graph" "size" "I" "RankHouse", .fieldLinkNest RX4 57 "RankHouse$Graph" "whole" "I" "RankHouse", .fieldLinkNest RX4 53 "RankHouse$Graph" "weights" "[I" "RankHouse", .fieldLinkNest RX4 25 "RankHouse$Graph" "nodes" "I" "RankHouse", .fieldLinkNest RX1 61 "RankHouse$ByteRow" "bytes" "[I" "RankHouse", .fieldLinkNest RX1 49 "RankHouse$ByteRow" "length" "I" "RankHouse", .fieldLinkNest RX5 74 "RankHouse$Decoder" "kind" "I" "RankHouse", .fieldLinkNest RX5 71 "RankHouse$Decoder" "place" "I" "RankHouse", .fieldLinkNest RX5 68 "RankHouse$Graph" "size" "I" "RankHouse", .fieldLinkNest RX5 53 "RankHouse$ByteRow" "length" "I" "RankHouse", .fieldLinkNest RX5 187 "RankHouse$Ranks" "q" "I" "RankHouse", .fieldLinkNest RX5 184 "RankHouse$Ranks" "p" "I" "RankHouse", .fieldLinkNest RX5 181 "RankHouse$Graph" "whole" "I" "RankHouse", .fieldLinkNest RX5 173 "RankHouse$ByteRow" "bytes" "[I" "RankHouse", .fieldLinkNest RX5 154 "RankHouse$Graph" "nodes" "I" "RankHouse", .fieldLinkNest RX5 153 "RankHouse$Order" "size" "I" "RankHouse", .fieldLinkNest RX5 145 "RankHouse$Ranks" "steps" "I" "RankHouse", .fieldLinkNest RX5 138 "RankHouse$Ranks" "change" "J" "RankHouse", .fieldLinkNest RX5 130 "RankHouse$Ranks" "now" "[J" "RankHouse"]
theorem nest_warm {s U : State} (hW : s.WarmedH U.vm) : ∀ w ∈ nestWs, va_Nw w s → va_Nw w U := by
  intro w hw
  simp only [nestWs, List.mem_cons, List.not_mem_nil, or_false] at hw
  rcases hw with rfl | rfl | rfl | rfl | rfl | rfl | rfl | rfl | rfl | rfl | rfl | rfl | rfl | rfl | rfl | rfl | rfl | rfl | rfl | rfl | rfl | rfl | rfl | rfl | rfl <;> first | exact va_Nw.warmF hW | exact va_Nw.warmM hW
theorem nest_onT : ∀ w ∈ nestWs, w.onTables = true := by
  intro w hw
  simp only [nestWs, List.mem_cons, List.not_mem_nil, or_false] at hw
  rcases hw with rfl | rfl | rfl | rfl | rfl | rfl | rfl | rfl | rfl | rfl | rfl | rfl | rfl | rfl | rfl | rfl | rfl | rfl | rfl | rfl | rfl | rfl | rfl | rfl | rfl <;> rfl
abbrev tyE (cI cJ cB cZ : ClassId) : List (ClassId × FieldType) := [(cI, .int), (cJ, .long), (cB, .byte), (cZ, .boolean)]
def EN (D : va_G) (cI cJ cB cZ : ClassId) (U : State) : Prop := va_K D vwCl (tyE cI cJ cB cZ) U ∧ ∀ w ∈ nestWs, va_Nw w U
theorem EN.warm {D : va_G} {cI cJ cB cZ : ClassId} {s U : State} (h : EN D cI cJ cB cZ s) (hW : s.WarmedH U.vm) : EN D cI cJ cB cZ U := ⟨va_K.moved hW.alike h.1, fun w hw => nest_warm hW w hw (h.2 w hw)⟩
theorem EN.calling {D : va_G} {cI cJ cB cZ : ClassId} {U : State} (h : EN D cI cJ cB cZ U) (g : JFrame) (mk : MethodId) (a : Array Value) : EN D cI cJ cB cZ (U.calling g mk a) := ⟨va_K.moved (u := U) (U := U.calling g mk a) (Vm.Alike.refl U.vm) h.1, fun w hw => va_Nw.same (u := U) (nest_onT w hw) rfl (h.2 w hw)⟩
theorem EN.nl {D : va_G} {cI cJ cB cZ : ClassId} {U : State} (h : EN D cI cJ cB cZ U) {w : Cond} (hw : w ∈ nestWs) (A : Array Value) : w.before A U = true := va_Nw.use (nest_onT w hw) (h.2 w hw)
def Pre0 (D : va_G) (cI cJ cB cZ : ClassId) (av : List Value) (ws : va_W) : Array Value → State → Prop := va_Pc av (fun U => va_P D vwCl ws U.heap ∧ EN D cI cJ cB cZ U)
def Pre1 (D : va_G) (cI cJ cB cZ : ClassId) (av : List Value) (ws : va_W) (sz : Nat) : Array Value → State → Prop := va_Pc av (fun U => U.heap.size = sz ∧ va_P D vwCl ws U.heap ∧ EN D cI cJ cB cZ U ∧ va_D (fun _ => True) ws)
theorem Pre0.blind {D : va_G} {cI cJ cB cZ : ClassId} {av : List Value} {ws : va_W} : FrameBlind (Pre0 D cI cJ cB cZ av ws) := fun a _ g mk h => ⟨h.1, h.2.1, h.2.2.calling g mk a⟩
theorem Pre1.blind {D : va_G} {cI cJ cB cZ : ClassId} {av : List Value} {ws : va_W} {sz : Nat} : FrameBlind (Pre1 D cI cJ cB cZ av ws sz) := fun a _ g mk h => ⟨h.1, h.2.1, h.2.2.1, h.2.2.2.1.calling g mk a, h.2.2.2.2⟩
theorem pre0S {D : va_G} {cI cJ cB cZ : ClassId} {As : List Value} {ws : va_W} {s : State} {H : Heap} (hE : EN D cI cJ cB cZ s) (hP : va_P D vwCl ws H) : PreS s H (Pre0 D cI cJ cB cZ As ws) As := ⟨Pre0.blind, fun U hU hW => ⟨rfl, by rw [hU]; exact hP, hE.warm hW⟩⟩
theorem pre0V {D : va_G} {cI cJ cB cZ : ClassId} {As : List Value} {ws : va_W} {s : State} {H : Heap} {b ci : Nat} {fs : List Value} {q : vw_C} (hE : EN D cI cJ cB cZ s) (hP : va_P D vwCl ws H) (q0 : Nat) (he : ws[q0]? = some (b, .inr (ci, fs))) (hc : vwCl[ci]? = some q) : PreV s H q.1 b (Pre0 D cI cJ cB cZ (.ref b :: As) ws) As := ⟨Pre0.blind, va_recv hE.1 hP hc he, fun U hU hW => ⟨rfl, by rw [hU]; exact hP, hE.warm hW⟩⟩
theorem pre1S {D : va_G} {cI cJ cB cZ : ClassId} {As : List Value} {ws : va_W} {s : State} {H : Heap} {A : Nat → Prop} (hE : EN D cI cJ cB cZ s) (hP : va_P D vwCl ws H) (hD : va_D A ws) : PreS s H (Pre1 D cI cJ cB cZ As ws H.size) As := ⟨Pre1.blind, fun U hU hW => ⟨rfl, by rw [hU], by rw [hU]; exact hP, hE.warm hW, hD.weaken (fun _ _ _ _ => trivial)⟩⟩
theorem pre1V {D : va_G} {cI cJ cB cZ : ClassId} {As : List Value} {ws : va_W} {s : State} {H : Heap} {A : Nat → Prop} {b ci : Nat} {fs : List Value} {q : vw_C} (hE : EN D cI cJ cB cZ s) (hP : va_P D vwCl ws H) (hD : va_D A ws) (q0 : Nat) (he : ws[q0]? = some (b, .inr (ci, fs))) (hc : vwCl[ci]? = some q) : PreV s H q.1 b (Pre1 D cI cJ cB cZ (.ref b :: As) ws H.size) As := ⟨Pre1.blind, va_recv hE.1 hP hc he, fun U hU hW => ⟨rfl, by rw [hU], by rw [hU]; exact hP, hE.warm hW, hD.weaken (fun _ _ _ _ => trivial)⟩⟩
/-- answers of methods that change nothing -/
def roI (post : Int → Prop) : Array Value → State → Outcome → State → Prop := fun _ st o t => ∃ z : Int, o = .returned (some (.int (iZ z))) ∧ post z ∧ t.heap = st.heap
def roL (post : Int → Prop) : Array Value → State → Outcome → State → Prop := fun _ st o t => ∃ z : Int, o = .returned (some (.long (lZ z))) ∧ post z ∧ t.heap = st.heap
/-- answers of methods that change their world -/
def rwV {S : Type} (D : va_G) (post : S → Prop) (wf : S → va_W) (A : Nat → Prop) : Array Value → State → Outcome → State → Prop := va_Qv post (fun u t => va_P D vwCl (wf u) t.heap ∧ va_D A (wf u)) A
def rwI {S : Type} (D : va_G) (post : Int → S → Prop) (wf : S → va_W) (A : Nat → Prop) : Array Value → State → Outcome → State → Prop := va_Qi (fun r u => ∃ z : Int, r = iZ z ∧ post z u) (fun u t => va_P D vwCl (wf u) t.heap ∧ va_D A (wf u)) A
section ZQ
variable {p : Program} {l : Launch} {e : Env} {R : Room} {s : State} {m : MethodId} {args : Array Value} {below : List Frame} {meth : Method} {c : Code} {H : Heap} {locs : List Loc} {cells slots : Nat} {Q : State → Prop}
variable {cc : ByteArray} {pc : Nat} {ls : Array Slot} {rest st0 : List Value} {D : va_G} {cl : List vw_C} {tys : List (ClassId × FieldType)} {ws : va_W} {A : Nat → Prop} {H0 : Heap} {a : Nat} {free : Addr → Prop} {av : Array Value}
theorem ro_i {post : Int → Prop} (hr : va_Run p l e R s m args below meth c H locs cells slots 0 0 (F0 m pc ls st0) rest (roI post av) (fun _ => False)) (kk : ∀ z : Int, post z → W p l e R s m args below meth c H locs cells slots Q (F0 m (pc + 3) ls (.int (iZ z) :: rest))) : W p l e R s m args below meth c H locs cells slots Q (F0 m pc ls st0) := by
  intro T hT X
  obtain ⟨v, st₀, t, T', L, h0, X', hL, e1, e2, ⟨z, hv, hp, hh⟩, st⟩ := hr T hT X
  cases hv
  obtain ⟨t2, a1, b1⟩ := kk z hp T' (by rw [e1, hh, h0]) (Stand.forget X' (fun q h => (hL q h).elim))
  exact ⟨t2, st t2 a1, b1⟩
theorem ro_l {post : Int → Prop} (hr : va_Run p l e R s m args below meth c H locs cells slots 0 0 (F0 m pc ls st0) rest (roL post av) (fun _ => False)) (kk : ∀ z : Int, post z → W p l e R s m args below meth c H locs cells slots Q (F0 m (pc + 3) ls (.long (lZ z) :: rest))) : W p l e R s m args below meth c H locs cells slots Q (F0 m pc ls st0) := by
  intro T hT X
  obtain ⟨v, st₀, t, T', L, h0, X', hL, e1, e2, ⟨z, hv, hp, hh⟩, st⟩ := hr T hT X
  cases hv
  obtain ⟨t2, a1, b1⟩ := kk z hp T' (by rw [e1, hh, h0]) (Stand.forget X' (fun q h => (hL q h).elim))
  exact ⟨t2, st t2 a1, b1⟩
theorem ro_iret {post : Int → Prop} {z : Int} (hx : p.tables.exec = Jvm.exec) (hb : c.code = cc) (hr : meth.sig.returnType = some .int) (hlocks : meth.locks = false) (hp : post z) (hdg : decode cc pc = .ok (.ireturn, 1)) : W p l e R s m args below meth c s.heap [] cells slots (MQ below (roI post) args s cells slots free) (F0 m pc ls [.int (iZ z)]) := W.iret hx hb hr (fun _ ht _ => ⟨z, rfl, hp, ht⟩) (fun _ h => nomatch h) hdg hlocks
theorem ro_zret {post : Int → Prop} {z : Int} (hx : p.tables.exec = Jvm.exec) (hb : c.code = cc) (hr : meth.sig.returnType = some .boolean) (hlocks : meth.locks = false) (hz : z = 0 ∨ z = 1) (hp : post z) (hdg : decode cc pc = .ok (.ireturn, 1)) : W p l e R s m args below meth c s.heap [] cells slots (MQ below (roI post) args s cells slots free) (F0 m pc ls [.int (iZ z)]) := W.zret hx hb hr (by rcases hz with rfl | rfl <;> rfl) (fun _ ht _ => ⟨z, rfl, hp, ht⟩) (fun _ h => nomatch h) hdg hlocks
theorem ro_lret {post : Int → Prop} {z : Int} (hx : p.tables.exec = Jvm.exec) (hb : c.code = cc) (hr : meth.sig.returnType = some .long) (hlocks : meth.locks = false) (hp : post z) (hdg : decode cc pc = .ok (.lreturn, 1)) : W p l e R s m args below meth c s.heap [] cells slots (MQ below (roL post) args s cells slots free) (F0 m pc ls [.long (lZ z)]) := W.lret hx hb hr (fun _ ht _ => ⟨z, rfl, hp, ht⟩) (fun _ h => nomatch h) hdg hlocks
theorem rw_vret {S : Type} {post : S → Prop} {wf : S → va_W} (u : S) (hx : p.tables.exec = Jvm.exec) (hb : c.code = cc) (hr : meth.sig.returnType = none) (hlocks : meth.locks = false) (hP : va_P D vwCl (wf u) H) (hD : va_D A (wf u)) (hS : va_S A s.heap H locs) (hp : post u) (hdg : decode cc pc = .ok (.return_, 1)) : W p l e R s m args below meth c H locs cells slots (MQ below (rwV D post wf A) args s cells slots A) (F0 m pc ls []) := W.vret hx hb hr (fun _ ht _ => ⟨⟨u, rfl, hp, by rw [ht]; exact hP, hD⟩, hS.F ht⟩) hS.2.2 hdg hlocks
theorem rw_iret {S : Type} {post : Int → S → Prop} {wf : S → va_W} {z : Int} (u : S) (hx : p.tables.exec = Jvm.exec) (hb : c.code = cc) (hr : meth.sig.returnType = some .int) (hlocks : meth.locks = false) (hP : va_P D vwCl (wf u) H) (hD : va_D A (wf u)) (hS : va_S A s.heap H locs) (hp : post z u) (hdg : decode cc pc = .ok (.ireturn, 1)) : W p l e R s m args below meth c H locs cells slots (MQ below (rwI D post wf A) args s cells slots A) (F0 m pc ls [.int (iZ z)]) := W.iret hx hb hr (fun _ ht _ => ⟨⟨_, u, rfl, ⟨z, rfl, hp⟩, by rw [ht]; exact hP, hD⟩, hS.F ht⟩) hS.2.2 hdg hlocks
theorem rw_zret {S : Type} {post : Int → S → Prop} {wf : S → va_W} {z : Int} (u : S) (hx : p.tables.exec = Jvm.exec) (hb : c.code = cc) (hr : meth.sig.returnType = some .boolean) (hlocks : meth.locks = false) (hz : z = 0 ∨ z = 1) (hP : va_P D vwCl (wf u) H) (hD : va_D A (wf u)) (hS : va_S A s.heap H locs) (hp : post z u) (hdg : decode cc pc = .ok (.ireturn, 1)) : W p l e R s m args below meth c H locs cells slots (MQ below (rwI D post wf A) args s cells slots A) (F0 m pc ls [.int (iZ z)]) := W.zret hx hb hr (by rcases hz with rfl | rfl <;> rfl) (fun _ ht _ => ⟨⟨_, u, rfl, ⟨z, rfl, hp⟩, by rw [ht]; exact hP, hD⟩, hS.F ht⟩) hS.2.2 hdg hlocks
theorem rw_v {S : Type} {post : S → Prop} {wf : S → va_W} {wc wr : va_W} {mc ms : Nat} (hr : va_Run p l e R s m args below meth c H locs cells slots mc ms (F0 m pc ls st0) rest (rwV D post wf (va_A wc H.size) av) (va_A wc H.size)) (hP : va_P D vwCl ws H) (hD : va_D A ws) (hS : va_S A H0 H locs) (hA : ∀ q, H0.size ≤ q → A q) (isC isR : List Nat) (hC : isC.map (fun i => ws[i]?) = wc.map some) (hR : isR.map (fun i => ws[i]?) = wr.map some) (hn : va_nd isR = true) (hdis : ∀ i ∈ isR, i ∉ isC)
    (kk : ∀ (u : S) (H1 : Heap) (locs1 : List Loc), post u → va_P D vwCl (wr ++ wf u) H1 → va_D A (wr ++ wf u) → va_S A H0 H1 locs1 → W p l e R s m args below meth c H1 locs1 (cells + mc) (slots + ms) Q (F0 m (pc + 3) ls rest)) : W p l e R s m args below meth c H locs cells slots Q (F0 m pc ls st0) := by
  have hF := va_free hD hS hA isC hC
  refine va_callv hr hS (fun q _ h => hF q h) hF (fun u t H1 locs1 ht hvm hp hB hz hk hS1 => ?_)
  obtain ⟨hP1, hD1⟩ := hB
  rw [ht] at hP1
  obtain ⟨hP2, hD2⟩ := va_join hP hD isC isR hC hR hn hdis hk hF hP1 hD1
  exact kk u H1 locs1 hp hP2 hD2 hS1
theorem rw_i {S : Type} {post : Int → S → Prop} {wf : S → va_W} {wc wr : va_W} {mc ms : Nat} (hr : va_Run p l e R s m args below meth c H locs cells slots mc ms (F0 m pc ls st0) rest (rwI D post wf (va_A wc H.size) av) (va_A wc H.size)) (hP : va_P D vwCl ws H) (hD : va_D A ws) (hS : va_S A H0 H locs) (hA : ∀ q, H0.size ≤ q → A q) (isC isR : List Nat) (hC : isC.map (fun i => ws[i]?) = wc.map some) (hR : isR.map (fun i => ws[i]?) = wr.map some) (hn : va_nd isR = true) (hdis : ∀ i ∈ isR, i ∉ isC)
    (kk : ∀ (z : Int) (u : S) (H1 : Heap) (locs1 : List Loc), post z u → va_P D vwCl (wr ++ wf u) H1 → va_D A (wr ++ wf u) → va_S A H0 H1 locs1 → W p l e R s m args below meth c H1 locs1 (cells + mc) (slots + ms) Q (F0 m (pc + 3) ls (.int (iZ z) :: rest))) : W p l e R s m args below meth c H locs cells slots Q (F0 m pc ls st0) := by
  have hF := va_free hD hS hA isC hC
  refine va_calli hr hS (fun q _ h => hF q h) hF (fun r u t H1 locs1 ht hvm hp hB hz hk hS1 => ?_)
  obtain ⟨hP1, hD1⟩ := hB
  obtain ⟨z, rfl, hp⟩ := hp
  rw [ht] at hP1
  obtain ⟨hP2, hD2⟩ := va_join hP hD isC isR hC hR hn hdis hk hF hP1 hD1
  exact kk z u H1 locs1 hp hP2 hD2 hS1
theorem z_iald (hx : p.tables.exec = Jvm.exec) (hb : c.code = cc) (hK : va_K D cl tys s) (hP : va_P D cl ws H) (q0 t0 : Nat) {cA : ClassId} {n : Nat} {f : Nat → Int} (ha : ws[q0]? = some (a, .inl (cA, n, .inl (aI f)))) (ht : tys[t0]? = some (cA, .int)) {i : Int} (k : Nat) (hk : i = (k : Int)) (hkn : k < n) (hn : n < 2147483648) (hdg : decode cc pc = .ok (.iaload, 1)) (kk : W p l e R s m args below meth c H locs cells slots Q (F0 m (pc + 1) ls (.int (iZ (f k)) :: rest))) : W p l e R s m args below meth c H locs cells slots Q (F0 m pc ls (.int (iZ i) :: .ref a :: rest)) := by
  obtain ⟨h1, h2⟩ := iZ_ix hk hkn hn
  exact va_iald hx hb hK hP q0 t0 ha ht h1 hdg (by rw [h2]; exact kk)
theorem z_bald (hx : p.tables.exec = Jvm.exec) (hb : c.code = cc) (hK : va_K D cl tys s) (hP : va_P D cl ws H) (q0 t0 : Nat) {cA : ClassId} {n : Nat} {f : Nat → Int} (ha : ws[q0]? = some (a, .inl (cA, n, .inl (aI f)))) (ht : tys[t0]? = some (cA, .byte)) {i : Int} (k : Nat) (hk : i = (k : Int)) (hkn : k < n) (hn : n < 2147483648) (hdg : decode cc pc = .ok (.baload, 1)) (kk : W p l e R s m args below meth c H locs cells slots Q (F0 m (pc + 1) ls (.int (iZ (f k)) :: rest))) : W p l e R s m args below meth c H locs cells slots Q (F0 m pc ls (.int (iZ i) :: .ref a :: rest)) := by
  obtain ⟨h1, h2⟩ := iZ_ix hk hkn hn
  exact va_bald hx hb hK hP q0 t0 ha ht h1 hdg (by rw [h2]; exact kk)
theorem z_zald (hx : p.tables.exec = Jvm.exec) (hb : c.code = cc) (hK : va_K D cl tys s) (hP : va_P D cl ws H) (q0 t0 : Nat) {cA : ClassId} {n : Nat} {f : Nat → Int} (ha : ws[q0]? = some (a, .inl (cA, n, .inl (aI f)))) (ht : tys[t0]? = some (cA, .boolean)) {i : Int} (k : Nat) (hk : i = (k : Int)) (hkn : k < n) (hn : n < 2147483648) (hdg : decode cc pc = .ok (.baload, 1)) (kk : W p l e R s m args below meth c H locs cells slots Q (F0 m (pc + 1) ls (.int (iZ (f k)) :: rest))) : W p l e R s m args below meth c H locs cells slots Q (F0 m pc ls (.int (iZ i) :: .ref a :: rest)) := by
  obtain ⟨h1, h2⟩ := iZ_ix hk hkn hn
  exact va_zald hx hb hK hP q0 t0 ha ht h1 hdg (by rw [h2]; exact kk)
theorem z_lald (hx : p.tables.exec = Jvm.exec) (hb : c.code = cc) (hK : va_K D cl tys s) (hP : va_P D cl ws H) (q0 t0 : Nat) {cA : ClassId} {n : Nat} {f : Nat → Int} (ha : ws[q0]? = some (a, .inl (cA, n, .inr (.inl (aL f))))) (ht : tys[t0]? = some (cA, .long)) {i : Int} (k : Nat) (hk : i = (k : Int)) (hkn : k < n) (hn : n < 2147483648) (hdg : decode cc pc = .ok (.laload, 1)) (kk : W p l e R s m args below meth c H locs cells slots Q (F0 m (pc + 1) ls (.long (lZ (f k)) :: rest))) : W p l e R s m args below meth c H locs cells slots Q (F0 m pc ls (.int (iZ i) :: .ref a :: rest)) := by
  obtain ⟨h1, h2⟩ := iZ_ix hk hkn hn
  exact va_lald hx hb hK hP q0 t0 ha ht h1 hdg (by rw [h2]; exact kk)
theorem z_iast (hx : p.tables.exec = Jvm.exec) (hb : c.code = cc) (hK : va_K D cl tys s) (hP : va_P D cl ws H) (hD : va_D A ws) (hS : va_S A H0 H locs) (q0 t0 : Nat) {cA : ClassId} {n : Nat} {f : Nat → Int} (ha : ws[q0]? = some (a, .inl (cA, n, .inl (aI f)))) (ht : tys[t0]? = some (cA, .int)) {i x : Int} (k : Nat) (hk : i = (k : Int)) (hkn : k < n) (hn : n < 2147483648) (hdg : decode cc pc = .ok (.iastore, 1))
    (kk : ∀ (H1 : Heap) (locs1 : List Loc), va_P D cl (ws.set q0 (a, .inl (cA, n, .inl (aI (uZ f k x))))) H1 → va_D A (ws.set q0 (a, .inl (cA, n, .inl (aI (uZ f k x))))) → va_S A H0 H1 locs1 → W p l e R s m args below meth c H1 locs1 cells slots Q (F0 m (pc + 1) ls rest)) : W p l e R s m args below meth c H locs cells slots Q (F0 m pc ls (.int (iZ x) :: .int (iZ i) :: .ref a :: rest)) := by
  obtain ⟨h1, h2⟩ := iZ_ix hk hkn hn
  refine va_iast hx hb hK hP hD hS q0 t0 ha ht h1 hdg (fun H1 locs1 h3 h4 h5 => ?_)
  rw [h2, aI_up] at h3 h4
  exact kk H1 locs1 h3 h4 h5
theorem z_last (hx : p.tables.exec = Jvm.exec) (hb : c.code = cc) (hK : va_K D cl tys s) (hP : va_P D cl ws H) (hD : va_D A ws) (hS : va_S A H0 H locs) (q0 t0 : Nat) {cA : ClassId} {n : Nat} {f : Nat → Int} (ha : ws[q0]? = some (a, .inl (cA, n, .inr (.inl (aL f))))) (ht : tys[t0]? = some (cA, .long)) {i x : Int} (k : Nat) (hk : i = (k : Int)) (hkn : k < n) (hn : n < 2147483648) (hdg : decode cc pc = .ok (.lastore, 1))
    (kk : ∀ (H1 : Heap) (locs1 : List Loc), va_P D cl (ws.set q0 (a, .inl (cA, n, .inr (.inl (aL (uZ f k x)))))) H1 → va_D A (ws.set q0 (a, .inl (cA, n, .inr (.inl (aL (uZ f k x)))))) → va_S A H0 H1 locs1 → W p l e R s m args below meth c H1 locs1 cells slots Q (F0 m (pc + 1) ls rest)) : W p l e R s m args below meth c H locs cells slots Q (F0 m pc ls (.long (lZ x) :: .int (iZ i) :: .ref a :: rest)) := by
  obtain ⟨h1, h2⟩ := iZ_ix hk hkn hn
  refine va_last hx hb hK hP hD hS q0 t0 ha ht h1 hdg (fun H1 locs1 h3 h4 h5 => ?_)
  rw [h2, aL_up] at h3 h4
  exact kk H1 locs1 h3 h4 h5
theorem z_bast (hx : p.tables.exec = Jvm.exec) (hb : c.code = cc) (hK : va_K D cl tys s) (hP : va_P D cl ws H) (hD : va_D A ws) (hS : va_S A H0 H locs) (q0 t0 : Nat) {cA : ClassId} {n : Nat} {f : Nat → Int} (ha : ws[q0]? = some (a, .inl (cA, n, .inl (aI f)))) (ht : tys[t0]? = some (cA, .byte)) {i x : Int} (y : Int) (hy : vp_nar .byte (iZ x) = iZ y) (k : Nat) (hk : i = (k : Int)) (hkn : k < n) (hn : n < 2147483648) (hdg : decode cc pc = .ok (.bastore, 1))
    (kk : ∀ (H1 : Heap) (locs1 : List Loc), va_P D cl (ws.set q0 (a, .inl (cA, n, .inl (aI (uZ f k y))))) H1 → va_D A (ws.set q0 (a, .inl (cA, n, .inl (aI (uZ f k y))))) → va_S A H0 H1 locs1 → W p l e R s m args below meth c H1 locs1 cells slots Q (F0 m (pc + 1) ls rest)) : W p l e R s m args below meth c H locs cells slots Q (F0 m pc ls (.int (iZ x) :: .int (iZ i) :: .ref a :: rest)) := by
  obtain ⟨h1, h2⟩ := iZ_ix hk hkn hn
  refine va_bast hx hb hK hP hD hS q0 t0 ha ht h1 hdg (fun H1 locs1 h3 h4 h5 => ?_)
  rw [h2, hy, aI_up] at h3 h4
  exact kk H1 locs1 h3 h4 h5
theorem z_zast (hx : p.tables.exec = Jvm.exec) (hb : c.code = cc) (hK : va_K D cl tys s) (hP : va_P D cl ws H) (hD : va_D A ws) (hS : va_S A H0 H locs) (q0 t0 : Nat) {cA : ClassId} {n : Nat} {f : Nat → Int} (ha : ws[q0]? = some (a, .inl (cA, n, .inl (aI f)))) (ht : tys[t0]? = some (cA, .boolean)) {i x : Int} (y : Int) (hy : vp_nar .boolean (iZ x) = iZ y) (k : Nat) (hk : i = (k : Int)) (hkn : k < n) (hn : n < 2147483648) (hdg : decode cc pc = .ok (.bastore, 1))
    (kk : ∀ (H1 : Heap) (locs1 : List Loc), va_P D cl (ws.set q0 (a, .inl (cA, n, .inl (aI (uZ f k y))))) H1 → va_D A (ws.set q0 (a, .inl (cA, n, .inl (aI (uZ f k y))))) → va_S A H0 H1 locs1 → W p l e R s m args below meth c H1 locs1 cells slots Q (F0 m (pc + 1) ls rest)) : W p l e R s m args below meth c H locs cells slots Q (F0 m pc ls (.int (iZ x) :: .int (iZ i) :: .ref a :: rest)) := by
  obtain ⟨h1, h2⟩ := iZ_ix hk hkn hn
  refine va_zast hx hb hK hP hD hS q0 t0 ha ht h1 hdg (fun H1 locs1 h3 h4 h5 => ?_)
  rw [h2, hy, aI_up] at h3 h4
  exact kk H1 locs1 h3 h4 h5
/-- a number on top gets a name -/
theorem z_topi {x : Int} (k : ∀ y : Int, y = x → W p l e R s m args below meth c H locs cells slots Q (F0 m pc ls (.int (iZ y) :: rest))) : W p l e R s m args below meth c H locs cells slots Q (F0 m pc ls (.int (iZ x) :: rest)) := k x rfl
theorem z_topl {x : Int} (k : ∀ y : Int, y = x → W p l e R s m args below meth c H locs cells slots Q (F0 m pc ls (.long (lZ y) :: rest))) : W p l e R s m args below meth c H locs cells slots Q (F0 m pc ls (.long (lZ x) :: rest)) := k x rfl
/-- .. or another form -/
theorem z_toi {x : Int} (y : Int) (h : x = y) (k : W p l e R s m args below meth c H locs cells slots Q (F0 m pc ls (.int (iZ y) :: rest))) : W p l e R s m args below meth c H locs cells slots Q (F0 m pc ls (.int (iZ x) :: rest)) := h ▸ k
theorem z_tol {x : Int} (y : Int) (h : x = y) (k : W p l e R s m args below meth c H locs cells slots Q (F0 m pc ls (.long (lZ y) :: rest))) : W p l e R s m args below meth c H locs cells slots Q (F0 m pc ls (.long (lZ x) :: rest)) := h ▸ k
/-- loops: a number k that falls -/
theorem w_loop {st1 : List Value} (I : Nat → Heap → List Loc → Array Slot → Prop) (step : ∀ (k : Nat) (H : Heap) (locs : List Loc) (ls : Array Slot), I k H locs ls → (∀ (k' : Nat) (H' : Heap) (locs' : List Loc) (ls' : Array Slot), k' < k → I k' H' locs' ls' → W p l e R s m args below meth c H' locs' cells slots Q (F0 m pc ls' st1)) → W p l e R s m args below meth c H locs cells slots Q (F0 m pc ls st1)) (k : Nat) (h : I k H locs ls) : W p l e R s m args below meth c H locs cells slots Q (F0 m pc ls st1) := by
  have key : ∀ (n k : Nat) (H : Heap) (locs : List Loc) (ls : Array Slot), k < n → I k H locs ls → W p l e R s m args below meth c H locs cells slots Q (F0 m pc ls st1) := by
    intro n
    induction n with
    | zero => intro k H locs ls h; exact absurd h (Nat.not_lt_zero _)
    | succ n ih => intro k H locs ls hn hI; exact step k H locs ls hI (fun k' H' locs' ls' h' hI' => ih k' H' locs' ls' (by omega) hI')
  exact key (k + 1) k H locs ls (by omega) h
theorem w_loop0 {st1 : List Value} (I : Nat → Array Slot → Prop) (step : ∀ (k : Nat) (ls : Array Slot), I k ls → (∀ (k' : Nat) (ls' : Array Slot), k' < k → I k' ls' → W p l e R s m args below meth c H locs cells slots Q (F0 m pc ls' st1)) → W p l e R s m args below meth c H locs cells slots Q (F0 m pc ls st1)) (k : Nat) (h : I k ls) : W p l e R s m args below meth c H locs cells slots Q (F0 m pc ls st1) := by
  have key : ∀ (n k : Nat) (ls : Array Slot), k < n → I k ls → W p l e R s m args below meth c H locs cells slots Q (F0 m pc ls st1) := by
    intro n
    induction n with
    | zero => intro k ls h; exact absurd h (Nat.not_lt_zero _)
    | succ n ih => intro k ls hn hI; exact step k ls hI (fun k' ls' h' hI' => ih k' ls' (by omega) hI')
  exact key (k + 1) k ls (by omega) h
end ZQ
end
section
/-! the cells of each object -/
abbrev wBR (N : Nat) (cI : ClassId) (h a : Nat) (f : Nat → Int) (len : Int) : va_W := [(h, .inr (0, [.ref a, .int (iZ len)])), (a, .inl (cI, N, .inl (aI f)))]
abbrev wDe (h : Nat) (nx nd sz kd pl : Int) : va_W := [(h, .inr (1, [.int (iZ nx), .int (iZ nd), .int (iZ sz), .int (iZ kd), .int (iZ pl)]))]
abbrev wGr (cI : ClassId) (h a1 a2 a3 : Nat) (f1 f2 f3 : Nat → Int) (n sz wh : Int) : va_W := [(h, .inr (2, [.ref a1, .ref a2, .ref a3, .int (iZ n), .int (iZ sz), .int (iZ wh)])), (a1, .inl (cI, 251, .inl (aI f1))), (a2, .inl (cI, 2500, .inl (aI f2))), (a3, .inl (cI, 250, .inl (aI f3)))]
abbrev wOr (cI cJ : ClassId) (h a1 a2 : Nat) (f1 f2 : Nat → Int) (sz : Int) : va_W := [(h, .inr (3, [.ref a1, .ref a2, .int (iZ sz)])), (a1, .inl (cI, 250, .inl (aI f1))), (a2, .inl (cJ, 250, .inr (.inl (aL f2))))]
abbrev wRa (cJ : ClassId) (h an ax : Nat) (fn fx : Nat → Int) (p q st ch er : Int) : va_W := [(h, .inr (4, [.ref an, .ref ax, .int (iZ p), .int (iZ q), .int (iZ st), .long (lZ ch), .long (lZ er)])), (an, .inl (cJ, 250, .inr (.inl (aL fn)))), (ax, .inl (cJ, 250, .inr (.inl (aL fx))))]
abbrev wHo (h ta ou de ra od gr : Nat) : va_W := [(h, .inr (5, [.ref ta, .ref ou, .ref de, .ref ra, .ref od, .ref gr]))]
abbrev wMo (cI cJ cB cZ : ClassId) (h a1 a2 a3 a4 a5 a6 a7 : Nat) (thr : Int) (eg fr wt rk nx : Nat → Int) (nd es p q st ch bo : Int) (tp : Nat → Int) (le sz at_ fa fp nu fm nn : Int) (ou : Nat → Int) (om : Int) : va_W := [(h, .inr (6, [.int (iZ thr), .ref a1, .ref a2, .ref a3, .ref a4, .ref a5, .int (iZ nd), .int (iZ es), .int (iZ p), .int (iZ q), .int (iZ st), .long (lZ ch), .long (lZ bo), .ref a6, .int (iZ le), .int (iZ sz), .int (iZ at_), .int (iZ fa), .int (iZ fp), .int (iZ nu), .int (iZ fm), .int (iZ nn), .ref a7, .int (iZ om)])), (a1, .inl (cZ, 62500, .inl (aI eg))), (a2, .inl (cZ, 62500, .inl (aI fr))), (a3, .inl (cI, 250, .inl (aI wt))), (a4, .inl (cJ, 250, .inr (.inl (aL rk)))), (a5, .inl (cJ, 250, .inr (.inl (aL nx)))), (a6, .inl (cB, 2000, .inl (aI tp))), (a7, .inl (cB, 6000, .inl (aI ou)))]
end
section
/-! what a graph is: n nodes, the edges E, the weights w; and how the class holds it -/
abbrev Ed : Type := Nat → Nat → Bool
def dgr (E : Ed) (n u : Nat) : Nat := fb_ct (E u) n
def fst (E : Ed) (n j : Nat) : Nat := fb_sm (dgr E n) j
def GR (N : Nat) (E : Ed) (w : Nat → Nat) (f1 f2 f3 : Nat → Int) (n sz wh : Int) : Prop :=
  1 ≤ N ∧ N ≤ 250 ∧ n = (N : Int) ∧ (∀ j, j ≤ N → f1 j = (fst E N j : Int)) ∧ sz = (fst E N N : Int) ∧ fst E N N ≤ 2500 ∧
  (∀ u v, u < N → v < N → E u v = true → f2 (fst E N u + fb_ct (E u) v) = (v : Int)) ∧ (∀ u, u < N → f3 u = (w u : Int) ∧ w u ≤ 1000) ∧ wh = (fb_sm w N : Int) ∧ 0 < fb_sm w N ∧ (∀ u v, E u v = true → u < N ∧ v < N)
theorem fst_succ (E : Ed) (n u : Nat) : fst E n (u + 1) = fst E n u + dgr E n u := rfl
theorem fst_0 (E : Ed) (n : Nat) : fst E n 0 = 0 := rfl
theorem fst_le (E : Ed) {n u : Nat} (h : u < n) : fst E n u + dgr E n u ≤ fst E n n := fb_sm_part (dgr E n) h
theorem fst_mono (E : Ed) {n a b : Nat} (h : a ≤ b) : fst E n a ≤ fst E n b := by
  obtain ⟨k, rfl⟩ := Nat.le.dest h
  exact fb_sm_mono (dgr E n) a k
theorem dgr_le (E : Ed) (n u : Nat) : dgr E n u ≤ n := fb_ct_le (E u) n
/-- the target at place i of u's row -/
theorem row_at {N : Nat} {E : Ed} {f2 : Nat → Int} (g7 : ∀ u v, u < N → v < N → E u v = true → f2 (fst E N u + fb_ct (E u) v) = (v : Int)) {u i : Nat} (hu : u < N) (hi : i < dgr E N u) : ∃ t, t < N ∧ E u t = true ∧ fb_ct (E u) t = i ∧ f2 (fst E N u + i) = (t : Int) := by
  obtain ⟨t, h1, h2, h3⟩ := fb_ct_kth (p := E u) (k := i) (n := N) hi
  exact ⟨t, h1, h2, h3, by rw [← h3]; exact g7 u t hu h1 h2⟩
/-- places in a row go as targets do -/
theorem row_lt {p : Nat → Bool} {t v : Nat} (ht : p t = true) : t < v ↔ fb_ct p t < fb_ct p v := by
  constructor
  · intro h
    have h1 : fb_ct p (t + 1) = fb_ct p t + 1 := by rw [fb_ct_succ, if_pos ht]
    have h2 := fb_ct_mono p (show t + 1 ≤ v from h)
    omega
  · intro h
    rcases Nat.lt_or_ge t v with q | q
    · exact q
    · have := fb_ct_mono p q
      omega
theorem row_in {p : Nat → Bool} {v n : Nat} (hv : p v = true) (h : v < n) : fb_ct p v < fb_ct p n := (row_lt hv).mp h
theorem ct_yes {p : Nat → Bool} {i : Nat} (h : p i = true) : fb_ct p (i + 1) = fb_ct p i + 1 := by rw [fb_ct_succ, if_pos h]
theorem ct_no {p : Nat → Bool} {i : Nat} (h : ¬ p i = true) : fb_ct p (i + 1) = fb_ct p i := by rw [fb_ct_succ, if_neg h]; rfl
/-- z is the k-th place of p below n, -1 without it -/
def TG (p : Nat → Bool) (n : Nat) (k z : Int) : Prop := (∃ t : Nat, t < n ∧ p t = true ∧ (fb_ct p t : Int) = k ∧ z = (t : Int)) ∨ (z = -1 ∧ ¬ (0 ≤ k ∧ k < (fb_ct p n : Int)))
theorem TG_one {p : Nat → Bool} {n : Nat} {k z z' : Int} (h : TG p n k z) (h' : TG p n k z') : z = z' := by
  rcases h with ⟨t, a1, a2, a3, a4⟩ | ⟨a1, a2⟩ <;> rcases h' with ⟨t', b1, b2, b3, b4⟩ | ⟨b1, b2⟩
  · have := fb_ct_kth_one a2 b2 (by omega)
    omega
  · have := row_in a2 a1
    omega
  · have := row_in b2 b1
    omega
  · omega
def pin (E : Ed) (N : Nat) (v : Int) : Nat → Bool := fun a => decide (0 ≤ v ∧ v < (N : Int)) && E a v.toNat
def pout (E : Ed) (N : Nat) (u : Int) : Nat → Bool := fun b => decide (0 ≤ u ∧ u < (N : Int)) && E u.toNat b
theorem pin_iff {E : Ed} {N : Nat} {n v : Int} {i : Nat} (hn : n = (N : Int)) (hi : i < N) : (0 ≤ (i : Int) ∧ (i : Int) < n ∧ 0 ≤ v ∧ v < n ∧ E (i : Int).toNat v.toNat = true) ↔ pin E N v i = true := by
  subst hn
  simp only [pin, Int.toNat_natCast, Bool.and_eq_true, decide_eq_true_eq]
  constructor
  · rintro ⟨_, _, a, b, c⟩; exact ⟨⟨a, b⟩, c⟩
  · rintro ⟨⟨a, b⟩, c⟩; exact ⟨by omega, by omega, a, b, c⟩
theorem pout_in {E : Ed} {N : Nat} {u : Int} (h : 0 ≤ u ∧ u < (N : Int)) : pout E N u = E u.toNat := by
  funext b
  simp [pout, h.1, h.2]
theorem pin_in {E : Ed} {N : Nat} {v : Int} (h : 0 ≤ v ∧ v < (N : Int)) : pin E N v = fun a => E a v.toNat := by
  funext b
  simp [pin, h.1, h.2]
theorem ct_false {p : Nat → Bool} (n : Nat) (h : ∀ k, p k = false) : fb_ct p n = 0 := fb_ct_zero.mpr (fun k _ => h k)
theorem TG_none {p : Nat → Bool} {n : Nat} {k : Int} (h : ∀ j, p j = false) : TG p n k (-1) := Or.inr ⟨rfl, by rw [ct_false n h]; omega⟩
theorem pout_out {E : Ed} {N : Nat} {u : Int} (h : ¬ (0 ≤ u ∧ u < (N : Int))) (j : Nat) : pout E N u j = false := by simp [pout]; omega
theorem pin_out {E : Ed} {N : Nat} {v : Int} (h : ¬ (0 ≤ v ∧ v < (N : Int))) (j : Nat) : pin E N v j = false := by simp [pin]; omega
theorem ct_one (k0 : Nat) : ∀ d, fb_ct (fun k => decide (k = k0)) d = if k0 < d then 1 else 0
  | 0 => by simp [fb_ct]
  | d + 1 => by
    rw [fb_ct_succ, ct_one k0 d]
    simp only [decide_eq_true_eq]
    (repeat' split) <;> omega
theorem into_row {N : Nat} {E : Ed} {f2 : Nat → Int} (g7 : ∀ u v, u < N → v < N → E u v = true → f2 (fst E N u + fb_ct (E u) v) = (v : Int)) {u v : Nat} (hu : u < N) (hv : v < N) : fb_ct (fun k => decide (f2 (fst E N u + k) = (v : Int))) (dgr E N u) = if E u v = true then 1 else 0 := by
  by_cases h : E u v = true
  · rw [if_pos h, fb_ct_cong (q := fun k => decide (k = fb_ct (E u) v)), ct_one, if_pos (show fb_ct (E u) v < dgr E N u from row_in h hv)]
    intro k hk
    obtain ⟨t, r1, r2, r3, r4⟩ := row_at g7 hu hk
    rw [r4]
    refine decide_eq_decide.mpr ⟨fun q => ?_, fun q => ?_⟩
    · have : t = v := by omega
      rw [← this, r3]
    · have := fb_ct_kth_one r2 h (by omega)
      omega
  · rw [if_neg h]
    refine fb_ct_zero.mpr (fun k hk => ?_)
    obtain ⟨t, r1, r2, r3, r4⟩ := row_at g7 hu hk
    rw [r4]
    refine decide_eq_false (fun q => h ?_)
    have : t = v := by omega
    rw [← this]; exact r2
theorem into_all {N : Nat} {E : Ed} {f2 : Nat → Int} (g7 : ∀ u v, u < N → v < N → E u v = true → f2 (fst E N u + fb_ct (E u) v) = (v : Int)) {v : Nat} (hv : v < N) : ∀ u, u ≤ N → fb_ct (fun j => decide (f2 j = (v : Int))) (fst E N u) = fb_ct (fun a => E a v) u
  | 0, _ => rfl
  | u + 1, h => by
    rw [fst_succ, fb_ct_split, into_all g7 hv u (by omega), into_row g7 (by omega) hv, fb_ct_succ]
/-! one edge more, one less -/
def uE (E : Ed) (a b : Nat) (c : Bool) : Ed := fun x y => if x = a ∧ y = b then c else E x y
theorem uE_row (E : Ed) (a b : Nat) (c : Bool) : uE E a b c a = fun k => if k = b then c else E a k := by
  funext k
  simp [uE]
theorem uE_other {E : Ed} {a b x : Nat} {c : Bool} (h : x ≠ a) : uE E a b c x = E x := by
  funext k
  simp [uE, h]
theorem ct_in {p : Nat → Bool} {b : Nat} (hb : p b = false) (v : Nat) : fb_ct (fun k => if k = b then true else p k) v = fb_ct p v + (if b < v then 1 else 0) := by
  by_cases h : b < v
  · have := fb_ct_upd p true h
    rw [hb, if_neg (by decide), if_pos rfl] at this
    rw [if_pos h]
    omega
  · rw [fb_ct_out p true (by omega), if_neg h]
    rfl
theorem ct_del {p : Nat → Bool} {b : Nat} (hb : p b = true) (v : Nat) : fb_ct (fun k => if k = b then false else p k) v + (if b < v then 1 else 0) = fb_ct p v := by
  by_cases h : b < v
  · have := fb_ct_upd p false h
    rw [hb, if_pos rfl, if_neg (by decide)] at this
    rw [if_pos h]
    omega
  · rw [fb_ct_out p false (by omega), if_neg h]
    rfl
theorem dgr_in {E : Ed} {a b n : Nat} (hE : E a b = false) (hb : b < n) (x : Nat) : dgr (uE E a b true) n x = dgr E n x + (if x = a then 1 else 0) := by
  by_cases h : x = a
  · subst h
    rw [dgr, uE_row, ct_in hE, if_pos hb, if_pos rfl]; rfl
  · rw [dgr, uE_other h, if_neg h]; rfl
theorem dgr_del {E : Ed} {a b n : Nat} (hE : E a b = true) (hb : b < n) (x : Nat) : dgr (uE E a b false) n x + (if x = a then 1 else 0) = dgr E n x := by
  by_cases h : x = a
  · subst h
    have := ct_del hE n
    rw [if_pos hb] at this
    rw [dgr, uE_row, if_pos rfl]; exact this
  · rw [dgr, uE_other h, if_neg h]; rfl
theorem fst_in {E : Ed} {a b n : Nat} (hE : E a b = false) (hb : b < n) : ∀ j, fst (uE E a b true) n j = fst E n j + (if a < j then 1 else 0)
  | 0 => rfl
  | j + 1 => by
    rw [fst_succ, fst_succ, fst_in hE hb j, dgr_in hE hb]
    (repeat' split) <;> omega
theorem fst_del {E : Ed} {a b n : Nat} (hE : E a b = true) (hb : b < n) : ∀ j, fst (uE E a b false) n j + (if a < j then 1 else 0) = fst E n j
  | 0 => rfl
  | j + 1 => by
    have h0 := fst_del hE hb j
    have h3 := dgr_del hE hb j
    rw [fst_succ, fst_succ]
    by_cases h1 : a < j
    · rw [if_pos h1] at h0; rw [if_neg (by omega)] at h3; rw [if_pos (by omega)]; omega
    · by_cases h2 : j = a
      · rw [if_neg h1] at h0; rw [if_pos h2] at h3; rw [if_pos (by omega)]; omega
      · rw [if_neg h1] at h0; rw [if_neg h2] at h3; rw [if_neg (by omega)]; omega
theorem GR_join {N : Nat} {E : Ed} {w : Nat → Nat} {f1 f2 f3 : Nat → Int} {n sz wh : Int} (hG : GR N E w f1 f2 f3 n sz wh) {U V : Nat} (hU : U < N) (hV : V < N) (hE : E U V = false) (hs : fst E N N < 2500) {f1' f2' : Nat → Int} {sz' : Int}
    (h1 : ∀ j, j ≤ N → f1' j = f1 j + (if U < j then 1 else 0)) (h2 : ∀ j, f2' j = if j = fst E N U + fb_ct (E U) V then (V : Int) else if fst E N U + fb_ct (E U) V < j ∧ j ≤ fst E N N then f2 (j - 1) else f2 j) (h3 : sz' = sz + 1) :
    GR N (uE E U V true) w f1' f2' f3 n sz' wh := by
  obtain ⟨g1, g2, g3, g4, g5, g6, g7, g8, g9, g10, g11⟩ := hG
  have fN := fst_in (E := E) hE hV N
  rw [if_pos hU] at fN
  refine ⟨g1, g2, g3, fun j hj => ?_, by rw [fN]; omega, by omega, fun a b ha hb hab => ?_, g8, g9, g10, fun a b hab => ?_⟩
  · rw [h1 j hj, g4 j hj, fst_in hE hV j]
    by_cases h : U < j
    · rw [if_pos h, if_pos h]; omega
    · rw [if_neg h, if_neg h]; omega
  · have fa := fst_in (E := E) hE hV a
    have cV := fb_ct_mono (E U) (show V ≤ N by omega)
    have cN : fb_ct (E U) N = dgr E N U := rfl
    have lU := fst_le E hU
    by_cases e : a = U
    · subst e
      rw [if_neg (by omega)] at fa
      rw [uE_row] at hab ⊢
      have ci := ct_in hE b
      by_cases e2 : b = V
      · subst e2
        rw [if_neg (by omega)] at ci
        rw [h2, if_pos (by omega)]
      · simp only [if_neg e2] at hab
        have q1 := g7 a b ha hb hab
        have q2 := row_in hab hb
        have q3 := row_lt (v := V) hab
        by_cases e3 : b < V
        · rw [if_neg (by omega)] at ci
          rw [h2, if_neg (by omega), if_neg (by omega), fa, ci]
          exact q1
        · rw [if_pos (by omega)] at ci
          have q4 := fb_ct_mono (E a) (show V ≤ b by omega)
          rw [h2, if_neg (by omega), if_pos (by omega), fa, ci]
          rw [show fst E N a + 0 + (fb_ct (E a) b + 1) - 1 = fst E N a + fb_ct (E a) b by omega]
          exact q1
    · rw [uE_other e] at hab ⊢
      have q1 := g7 a b ha hb hab
      have q2 := row_in hab hb
      have q3 : fb_ct (E a) N = dgr E N a := rfl
      by_cases e3 : a < U
      · rw [if_neg (by omega)] at fa
        have q4 := fst_mono E (n := N) (show a + 1 ≤ U by omega)
        rw [fst_succ] at q4
        rw [h2, if_neg (by omega), if_neg (by omega), fa]
        exact q1
      · rw [if_pos (by omega)] at fa
        have q4 := fst_mono E (n := N) (show U + 1 ≤ a by omega)
        rw [fst_succ] at q4
        have q5 := fst_le E ha
        rw [h2, if_neg (by omega), if_pos (by omega), fa]
        rw [show fst E N a + 1 + fb_ct (E a) b - 1 = fst E N a + fb_ct (E a) b by omega]
        exact q1
  · by_cases e : a = U ∧ b = V
    · omega
    · simp only [uE, if_neg e] at hab
      exact g11 a b hab
theorem GR_part {N : Nat} {E : Ed} {w : Nat → Nat} {f1 f2 f3 : Nat → Int} {n sz wh : Int} (hG : GR N E w f1 f2 f3 n sz wh) {U V : Nat} (hU : U < N) (hV : V < N) (hE : E U V = true) {f1' f2' : Nat → Int} {sz' : Int}
    (h1 : ∀ j, j ≤ N → f1' j = f1 j + (if U < j then -1 else 0)) (h2 : ∀ j, f2' j = if fst E N U + fb_ct (E U) V ≤ j ∧ j + 1 < fst E N N then f2 (j + 1) else f2 j) (h3 : sz' = sz + -1) :
    GR N (uE E U V false) w f1' f2' f3 n sz' wh := by
  obtain ⟨g1, g2, g3, g4, g5, g6, g7, g8, g9, g10, g11⟩ := hG
  have fN := fst_del (E := E) hE hV N
  rw [if_pos hU] at fN
  refine ⟨g1, g2, g3, fun j hj => ?_, by omega, by omega, fun a b ha hb hab => ?_, g8, g9, g10, fun a b hab => ?_⟩
  · have fj := fst_del (E := E) hE hV j
    rw [h1 j hj, g4 j hj]
    by_cases h : U < j
    · rw [if_pos h] at fj; rw [if_pos h]; omega
    · rw [if_neg h] at fj; rw [if_neg h]; omega
  · have fa := fst_del (E := E) hE hV a
    have cV := row_in hE hV
    have cN : fb_ct (E U) N = dgr E N U := rfl
    have lU := fst_le E hU
    by_cases e : a = U
    · subst e
      rw [if_neg (by omega)] at fa
      rw [uE_row] at hab ⊢
      have ci := ct_del hE b
      by_cases e2 : b = V
      · subst e2
        simp at hab
      · simp only [if_neg e2] at hab
        have q1 := g7 a b ha hb hab
        have q2 := row_in hab hb
        have q3 := row_lt (v := V) hab
        by_cases e3 : b < V
        · rw [if_neg (by omega)] at ci
          rw [h2, if_neg (by omega), show fst (uE E a V false) N a = fst E N a by omega, show fb_ct (fun k => if k = V then false else E a k) b = fb_ct (E a) b by omega]
          exact q1
        · rw [if_pos (by omega)] at ci
          have q4 := (row_lt (v := b) hE).mp (by omega)
          rw [h2, if_pos (by omega), show fst (uE E a V false) N a + fb_ct (fun k => if k = V then false else E a k) b + 1 = fst E N a + fb_ct (E a) b by omega]
          exact q1
    · rw [uE_other e] at hab ⊢
      have q1 := g7 a b ha hb hab
      have q2 := row_in hab hb
      have q3 : fb_ct (E a) N = dgr E N a := rfl
      by_cases e3 : a < U
      · rw [if_neg (by omega)] at fa
        have q4 := fst_mono E (n := N) (show a + 1 ≤ U by omega)
        rw [fst_succ] at q4
        rw [h2, if_neg (by omega), show fst (uE E U V false) N a = fst E N a by omega]
        exact q1
      · rw [if_pos (by omega)] at fa
        have q4 := fst_mono E (n := N) (show U + 1 ≤ a by omega)
        rw [fst_succ] at q4
        have q5 := fst_le E ha
        rw [h2, if_pos (by omega), show fst (uE E U V false) N a + fb_ct (E a) b + 1 = fst E N a + fb_ct (E a) b by omega]
        exact q1
  · by_cases e : a = U ∧ b = V
    · omega
    · simp only [uE, if_neg e] at hab
      exact g11 a b hab
theorem GR_weigh {N : Nat} {E : Ed} {w : Nat → Nat} {f1 f2 f3 : Nat → Int} {n sz wh : Int} (hG : GR N E w f1 f2 f3 n sz wh) {U x : Nat} (hU : U < N) (hx : x ≤ 1000) {wh' : Int} (h1 : wh' = wh + ((x : Int) - f3 U)) (h2 : ¬ wh' = 0) : GR N E (fun k => if k = U then x else w k) f1 f2 (uZ f3 U (x : Int)) n sz wh' := by
  obtain ⟨g1, g2, g3, g4, g5, g6, g7, g8, g9, g10, g11⟩ := hG
  have q := fb_sm_upd w x hU
  have q2 := (g8 U hU).1
  refine ⟨g1, g2, g3, g4, g5, g6, g7, fun u hu => ?_, by omega, by omega, g11⟩
  by_cases h : u = U
  · subst h
    rw [uZ_s]
    simp only [if_true]
    exact ⟨trivial, hx⟩
  · rw [uZ_n h]
    simp only [if_neg h]
    exact g8 u hu
theorem GR_reset {N : Nat} (h1 : 1 ≤ N) (h2 : N ≤ 250) {f1 f2 f3 : Nat → Int} (h3 : ∀ j, j ≤ N → f1 j = 0) (h4 : ∀ j, j < N → f3 j = 1) : GR N (fun _ _ => false) (fun _ => 1) f1 f2 f3 (N : Int) 0 (N : Int) := by
  have z : ∀ j, fst (fun _ _ => false) N j = 0 := by
    intro j
    induction j with
    | zero => rfl
    | succ j ih => rw [fst_succ, ih, dgr, ct_false N (fun _ => rfl)]
  have y : fb_sm (fun _ => 1) N = N := by rw [fb_sm_const]; omega
  refine ⟨h1, h2, rfl, fun j hj => by rw [h3 j hj, z]; rfl, by rw [z]; rfl, by rw [z]; omega, (fun u v _ _ h => by cases h), (fun u hu => ⟨h4 u hu, (show (1 : Nat) ≤ 1000 by decide)⟩), by rw [y], by rw [y]; omega, (fun u v h => by cases h)⟩
end
section
def cpZ (f : Nat → Int) (sp dp n : Nat) : Nat → Int := fun j => if dp ≤ j ∧ j < dp + n then f (sp + (j - dp)) else f j
theorem aI_cp (f : Nat → Int) (sp dp n : Nat) : va_cpy (aI f) (aI f) sp dp n = aI (cpZ f sp dp n) := by
  funext j
  by_cases h : dp ≤ j ∧ j < dp + n
  · rw [pk_cpy_in h.1 h.2]
    simp only [aI, cpZ, if_pos h]
  · rw [pk_cpy_out (by omega)]
    simp only [aI, cpZ, if_neg h]
section ZC
variable {p : Program} {l : Launch} {e : Env} {R : Room} {s : State} {m : MethodId} {args : Array Value} {below : List Frame} {meth : Method} {c : Code} {H : Heap} {locs : List Loc} {cells slots : Nat} {Q : State → Prop}
variable {cc : ByteArray} {pc : Nat} {ls : Array Slot} {rest : List Value} {D : va_G} {cl : List vw_C} {tys : List (ClassId × FieldType)} {ws : va_W} {A : Nat → Prop} {H0 : Heap} {a : Nat}
theorem z_copyi (hx : p.tables.exec = Jvm.exec) (hb : c.code = cc) (hml : c.maxLocals = ls.size) {own : String} {index : Nat} (hown : s.vm.findClass own = some m.cls) (hlink : (Cond.methodLink own index arraycopyName).before args s = true) (hnat : (Cond.native arraycopyName).before args s = true) (hstat : (Cond.static arraycopyName).before args s = true) (hini : (Cond.initialized "java/lang/System").before args s = true)
    (hK : va_K D cl tys s) (hP : va_P D cl ws H) (hD : va_D A ws) (hS : va_S A H0 H locs) (q0 t0 : Nat) {cA : ClassId} {n0 : Nat} {f : Nat → Int} (ha : ws[q0]? = some (a, .inl (cA, n0, .inl (aI f)))) (ht : tys[t0]? = some (cA, .int)) {sp dp n : Int} (i j k : Nat) (hi : sp = (i : Int)) (hj : dp = (j : Int)) (hk : n = (k : Int)) (h4 : i + k ≤ n0) (h5 : j + k ≤ n0) (hn0 : n0 < 2147483648)
    (hframes : 1 ≤ R.frames) (hlocals : (rest.map fun v => v.category).sum + (nativeFrameWords "java/lang/System" "arraycopy" 5 + 11) ≤ R.locals) (hdg : decode cc pc = .ok (.invokestatic index, 3))
    (kk : ∀ (H1 : Heap) (locs1 : List Loc), va_P D cl (ws.set q0 (a, .inl (cA, n0, .inl (aI (cpZ f i j k))))) H1 → va_D A (ws.set q0 (a, .inl (cA, n0, .inl (aI (cpZ f i j k))))) → va_S A H0 H1 locs1 → W p l e R s m args below meth c H1 locs1 cells slots Q (F0 m (pc + 3) ls rest)) : W p l e R s m args below meth c H locs cells slots Q (F0 m pc ls (.int (iZ n) :: .int (iZ dp) :: .ref a :: .int (iZ sp) :: .ref a :: rest)) := by
  subst hi; subst hj; subst hk
  rw [iZ_n, iZ_n, iZ_n]
  have c1 : (nI i).toNatClampNeg = i := nI_clamp (by omega)
  have c2 : (nI j).toNatClampNeg = j := nI_clamp (by omega)
  have c3 : (nI k).toNatClampNeg = k := nI_clamp (by omega)
  refine va_copyi hx hb hml hown hlink hnat hstat hini hK hP hD hS q0 q0 t0 t0 ha ha ht ht rfl (nI_pos (by omega)) (nI_pos (by omega)) (nI_pos (by omega)) (by rw [c1, c3]; exact h4) (by rw [c2, c3]; exact h5) (fun _ _ => rfl) hframes hlocals hdg (fun H1 locs1 h6 h7 h8 => ?_)
  rw [c1, c2, c3, aI_cp] at h6 h7
  exact kk H1 locs1 h6 h7 h8
end ZC
end
section
abbrev GT : Type := (Nat → Int) × (Nat → Int) × (Nat → Int) × Int × Int × Int
abbrev wG (cI : ClassId) (h a1 a2 a3 : Nat) (u : GT) : va_W := wGr cI h a1 a2 a3 u.1 u.2.1 u.2.2.1 u.2.2.2.1 u.2.2.2.2.1 u.2.2.2.2.2
abbrev GRu (N : Nat) (E : Ed) (w : Nat → Nat) (u : GT) : Prop := GR N E w u.1 u.2.1 u.2.2.1 u.2.2.2.1 u.2.2.2.2.1 u.2.2.2.2.2
theorem grow_step {g f : Nat → Int} {U i : Nat} {mo : Int} (hU : U < i) (h : ∀ j, g j = if U < j ∧ j < i then f j + mo else f j) : ∀ j, uZ g i (g i + mo) j = if U < j ∧ j < i + 1 then f j + mo else f j := by
  intro j
  by_cases e : j = i
  · subst e
    rw [uZ_s, h, if_neg (by omega), if_pos (by omega)]
  · rw [uZ_n e, h]
    by_cases q : U < j ∧ j < i
    · rw [if_pos q, if_pos (by omega)]
    · rw [if_neg q, if_neg (by omega)]
theorem cp_join {f : Nat → Int} {at_ F : Nat} {x : Int} (h : at_ ≤ F) : ∀ j, uZ (cpZ f at_ (at_ + 1) (F - at_)) at_ x j = if j = at_ then x else if at_ < j ∧ j ≤ F then f (j - 1) else f j := by
  intro j
  by_cases e : j = at_
  · subst e
    rw [uZ_s, if_pos rfl]
  · rw [uZ_n e, if_neg e, cpZ]
    by_cases q : at_ < j ∧ j ≤ F
    · rw [if_pos q, if_pos (by omega), show at_ + (j - (at_ + 1)) = j - 1 by omega]
    · rw [if_neg q, if_neg (by omega)]
theorem cp_part {f : Nat → Int} {at_ F : Nat} (h : at_ < F) : ∀ j, cpZ f (at_ + 1) at_ (F - at_ - 1) j = if at_ ≤ j ∧ j + 1 < F then f (j + 1) else f j := by
  intro j
  rw [cpZ]
  by_cases q : at_ ≤ j ∧ j + 1 < F
  · rw [if_pos q, if_pos (by omega), show at_ + 1 + (j - at_) = j + 1 by omega]
  · rw [if_neg q, if_neg (by omega)]
theorem f1_grow {f f' : Nat → Int} {U N : Nat} {n mo : Int} (hn : n = (N : Int)) (h : ∀ j, f' j = if U < j ∧ j < n.toNat + 1 then f j + mo else f j) : ∀ j, j ≤ N → f' j = f j + (if U < j then mo else 0) := by
  intro j hj
  rw [h]
  by_cases q : U < j
  · rw [if_pos (by omega), if_pos q]
  · rw [if_neg (by omega), if_neg q, Int.add_zero]
theorem reset_step {g f : Nat → Int} {i : Nat} {x : Int} (h : ∀ j, j < i → g j = x) : ∀ j, j < i + 1 → uZ g i x j = x := by
  intro j hj
  by_cases e : j = i
  · rw [e, uZ_s]
  · rw [uZ_n e]; exact h j (by omega)
theorem uZ_all {g : Nat → Int} {i : Nat} {x : Int} (h : ∀ j, j < i → g j = x) : ∀ j, j ≤ i → uZ g i x j = x := by
  intro j hj
  by_cases e : j = i
  · rw [e, uZ_s]
  · rw [uZ_n e]; exact h j (by omega)
theorem fst_find (E : Ed) (N i : Nat) : ∀ m, i < fst E N m → ∃ u, u < m ∧ fst E N u ≤ i ∧ i < fst E N u + dgr E N u
  | 0, h => absurd h (Nat.not_lt_zero i)
  | m + 1, h => by
    by_cases q : i < fst E N m
    · obtain ⟨u, h1, h2⟩ := fst_find E N i m q
      exact ⟨u, by omega, h2⟩
    · exact ⟨m, by omega, by omega, h⟩
theorem GR_f2 {N : Nat} {E : Ed} {w : Nat → Nat} {f1 f2 f3 : Nat → Int} {n sz wh : Int} (hG : GR N E w f1 f2 f3 n sz wh) {i : Nat} (hi : i < fst E N N) : 0 ≤ f2 i ∧ f2 i < (N : Int) := by
  obtain ⟨g1, g2, g3, g4, g5, g6, g7, g8, g9, g10, g11⟩ := hG
  obtain ⟨u, h1, h2, h3⟩ := fst_find E N i N hi
  obtain ⟨t, r1, r2, r3, r4⟩ := row_at g7 h1 (show i - fst E N u < dgr E N u by omega)
  rw [show fst E N u + (i - fst E N u) = i by omega] at r4
  omega
theorem GR_wh {N : Nat} {E : Ed} {w : Nat → Nat} {f1 f2 f3 : Nat → Int} {n sz wh : Int} (hG : GR N E w f1 f2 f3 n sz wh) : fb_sm w N ≤ 250000 := by
  obtain ⟨g1, g2, g3, g4, g5, g6, g7, g8, g9, g10, g11⟩ := hG
  have := fb_sm_bound (f := w) (c := 1000) (n := N) (fun k hk => (g8 k hk).2)
  omega
end
section
theorem bv_iZ (z : Int) : (iZ z).toBitVec.toNat = (z % 4294967296).toNat := by
  show (BitVec.ofInt 32 z).toNat = _
  rw [BitVec.toNat_ofInt]
  rfl
theorem iZ_bv {x : Int32} {n : Nat} (h : x.toBitVec.toNat = n) : x = iZ (n : Int) := by
  apply Int32.toBitVec_inj.1
  apply BitVec.eq_of_toNat_eq
  rw [bv_iZ, h]
  have := x.toBitVec.isLt
  omega
theorem iZ_nat {n : Nat} {z : Int} (h : (n : Int) = z) : nI n = iZ z := by rw [← h, iZ_n]
theorem iZ_and255 (z : Int) : iZ z &&& iZ 255 = iZ (z % 256) := (pk_and (iZ z) 8 rfl).trans (iZ_nat (by rw [bv_iZ]; omega))
theorem iZ_and127 (z : Int) : iZ z &&& iZ 127 = iZ (z % 128) := (pk_and (iZ z) 7 rfl).trans (iZ_nat (by rw [bv_iZ]; omega))
theorem iZ_and31 (z : Int) : iZ z &&& iZ 31 = iZ (z % 32) := (pk_and (iZ z) 5 rfl).trans (iZ_nat (by rw [bv_iZ]; omega))
theorem iZ_and1 (z : Int) : iZ z &&& iZ 1 = iZ (z % 2) := (pk_and (iZ z) 1 rfl).trans (iZ_nat (by rw [bv_iZ]; omega))
theorem iZ_ushr (z s : Int) (k : Nat) (hs : (((iZ s).toUInt32 &&& Int32.toUInt32 31).toBitVec % 32).toNat = k) : ((iZ z).toUInt32 >>> ((iZ s).toUInt32 &&& Int32.toUInt32 31)).toInt32 = iZ (((z % 4294967296).toNat / 2 ^ k : Nat) : Int) := iZ_bv (by rw [pk_ushr (iZ z) (iZ s) k hs, bv_iZ])
theorem iZ_shr {z s : Int} (k : Nat) (hz : -2147483648 ≤ z ∧ z < 2147483648) (hs : (((iZ s) &&& 31).toBitVec.smod 32).toNat = k) : iZ z >>> (iZ s &&& 31) = iZ (z / 2 ^ k) := by
  apply Int32.toInt_inj.1
  rw [pk_shr (iZ z) (iZ s &&& 31) k hs, iZ_t hz, Int.shiftRight_eq_div_pow]
  have h1 : (0 : Int) < 2 ^ k := Int.pow_pos (by decide)
  rw [iZ_t]
  · rfl
  · have h2 : (1 : Int) ≤ 2 ^ k := h1
    constructor
    · refine (Int.le_ediv_iff_mul_le h1).mpr ?_
      have : (-2147483648 : Int) * 2 ^ k ≤ -2147483648 * 1 := Int.mul_le_mul_of_nonpos_left (by decide) h2
      omega
    · rcases Int.le_total 0 z with q | q
      · have := Int.ediv_le_self (b := (2 : Int) ^ k) q
        exact Int.lt_of_le_of_lt this hz.2
      · have : z / 2 ^ k ≤ 0 := Int.ediv_nonpos_of_nonpos_of_neg q h1
        omega
theorem iZ_shl (z s : Int) (k : Nat) (hs : (((iZ s) &&& 31).toBitVec.smod 32).toNat = k) : iZ z <<< (iZ s &&& 31) = iZ (((z % 4294967296).toNat * 2 ^ k % 4294967296 : Nat) : Int) := iZ_bv (by rw [pk_shl (iZ z) (iZ s &&& 31) k hs, bv_iZ])
theorem iZ_i2b (z : Int) : (iZ z).toInt8.toInt32 = iZ (z.bmod 256) := by
  apply Int32.toInt_inj.1
  rw [Int8.toInt_toInt32, iZ_t]
  · show (Int32.ofInt z).toInt8.toInt = _
    rw [Int32.toInt8_ofInt, Int8.toInt_ofInt]
  · have h1 := Int.le_bmod (x := z) (m := 256) (by decide)
    have h2 := Int.bmod_lt (x := z) (m := 256) (by decide)
    omega
theorem iZ_or128 {z : Int} (h : 0 ≤ z ∧ z < 128) : iZ 128 ||| iZ z = iZ (128 + z) := by
  obtain ⟨n, rfl⟩ : ∃ n : Nat, z = (n : Int) := ⟨z.toNat, by omega⟩
  have hn : n < 128 := by omega
  have key : ∀ n, n < 128 → iZ 128 ||| iZ ((n : Nat) : Int) = iZ (128 + ((n : Nat) : Int)) := by decide +kernel
  exact key n hn
theorem iZ_or128' {z : Int} (h : 0 ≤ z ∧ z < 128) : iZ z ||| iZ 128 = iZ (z + 128) := by
  obtain ⟨n, rfl⟩ : ∃ n : Nat, z = (n : Int) := ⟨z.toNat, by omega⟩
  have hn : n < 128 := by omega
  have key : ∀ n, n < 128 → iZ ((n : Nat) : Int) ||| iZ 128 = iZ (((n : Nat) : Int) + 128) := by decide +kernel
  exact key n hn
theorem nar_byte {z : Int} (h : -128 ≤ z ∧ z < 128) : vp_nar .byte (iZ z) = iZ z := by
  rw [vp_nar_byte]
  apply Int32.toInt_inj.1
  rw [Int8.toInt_toInt32, iZ_t (by omega)]
  show (Int32.ofInt z).toInt8.toInt = _
  rw [Int32.toInt8_ofInt, Int8.toInt_ofInt_of_le (by omega) (by omega)]
section ZB
variable {p : Program} {l : Launch} {e : Env} {R : Room} {s : State} {m : MethodId} {args : Array Value} {below : List Frame} {meth : Method} {c : Code} {H : Heap} {locs : List Loc} {cells slots : Nat} {Q : State → Prop}
variable {cc : ByteArray} {pc : Nat} {ls : Array Slot} {rest : List Value} {a b : Int} (z : Int)
theorem z_iand (hx : p.tables.exec = Jvm.exec) (hb : c.code = cc) (hdg : decode cc pc = .ok (.iand, 1)) (hv : iZ a &&& iZ b = iZ z) (k : W p l e R s m args below meth c H locs cells slots Q (F0 m (pc + 1) ls (.int (iZ z) :: rest))) : W p l e R s m args below meth c H locs cells slots Q (F0 m pc ls (.int (iZ b) :: .int (iZ a) :: rest)) := lv_iand hx hb hdg (by rw [hv]; exact k)
theorem z_ior (hx : p.tables.exec = Jvm.exec) (hb : c.code = cc) (hdg : decode cc pc = .ok (.ior, 1)) (hv : iZ a ||| iZ b = iZ z) (k : W p l e R s m args below meth c H locs cells slots Q (F0 m (pc + 1) ls (.int (iZ z) :: rest))) : W p l e R s m args below meth c H locs cells slots Q (F0 m pc ls (.int (iZ b) :: .int (iZ a) :: rest)) := lv_ior hx hb hdg (by rw [hv]; exact k)
theorem z_ishl (hx : p.tables.exec = Jvm.exec) (hb : c.code = cc) (hdg : decode cc pc = .ok (.ishl, 1)) (hv : iZ a <<< (iZ b &&& 31) = iZ z) (k : W p l e R s m args below meth c H locs cells slots Q (F0 m (pc + 1) ls (.int (iZ z) :: rest))) : W p l e R s m args below meth c H locs cells slots Q (F0 m pc ls (.int (iZ b) :: .int (iZ a) :: rest)) := lv_ishl hx hb hdg (by rw [hv]; exact k)
theorem z_ishr (hx : p.tables.exec = Jvm.exec) (hb : c.code = cc) (hdg : decode cc pc = .ok (.ishr, 1)) (hv : iZ a >>> (iZ b &&& 31) = iZ z) (k : W p l e R s m args below meth c H locs cells slots Q (F0 m (pc + 1) ls (.int (iZ z) :: rest))) : W p l e R s m args below meth c H locs cells slots Q (F0 m pc ls (.int (iZ b) :: .int (iZ a) :: rest)) := lv_ishr hx hb hdg (by rw [hv]; exact k)
theorem z_iushr (hx : p.tables.exec = Jvm.exec) (hb : c.code = cc) (hdg : decode cc pc = .ok (.iushr, 1)) (hv : ((iZ a).toUInt32 >>> ((iZ b).toUInt32 &&& Int32.toUInt32 31)).toInt32 = iZ z) (k : W p l e R s m args below meth c H locs cells slots Q (F0 m (pc + 1) ls (.int (iZ z) :: rest))) : W p l e R s m args below meth c H locs cells slots Q (F0 m pc ls (.int (iZ b) :: .int (iZ a) :: rest)) := lv_iushr hx hb hdg hv k
theorem z_i2b (hx : p.tables.exec = Jvm.exec) (hb : c.code = cc) (hdg : decode cc pc = .ok (.i2b, 1)) (hv : (iZ a).toInt8.toInt32 = iZ z) (k : W p l e R s m args below meth c H locs cells slots Q (F0 m (pc + 1) ls (.int (iZ z) :: rest))) : W p l e R s m args below meth c H locs cells slots Q (F0 m pc ls (.int (iZ a) :: rest)) := lv_i2b hx hb hdg hv k
end ZB
end
section
def p4 (f : Nat → Int) (L : Nat) (z : Int) : Nat → Int := fun j => if L ≤ j ∧ j < L + 4 then (z % 4294967296) / 2 ^ (24 - 8 * (j - L)) % 256 else f j
theorem p4_eq {f : Nat → Int} {len z : Int} (h : 0 ≤ len) : uZ (uZ (uZ (uZ f len.toNat ((((z % 4294967296).toNat / 2 ^ 24 : Nat) : Int) % 256)) (len + 1).toNat ((((z % 4294967296).toNat / 2 ^ 16 : Nat) : Int) % 256)) (len + 1 + 1).toNat ((((z % 4294967296).toNat / 2 ^ 8 : Nat) : Int) % 256)) (len + 1 + 1 + 1).toNat (z % 256) = p4 f len.toNat z := by
  rw [show (len + 1).toNat = len.toNat + 1 by omega, show (len + 1 + 1).toNat = len.toNat + 2 by omega, show (len + 1 + 1 + 1).toNat = len.toNat + 3 by omega]
  funext j
  simp only [uZ, p4]
  by_cases e3 : j = len.toNat + 3
  · subst e3
    rw [if_pos rfl, if_pos (by omega), show 24 - 8 * (len.toNat + 3 - len.toNat) = 0 by omega]
    omega
  · rw [if_neg e3]
    by_cases e2 : j = len.toNat + 2
    · subst e2
      rw [if_pos rfl, if_pos (by omega), show 24 - 8 * (len.toNat + 2 - len.toNat) = 8 by omega]
      omega
    · rw [if_neg e2]
      by_cases e1 : j = len.toNat + 1
      · subst e1
        rw [if_pos rfl, if_pos (by omega), show 24 - 8 * (len.toNat + 1 - len.toNat) = 16 by omega]
        omega
      · rw [if_neg e1]
        by_cases e0 : j = len.toNat
        · subst e0
          rw [if_pos rfl, if_pos (by omega), show 24 - 8 * (len.toNat - len.toNat) = 24 by omega]
          omega
        · rw [if_neg e0, if_neg (by omega)]
def pU (f : Nat → Int) (L : Nat) (o : Int) : Nat → Int := if o < 128 then uZ f L o else uZ (uZ f L (128 + o % 128)) (L + 1) (o / 128)
def lU (o : Int) : Int := if o < 128 then 1 else 2
theorem pU_1 {f : Nat → Int} {len o : Int} (h : 0 ≤ o ∧ o < 128) : (uZ f len.toNat (o % 256), len + 1) = (pU f len.toNat o, len + lU o) := by
  rw [pU, lU, if_pos h.2, if_pos h.2, show o % 256 = o by omega]
theorem pU_2 {f : Nat → Int} {len o : Int} (hl : 0 ≤ len) (h : 128 ≤ o ∧ o < 16384) : (uZ (uZ f len.toNat ((128 + o % 128) % 256)) (len + 1).toNat ((((o % 4294967296).toNat / 2 ^ 7 : Nat) : Int) % 256), len + 1 + 1) = (pU f len.toNat o, len + lU o) := by
  rw [pU, lU, if_neg (by omega), if_neg (by omega), show (128 + o % 128) % 256 = 128 + o % 128 by omega, show (len + 1).toNat = len.toNat + 1 by omega, show (((o % 4294967296).toNat / 2 ^ 7 : Nat) : Int) % 256 = o / 128 by omega, show len + 1 + 1 = len + 2 by omega]
/-! placing by worth -/
def shf (f : Nat → Int) (a s : Nat) (x : Int) : Nat → Int := fun j => if j < a then f j else if j = a then x else if j ≤ s then f (j - 1) else f j
theorem shf_step {f g : Nat → Int} {a s : Nat} (ha : 0 < a) (has : a ≤ s) (h : ∀ j, g j = if a < j ∧ j ≤ s then f (j - 1) else f j) : ∀ j, uZ g a (g (a - 1)) j = if a - 1 < j ∧ j ≤ s then f (j - 1) else f j := by
  intro j
  by_cases e : j = a
  · subst e
    rw [uZ_s, h, if_neg (by omega), if_pos (by omega)]
  · rw [uZ_n e, h]
    by_cases q : a < j ∧ j ≤ s
    · rw [if_pos q, if_pos (by omega)]
    · rw [if_neg q, if_neg (by omega)]
theorem shf_end {f g : Nat → Int} {a s : Nat} {x : Int} (h : ∀ j, g j = if a < j ∧ j ≤ s then f (j - 1) else f j) : uZ g a x = shf f a s x := by
  funext j
  simp only [shf]
  by_cases e : j = a
  · subst e
    rw [uZ_s, if_neg (by omega), if_pos rfl]
  · rw [uZ_n e, h]
    by_cases q : j < a
    · rw [if_pos q, if_neg (by omega)]
    · rw [if_neg q, if_neg e]
      by_cases q2 : j ≤ s
      · rw [if_pos (by omega), if_pos q2]
      · rw [if_neg (by omega), if_neg q2]
end
section
/-! ranks -/
def shr (E : Ed) (N P Q : Nat) (x : Nat → Nat) (u : Nat) : Nat := P * x u / (Q * dgr E N u)
def bar (E : Ed) (N : Nat) (x : Nat → Nat) : Nat := fb_sm (fun u => if dgr E N u = 0 then x u else 0) N
def tla (E : Ed) (N P Q : Nat) (x : Nat → Nat) : Nat := ((Q - P) * 4294967296 + P * bar E N x) / Q
def stp (E : Ed) (N : Nat) (w : Nat → Nat) (P Q : Nat) (x : Nat → Nat) (v : Nat) : Nat := tla E N P Q x * w v / fb_sm w N + fb_sm (fun u => if E u v = true then shr E N P Q x u else 0) N
def dis (a b : Nat) : Nat := if a < b then b - a else a - b
def chg (N : Nat) (x y : Nat → Nat) : Nat := fb_sm (fun v => dis (x v) (y v)) N
def beg (N u : Nat) : Nat := 4294967296 / N + (if u < 4294967296 % N then 1 else 0)
theorem sm_mul (c : Nat) (f : Nat → Nat) : ∀ n, fb_sm (fun k => c * f k) n = c * fb_sm f n
  | 0 => rfl
  | n + 1 => by rw [fb_sm_succ, fb_sm_succ, sm_mul c f n, Nat.mul_add]
theorem sum_ex (E : Ed) (s : Nat → Nat) (M : Nat) : ∀ K, fb_sm (fun v => fb_sm (fun u => if E u v = true then s u else 0) M) K = fb_sm (fun u => fb_ct (E u) K * s u) M
  | 0 => by
    have h : fb_sm (fun u => fb_ct (E u) 0 * s u) M = fb_sm (fun _ => 0) M := fb_sm_cong (fun u _ => Nat.zero_mul _)
    rw [h, fb_sm_const]
    rfl
  | K + 1 => by
    rw [fb_sm_succ, sum_ex E s M K, ← fb_sm_add]
    refine fb_sm_cong (fun u _ => ?_)
    rw [fb_ct_succ]
    by_cases h : E u K = true
    · rw [if_pos h, if_pos h, Nat.add_mul, Nat.one_mul]
    · rw [if_neg h, if_neg h, Nat.add_zero, Nat.add_zero]
theorem sum_div (t W : Nat) (w : Nat → Nat) : ∀ K, fb_sm (fun v => t * w v / W) K * W ≤ t * fb_sm w K
  | 0 => by simp [fb_sm]
  | K + 1 => by
    rw [fb_sm_succ, fb_sm_succ, Nat.add_mul, Nat.mul_add]
    exact Nat.add_le_add (sum_div t W w K) (Nat.div_mul_le_self _ _)
theorem bar_le (E : Ed) (N : Nat) (x : Nat → Nat) : bar E N x ≤ fb_sm x N := fb_sm_le (fun u _ => by split <;> omega)
theorem tla_le {E : Ed} {N P Q : Nat} {x : Nat → Nat} (hPQ : P < Q) (hs : fb_sm x N ≤ 4294967296) : tla E N P Q x ≤ 4294967296 := by
  have h1 := Nat.mul_le_mul_left P (Nat.le_trans (bar_le E N x) hs)
  exact Nat.div_le_of_le_mul (by omega)
theorem tla_mul (E : Ed) (N P Q : Nat) (x : Nat → Nat) : Q * tla E N P Q x ≤ (Q - P) * 4294967296 + P * bar E N x := Nat.mul_div_le _ _
theorem stp_sum {E : Ed} {N P Q : Nat} {w x : Nat → Nat} (hW : 0 < fb_sm w N) (hPQ : P < Q) (hs : fb_sm x N ≤ 4294967296) : fb_sm (stp E N w P Q x) N ≤ 4294967296 := by
  have hA : fb_sm (fun v => tla E N P Q x * w v / fb_sm w N) N ≤ tla E N P Q x := Nat.le_of_mul_le_mul_right (sum_div (tla E N P Q x) (fb_sm w N) w N) hW
  have hB : Q * fb_sm (fun u => fb_ct (E u) N * shr E N P Q x u) N ≤ fb_sm (fun u => if dgr E N u = 0 then 0 else P * x u) N := by
    rw [← sm_mul]
    refine fb_sm_le (fun u _ => ?_)
    by_cases h : dgr E N u = 0
    · rw [if_pos h, show fb_ct (E u) N = 0 from h, Nat.zero_mul, Nat.mul_zero]
      exact Nat.le_refl _
    · rw [if_neg h, ← Nat.mul_assoc]
      exact Nat.mul_div_le _ _
  have hC : P * bar E N x + fb_sm (fun u => if dgr E N u = 0 then 0 else P * x u) N = P * fb_sm x N := by
    rw [bar, ← sm_mul, ← fb_sm_add, ← sm_mul]
    refine fb_sm_cong (fun u _ => ?_)
    by_cases h : dgr E N u = 0
    · rw [if_pos h, if_pos h, Nat.add_zero]
    · rw [if_neg h, if_neg h, Nat.mul_zero, Nat.zero_add]
  have hD := tla_mul E N P Q x
  have hF := Nat.mul_le_mul_left P hs
  have hS : fb_sm (stp E N w P Q x) N = fb_sm (fun v => tla E N P Q x * w v / fb_sm w N) N + fb_sm (fun u => fb_ct (E u) N * shr E N P Q x u) N := by
    rw [← sum_ex E (shr E N P Q x) N N, ← fb_sm_add]
    rfl
  have hG := Nat.mul_le_mul_left Q hA
  refine Nat.le_of_mul_le_mul_left (c := Q) ?_ (by omega)
  rw [hS, Nat.mul_add]
  omega
theorem sm_at {x : Nat → Nat} {N u : Nat} (h : u < N) : x u ≤ fb_sm x N := by
  have := fb_sm_part x h
  omega
theorem beg_sum {N : Nat} (h : 0 < N) : fb_sm (beg N) N = 4294967296 := by
  have h1 : ∀ k, fb_sm (beg N) k = k * (4294967296 / N) + (if k < 4294967296 % N then k else 4294967296 % N) := by
    intro k
    induction k with
    | zero =>
      rw [Nat.zero_mul]
      split <;> simp [fb_sm]
      omega
    | succ k ih =>
      rw [fb_sm_succ, ih, beg, Nat.succ_mul]
      (repeat' split) <;> omega
  have h2 := Nat.mod_lt 4294967296 h
  have h3 := Nat.div_add_mod 4294967296 N
  rw [h1, if_neg (by omega)]
  exact h3
theorem each_eq {N : Nat} {n : Int} (hn : n = (N : Int)) : (4294967296 : Int) / n = ((4294967296 / N : Nat) : Int) := by
  subst hn
  rw [Int.natCast_ediv]
  rfl
theorem left_eq {N : Nat} {n : Int} (hn : n = (N : Int)) : (4294967296 : Int) - ((4294967296 / N : Nat) : Int) * n = ((4294967296 % N : Nat) : Int) := by
  subst hn
  have h := Nat.div_add_mod 4294967296 N
  have h2 : ((N * (4294967296 / N) + 4294967296 % N : Nat) : Int) = ((4294967296 : Nat) : Int) := by rw [h]
  rw [Int.natCast_add, Int.natCast_mul, Int.mul_comm] at h2
  omega
def RK (N P Q : Nat) (x : Nat → Nat) (fn : Nat → Int) (p q : Int) : Prop := p = (P : Int) ∧ q = (Q : Int) ∧ P < Q ∧ Q < 1073741824 ∧ (∀ u, u < N → fn u = (x u : Int)) ∧ fb_sm x N ≤ 4294967296
theorem dis_eq {a b : Nat} : (if (0 : Int) < ((b : Int) - (a : Int)) then ((b : Int) - (a : Int)) else -((b : Int) - (a : Int))) = ((dis a b : Nat) : Int) := by
  unfold dis
  (repeat' split) <;> omega
theorem chg_le (N : Nat) (x y : Nat → Nat) : chg N x y ≤ fb_sm x N + fb_sm y N := by
  rw [← fb_sm_add]
  exact fb_sm_le (fun u _ => by unfold dis; split <;> omega)
section ZA
variable {p : Program} {l : Launch} {e : Env} {R : Room} {s : State} {m : MethodId} {args : Array Value} {below : List Frame} {meth : Method} {c : Code} {H : Heap} {locs : List Loc} {cells slots : Nat} {Q : State → Prop}
variable {cc : ByteArray} {pc : Nat} {ls : Array Slot} {rest : List Value} {a : Int}
theorem z_labs (hx : p.tables.exec = Jvm.exec) (hb : c.code = cc) (hml : c.maxLocals = ls.size) {own : String} {index : Nat} (hown : s.vm.findClass own = some m.cls) (hlink : (Cond.methodLink own index Lib.MathLoose.abs_long.x).before args s = true) (hstat : (Cond.static Lib.MathLoose.abs_long.x).before args s = true) (hini : (Cond.initialized "java/lang/Math").before args s = true) (hcode : (Cond.code Lib.MathLoose.abs_long.x Lib.MathLoose.abs_long.code 2 (some .long)).before args s = true)
    (hframes : 1 ≤ R.frames) (hlocals : (rest.map fun v => v.category).sum + 13 ≤ R.locals) (hc : cells ≤ R.cells) (hs : slots ≤ R.slots) (ha : -9223372036854775808 ≤ a ∧ a < 9223372036854775808) (hdg : decode cc pc = .ok (.invokestatic index, 3))
    (kk : W p l e R s m args below meth c H locs cells slots Q (F0 m (pc + 3) ls (.long (lZ (if 0 < a then a else -a)) :: rest))) : W p l e R s m args below meth c H locs cells slots Q (F0 m pc ls (.long (lZ a) :: rest)) := by
  refine va_mabs_long hx hb hml hown hlink hstat hini hcode hframes hlocals hc hs hdg ?_
  have h := lZ_lt (a := 0) (b := a) (by omega) ha
  by_cases q : 0 < a
  · rw [if_pos (show (0 : Int64) < lZ a from h.mpr q)]
    rw [if_pos q] at kk
    exact kk
  · rw [if_neg (show ¬ (0 : Int64) < lZ a from fun z => q (h.mp z)), lZ_neg]
    rw [if_neg q] at kk
    exact kk
end ZA
end
section
def rwL {S : Type} (D : va_G) (post : Int → S → Prop) (wf : S → va_W) (A : Nat → Prop) : Array Value → State → Outcome → State → Prop := va_Ql (fun r u => ∃ z : Int, r = lZ z ∧ post z u) (fun u t => va_P D vwCl (wf u) t.heap ∧ va_D A (wf u)) A
section ZL
variable {p : Program} {l : Launch} {e : Env} {R : Room} {s : State} {m : MethodId} {args : Array Value} {below : List Frame} {meth : Method} {c : Code} {H : Heap} {locs : List Loc} {cells slots : Nat} {Q : State → Prop}
variable {cc : ByteArray} {pc : Nat} {ls : Array Slot} {rest st0 : List Value} {D : va_G} {ws : va_W} {A : Nat → Prop} {H0 : Heap} {av : Array Value}
theorem rw_lret {S : Type} {post : Int → S → Prop} {wf : S → va_W} {z : Int} (u : S) (hx : p.tables.exec = Jvm.exec) (hb : c.code = cc) (hr : meth.sig.returnType = some .long) (hlocks : meth.locks = false) (hP : va_P D vwCl (wf u) H) (hD : va_D A (wf u)) (hS : va_S A s.heap H locs) (hp : post z u) (hdg : decode cc pc = .ok (.lreturn, 1)) : W p l e R s m args below meth c H locs cells slots (MQ below (rwL D post wf A) args s cells slots A) (F0 m pc ls [.long (lZ z)]) := W.lret hx hb hr (fun _ ht _ => ⟨⟨_, u, rfl, ⟨z, rfl, hp⟩, by rw [ht]; exact hP, hD⟩, hS.F ht⟩) hS.2.2 hdg hlocks
theorem rw_l {S : Type} {post : Int → S → Prop} {wf : S → va_W} {wc wr : va_W} {mc ms : Nat} (hr : va_Run p l e R s m args below meth c H locs cells slots mc ms (F0 m pc ls st0) rest (rwL D post wf (va_A wc H.size) av) (va_A wc H.size)) (hP : va_P D vwCl ws H) (hD : va_D A ws) (hS : va_S A H0 H locs) (hA : ∀ q, H0.size ≤ q → A q) (isC isR : List Nat) (hC : isC.map (fun i => ws[i]?) = wc.map some) (hR : isR.map (fun i => ws[i]?) = wr.map some) (hn : va_nd isR = true) (hdis : ∀ i ∈ isR, i ∉ isC)
    (kk : ∀ (z : Int) (u : S) (H1 : Heap) (locs1 : List Loc), post z u → va_P D vwCl (wr ++ wf u) H1 → va_D A (wr ++ wf u) → va_S A H0 H1 locs1 → W p l e R s m args below meth c H1 locs1 (cells + mc) (slots + ms) Q (F0 m (pc + 3) ls (.long (lZ z) :: rest))) : W p l e R s m args below meth c H locs cells slots Q (F0 m pc ls st0) := by
  have hF := va_free hD hS hA isC hC
  refine va_calll hr hS (fun q _ h => hF q h) hF (fun r u t H1 locs1 ht hvm hp hB hz hk hS1 => ?_)
  obtain ⟨hP1, hD1⟩ := hB
  obtain ⟨z, rfl, hp⟩ := hp
  rw [ht] at hP1
  obtain ⟨hP2, hD2⟩ := va_join hP hD isC isR hC hR hn hdis hk hF hP1 hD1
  exact kk z u H1 locs1 hp hP2 hD2 hS1
end ZL
theorem so_step {E : Ed} {N U i t : Nat} {g f : Nat → Int} {sv : Int} (h1 : t < N) (h2 : E U t = true) (h3 : fb_ct (E U) t = i) (h : ∀ v, v < N → g v = f v + (if E U v = true ∧ fb_ct (E U) v < i then sv else 0)) : ∀ v, v < N → uZ g t (g t + sv) v = f v + (if E U v = true ∧ fb_ct (E U) v < i + 1 then sv else 0) := by
  intro v hv
  by_cases e : v = t
  · subst e
    rw [uZ_s, h v hv, if_neg (by omega), if_pos ⟨h2, by omega⟩]
    omega
  · rw [uZ_n e, h v hv]
    by_cases q : E U v = true ∧ fb_ct (E U) v < i
    · rw [if_pos q, if_pos ⟨q.1, by omega⟩]
    · rw [if_neg q, if_neg]
      rintro ⟨q1, q2⟩
      by_cases q3 : fb_ct (E U) v < i
      · exact q ⟨q1, q3⟩
      · exact e (fb_ct_kth_one q1 h2 (by omega))
theorem so_end {E : Ed} {N U : Nat} {g f : Nat → Int} {sv : Int} (h : ∀ v, v < N → g v = f v + (if E U v = true ∧ fb_ct (E U) v < dgr E N U then sv else 0)) : ∀ v, v < N → g v = f v + (if E U v = true then sv else 0) := by
  intro v hv
  rw [h v hv]
  by_cases q : E U v = true
  · rw [if_pos ⟨q, row_in q hv⟩, if_pos q]
  · rw [if_neg (fun z => q z.1), if_neg q]
theorem er_le {Er P Q : Nat} (h : Er ≤ 8589934592) (hPQ : P < Q) : Er * P / Q + 1 ≤ 8589934592 := by
  rcases Nat.eq_zero_or_pos Er with q | q
  · subst q
    simp
  · have h1 : Er * P < Er * Q := Nat.mul_lt_mul_of_pos_left hPQ q
    have h2 : Er * P / Q < Er := Nat.div_lt_of_lt_mul (by rw [Nat.mul_comm Q Er]; exact h1)
    omega
end
section
/-! bytes of a graph -/
def uns (T : Nat → Int) (L s : Nat) : Int × Int × Nat :=
  if L ≤ s then (1, (L : Int), s) else
  if T s < 128 then (0, T s, s + 1) else
  if L ≤ s + 1 then (1, (L : Int), s + 1) else
  if T (s + 1) < 128 then (if T (s + 1) = 0 then (2, (s : Int), s + 2) else (0, T s % 128 + T (s + 1) % 128 * 128, s + 2)) else
  if L ≤ s + 2 then (1, (L : Int), s + 2) else
  if T (s + 2) < 128 then (if T (s + 2) = 0 ∨ 65535 < T s % 128 + T (s + 1) % 128 * 128 + T (s + 2) % 128 * 16384 then (2, (s : Int), s + 3) else (0, T s % 128 + T (s + 1) % 128 * 128 + T (s + 2) % 128 * 16384, s + 3)) else (2, (s : Int), s + 3)
section UNS
variable {T : Nat → Int} {L s : Nat}
theorem uns_e0 (h : L ≤ s) : uns T L s = (1, (L : Int), s) := by rw [uns, if_pos h]
theorem uns_v0 (h : ¬ L ≤ s) (h1 : T s < 128) : uns T L s = (0, T s, s + 1) := by rw [uns, if_neg h, if_pos h1]
theorem uns_e1 (h : ¬ L ≤ s) (h1 : ¬ T s < 128) (h2 : L ≤ s + 1) : uns T L s = (1, (L : Int), s + 1) := by rw [uns, if_neg h, if_neg h1, if_pos h2]
theorem uns_z1 (h : ¬ L ≤ s) (h1 : ¬ T s < 128) (h2 : ¬ L ≤ s + 1) (h3 : T (s + 1) < 128) (h4 : T (s + 1) = 0) : uns T L s = (2, (s : Int), s + 2) := by rw [uns, if_neg h, if_neg h1, if_neg h2, if_pos h3, if_pos h4]
theorem uns_v1 (h : ¬ L ≤ s) (h1 : ¬ T s < 128) (h2 : ¬ L ≤ s + 1) (h3 : T (s + 1) < 128) (h4 : ¬ T (s + 1) = 0) : uns T L s = (0, T s % 128 + T (s + 1) % 128 * 128, s + 2) := by rw [uns, if_neg h, if_neg h1, if_neg h2, if_pos h3, if_neg h4]
theorem uns_e2 (h : ¬ L ≤ s) (h1 : ¬ T s < 128) (h2 : ¬ L ≤ s + 1) (h3 : ¬ T (s + 1) < 128) (h4 : L ≤ s + 2) : uns T L s = (1, (L : Int), s + 2) := by rw [uns, if_neg h, if_neg h1, if_neg h2, if_neg h3, if_pos h4]
theorem uns_z2 (h : ¬ L ≤ s) (h1 : ¬ T s < 128) (h2 : ¬ L ≤ s + 1) (h3 : ¬ T (s + 1) < 128) (h4 : ¬ L ≤ s + 2) (h5 : T (s + 2) < 128) (h6 : T (s + 2) = 0 ∨ 65535 < T s % 128 + T (s + 1) % 128 * 128 + T (s + 2) % 128 * 16384) : uns T L s = (2, (s : Int), s + 3) := by rw [uns, if_neg h, if_neg h1, if_neg h2, if_neg h3, if_neg h4, if_pos h5, if_pos h6]
theorem uns_v2 (h : ¬ L ≤ s) (h1 : ¬ T s < 128) (h2 : ¬ L ≤ s + 1) (h3 : ¬ T (s + 1) < 128) (h4 : ¬ L ≤ s + 2) (h5 : T (s + 2) < 128) (h6 : ¬ (T (s + 2) = 0 ∨ 65535 < T s % 128 + T (s + 1) % 128 * 128 + T (s + 2) % 128 * 16384)) : uns T L s = (0, T s % 128 + T (s + 1) % 128 * 128 + T (s + 2) % 128 * 16384, s + 3) := by rw [uns, if_neg h, if_neg h1, if_neg h2, if_neg h3, if_neg h4, if_pos h5, if_neg h6]
theorem uns_b (h : ¬ L ≤ s) (h1 : ¬ T s < 128) (h2 : ¬ L ≤ s + 1) (h3 : ¬ T (s + 1) < 128) (h4 : ¬ L ≤ s + 2) (h5 : ¬ T (s + 2) < 128) : uns T L s = (2, (s : Int), s + 3) := by rw [uns, if_neg h, if_neg h1, if_neg h2, if_neg h3, if_neg h4, if_neg h5]
theorem uns_ok {qk qv : Int} {qp : Nat} (hq : (qk, qv, qp) = uns T L s) (hs : s ≤ L) (hT : ∀ j, j < L → 0 ≤ T j ∧ T j < 256) : s ≤ qp ∧ qp ≤ L ∧ (qk = 0 ∨ qk = 1 ∨ qk = 2) ∧ 0 ≤ qv ∧ qv ≤ 65535 ∨ (s ≤ qp ∧ qp ≤ L ∧ (qk = 1 ∨ qk = 2) ∧ 0 ≤ qv ∧ qv ≤ L) := by
  unfold uns at hq
  by_cases a0 : L ≤ s
  · rw [if_pos a0] at hq
    simp only [Prod.mk.injEq] at hq
    omega
  · have t0 := hT s (by omega)
    rw [if_neg a0] at hq
    split at hq
    · simp only [Prod.mk.injEq] at hq
      omega
    · split at hq
      · simp only [Prod.mk.injEq] at hq
        omega
      · have t1 := hT (s + 1) (by omega)
        split at hq
        · split at hq <;> (simp only [Prod.mk.injEq] at hq; omega)
        · split at hq
          · simp only [Prod.mk.injEq] at hq
            omega
          · have t2 := hT (s + 2) (by omega)
            split at hq
            · split at hq <;> (simp only [Prod.mk.injEq] at hq; omega)
            · simp only [Prod.mk.injEq] at hq
              omega
end UNS
def uR (q : Int × Int × Nat) (kd pl z nx' kd' pl' : Int) : Prop := nx' = (q.2.2 : Int) ∧ ((q.1 = 0 ∧ z = q.2.1 ∧ kd' = kd ∧ pl' = pl) ∨ (q.1 ≠ 0 ∧ z = -1 ∧ kd' = q.1 ∧ pl' = q.2.1))
def sg (c : Int) : Int := if c % 2 = 0 then c / 2 else -((c + 1) / 2)
def pRow (T : Nat → Int) (L n u : Nat) : Nat → Bool → Int → Nat → Ed → Int × Int × Nat × Ed
  | 0, _, _, pos, E => (0, 0, pos, E)
  | r + 1, fs, v, pos, E =>
    if (uns T L pos).1 ≠ 0 then ((uns T L pos).1, (uns T L pos).2.1, (uns T L pos).2.2, E)
    else if (if fs = true then (u : Int) + sg (uns T L pos).2.1 else v + 1 + (uns T L pos).2.1) < 0 ∨ (n : Int) ≤ (if fs = true then (u : Int) + sg (uns T L pos).2.1 else v + 1 + (uns T L pos).2.1) then (3, (pos : Int), (uns T L pos).2.2, E)
    else pRow T L n u r false (if fs = true then (u : Int) + sg (uns T L pos).2.1 else v + 1 + (uns T L pos).2.1) (uns T L pos).2.2 (uE E u (if fs = true then (u : Int) + sg (uns T L pos).2.1 else v + 1 + (uns T L pos).2.1).toNat true)
theorem pRow_f {T : Nat → Int} {L n u r : Nat} {fs : Bool} {v qk qv : Int} {pos qp : Nat} {E : Ed} (hq : (qk, qv, qp) = uns T L pos) (hk : qk ≠ 0) : pRow T L n u (r + 1) fs v pos E = (qk, qv, qp, E) := by
  rw [pRow, ← hq, if_pos hk]
theorem pRow_o {T : Nat → Int} {L n u r : Nat} {fs : Bool} {v v' qk qv : Int} {pos qp : Nat} {E : Ed} (hq : (qk, qv, qp) = uns T L pos) (hk : qk = 0) (hv : v' = if fs = true then (u : Int) + sg qv else v + 1 + qv) (hb : v' < 0 ∨ (n : Int) ≤ v') : pRow T L n u (r + 1) fs v pos E = (3, (pos : Int), qp, E) := by
  rw [pRow, ← hq, if_neg (by simp [hk])]
  simp only [← hv, if_pos hb]
theorem pRow_s {T : Nat → Int} {L n u r : Nat} {fs : Bool} {v v' qk qv : Int} {pos qp : Nat} {E : Ed} (hq : (qk, qv, qp) = uns T L pos) (hk : qk = 0) (hv : v' = if fs = true then (u : Int) + sg qv else v + 1 + qv) (hb : ¬ (v' < 0 ∨ (n : Int) ≤ v')) : pRow T L n u (r + 1) fs v pos E = pRow T L n u r false v' qp (uE E u v'.toNat true) := by
  rw [pRow, ← hq, if_neg (by simp [hk])]
  simp only [← hv, if_neg hb]
theorem pRow_0 {T : Nat → Int} {L n u : Nat} {fs : Bool} {v : Int} {pos : Nat} {E : Ed} : pRow T L n u 0 fs v pos E = (0, 0, pos, E) := rfl
/-- a node: kind, place, where it ends, how many edges, the edges -/
def pNode (T : Nat → Int) (L n u size pos : Nat) (E : Ed) : Int × Int × Nat × Nat × Ed :=
  if (uns T L pos).1 ≠ 0 then ((uns T L pos).1, (uns T L pos).2.1, (uns T L pos).2.2, 0, E)
  else if (n : Int) < (uns T L pos).2.1 ∨ 2500 < (size : Int) + (uns T L pos).2.1 then (3, (pos : Int), (uns T L pos).2.2, 0, E)
  else ((pRow T L n u (uns T L pos).2.1.toNat true 0 (uns T L pos).2.2 E).1, (pRow T L n u (uns T L pos).2.1.toNat true 0 (uns T L pos).2.2 E).2.1, (pRow T L n u (uns T L pos).2.1.toNat true 0 (uns T L pos).2.2 E).2.2.1, (uns T L pos).2.1.toNat, (pRow T L n u (uns T L pos).2.1.toNat true 0 (uns T L pos).2.2 E).2.2.2)
theorem pNode_f {T : Nat → Int} {L n u size pos : Nat} {E : Ed} {qk qv : Int} {qp : Nat} (hq : (qk, qv, qp) = uns T L pos) (hk : qk ≠ 0) : pNode T L n u size pos E = (qk, qv, qp, 0, E) := by rw [pNode, ← hq, if_pos hk]
theorem pNode_o {T : Nat → Int} {L n u size pos : Nat} {E : Ed} {qk qv : Int} {qp : Nat} (hq : (qk, qv, qp) = uns T L pos) (hk : qk = 0) (hb : (n : Int) < qv ∨ 2500 < (size : Int) + qv) : pNode T L n u size pos E = (3, (pos : Int), qp, 0, E) := by
  rw [pNode, ← hq, if_neg (by simp [hk])]
  simp only [if_pos hb]
theorem pNode_s {T : Nat → Int} {L n u size pos : Nat} {E : Ed} {qk qv rk rp : Int} {qp rq : Nat} {rE : Ed} (hq : (qk, qv, qp) = uns T L pos) (hk : qk = 0) (hb : ¬ ((n : Int) < qv ∨ 2500 < (size : Int) + qv)) (hr : pRow T L n u qv.toNat true 0 qp E = (rk, rp, rq, rE)) : pNode T L n u size pos E = (rk, rp, rq, qv.toNat, rE) := by
  rw [pNode, ← hq, if_neg (by simp [hk])]
  simp only [if_neg hb, hr]
def pNodes (T : Nat → Int) (L n : Nat) : Nat → Nat → Nat → Nat → Ed → Int × Int × Nat × Ed
  | 0, _, pos, size, E => if pos < L then (4, (pos : Int), size, E) else (0, 0, size, E)
  | r + 1, u, pos, size, E =>
    if (pNode T L n u size pos E).1 ≠ 0 then ((pNode T L n u size pos E).1, (pNode T L n u size pos E).2.1, size, E)
    else pNodes T L n r (u + 1) (pNode T L n u size pos E).2.2.1 (size + (pNode T L n u size pos E).2.2.2.1) (pNode T L n u size pos E).2.2.2.2
theorem pNodes_f {T : Nat → Int} {L n r u pos size : Nat} {E : Ed} {rk rp : Int} {rq rn : Nat} {rE : Ed} (h : pNode T L n u size pos E = (rk, rp, rq, rn, rE)) (hk : rk ≠ 0) : pNodes T L n (r + 1) u pos size E = (rk, rp, size, E) := by rw [pNodes, h, if_pos hk]
theorem pNodes_s {T : Nat → Int} {L n r u pos size : Nat} {E : Ed} {rk rp : Int} {rq rn : Nat} {rE : Ed} (h : pNode T L n u size pos E = (rk, rp, rq, rn, rE)) (hk : rk = 0) : pNodes T L n (r + 1) u pos size E = pNodes T L n r (u + 1) rq (size + rn) rE := by rw [pNodes, h, if_neg (by simp [hk])]
/-- all bytes: kind, place, nodes, edges' number, edges -/
def pAll (T : Nat → Int) (L : Nat) : Int × Int × Nat × Nat × Ed :=
  if (uns T L 0).1 ≠ 0 then ((uns T L 0).1, (uns T L 0).2.1, 0, 0, fun _ _ => false)
  else if (uns T L 0).2.1 < 1 ∨ 250 < (uns T L 0).2.1 then (3, 0, 0, 0, fun _ _ => false)
  else ((pNodes T L (uns T L 0).2.1.toNat (uns T L 0).2.1.toNat 0 (uns T L 0).2.2 0 (fun _ _ => false)).1, (pNodes T L (uns T L 0).2.1.toNat (uns T L 0).2.1.toNat 0 (uns T L 0).2.2 0 (fun _ _ => false)).2.1, (uns T L 0).2.1.toNat, (pNodes T L (uns T L 0).2.1.toNat (uns T L 0).2.1.toNat 0 (uns T L 0).2.2 0 (fun _ _ => false)).2.2.1, (pNodes T L (uns T L 0).2.1.toNat (uns T L 0).2.1.toNat 0 (uns T L 0).2.2 0 (fun _ _ => false)).2.2.2)
theorem pAll_f {T : Nat → Int} {L : Nat} {qk qv : Int} {qp : Nat} (hq : (qk, qv, qp) = uns T L 0) (hk : qk ≠ 0) : pAll T L = (qk, qv, 0, 0, fun _ _ => false) := by rw [pAll, ← hq, if_pos hk]
theorem pAll_o {T : Nat → Int} {L : Nat} {qk qv : Int} {qp : Nat} (hq : (qk, qv, qp) = uns T L 0) (hk : qk = 0) (hb : qv < 1 ∨ 250 < qv) : pAll T L = (3, 0, 0, 0, fun _ _ => false) := by
  rw [pAll, ← hq, if_neg (by simp [hk])]
  simp only [if_pos hb]
theorem pAll_s {T : Nat → Int} {L : Nat} {qk qv rk rp : Int} {qp rs : Nat} {rE : Ed} (hq : (qk, qv, qp) = uns T L 0) (hk : qk = 0) (hb : ¬ (qv < 1 ∨ 250 < qv)) (hr : pNodes T L qv.toNat qv.toNat 0 qp 0 (fun _ _ => false) = (rk, rp, rs, rE)) : pAll T L = (rk, rp, qv.toNat, rs, rE) := by
  rw [pAll, ← hq, if_neg (by simp [hk])]
  simp only [if_neg hb, hr]
end
section
theorem iZ_shl0 {z : Int} (h : 0 ≤ z ∧ z < 128) : iZ z <<< (iZ 0 &&& 31) = iZ z := by
  rw [iZ_shl z 0 0 rfl]
  congr 1
  omega
theorem iZ_shl7 {z : Int} (h : 0 ≤ z ∧ z < 128) : iZ z <<< (iZ 7 &&& 31) = iZ (z * 128) := by
  rw [iZ_shl z 7 7 rfl]
  congr 1
  omega
theorem iZ_shl14 {z : Int} (h : 0 ≤ z ∧ z < 128) : iZ z <<< (iZ 14 &&& 31) = iZ (z * 16384) := by
  rw [iZ_shl z 14 14 rfl]
  congr 1
  omega
theorem pRow_v {T : Nat → Int} {L n u r : Nat} {v v2 : Int} {pos : Nat} {E : Ed} : pRow T L n u r true v pos E = pRow T L n u r true v2 pos E := by
  cases r with
  | zero => rfl
  | succ r => rw [pRow, pRow]; simp
theorem sg_r {c : Int} (h : 0 ≤ c ∧ c ≤ 65535) : -32768 ≤ sg c ∧ sg c ≤ 32768 := by
  unfold sg
  split <;> omega
end
section
set_option maxHeartbeats 4000000 in
set_option maxRecDepth 100000 in
theorem c_X2_isNode (l : Launch) (D : va_G) (cI cJ cB cZ : ClassId) (h a1 a2 a3 : Nat) (f1 f2 f3 : Nat → Int) (n sz wh : Int) (u : Int) (hn : 0 ≤ n ∧ n ≤ 250) (hu : -2147483648 ≤ u ∧ u < 2147483648) : Met l yX2_isNode wsX2_isNode ({ frames := 0, cells := 0, slots := 0, locals := 0 } : Room) (Pre0 D cI cJ cB cZ [.ref h, .int (iZ u)] (wGr cI h a1 a2 a3 f1 f2 f3 n sz wh)) (roI (fun z => (z = 1 ∧ (0 ≤ u ∧ u < n)) ∨ (z = 0 ∧ ¬ (0 ≤ u ∧ u < n)))) 0 0 (fun _ => False) := by
  refine Met.ofW (cc := cX2_isNode) (maxL := 2) (ret := (some .boolean)) (by decide) rfl ?_
  intro p e s m args below meth c s₁ B hml hv
  obtain ⟨rfl, hP, hE⟩ := hv
  have hx := B.exec
  have hb := B.bytes
  have hr := B.returns
  have hts := atoms_spec (ws := wsX2_isNode) B.pre
  have hown : s.vm.findClass RX2 = some m.cls := findClass_of_methodNamed B.named
  have hlocks := B.notSynchronized
  have hK := hE.1
  have hi_2 : ∀ w ∈ wsX20, w ∈ wsX2_isNode := by decide +kernel
  have hw_1 := hts (.fieldLink RX2 21 "RankHouse$Graph" "nodes" "I") (by decide +kernel)
  have hl := lv_entry ([.ref h, .int (iZ u)]) (n := 2) (Nat.le_of_ble_eq_true rfl)
  rw [lg_entry_eq]
  generalize (lg_sl ([.ref h, .int (iZ u)]) ++ List.replicate (2 - (lg_sl ([.ref h, .int (iZ u)])).length) Slot.unset).toArray = ls at hl ⊢
  have hl : lv_has ls 2 [(0, .ref h), (1, .int (iZ u))] := hl
  refine lv_iload_n hx hb dX2_isNode_0 rfl (lv_at hl 1 rfl) ?_
  refine z_if_lt (tgt := 16) hx hb dX2_isNode_1 (by decide) (by omega) (fun c_1 => ?_) (fun c_1 => ?_)
  · refine z_iconst hx hb dX2_isNode_16 ?_
    exact ro_zret (z := 0) hx hb hr hlocks (Or.inl rfl) (by omega) dX2_isNode_17
  · refine lv_iload_n hx hb dX2_isNode_4 rfl (lv_at hl 1 rfl) ?_
    refine lv_aload_n hx hb dX2_isNode_5 rfl (lv_at hl 0 rfl) ?_
    refine va_get (v := .int (iZ n)) (C := RX2) (T := TX2) (N := 6) (ci := 2) hx hb hts hi_2 hown hK hP 0 rfl rfl 3 (by decide) hw_1 (fun _ h9 => h9) rfl dX2_isNode_6 ?_
    refine z_icmp_ge (tgt := 16) hx hb dX2_isNode_9 (by decide) (by omega) (by omega) (fun c_2 => ?_) (fun c_2 => ?_)
    · refine z_iconst hx hb dX2_isNode_16 ?_
      exact ro_zret (z := 0) hx hb hr hlocks (Or.inl rfl) (by omega) dX2_isNode_17
    · refine z_iconst hx hb dX2_isNode_12 ?_
      refine lv_goto (tgt := 17) hx hb dX2_isNode_13 (by decide) ?_
      exact ro_zret (z := 1) hx hb hr hlocks (Or.inr rfl) (by omega) dX2_isNode_17
set_option maxHeartbeats 4000000 in
set_option maxRecDepth 100000 in
theorem c_X2_canHave (l : Launch) (D : va_G) (cI cJ cB cZ : ClassId) (n : Int) (hn : -2147483648 ≤ n ∧ n < 2147483648) : Met l yX2_canHave wsX2_canHave ({ frames := 0, cells := 0, slots := 0, locals := 0 } : Room) (Pre0 D cI cJ cB cZ [.int (iZ n)] []) (roI (fun z => (z = 1 ∧ (1 ≤ n ∧ n ≤ 250)) ∨ (z = 0 ∧ ¬ (1 ≤ n ∧ n ≤ 250)))) 0 0 (fun _ => False) := by
  refine Met.ofW (cc := cX2_canHave) (maxL := 1) (ret := (some .boolean)) (by decide) rfl ?_
  intro p e s m args below meth c s₁ B hml hv
  obtain ⟨rfl, hP, hE⟩ := hv
  have hx := B.exec
  have hb := B.bytes
  have hr := B.returns
  have hts := atoms_spec (ws := wsX2_canHave) B.pre
  have hown : s.vm.findClass RX2 = some m.cls := findClass_of_methodNamed B.named
  have hlocks := B.notSynchronized
  have hK := hE.1
  have hl := lv_entry ([.int (iZ n)]) (n := 1) (Nat.le_of_ble_eq_true rfl)
  rw [lg_entry_eq]
  generalize (lg_sl ([.int (iZ n)]) ++ List.replicate (1 - (lg_sl ([.int (iZ n)])).length) Slot.unset).toArray = ls at hl ⊢
  have hl : lv_has ls 1 [(0, .int (iZ n))] := hl
  refine lv_iload_n hx hb dX2_canHave_0 rfl (lv_at hl 0 rfl) ?_
  refine z_iconst hx hb dX2_canHave_1 ?_
  refine z_icmp_lt (tgt := 16) hx hb dX2_canHave_2 (by decide) (by omega) (by omega) (fun c_1 => ?_) (fun c_1 => ?_)
  · refine z_iconst hx hb dX2_canHave_16 ?_
    exact ro_zret (z := 0) hx hb hr hlocks (Or.inl rfl) (by omega) dX2_canHave_17
  · refine lv_iload_n hx hb dX2_canHave_5 rfl (lv_at hl 0 rfl) ?_
    refine z_sipush hx hb dX2_canHave_6 (by decide) ?_
    refine z_icmp_gt (tgt := 16) hx hb dX2_canHave_9 (by decide) (by omega) (by omega) (fun c_2 => ?_) (fun c_2 => ?_)
    · refine z_iconst hx hb dX2_canHave_16 ?_
      exact ro_zret (z := 0) hx hb hr hlocks (Or.inl rfl) (by omega) dX2_canHave_17
    · refine z_iconst hx hb dX2_canHave_12 ?_
      refine lv_goto (tgt := 17) hx hb dX2_canHave_13 (by decide) ?_
      exact ro_zret (z := 1) hx hb hr hlocks (Or.inr rfl) (by omega) dX2_canHave_17
set_option maxHeartbeats 4000000 in
set_option maxRecDepth 100000 in
theorem c_X2_spot (l : Launch) (D : va_G) (cI cJ cB cZ : ClassId) (h a1 a2 a3 : Nat) (f1 f2 f3 : Nat → Int) (n sz wh : Int) (N : Nat) (E : Ed) (w : Nat → Nat) (hG : GR N E w f1 f2 f3 n sz wh) (u v : Int) (hu : 0 ≤ u ∧ u < n) (hv : 0 ≤ v ∧ v < n) : Met l yX2_spot wsX2_spot ({ frames := 0, cells := 0, slots := 0, locals := 0 } : Room) (Pre0 D cI cJ cB cZ [.ref h, .int (iZ u), .int (iZ v)] (wGr cI h a1 a2 a3 f1 f2 f3 n sz wh)) (roI (fun z => z = ((fst E N u.toNat + fb_ct (E u.toNat) v.toNat : Nat) : Int))) 0 0 (fun _ => False) := by
  refine Met.ofW (cc := cX2_spot) (maxL := 4) (ret := (some .int)) (by decide) rfl ?_
  intro p e s m args below meth c s₁ B hml hv
  obtain ⟨rfl, hP, hE⟩ := hv
  have hx := B.exec
  have hb := B.bytes
  have hr := B.returns
  have hts := atoms_spec (ws := wsX2_spot) B.pre
  have hown : s.vm.findClass RX2 = some m.cls := findClass_of_methodNamed B.named
  have hlocks := B.notSynchronized
  have hK := hE.1
  have hi_2 : ∀ w ∈ wsX20, w ∈ wsX2_spot := by decide +kernel
  have hw_1 := hts (.fieldLink RX2 9 "RankHouse$Graph" "first" "[I") (by decide +kernel)
  have hw_2 := hts (.fieldLink RX2 15 "RankHouse$Graph" "targets" "[I") (by decide +kernel)
  have hl := lv_entry ([.ref h, .int (iZ u), .int (iZ v)]) (n := 4) (Nat.le_of_ble_eq_true rfl)
  rw [lg_entry_eq]
  generalize (lg_sl ([.ref h, .int (iZ u), .int (iZ v)]) ++ List.replicate (4 - (lg_sl ([.ref h, .int (iZ u), .int (iZ v)])).length) Slot.unset).toArray = ls at hl ⊢
  have hl : lv_has ls 4 [(0, .ref h), (1, .int (iZ u)), (2, .int (iZ v))] := hl
  obtain ⟨g1, g2, g3, g4, g5, g6, g7, g8, g9, g10, g11⟩ := id hG
  have q1 := g4 u.toNat (by omega)
  have q2 := g4 (u.toNat + 1) (by omega)
  have q3 := fst_le E (show u.toNat < N by omega)
  rw [fst_succ] at q2
  have q4 := fb_ct_mono (E u.toNat) (show v.toNat ≤ N by omega)
  have q5 : fb_ct (E u.toNat) N = dgr E N u.toNat := rfl
  refine lv_aload_n hx hb dX2_spot_0 rfl (lv_at hl 0 rfl) ?_
  refine va_get (v := .ref a1) (C := RX2) (T := TX2) (N := 6) (ci := 2) hx hb hts hi_2 hown hK hP 0 rfl rfl 0 (by decide) hw_1 (fun _ h9 => h9) rfl dX2_spot_1 ?_
  refine lv_iload_n hx hb dX2_spot_4 rfl (lv_at hl 1 rfl) ?_
  refine z_iald hx hb hK hP 1 0 rfl rfl u.toNat (by omega) (by omega) (by omega) dX2_spot_5 ?_
  refine z_toi (((fst E N u.toNat : Nat) : Int)) q1 ?_
  refine lv_istore_n (lv' := [(3, .int (iZ ((fst E N u.toNat : Nat) : Int))), (0, .ref h), (1, .int (iZ u)), (2, .int (iZ v))]) hx hb dX2_spot_6 rfl hl (by decide) rfl (fun ls hl => ?_)
  refine w_loop0 (fun kf ls => ∃ (i : Nat), kf = fb_ct (E u.toNat) v.toNat - i ∧ (i ≤ fb_ct (E u.toNat) v.toNat) ∧ lv_has ls 4 [(0, .ref h), (1, .int (iZ u)), (2, .int (iZ v)), (3, .int (iZ ((fst E N u.toNat + i : Nat) : Int)))]) ?_ _ ⟨0, rfl, (by omega), lv_sub hl [1, 2, 3, 0] rfl⟩
  rintro kf ls ⟨i, hk, hinv, hl⟩ ih
  refine lv_iload_n hx hb dX2_spot_7 rfl (lv_at hl 3 rfl) ?_
  refine lv_aload_n hx hb dX2_spot_8 rfl (lv_at hl 0 rfl) ?_
  refine va_get (v := .ref a1) (C := RX2) (T := TX2) (N := 6) (ci := 2) hx hb hts hi_2 hown hK hP 0 rfl rfl 0 (by decide) hw_1 (fun _ h9 => h9) rfl dX2_spot_9 ?_
  refine lv_iload_n hx hb dX2_spot_12 rfl (lv_at hl 1 rfl) ?_
  refine z_iconst hx hb dX2_spot_13 ?_
  refine z_iadd hx hb dX2_spot_14 ?_
  refine z_iald hx hb hK hP 1 0 rfl rfl (u.toNat + 1) (by omega) (by omega) (by omega) dX2_spot_15 ?_
  refine z_icmp_ge (tgt := 35) hx hb dX2_spot_16 (by decide) (by omega) (by omega) (fun c_1 => ?_) (fun c_1 => ?_)
  · refine lv_iload_n hx hb dX2_spot_35 rfl (lv_at hl 3 rfl) ?_
    exact ro_iret (z := ((fst E N u.toNat + i : Nat) : Int)) hx hb hr hlocks (by omega) dX2_spot_36
  · obtain ⟨t, r1, r2, r3, r4⟩ := row_at g7 (show u.toNat < N by omega) (show i < dgr E N u.toNat by omega)
    have r5 := row_lt (v := v.toNat) r2
    refine lv_aload_n hx hb dX2_spot_19 rfl (lv_at hl 0 rfl) ?_
    refine va_get (v := .ref a2) (C := RX2) (T := TX2) (N := 6) (ci := 2) hx hb hts hi_2 hown hK hP 0 rfl rfl 1 (by decide) hw_2 (fun _ h9 => h9) rfl dX2_spot_20 ?_
    refine lv_iload_n hx hb dX2_spot_23 rfl (lv_at hl 3 rfl) ?_
    refine z_iald hx hb hK hP 2 0 rfl rfl (fst E N u.toNat + i) (by omega) (by omega) (by omega) dX2_spot_24 ?_
    refine lv_iload_n hx hb dX2_spot_25 rfl (lv_at hl 2 rfl) ?_
    refine z_icmp_ge (tgt := 35) hx hb dX2_spot_26 (by decide) (by omega) (by omega) (fun c_2 => ?_) (fun c_2 => ?_)
    · refine lv_iload_n hx hb dX2_spot_35 rfl (lv_at hl 3 rfl) ?_
      exact ro_iret (z := ((fst E N u.toNat + i : Nat) : Int)) hx hb hr hlocks (by omega) dX2_spot_36
    · refine lv_iinc (v := iZ (((fst E N u.toNat + i : Nat) : Int) + 1)) (lv' := [(3, .int (iZ (((fst E N u.toNat + i : Nat) : Int) + 1))), (0, .ref h), (1, .int (iZ u)), (2, .int (iZ v))]) hx hb dX2_spot_29 hl (k := 3) rfl (show iZ ((fst E N u.toNat + i : Nat) : Int) + iZ 1 = _ from iZ_add _ _) (by decide) rfl (fun ls hl => ?_)
      refine lv_goto (tgt := 7) hx hb dX2_spot_32 (by decide) ?_
      exact ih _ _ (by omega) ⟨(i + 1), rfl, (by omega), lv_sub hl [1, 2, 3, 0] rfl⟩
end
section
set_option maxHeartbeats 4000000 in
set_option maxRecDepth 100000 in
theorem c_X2_outOf (l : Launch) (D : va_G) (cI cJ cB cZ : ClassId) (h a1 a2 a3 : Nat) (f1 f2 f3 : Nat → Int) (n sz wh : Int) (N : Nat) (E : Ed) (w : Nat → Nat) (hG : GR N E w f1 f2 f3 n sz wh) (u : Int) (hu : -2147483648 ≤ u ∧ u < 2147483648) : Met l yX2_outOf wsX2_outOf ({ frames := 1, cells := 0, slots := 0, locals := 21 } : Room) (Pre0 D cI cJ cB cZ [.ref h, .int (iZ u)] (wGr cI h a1 a2 a3 f1 f2 f3 n sz wh)) (roI (fun z => ((0 ≤ u ∧ u < n) → z = (dgr E N u.toNat : Int)) ∧ (¬ (0 ≤ u ∧ u < n) → z = 0))) 0 0 (fun _ => False) := by
  refine Met.ofW (cc := cX2_outOf) (maxL := 2) (ret := (some .int)) (by decide) rfl ?_
  intro p e s m args below meth c s₁ B hml hv
  obtain ⟨rfl, hP, hE⟩ := hv
  have hx := B.exec
  have hb := B.bytes
  have hr := B.returns
  have hts := atoms_spec (ws := wsX2_outOf) B.pre
  have hown : s.vm.findClass RX2 = some m.cls := findClass_of_methodNamed B.named
  have hlocks := B.notSynchronized
  have hK := hE.1
  have hi_2 : ∀ w ∈ wsX20, w ∈ wsX2_outOf := by decide +kernel
  have hw_1 := hts (.fieldLink RX2 9 "RankHouse$Graph" "first" "[I") (by decide +kernel)
  have hl := lv_entry ([.ref h, .int (iZ u)]) (n := 2) (Nat.le_of_ble_eq_true rfl)
  rw [lg_entry_eq]
  generalize (lg_sl ([.ref h, .int (iZ u)]) ++ List.replicate (2 - (lg_sl ([.ref h, .int (iZ u)])).length) Slot.unset).toArray = ls at hl ⊢
  have hl : lv_has ls 2 [(0, .ref h), (1, .int (iZ u))] := hl
  obtain ⟨g1, g2, g3, g4, g5, g6, g7, g8, g9, g10, g11⟩ := id hG
  refine lv_aload_n hx hb dX2_outOf_0 rfl (lv_at hl 0 rfl) ?_
  refine lv_iload_n hx hb dX2_outOf_1 rfl (lv_at hl 1 rfl) ?_
  refine ro_i (va_runV (As := [.int (iZ u)]) (rest := []) ⟨hx, hb, hml, hown, hts⟩ (c_X2_isNode l D cI cJ cB cZ h a1 a2 a3 f1 f2 f3 n sz wh u (by omega) hu) (cwV 1 hts gX2_outOf_X2_isNode rfl rfl rfl (by decide +kernel) ⟨Nat.le_of_ble_eq_true rfl, Nat.le_of_ble_eq_true rfl⟩) (pre0V hE hP 0 rfl rfl) rfl rfl hl.1 rfl (lv_room (Nat.le_of_ble_eq_true rfl)) dX2_outOf_2 ⟨Nat.le_of_ble_eq_true rfl, Nat.le_of_ble_eq_true rfl⟩) (fun r_1 hr_2 => ?_)
  rcases hr_2 with ⟨rfl, hq_3⟩ | ⟨rfl, hq_3⟩
  · refine z_if_eq (tgt := 26) hx hb dX2_outOf_5 (by decide) (by omega) (fun c9 => absurd c9 (by decide)) (fun _ => ?_)
    have q1 := g4 u.toNat (by omega)
    have q2 := g4 (u.toNat + 1) (by omega)
    rw [fst_succ] at q2
    refine lv_aload_n hx hb dX2_outOf_8 rfl (lv_at hl 0 rfl) ?_
    refine va_get (v := .ref a1) (C := RX2) (T := TX2) (N := 6) (ci := 2) hx hb hts hi_2 hown hK hP 0 rfl rfl 0 (by decide) hw_1 (fun _ h9 => h9) rfl dX2_outOf_9 ?_
    refine lv_iload_n hx hb dX2_outOf_12 rfl (lv_at hl 1 rfl) ?_
    refine z_iconst hx hb dX2_outOf_13 ?_
    refine z_iadd hx hb dX2_outOf_14 ?_
    refine z_iald hx hb hK hP 1 0 rfl rfl (u.toNat + 1) (by omega) (by omega) (by omega) dX2_outOf_15 ?_
    refine lv_aload_n hx hb dX2_outOf_16 rfl (lv_at hl 0 rfl) ?_
    refine va_get (v := .ref a1) (C := RX2) (T := TX2) (N := 6) (ci := 2) hx hb hts hi_2 hown hK hP 0 rfl rfl 0 (by decide) hw_1 (fun _ h9 => h9) rfl dX2_outOf_17 ?_
    refine lv_iload_n hx hb dX2_outOf_20 rfl (lv_at hl 1 rfl) ?_
    refine z_iald hx hb hK hP 1 0 rfl rfl u.toNat (by omega) (by omega) (by omega) dX2_outOf_21 ?_
    refine z_isub hx hb dX2_outOf_22 ?_
    refine lv_goto (tgt := 27) hx hb dX2_outOf_23 (by decide) ?_
    exact ro_iret (z := (f1 (u.toNat + 1)) - (f1 u.toNat)) hx hb hr hlocks (by omega) dX2_outOf_27
  · refine z_if_eq (tgt := 26) hx hb dX2_outOf_5 (by decide) (by omega) (fun _ => ?_) (fun c9 => absurd c9 (by decide))
    refine z_iconst hx hb dX2_outOf_26 ?_
    exact ro_iret (z := 0) hx hb hr hlocks (by omega) dX2_outOf_27
set_option maxHeartbeats 4000000 in
set_option maxRecDepth 100000 in
theorem c_X2_joins (l : Launch) (D : va_G) (cI cJ cB cZ : ClassId) (h a1 a2 a3 : Nat) (f1 f2 f3 : Nat → Int) (n sz wh : Int) (N : Nat) (E : Ed) (w : Nat → Nat) (hG : GR N E w f1 f2 f3 n sz wh) (u v : Int) (hu : -2147483648 ≤ u ∧ u < 2147483648) (hv : -2147483648 ≤ v ∧ v < 2147483648) : Met l yX2_joins wsX2_joins ({ frames := 1, cells := 0, slots := 0, locals := 23 } : Room) (Pre0 D cI cJ cB cZ [.ref h, .int (iZ u), .int (iZ v)] (wGr cI h a1 a2 a3 f1 f2 f3 n sz wh)) (roI (fun z => (z = 1 ∧ (0 ≤ u ∧ u < n ∧ 0 ≤ v ∧ v < n ∧ E u.toNat v.toNat = true)) ∨ (z = 0 ∧ ¬ (0 ≤ u ∧ u < n ∧ 0 ≤ v ∧ v < n ∧ E u.toNat v.toNat = true)))) 0 0 (fun _ => False) := by
  refine Met.ofW (cc := cX2_joins) (maxL := 4) (ret := (some .boolean)) (by decide) rfl ?_
  intro p e s m args below meth c s₁ B hml hv
  obtain ⟨rfl, hP, hE⟩ := hv
  have hx := B.exec
  have hb := B.bytes
  have hr := B.returns
  have hts := atoms_spec (ws := wsX2_joins) B.pre
  have hown : s.vm.findClass RX2 = some m.cls := findClass_of_methodNamed B.named
  have hlocks := B.notSynchronized
  have hK := hE.1
  have hi_2 : ∀ w ∈ wsX20, w ∈ wsX2_joins := by decide +kernel
  have hw_1 := hts (.fieldLink RX2 9 "RankHouse$Graph" "first" "[I") (by decide +kernel)
  have hw_2 := hts (.fieldLink RX2 15 "RankHouse$Graph" "targets" "[I") (by decide +kernel)
  have hl := lv_entry ([.ref h, .int (iZ u), .int (iZ v)]) (n := 4) (Nat.le_of_ble_eq_true rfl)
  rw [lg_entry_eq]
  generalize (lg_sl ([.ref h, .int (iZ u), .int (iZ v)]) ++ List.replicate (4 - (lg_sl ([.ref h, .int (iZ u), .int (iZ v)])).length) Slot.unset).toArray = ls at hl ⊢
  have hl : lv_has ls 4 [(0, .ref h), (1, .int (iZ u)), (2, .int (iZ v))] := hl
  obtain ⟨g1, g2, g3, g4, g5, g6, g7, g8, g9, g10, g11⟩ := id hG
  refine lv_aload_n hx hb dX2_joins_0 rfl (lv_at hl 0 rfl) ?_
  refine lv_iload_n hx hb dX2_joins_1 rfl (lv_at hl 1 rfl) ?_
  refine ro_i (va_runV (As := [.int (iZ u)]) (rest := []) ⟨hx, hb, hml, hown, hts⟩ (c_X2_isNode l D cI cJ cB cZ h a1 a2 a3 f1 f2 f3 n sz wh u (by omega) hu) (cwV 1 hts gX2_joins_X2_isNode rfl rfl rfl (by decide +kernel) ⟨Nat.le_of_ble_eq_true rfl, Nat.le_of_ble_eq_true rfl⟩) (pre0V hE hP 0 rfl rfl) rfl rfl hl.1 rfl (lv_room (Nat.le_of_ble_eq_true rfl)) dX2_joins_2 ⟨Nat.le_of_ble_eq_true rfl, Nat.le_of_ble_eq_true rfl⟩) (fun r_1 hr_2 => ?_)
  rcases hr_2 with ⟨rfl, hq_3⟩ | ⟨rfl, hq_3⟩
  · refine z_if_eq (tgt := 16) hx hb dX2_joins_5 (by decide) (by omega) (fun c9 => absurd c9 (by decide)) (fun _ => ?_)
    refine lv_aload_n hx hb dX2_joins_8 rfl (lv_at hl 0 rfl) ?_
    refine lv_iload_n hx hb dX2_joins_9 rfl (lv_at hl 2 rfl) ?_
    refine ro_i (va_runV (As := [.int (iZ v)]) (rest := []) ⟨hx, hb, hml, hown, hts⟩ (c_X2_isNode l D cI cJ cB cZ h a1 a2 a3 f1 f2 f3 n sz wh v (by omega) (by omega)) (cwV 1 hts gX2_joins_X2_isNode rfl rfl rfl (by decide +kernel) ⟨Nat.le_of_ble_eq_true rfl, Nat.le_of_ble_eq_true rfl⟩) (pre0V hE hP 0 rfl rfl) rfl rfl hl.1 rfl (lv_room (Nat.le_of_ble_eq_true rfl)) dX2_joins_10 ⟨Nat.le_of_ble_eq_true rfl, Nat.le_of_ble_eq_true rfl⟩) (fun r_4 hr_5 => ?_)
    rcases hr_5 with ⟨rfl, hq_6⟩ | ⟨rfl, hq_6⟩
    · refine z_if_ne (tgt := 18) hx hb dX2_joins_13 (by decide) (by omega) (fun _ => ?_) (fun c9 => absurd c9 (by decide))
      have q4 := fb_ct_mono (E u.toNat) (show v.toNat ≤ N by omega)
      have q5 : fb_ct (E u.toNat) N = dgr E N u.toNat := rfl
      have q1 := g4 u.toNat (by omega)
      have q2 := g4 (u.toNat + 1) (by omega)
      have q3 := fst_le E (show u.toNat < N by omega)
      rw [fst_succ] at q2
      refine lv_aload_n hx hb dX2_joins_18 rfl (lv_at hl 0 rfl) ?_
      refine lv_iload_n hx hb dX2_joins_19 rfl (lv_at hl 1 rfl) ?_
      refine lv_iload_n hx hb dX2_joins_20 rfl (lv_at hl 2 rfl) ?_
      refine ro_i (va_runV (As := [.int (iZ u), .int (iZ v)]) (rest := []) ⟨hx, hb, hml, hown, hts⟩ (c_X2_spot l D cI cJ cB cZ h a1 a2 a3 f1 f2 f3 n sz wh N E w hG u v (by omega) (by omega)) (cwV 2 hts gX2_joins_X2_spot rfl rfl rfl (by decide +kernel) ⟨Nat.le_of_ble_eq_true rfl, Nat.le_of_ble_eq_true rfl⟩) (pre0V hE hP 0 rfl rfl) rfl rfl hl.1 rfl (lv_room (Nat.le_of_ble_eq_true rfl)) dX2_joins_21 ⟨Nat.le_of_ble_eq_true rfl, Nat.le_of_ble_eq_true rfl⟩) (fun r_7 hr_8 => ?_)
      subst hr_8
      refine lv_istore_n (lv' := [(3, .int (iZ ((fst E N u.toNat + fb_ct (E u.toNat) v.toNat : Nat) : Int))), (0, .ref h), (1, .int (iZ u)), (2, .int (iZ v))]) hx hb dX2_joins_24 rfl hl (by decide) rfl (fun ls hl => ?_)
      refine lv_iload_n hx hb dX2_joins_25 rfl (lv_at hl 0 rfl) ?_
      refine lv_aload_n hx hb dX2_joins_26 rfl (lv_at hl 1 rfl) ?_
      refine va_get (v := .ref a1) (C := RX2) (T := TX2) (N := 6) (ci := 2) hx hb hts hi_2 hown hK hP 0 rfl rfl 0 (by decide) hw_1 (fun _ h9 => h9) rfl dX2_joins_27 ?_
      refine lv_iload_n hx hb dX2_joins_30 rfl (lv_at hl 2 rfl) ?_
      refine z_iconst hx hb dX2_joins_31 ?_
      refine z_iadd hx hb dX2_joins_32 ?_
      refine z_iald hx hb hK hP 1 0 rfl rfl (u.toNat + 1) (by omega) (by omega) (by omega) dX2_joins_33 ?_
      refine z_icmp_ge (tgt := 51) hx hb dX2_joins_34 (by decide) (by omega) (by omega) (fun c_9 => ?_) (fun c_9 => ?_)
      · refine z_iconst hx hb dX2_joins_51 ?_
        exact ro_zret (z := 0) hx hb hr hlocks (Or.inl rfl) (Or.inr ⟨rfl, fun q => by have q9 := row_in (p := E u.toNat) q.2.2.2.2 (show v.toNat < N by omega); have q8 : fb_ct (E u.toNat) N = dgr E N u.toNat := rfl; first | omega | (have q7 := fb_ct_kth_one r2 q.2.2.2.2 r3; omega)⟩) dX2_joins_52
      · obtain ⟨t, r1, r2, r3, r4⟩ := row_at g7 (show u.toNat < N by omega) (show fb_ct (E u.toNat) v.toNat < dgr E N u.toNat by omega)
        refine lv_aload_n hx hb dX2_joins_37 rfl (lv_at hl 1 rfl) ?_
        refine va_get (v := .ref a2) (C := RX2) (T := TX2) (N := 6) (ci := 2) hx hb hts hi_2 hown hK hP 0 rfl rfl 1 (by decide) hw_2 (fun _ h9 => h9) rfl dX2_joins_38 ?_
        refine lv_iload_n hx hb dX2_joins_41 rfl (lv_at hl 0 rfl) ?_
        refine z_iald hx hb hK hP 2 0 rfl rfl (fst E N u.toNat + fb_ct (E u.toNat) v.toNat) (by omega) (by omega) (by omega) dX2_joins_42 ?_
        refine lv_iload_n hx hb dX2_joins_43 rfl (lv_at hl 3 rfl) ?_
        refine z_icmp_ne (tgt := 51) hx hb dX2_joins_44 (by decide) (by omega) (by omega) (fun c_10 => ?_) (fun c_10 => ?_)
        · refine z_iconst hx hb dX2_joins_51 ?_
          exact ro_zret (z := 0) hx hb hr hlocks (Or.inl rfl) (Or.inr ⟨rfl, fun q => by have q9 := row_in (p := E u.toNat) q.2.2.2.2 (show v.toNat < N by omega); have q8 : fb_ct (E u.toNat) N = dgr E N u.toNat := rfl; first | omega | (have q7 := fb_ct_kth_one r2 q.2.2.2.2 r3; omega)⟩) dX2_joins_52
        · refine z_iconst hx hb dX2_joins_47 ?_
          refine lv_goto (tgt := 52) hx hb dX2_joins_48 (by decide) ?_
          exact ro_zret (z := 1) hx hb hr hlocks (Or.inr rfl) (Or.inl ⟨rfl, by omega, by omega, by omega, by omega, (show t = v.toNat by omega) ▸ r2⟩) dX2_joins_52
    · refine z_if_ne (tgt := 18) hx hb dX2_joins_13 (by decide) (by omega) (fun c9 => absurd c9 (by decide)) (fun _ => ?_)
      refine z_iconst hx hb dX2_joins_16 ?_
      exact ro_zret (z := 0) hx hb hr hlocks (Or.inl rfl) (Or.inr ⟨rfl, fun q => by omega⟩) dX2_joins_17
  · refine z_if_eq (tgt := 16) hx hb dX2_joins_5 (by decide) (by omega) (fun _ => ?_) (fun c9 => absurd c9 (by decide))
    refine z_iconst hx hb dX2_joins_16 ?_
    exact ro_zret (z := 0) hx hb hr hlocks (Or.inl rfl) (Or.inr ⟨rfl, fun q => by omega⟩) dX2_joins_17
set_option maxHeartbeats 4000000 in
set_option maxRecDepth 100000 in
theorem c_X2_into (l : Launch) (D : va_G) (cI cJ cB cZ : ClassId) (h a1 a2 a3 : Nat) (f1 f2 f3 : Nat → Int) (n sz wh : Int) (N : Nat) (E : Ed) (w : Nat → Nat) (hG : GR N E w f1 f2 f3 n sz wh) (v : Int) (hv : 0 ≤ v ∧ v < n) : Met l yX2_into wsX2_into ({ frames := 0, cells := 0, slots := 0, locals := 0 } : Room) (Pre0 D cI cJ cB cZ [.ref h, .int (iZ v)] (wGr cI h a1 a2 a3 f1 f2 f3 n sz wh)) (roI (fun z => z = (fb_ct (fun a => E a v.toNat) N : Int))) 0 0 (fun _ => False) := by
  refine Met.ofW (cc := cX2_into) (maxL := 4) (ret := (some .int)) (by decide) rfl ?_
  intro p e s m args below meth c s₁ B hml hv
  obtain ⟨rfl, hP, hE⟩ := hv
  have hx := B.exec
  have hb := B.bytes
  have hr := B.returns
  have hts := atoms_spec (ws := wsX2_into) B.pre
  have hown : s.vm.findClass RX2 = some m.cls := findClass_of_methodNamed B.named
  have hlocks := B.notSynchronized
  have hK := hE.1
  have hi_2 : ∀ w ∈ wsX20, w ∈ wsX2_into := by decide +kernel
  have hw_1 := hts (.fieldLink RX2 25 "RankHouse$Graph" "size" "I") (by decide +kernel)
  have hw_2 := hts (.fieldLink RX2 15 "RankHouse$Graph" "targets" "[I") (by decide +kernel)
  have hl := lv_entry ([.ref h, .int (iZ v)]) (n := 4) (Nat.le_of_ble_eq_true rfl)
  rw [lg_entry_eq]
  generalize (lg_sl ([.ref h, .int (iZ v)]) ++ List.replicate (4 - (lg_sl ([.ref h, .int (iZ v)])).length) Slot.unset).toArray = ls at hl ⊢
  have hl : lv_has ls 4 [(0, .ref h), (1, .int (iZ v))] := hl
  obtain ⟨g1, g2, g3, g4, g5, g6, g7, g8, g9, g10, g11⟩ := id hG
  have q1 := into_all g7 (show v.toNat < N by omega) N (Nat.le_refl N)
  have q2 : ((v.toNat : Nat) : Int) = v := by omega
  rw [q2] at q1
  refine z_iconst hx hb dX2_into_0 ?_
  refine lv_istore_n (lv' := [(2, .int (iZ 0)), (0, .ref h), (1, .int (iZ v))]) hx hb dX2_into_1 rfl hl (by decide) rfl (fun ls hl => ?_)
  refine z_iconst hx hb dX2_into_2 ?_
  refine lv_istore_n (lv' := [(3, .int (iZ 0)), (2, .int (iZ 0)), (0, .ref h), (1, .int (iZ v))]) hx hb dX2_into_3 rfl hl (by decide) rfl (fun ls hl => ?_)
  refine w_loop0 (fun kf ls => ∃ (i : Nat), ∃ (y : Int), kf = fst E N N - i ∧ (i ≤ fst E N N ∧ y = (fb_ct (fun j => decide (f2 j = v)) i : Int)) ∧ lv_has ls 4 [(0, .ref h), (1, .int (iZ v)), (2, .int (iZ y)), (3, .int (iZ ↑i))]) ?_ _ ⟨0, 0, rfl, ⟨by omega, rfl⟩, lv_sub hl [2, 3, 1, 0] rfl⟩
  rintro kf ls ⟨i, y, hk, hinv, hl⟩ ih
  refine lv_iload_n hx hb dX2_into_4 rfl (lv_at hl 3 rfl) ?_
  refine lv_aload_n hx hb dX2_into_5 rfl (lv_at hl 0 rfl) ?_
  refine va_get (v := .int (iZ sz)) (C := RX2) (T := TX2) (N := 6) (ci := 2) hx hb hts hi_2 hown hK hP 0 rfl rfl 4 (by decide) hw_1 (fun _ h9 => h9) rfl dX2_into_6 ?_
  refine z_icmp_ge (tgt := 31) hx hb dX2_into_9 (by decide) (by omega) (by omega) (fun c_1 => ?_) (fun c_1 => ?_)
  · refine lv_iload_n hx hb dX2_into_31 rfl (lv_at hl 2 rfl) ?_
    exact ro_iret (z := y) hx hb hr hlocks (by rw [show i = fst E N N by omega] at hinv; omega) dX2_into_32
  · have q3 : f2 i = v ∨ f2 i ≠ v := Decidable.em _
    have q4 := GR_f2 hG (show i < fst E N N by omega)
    have q44 := fb_ct_le (fun j => decide (f2 j = v)) i
    refine lv_aload_n hx hb dX2_into_12 rfl (lv_at hl 0 rfl) ?_
    refine va_get (v := .ref a2) (C := RX2) (T := TX2) (N := 6) (ci := 2) hx hb hts hi_2 hown hK hP 0 rfl rfl 1 (by decide) hw_2 (fun _ h9 => h9) rfl dX2_into_13 ?_
    refine lv_iload_n hx hb dX2_into_16 rfl (lv_at hl 3 rfl) ?_
    refine z_iald hx hb hK hP 2 0 rfl rfl i (by omega) (by omega) (by omega) dX2_into_17 ?_
    refine lv_iload_n hx hb dX2_into_18 rfl (lv_at hl 1 rfl) ?_
    refine z_icmp_ne (tgt := 25) hx hb dX2_into_19 (by decide) (by omega) (by omega) (fun c_2 => ?_) (fun c_2 => ?_)
    · have q6 : f2 i ≠ v → fb_ct (fun j => decide (f2 j = v)) (i + 1) = fb_ct (fun j => decide (f2 j = v)) i := fun q => ct_no (by simp [q])
      refine lv_iinc (v := iZ (↑i + 1)) (lv' := [(3, .int (iZ (↑i + 1))), (0, .ref h), (1, .int (iZ v)), (2, .int (iZ y))]) hx hb dX2_into_25 hl (k := 3) rfl (show iZ ↑i + iZ 1 = _ from iZ_add _ _) (by decide) rfl (fun ls hl => ?_)
      refine lv_goto (tgt := 4) hx hb dX2_into_28 (by decide) ?_
      exact ih _ _ (by omega) ⟨(i + 1), y, rfl, (by omega), lv_sub hl [1, 2, 3, 0] rfl⟩
    · have q5 := ct_yes (p := fun j => decide (f2 j = v)) (i := i) (decide_eq_true (by omega))
      refine lv_iinc (v := iZ (y + 1)) (lv' := [(2, .int (iZ (y + 1))), (0, .ref h), (1, .int (iZ v)), (3, .int (iZ ↑i))]) hx hb dX2_into_22 hl (k := 2) rfl (show iZ y + iZ 1 = _ from iZ_add _ _) (by decide) rfl (fun ls hl => ?_)
      have q6 : f2 i ≠ v → fb_ct (fun j => decide (f2 j = v)) (i + 1) = fb_ct (fun j => decide (f2 j = v)) i := fun q => ct_no (by simp [q])
      refine lv_iinc (v := iZ (↑i + 1)) (lv' := [(3, .int (iZ (↑i + 1))), (2, .int (iZ (y + 1))), (0, .ref h), (1, .int (iZ v))]) hx hb dX2_into_25 hl (k := 3) rfl (show iZ ↑i + iZ 1 = _ from iZ_add _ _) (by decide) rfl (fun ls hl => ?_)
      refine lv_goto (tgt := 4) hx hb dX2_into_28 (by decide) ?_
      exact ih _ _ (by omega) ⟨(i + 1), (y + 1), rfl, (by omega), lv_sub hl [2, 3, 1, 0] rfl⟩
set_option maxHeartbeats 4000000 in
set_option maxRecDepth 100000 in
theorem c_X2_target (l : Launch) (D : va_G) (cI cJ cB cZ : ClassId) (h a1 a2 a3 : Nat) (f1 f2 f3 : Nat → Int) (n sz wh : Int) (N : Nat) (E : Ed) (w : Nat → Nat) (hG : GR N E w f1 f2 f3 n sz wh) (u k : Int) (hu : -2147483648 ≤ u ∧ u < 2147483648) (hk : -2147483648 ≤ k ∧ k < 2147483648) : Met l yX2_target wsX2_target ({ frames := 2, cells := 0, slots := 0, locals := 42 } : Room) (Pre0 D cI cJ cB cZ [.ref h, .int (iZ u), .int (iZ k)] (wGr cI h a1 a2 a3 f1 f2 f3 n sz wh)) (roI (fun z => TG (pout E N u) N k z)) 0 0 (fun _ => False) := by
  refine Met.ofW (cc := cX2_target) (maxL := 3) (ret := (some .int)) (by decide) rfl ?_
  intro p e s m args below meth c s₁ B hml hv
  obtain ⟨rfl, hP, hE⟩ := hv
  have hx := B.exec
  have hb := B.bytes
  have hr := B.returns
  have hts := atoms_spec (ws := wsX2_target) B.pre
  have hown : s.vm.findClass RX2 = some m.cls := findClass_of_methodNamed B.named
  have hlocks := B.notSynchronized
  have hK := hE.1
  have hi_2 : ∀ w ∈ wsX20, w ∈ wsX2_target := by decide +kernel
  have hw_1 := hts (.fieldLink RX2 15 "RankHouse$Graph" "targets" "[I") (by decide +kernel)
  have hw_2 := hts (.fieldLink RX2 9 "RankHouse$Graph" "first" "[I") (by decide +kernel)
  have hl := lv_entry ([.ref h, .int (iZ u), .int (iZ k)]) (n := 3) (Nat.le_of_ble_eq_true rfl)
  rw [lg_entry_eq]
  generalize (lg_sl ([.ref h, .int (iZ u), .int (iZ k)]) ++ List.replicate (3 - (lg_sl ([.ref h, .int (iZ u), .int (iZ k)])).length) Slot.unset).toArray = ls at hl ⊢
  have hl : lv_has ls 3 [(0, .ref h), (1, .int (iZ u)), (2, .int (iZ k))] := hl
  obtain ⟨g1, g2, g3, g4, g5, g6, g7, g8, g9, g10, g11⟩ := id hG
  refine lv_iload_n hx hb dX2_target_0 rfl (lv_at hl 2 rfl) ?_
  refine z_if_lt (tgt := 29) hx hb dX2_target_1 (by decide) (by omega) (fun c_1 => ?_) (fun c_1 => ?_)
  · refine z_iconst hx hb dX2_target_29 ?_
    exact ro_iret (z := (-1)) hx hb hr hlocks (Or.inr ⟨rfl, fun q => by by_cases q5 : 0 ≤ u ∧ u < (N : Int); (rw [pout_in q5] at q; have q6 : fb_ct (E u.toNat) N = dgr E N u.toNat := rfl; omega); (rw [ct_false N (pout_out q5)] at q; omega)⟩) dX2_target_30
  · refine lv_iload_n hx hb dX2_target_4 rfl (lv_at hl 2 rfl) ?_
    refine lv_aload_n hx hb dX2_target_5 rfl (lv_at hl 0 rfl) ?_
    refine lv_iload_n hx hb dX2_target_6 rfl (lv_at hl 1 rfl) ?_
    refine ro_i (va_runV (As := [.int (iZ u)]) (rest := [.int (iZ k)]) ⟨hx, hb, hml, hown, hts⟩ (c_X2_outOf l D cI cJ cB cZ h a1 a2 a3 f1 f2 f3 n sz wh N E w hG u hu) (cwV 1 hts gX2_target_X2_outOf rfl rfl rfl (by decide +kernel) ⟨Nat.le_of_ble_eq_true rfl, Nat.le_of_ble_eq_true rfl⟩) (pre0V hE hP 0 rfl rfl) rfl rfl hl.1 rfl (lv_room (Nat.le_of_ble_eq_true rfl)) dX2_target_7 ⟨Nat.le_of_ble_eq_true rfl, Nat.le_of_ble_eq_true rfl⟩) (fun r_2 hr_3 => ?_)
    have q9 := dgr_le E N u.toNat
    refine z_icmp_ge (tgt := 29) hx hb dX2_target_10 (by decide) (by omega) (by omega) (fun c_4 => ?_) (fun c_4 => ?_)
    · refine z_iconst hx hb dX2_target_29 ?_
      exact ro_iret (z := (-1)) hx hb hr hlocks (Or.inr ⟨rfl, fun q => by by_cases q5 : 0 ≤ u ∧ u < (N : Int); (rw [pout_in q5] at q; have q6 : fb_ct (E u.toNat) N = dgr E N u.toNat := rfl; omega); (rw [ct_false N (pout_out q5)] at q; omega)⟩) dX2_target_30
    · have q0 : 0 ≤ u ∧ u < n := by omega
      have q1 := g4 u.toNat (by omega)
      have q3 := fst_le E (show u.toNat < N by omega)
      obtain ⟨t, r1, r2, r3, r4⟩ := row_at g7 (show u.toNat < N by omega) (show k.toNat < dgr E N u.toNat by omega)
      refine lv_aload_n hx hb dX2_target_13 rfl (lv_at hl 0 rfl) ?_
      refine va_get (v := .ref a2) (C := RX2) (T := TX2) (N := 6) (ci := 2) hx hb hts hi_2 hown hK hP 0 rfl rfl 1 (by decide) hw_1 (fun _ h9 => h9) rfl dX2_target_14 ?_
      refine lv_aload_n hx hb dX2_target_17 rfl (lv_at hl 0 rfl) ?_
      refine va_get (v := .ref a1) (C := RX2) (T := TX2) (N := 6) (ci := 2) hx hb hts hi_2 hown hK hP 0 rfl rfl 0 (by decide) hw_2 (fun _ h9 => h9) rfl dX2_target_18 ?_
      refine lv_iload_n hx hb dX2_target_21 rfl (lv_at hl 1 rfl) ?_
      refine z_iald hx hb hK hP 1 0 rfl rfl u.toNat (by omega) (by omega) (by omega) dX2_target_22 ?_
      refine lv_iload_n hx hb dX2_target_23 rfl (lv_at hl 2 rfl) ?_
      refine z_iadd hx hb dX2_target_24 ?_
      refine z_iald hx hb hK hP 2 0 rfl rfl (fst E N u.toNat + k.toNat) (by omega) (by omega) (by omega) dX2_target_25 ?_
      refine lv_goto (tgt := 30) hx hb dX2_target_26 (by decide) ?_
      exact ro_iret (z := f2 (fst E N u.toNat + k.toNat)) hx hb hr hlocks (Or.inl ⟨t, r1, by rw [pout_in (by omega)]; exact r2, by rw [pout_in (by omega)]; omega, r4⟩) dX2_target_30
set_option maxHeartbeats 4000000 in
set_option maxRecDepth 100000 in
theorem c_X2_source (l : Launch) (D : va_G) (cI cJ cB cZ : ClassId) (h a1 a2 a3 : Nat) (f1 f2 f3 : Nat → Int) (n sz wh : Int) (N : Nat) (E : Ed) (w : Nat → Nat) (hG : GR N E w f1 f2 f3 n sz wh) (v k : Int) (hv : -2147483648 ≤ v ∧ v < 2147483648) (hk0 : -2147483648 ≤ k ∧ k < 2147483648) : Met l yX2_source wsX2_source ({ frames := 2, cells := 0, slots := 0, locals := 46 } : Room) (Pre0 D cI cJ cB cZ [.ref h, .int (iZ v), .int (iZ k)] (wGr cI h a1 a2 a3 f1 f2 f3 n sz wh)) (roI (fun z => TG (pin E N v) N k z)) 0 0 (fun _ => False) := by
  refine Met.ofW (cc := cX2_source) (maxL := 5) (ret := (some .int)) (by decide) rfl ?_
  intro p e s m args below meth c s₁ B hml hv
  obtain ⟨rfl, hP, hE⟩ := hv
  have hx := B.exec
  have hb := B.bytes
  have hr := B.returns
  have hts := atoms_spec (ws := wsX2_source) B.pre
  have hown : s.vm.findClass RX2 = some m.cls := findClass_of_methodNamed B.named
  have hlocks := B.notSynchronized
  have hK := hE.1
  have hi_2 : ∀ w ∈ wsX20, w ∈ wsX2_source := by decide +kernel
  have hw_1 := hts (.fieldLink RX2 21 "RankHouse$Graph" "nodes" "I") (by decide +kernel)
  have hl := lv_entry ([.ref h, .int (iZ v), .int (iZ k)]) (n := 5) (Nat.le_of_ble_eq_true rfl)
  rw [lg_entry_eq]
  generalize (lg_sl ([.ref h, .int (iZ v), .int (iZ k)]) ++ List.replicate (5 - (lg_sl ([.ref h, .int (iZ v), .int (iZ k)])).length) Slot.unset).toArray = ls at hl ⊢
  have hl : lv_has ls 5 [(0, .ref h), (1, .int (iZ v)), (2, .int (iZ k))] := hl
  obtain ⟨g1, g2, g3, g4, g5, g6, g7, g8, g9, g10, g11⟩ := id hG
  refine z_iconst hx hb dX2_source_0 ?_
  refine lv_istore_n (lv' := [(3, .int (iZ 0)), (0, .ref h), (1, .int (iZ v)), (2, .int (iZ k))]) hx hb dX2_source_1 rfl hl (by decide) rfl (fun ls hl => ?_)
  refine z_iconst hx hb dX2_source_2 ?_
  refine lv_istore (lv' := [(4, .int (iZ 0)), (3, .int (iZ 0)), (0, .ref h), (1, .int (iZ v)), (2, .int (iZ k))]) hx hb dX2_source_3 hl (by decide) rfl (fun ls hl => ?_)
  refine w_loop0 (fun kf ls => ∃ (i : Nat), ∃ (y : Int), kf = N - i ∧ (i ≤ N ∧ y = (fb_ct (pin E N v) i : Int) ∧ ¬ (0 ≤ k ∧ k < (fb_ct (pin E N v) i : Int))) ∧ lv_has ls 5 [(0, .ref h), (1, .int (iZ v)), (2, .int (iZ k)), (3, .int (iZ y)), (4, .int (iZ ↑i))]) ?_ _ ⟨0, 0, rfl, ⟨by omega, rfl, (show ¬ (0 ≤ k ∧ k < 0) by omega)⟩, lv_sub hl [2, 3, 4, 1, 0] rfl⟩
  rintro kf ls ⟨i, y, hk, ⟨i1, i2, i3⟩, hl⟩ ih
  refine lv_iload hx hb dX2_source_5 (lv_at hl 4 rfl) ?_
  refine lv_aload_n hx hb dX2_source_7 rfl (lv_at hl 0 rfl) ?_
  refine va_get (v := .int (iZ n)) (C := RX2) (T := TX2) (N := 6) (ci := 2) hx hb hts hi_2 hown hK hP 0 rfl rfl 3 (by decide) hw_1 (fun _ h9 => h9) rfl dX2_source_8 ?_
  refine z_icmp_ge (tgt := 41) hx hb dX2_source_11 (by decide) (by omega) (by omega) (fun c_1 => ?_) (fun c_1 => ?_)
  · refine z_iconst hx hb dX2_source_41 ?_
    exact ro_iret (z := (-1)) hx hb hr hlocks (Or.inr ⟨rfl, by rw [show i = N by omega] at i3; exact i3⟩) dX2_source_42
  · refine lv_aload_n hx hb dX2_source_14 rfl (lv_at hl 0 rfl) ?_
    refine lv_iload hx hb dX2_source_15 (lv_at hl 4 rfl) ?_
    refine lv_iload_n hx hb dX2_source_17 rfl (lv_at hl 1 rfl) ?_
    refine ro_i (va_runV (As := [.int (iZ ↑i), .int (iZ v)]) (rest := []) ⟨hx, hb, hml, hown, hts⟩ (c_X2_joins l D cI cJ cB cZ h a1 a2 a3 f1 f2 f3 n sz wh N E w hG (↑i) v (by omega) hv) (cwV 2 hts gX2_source_X2_joins rfl rfl rfl (by decide +kernel) ⟨Nat.le_of_ble_eq_true rfl, Nat.le_of_ble_eq_true rfl⟩) (pre0V hE hP 0 rfl rfl) rfl rfl hl.1 rfl (lv_room (Nat.le_of_ble_eq_true rfl)) dX2_source_18 ⟨Nat.le_of_ble_eq_true rfl, Nat.le_of_ble_eq_true rfl⟩) (fun r_2 hr_3 => ?_)
    rw [pin_iff g3 (show i < N by omega)] at hr_3
    have q8 := fb_ct_le (pin E N v) i
    rcases hr_3 with ⟨rfl, hq_4⟩ | ⟨rfl, hq_4⟩
    · have q9 := ct_yes hq_4
      refine z_if_eq (tgt := 35) hx hb dX2_source_21 (by decide) (by omega) (fun c9 => absurd c9 (by decide)) (fun _ => ?_)
      refine lv_iload_n hx hb dX2_source_24 rfl (lv_at hl 3 rfl) ?_
      refine lv_iload_n hx hb dX2_source_25 rfl (lv_at hl 2 rfl) ?_
      refine z_icmp_ne (tgt := 32) hx hb dX2_source_26 (by decide) (by omega) (by omega) (fun c_5 => ?_) (fun c_5 => ?_)
      · refine lv_iinc (v := iZ (y + 1)) (lv' := [(3, .int (iZ (y + 1))), (0, .ref h), (1, .int (iZ v)), (2, .int (iZ k)), (4, .int (iZ ↑i))]) hx hb dX2_source_32 hl (k := 3) rfl (show iZ y + iZ 1 = _ from iZ_add _ _) (by decide) rfl (fun ls hl => ?_)
        refine lv_iinc (v := iZ (↑i + 1)) (lv' := [(4, .int (iZ (↑i + 1))), (3, .int (iZ (y + 1))), (0, .ref h), (1, .int (iZ v)), (2, .int (iZ k))]) hx hb dX2_source_35 hl (k := 4) rfl (show iZ ↑i + iZ 1 = _ from iZ_add _ _) (by decide) rfl (fun ls hl => ?_)
        refine lv_goto (tgt := 5) hx hb dX2_source_38 (by decide) ?_
        exact ih _ _ (by omega) ⟨(i + 1), (y + 1), rfl, (by omega), lv_sub hl [2, 3, 4, 1, 0] rfl⟩
      · refine lv_iload hx hb dX2_source_29 (lv_at hl 4 rfl) ?_
        exact ro_iret (z := ↑i) hx hb hr hlocks (Or.inl ⟨i, by omega, by assumption, by omega, rfl⟩) dX2_source_31
    · have q9 := ct_no hq_4
      refine z_if_eq (tgt := 35) hx hb dX2_source_21 (by decide) (by omega) (fun _ => ?_) (fun c9 => absurd c9 (by decide))
      refine lv_iinc (v := iZ (↑i + 1)) (lv' := [(4, .int (iZ (↑i + 1))), (0, .ref h), (1, .int (iZ v)), (2, .int (iZ k)), (3, .int (iZ y))]) hx hb dX2_source_35 hl (k := 4) rfl (show iZ ↑i + iZ 1 = _ from iZ_add _ _) (by decide) rfl (fun ls hl => ?_)
      refine lv_goto (tgt := 5) hx hb dX2_source_38 (by decide) ?_
      exact ih _ _ (by omega) ⟨(i + 1), y, rfl, (by omega), lv_sub hl [1, 2, 3, 4, 0] rfl⟩
set_option maxHeartbeats 4000000 in
set_option maxRecDepth 100000 in
theorem c_X2_bareNodes (l : Launch) (D : va_G) (cI cJ cB cZ : ClassId) (h a1 a2 a3 : Nat) (f1 f2 f3 : Nat → Int) (n sz wh : Int) (N : Nat) (E : Ed) (w : Nat → Nat) (hG : GR N E w f1 f2 f3 n sz wh)  : Met l yX2_bareNodes wsX2_bareNodes ({ frames := 2, cells := 0, slots := 0, locals := 42 } : Room) (Pre0 D cI cJ cB cZ [.ref h] (wGr cI h a1 a2 a3 f1 f2 f3 n sz wh)) (roI (fun z => z = (fb_ct (fun a => decide (dgr E N a = 0)) N : Int))) 0 0 (fun _ => False) := by
  refine Met.ofW (cc := cX2_bareNodes) (maxL := 3) (ret := (some .int)) (by decide) rfl ?_
  intro p e s m args below meth c s₁ B hml hv
  obtain ⟨rfl, hP, hE⟩ := hv
  have hx := B.exec
  have hb := B.bytes
  have hr := B.returns
  have hts := atoms_spec (ws := wsX2_bareNodes) B.pre
  have hown : s.vm.findClass RX2 = some m.cls := findClass_of_methodNamed B.named
  have hlocks := B.notSynchronized
  have hK := hE.1
  have hi_2 : ∀ w ∈ wsX20, w ∈ wsX2_bareNodes := by decide +kernel
  have hw_1 := hts (.fieldLink RX2 21 "RankHouse$Graph" "nodes" "I") (by decide +kernel)
  have hl := lv_entry ([.ref h]) (n := 3) (Nat.le_of_ble_eq_true rfl)
  rw [lg_entry_eq]
  generalize (lg_sl ([.ref h]) ++ List.replicate (3 - (lg_sl ([.ref h])).length) Slot.unset).toArray = ls at hl ⊢
  have hl : lv_has ls 3 [(0, .ref h)] := hl
  obtain ⟨g1, g2, g3, g4, g5, g6, g7, g8, g9, g10, g11⟩ := id hG
  refine z_iconst hx hb dX2_bareNodes_0 ?_
  refine lv_istore_n (lv' := [(1, .int (iZ 0)), (0, .ref h)]) hx hb dX2_bareNodes_1 rfl hl (by decide) rfl (fun ls hl => ?_)
  refine z_iconst hx hb dX2_bareNodes_2 ?_
  refine lv_istore_n (lv' := [(2, .int (iZ 0)), (1, .int (iZ 0)), (0, .ref h)]) hx hb dX2_bareNodes_3 rfl hl (by decide) rfl (fun ls hl => ?_)
  refine w_loop0 (fun kf ls => ∃ (i : Nat), ∃ (y : Int), kf = N - i ∧ (i ≤ N ∧ y = (fb_ct (fun a => decide (dgr E N a = 0)) i : Int)) ∧ lv_has ls 3 [(0, .ref h), (1, .int (iZ y)), (2, .int (iZ ↑i))]) ?_ _ ⟨0, 0, rfl, ⟨by omega, rfl⟩, lv_sub hl [2, 1, 0] rfl⟩
  rintro kf ls ⟨i, y, hk, hinv, hl⟩ ih
  refine lv_iload_n hx hb dX2_bareNodes_4 rfl (lv_at hl 2 rfl) ?_
  refine lv_aload_n hx hb dX2_bareNodes_5 rfl (lv_at hl 0 rfl) ?_
  refine va_get (v := .int (iZ n)) (C := RX2) (T := TX2) (N := 6) (ci := 2) hx hb hts hi_2 hown hK hP 0 rfl rfl 3 (by decide) hw_1 (fun _ h9 => h9) rfl dX2_bareNodes_6 ?_
  refine z_icmp_ge (tgt := 29) hx hb dX2_bareNodes_9 (by decide) (by omega) (by omega) (fun c_1 => ?_) (fun c_1 => ?_)
  · refine lv_iload_n hx hb dX2_bareNodes_29 rfl (lv_at hl 1 rfl) ?_
    exact ro_iret (z := y) hx hb hr hlocks (by rw [show i = N by omega] at hinv; omega) dX2_bareNodes_30
  · refine lv_aload_n hx hb dX2_bareNodes_12 rfl (lv_at hl 0 rfl) ?_
    refine lv_iload_n hx hb dX2_bareNodes_13 rfl (lv_at hl 2 rfl) ?_
    refine ro_i (va_runV (As := [.int (iZ ↑i)]) (rest := []) ⟨hx, hb, hml, hown, hts⟩ (c_X2_outOf l D cI cJ cB cZ h a1 a2 a3 f1 f2 f3 n sz wh N E w hG (↑i) (by omega)) (cwV 1 hts gX2_bareNodes_X2_outOf rfl rfl rfl (by decide +kernel) ⟨Nat.le_of_ble_eq_true rfl, Nat.le_of_ble_eq_true rfl⟩) (pre0V hE hP 0 rfl rfl) rfl rfl hl.1 rfl (lv_room (Nat.le_of_ble_eq_true rfl)) dX2_bareNodes_14 ⟨Nat.le_of_ble_eq_true rfl, Nat.le_of_ble_eq_true rfl⟩) (fun r_2 hr_3 => ?_)
    have q4 := hr_3.1 (by omega)
    rw [Int.toNat_natCast] at q4
    have q7 := dgr_le E N i
    have q8 := fb_ct_le (fun a => decide (dgr E N a = 0)) i
    refine z_if_ne (tgt := 23) hx hb dX2_bareNodes_17 (by decide) (by omega) (fun c_4 => ?_) (fun c_4 => ?_)
    · have q6 : dgr E N i ≠ 0 → fb_ct (fun a => decide (dgr E N a = 0)) (i + 1) = fb_ct (fun a => decide (dgr E N a = 0)) i := fun q => ct_no (by simp [q])
      refine lv_iinc (v := iZ (↑i + 1)) (lv' := [(2, .int (iZ (↑i + 1))), (0, .ref h), (1, .int (iZ y))]) hx hb dX2_bareNodes_23 hl (k := 2) rfl (show iZ ↑i + iZ 1 = _ from iZ_add _ _) (by decide) rfl (fun ls hl => ?_)
      refine lv_goto (tgt := 4) hx hb dX2_bareNodes_26 (by decide) ?_
      exact ih _ _ (by omega) ⟨(i + 1), y, rfl, (by omega), lv_sub hl [1, 2, 0] rfl⟩
    · have q5 := ct_yes (p := fun a => decide (dgr E N a = 0)) (i := i) (decide_eq_true (by omega))
      refine lv_iinc (v := iZ (y + 1)) (lv' := [(1, .int (iZ (y + 1))), (0, .ref h), (2, .int (iZ ↑i))]) hx hb dX2_bareNodes_20 hl (k := 1) rfl (show iZ y + iZ 1 = _ from iZ_add _ _) (by decide) rfl (fun ls hl => ?_)
      have q6 : dgr E N i ≠ 0 → fb_ct (fun a => decide (dgr E N a = 0)) (i + 1) = fb_ct (fun a => decide (dgr E N a = 0)) i := fun q => ct_no (by simp [q])
      refine lv_iinc (v := iZ (↑i + 1)) (lv' := [(2, .int (iZ (↑i + 1))), (1, .int (iZ (y + 1))), (0, .ref h)]) hx hb dX2_bareNodes_23 hl (k := 2) rfl (show iZ ↑i + iZ 1 = _ from iZ_add _ _) (by decide) rfl (fun ls hl => ?_)
      refine lv_goto (tgt := 4) hx hb dX2_bareNodes_26 (by decide) ?_
      exact ih _ _ (by omega) ⟨(i + 1), (y + 1), rfl, (by omega), lv_sub hl [2, 1, 0] rfl⟩
end
section
set_option maxHeartbeats 4000000 in
set_option maxRecDepth 100000 in
theorem c_X2_grow (l : Launch) (D : va_G) (cI cJ cB cZ : ClassId) (h a1 a2 a3 : Nat) (f1 f2 f3 : Nat → Int) (n sz wh : Int) (u mo : Int) (hu : 0 ≤ u ∧ u < n) (hn : n ≤ 250) (hm : -1 ≤ mo ∧ mo ≤ 1)  (sz0 : Nat) : Met l yX2_grow wsX2_grow ({ frames := 0, cells := 0, slots := 0, locals := 0 } : Room) (Pre1 D cI cJ cB cZ [.ref h, .int (iZ u), .int (iZ mo)] (wGr cI h a1 a2 a3 f1 f2 f3 n sz wh) sz0) (rwV (S := (Nat → Int) × Int) D (fun U => (∀ j, U.1 j = if u.toNat < j ∧ j < n.toNat + 1 then f1 j + mo else f1 j) ∧ U.2 = sz + mo) (fun u => wGr cI h a1 a2 a3 u.1 f2 f3 n u.2 wh) (va_A (wGr cI h a1 a2 a3 f1 f2 f3 n sz wh) sz0)) 0 0 (va_A (wGr cI h a1 a2 a3 f1 f2 f3 n sz wh) sz0) := by
  refine Met.ofW (cc := cX2_grow) (maxL := 4) (ret := none) (by decide) rfl ?_
  intro p e s m args below meth c s₁ B hml hv
  obtain ⟨rfl, hsz, hP, hE, hD0⟩ := hv
  have hx := B.exec
  have hb := B.bytes
  have hr := B.returns
  have hts := atoms_spec (ws := wsX2_grow) B.pre
  have hown : s.vm.findClass RX2 = some m.cls := findClass_of_methodNamed B.named
  have hlocks := B.notSynchronized
  have hK := hE.1
  subst hsz
  have hD := hD0.self (sz := s.heap.size)
  generalize hAe : va_A (wGr cI h a1 a2 a3 f1 f2 f3 n sz wh) s.heap.size = A at hD ⊢
  have hA : ∀ q : Nat, s.heap.size ≤ q → A q := fun q h => by rw [← hAe]; exact Or.inr h
  have hS : va_S A s.heap s.heap [] := va_S.rf
  have hP : va_P D vwCl (wGr cI h a1 a2 a3 f1 f2 f3 n sz wh) s.heap := hP
  have hi_2 : ∀ w ∈ wsX20, w ∈ wsX2_grow := by decide +kernel
  have hw_1 := hts (.fieldLink RX2 25 "RankHouse$Graph" "size" "I") (by decide +kernel)
  have hw_2 := hts (.fieldLink RX2 21 "RankHouse$Graph" "nodes" "I") (by decide +kernel)
  have hw_3 := hts (.fieldLink RX2 9 "RankHouse$Graph" "first" "[I") (by decide +kernel)
  have hl := lv_entry ([.ref h, .int (iZ u), .int (iZ mo)]) (n := 4) (Nat.le_of_ble_eq_true rfl)
  rw [lg_entry_eq]
  generalize (lg_sl ([.ref h, .int (iZ u), .int (iZ mo)]) ++ List.replicate (4 - (lg_sl ([.ref h, .int (iZ u), .int (iZ mo)])).length) Slot.unset).toArray = ls at hl ⊢
  have hl : lv_has ls 4 [(0, .ref h), (1, .int (iZ u)), (2, .int (iZ mo))] := hl
  refine lv_aload_n hx hb dX2_grow_0 rfl (lv_at hl 0 rfl) ?_
  refine lv_dup hx hb dX2_grow_1 rfl ?_
  refine va_get (v := .int (iZ sz)) (C := RX2) (T := TX2) (N := 6) (ci := 2) hx hb hts hi_2 hown hK hP 0 rfl rfl 4 (by decide) hw_1 (fun _ h9 => h9) rfl dX2_grow_2 ?_
  refine lv_iload_n hx hb dX2_grow_5 rfl (lv_at hl 2 rfl) ?_
  refine z_iadd hx hb dX2_grow_6 ?_
  refine va_put (v := .int (iZ (sz + mo))) (ty := .int) (C := RX2) (T := TX2) (N := 6) (ci := 2) hx hb hts hi_2 tyX2 tyX2_ok nmX2 hown hK hP hD hS 0 rfl rfl 4 (by decide) hw_1 (fun _ h9 => h9) rfl (by decide +kernel) rfl rfl (Nat.le_of_ble_eq_true rfl) dX2_grow_7 (fun H locs hP hD hS => ?_)
  have hP : va_P D vwCl (wGr cI h a1 a2 a3 f1 f2 f3 n (sz + mo) wh) H := hP
  have hD : va_D A (wGr cI h a1 a2 a3 f1 f2 f3 n (sz + mo) wh) := hD
  refine lv_iload_n hx hb dX2_grow_10 rfl (lv_at hl 1 rfl) ?_
  refine z_iconst hx hb dX2_grow_11 ?_
  refine z_iadd hx hb dX2_grow_12 ?_
  refine z_toi (((u.toNat + 1 : Nat) : Int)) (by omega) ?_
  refine lv_istore_n (lv' := [(3, .int (iZ ((u.toNat + 1 : Nat) : Int))), (0, .ref h), (1, .int (iZ u)), (2, .int (iZ mo))]) hx hb dX2_grow_13 rfl hl (by decide) rfl (fun ls hl => ?_)
  refine w_loop (fun kf H locs ls => ∃ (i : Nat), ∃ (g : Nat → Int), kf = n.toNat + 1 - i ∧ (u.toNat < i ∧ i ≤ n.toNat + 1 ∧ ∀ j, g j = if u.toNat < j ∧ j < i then f1 j + mo else f1 j) ∧ va_P D vwCl (wGr cI h a1 a2 a3 g f2 f3 n (sz + mo) wh) H ∧ va_D A (wGr cI h a1 a2 a3 g f2 f3 n (sz + mo) wh) ∧ va_S A s.heap H locs ∧ lv_has ls 4 [(0, .ref h), (1, .int (iZ u)), (2, .int (iZ mo)), (3, .int (iZ ↑i))]) ?_ _ ⟨(u.toNat + 1), f1, rfl, ⟨by omega, by omega, fun j => by rw [if_neg (by omega)]⟩, hP, hD, hS, lv_sub hl [1, 2, 3, 0] rfl⟩
  rintro kf H locs ls ⟨i, g, hk, ⟨i1, i2, i3⟩, hP, hD, hS, hl⟩ ih
  refine lv_iload_n hx hb dX2_grow_14 rfl (lv_at hl 3 rfl) ?_
  refine lv_aload_n hx hb dX2_grow_15 rfl (lv_at hl 0 rfl) ?_
  refine va_get (v := .int (iZ n)) (C := RX2) (T := TX2) (N := 6) (ci := 2) hx hb hts hi_2 hown hK hP 0 rfl rfl 3 (by decide) hw_2 (fun _ h9 => h9) rfl dX2_grow_16 ?_
  refine z_icmp_gt (tgt := 38) hx hb dX2_grow_19 (by decide) (by omega) (by omega) (fun c_1 => ?_) (fun c_1 => ?_)
  · exact rw_vret (g, sz + mo) hx hb hr hlocks hP hD hS ⟨by rw [show n.toNat + 1 = i by omega]; exact i3, rfl⟩ dX2_grow_38
  · refine lv_aload_n hx hb dX2_grow_22 rfl (lv_at hl 0 rfl) ?_
    refine va_get (v := .ref a1) (C := RX2) (T := TX2) (N := 6) (ci := 2) hx hb hts hi_2 hown hK hP 0 rfl rfl 0 (by decide) hw_3 (fun _ h9 => h9) rfl dX2_grow_23 ?_
    refine lv_iload_n hx hb dX2_grow_26 rfl (lv_at hl 3 rfl) ?_
    refine lv_dup2_11 hx hb dX2_grow_27 rfl rfl ?_
    refine z_iald hx hb hK hP 1 0 rfl rfl i (by omega) (by omega) (by omega) dX2_grow_28 ?_
    refine lv_iload_n hx hb dX2_grow_29 rfl (lv_at hl 2 rfl) ?_
    refine z_iadd hx hb dX2_grow_30 ?_
    refine z_iast hx hb hK hP hD hS 1 0 rfl rfl i (by omega) (by omega) (by omega) dX2_grow_31 (fun H locs hP hD hS => ?_)
    have hP : va_P D vwCl (wGr cI h a1 a2 a3 (uZ g i ((g i) + mo)) f2 f3 n (sz + mo) wh) H := hP
    have hD : va_D A (wGr cI h a1 a2 a3 (uZ g i ((g i) + mo)) f2 f3 n (sz + mo) wh) := hD
    refine lv_iinc (v := iZ (↑i + 1)) (lv' := [(3, .int (iZ (↑i + 1))), (0, .ref h), (1, .int (iZ u)), (2, .int (iZ mo))]) hx hb dX2_grow_32 hl (k := 3) rfl (show iZ ↑i + iZ 1 = _ from iZ_add _ _) (by decide) rfl (fun ls hl => ?_)
    refine lv_goto (tgt := 14) hx hb dX2_grow_35 (by decide) ?_
    exact ih _ _ _ _ (by omega) ⟨(i + 1), (uZ g i ((g i) + mo)), rfl, ⟨by omega, by omega, grow_step i1 i3⟩, hP, hD, hS, lv_sub hl [1, 2, 3, 0] rfl⟩
set_option maxHeartbeats 4000000 in
set_option maxRecDepth 100000 in
theorem c_X2_join (l : Launch) (D : va_G) (cI cJ cB cZ : ClassId) (h a1 a2 a3 : Nat) (f1 f2 f3 : Nat → Int) (n sz wh : Int) (N : Nat) (E : Ed) (w : Nat → Nat) (hG : GR N E w f1 f2 f3 n sz wh) (u v : Int) (hu : -2147483648 ≤ u ∧ u < 2147483648) (hv : -2147483648 ≤ v ∧ v < 2147483648) (sz0 : Nat) : Met l yX2_join wsX2_join ({ frames := 2, cells := 0, slots := 0, locals := 46 } : Room) (Pre1 D cI cJ cB cZ [.ref h, .int (iZ u), .int (iZ v)] (wGr cI h a1 a2 a3 f1 f2 f3 n sz wh) sz0) (rwI (S := GT) D (fun z U => (z = 1 ∧ (0 ≤ u ∧ u < n ∧ 0 ≤ v ∧ v < n ∧ sz < 2500 ∧ E u.toNat v.toNat = false) ∧ GRu N (uE E u.toNat v.toNat true) w U) ∨ (z = 0 ∧ ¬ (0 ≤ u ∧ u < n ∧ 0 ≤ v ∧ v < n ∧ sz < 2500 ∧ E u.toNat v.toNat = false) ∧ U = (f1, f2, f3, n, sz, wh))) (fun u => wG cI h a1 a2 a3 u) (va_A (wGr cI h a1 a2 a3 f1 f2 f3 n sz wh) sz0)) 0 0 (va_A (wGr cI h a1 a2 a3 f1 f2 f3 n sz wh) sz0) := by
  refine Met.ofW (cc := cX2_join) (maxL := 4) (ret := (some .boolean)) (by decide) rfl ?_
  intro p e s m args below meth c s₁ B hml hv
  obtain ⟨rfl, hsz, hP, hE, hD0⟩ := hv
  have hx := B.exec
  have hb := B.bytes
  have hr := B.returns
  have hts := atoms_spec (ws := wsX2_join) B.pre
  have hown : s.vm.findClass RX2 = some m.cls := findClass_of_methodNamed B.named
  have hlocks := B.notSynchronized
  have hK := hE.1
  subst hsz
  have hD := hD0.self (sz := s.heap.size)
  generalize hAe : va_A (wGr cI h a1 a2 a3 f1 f2 f3 n sz wh) s.heap.size = A at hD ⊢
  have hA : ∀ q : Nat, s.heap.size ≤ q → A q := fun q h => by rw [← hAe]; exact Or.inr h
  have hS : va_S A s.heap s.heap [] := va_S.rf
  have hP : va_P D vwCl (wGr cI h a1 a2 a3 f1 f2 f3 n sz wh) s.heap := hP
  have hi_2 : ∀ w ∈ wsX20, w ∈ wsX2_join := by decide +kernel
  have hw_1 := hts (.fieldLink RX2 25 "RankHouse$Graph" "size" "I") (by decide +kernel)
  have hw_2 := hts (.fieldLink RX2 15 "RankHouse$Graph" "targets" "[I") (by decide +kernel)
  have hw_3 := hts (.methodLink RX2 50 arraycopyName) (by decide +kernel)
  have hw_4 := hts (.native arraycopyName) (by decide +kernel)
  have hw_5 := hts (.static arraycopyName) (by decide +kernel)
  have hw_6 := hts (.initialized "java/lang/System") (by decide +kernel)
  have hl := lv_entry ([.ref h, .int (iZ u), .int (iZ v)]) (n := 4) (Nat.le_of_ble_eq_true rfl)
  rw [lg_entry_eq]
  generalize (lg_sl ([.ref h, .int (iZ u), .int (iZ v)]) ++ List.replicate (4 - (lg_sl ([.ref h, .int (iZ u), .int (iZ v)])).length) Slot.unset).toArray = ls at hl ⊢
  have hl : lv_has ls 4 [(0, .ref h), (1, .int (iZ u)), (2, .int (iZ v))] := hl
  obtain ⟨g1, g2, g3, g4, g5, g6, g7, g8, g9, g10, g11⟩ := id hG
  refine lv_aload_n hx hb dX2_join_0 rfl (lv_at hl 0 rfl) ?_
  refine lv_iload_n hx hb dX2_join_1 rfl (lv_at hl 1 rfl) ?_
  refine ro_i (va_runV (As := [.int (iZ u)]) (rest := []) ⟨hx, hb, hml, hown, hts⟩ (c_X2_isNode l D cI cJ cB cZ h a1 a2 a3 f1 f2 f3 n sz wh u (by omega) hu) (cwV 1 hts gX2_join_X2_isNode rfl rfl rfl (by decide +kernel) ⟨Nat.le_of_ble_eq_true rfl, Nat.le_of_ble_eq_true rfl⟩) (pre0V hE hP 0 rfl rfl) rfl rfl hl.1 rfl (lv_room (Nat.le_of_ble_eq_true rfl)) dX2_join_2 ⟨Nat.le_of_ble_eq_true rfl, Nat.le_of_ble_eq_true rfl⟩) (fun r_1 hr_2 => ?_)
  rcases hr_2 with ⟨rfl, hq_3⟩ | ⟨rfl, hq_3⟩
  · refine z_if_eq (tgt := 35) hx hb dX2_join_5 (by decide) (by omega) (fun c9 => absurd c9 (by decide)) (fun _ => ?_)
    refine lv_aload_n hx hb dX2_join_8 rfl (lv_at hl 0 rfl) ?_
    refine lv_iload_n hx hb dX2_join_9 rfl (lv_at hl 2 rfl) ?_
    refine ro_i (va_runV (As := [.int (iZ v)]) (rest := []) ⟨hx, hb, hml, hown, hts⟩ (c_X2_isNode l D cI cJ cB cZ h a1 a2 a3 f1 f2 f3 n sz wh v (by omega) (by omega)) (cwV 1 hts gX2_join_X2_isNode rfl rfl rfl (by decide +kernel) ⟨Nat.le_of_ble_eq_true rfl, Nat.le_of_ble_eq_true rfl⟩) (pre0V hE hP 0 rfl rfl) rfl rfl hl.1 rfl (lv_room (Nat.le_of_ble_eq_true rfl)) dX2_join_10 ⟨Nat.le_of_ble_eq_true rfl, Nat.le_of_ble_eq_true rfl⟩) (fun r_4 hr_5 => ?_)
    rcases hr_5 with ⟨rfl, hq_6⟩ | ⟨rfl, hq_6⟩
    · refine z_if_eq (tgt := 35) hx hb dX2_join_13 (by decide) (by omega) (fun c9 => absurd c9 (by decide)) (fun _ => ?_)
      refine lv_aload_n hx hb dX2_join_16 rfl (lv_at hl 0 rfl) ?_
      refine va_get (v := .int (iZ sz)) (C := RX2) (T := TX2) (N := 6) (ci := 2) hx hb hts hi_2 hown hK hP 0 rfl rfl 4 (by decide) hw_1 (fun _ h9 => h9) rfl dX2_join_17 ?_
      refine z_sipush hx hb dX2_join_20 (by decide) ?_
      refine z_icmp_ge (tgt := 35) hx hb dX2_join_23 (by decide) (by omega) (by omega) (fun c_7 => ?_) (fun c_7 => ?_)
      · refine z_iconst hx hb dX2_join_35 ?_
        exact rw_zret (z := 0) (f1, f2, f3, n, sz, wh) hx hb hr hlocks (Or.inl rfl) hP hD hS (Or.inr ⟨rfl, fun hc => by first | omega | exact absurd (hbad.symm.trans hc.2.2.2.2.2) (by decide), rfl⟩) dX2_join_36
      · refine lv_aload_n hx hb dX2_join_26 rfl (lv_at hl 0 rfl) ?_
        refine lv_iload_n hx hb dX2_join_27 rfl (lv_at hl 1 rfl) ?_
        refine lv_iload_n hx hb dX2_join_28 rfl (lv_at hl 2 rfl) ?_
        refine ro_i (va_runV (As := [.int (iZ u), .int (iZ v)]) (rest := []) ⟨hx, hb, hml, hown, hts⟩ (c_X2_joins l D cI cJ cB cZ h a1 a2 a3 f1 f2 f3 n sz wh N E w hG u v hu (by omega)) (cwV 2 hts gX2_join_X2_joins rfl rfl rfl (by decide +kernel) ⟨Nat.le_of_ble_eq_true rfl, Nat.le_of_ble_eq_true rfl⟩) (pre0V hE hP 0 rfl rfl) rfl rfl hl.1 rfl (lv_room (Nat.le_of_ble_eq_true rfl)) dX2_join_29 ⟨Nat.le_of_ble_eq_true rfl, Nat.le_of_ble_eq_true rfl⟩) (fun r_8 hr_9 => ?_)
        rcases hr_9 with ⟨rfl, hq_10⟩ | ⟨rfl, hq_10⟩
        · have hbad := hq_10.2.2.2.2
          refine z_if_eq (tgt := 37) hx hb dX2_join_32 (by decide) (by omega) (fun c9 => absurd c9 (by decide)) (fun _ => ?_)
          refine z_iconst hx hb dX2_join_35 ?_
          exact rw_zret (z := 0) (f1, f2, f3, n, sz, wh) hx hb hr hlocks (Or.inl rfl) hP hD hS (Or.inr ⟨rfl, fun hc => by first | omega | exact absurd (hbad.symm.trans hc.2.2.2.2.2) (by decide), rfl⟩) dX2_join_36
        · have hgood : E u.toNat v.toNat = false := Bool.eq_false_iff.mpr (fun q => hq_10 ⟨by omega, by omega, by omega, by omega, q⟩)
          refine z_if_eq (tgt := 37) hx hb dX2_join_32 (by decide) (by omega) (fun _ => ?_) (fun c9 => absurd c9 (by decide))
          have q4 := fb_ct_mono (E u.toNat) (show v.toNat ≤ N by omega)
          have q5 : fb_ct (E u.toNat) N = dgr E N u.toNat := rfl
          have q3 := fst_le E (show u.toNat < N by omega)
          refine lv_aload_n hx hb dX2_join_37 rfl (lv_at hl 0 rfl) ?_
          refine lv_iload_n hx hb dX2_join_38 rfl (lv_at hl 1 rfl) ?_
          refine lv_iload_n hx hb dX2_join_39 rfl (lv_at hl 2 rfl) ?_
          refine ro_i (va_runV (As := [.int (iZ u), .int (iZ v)]) (rest := []) ⟨hx, hb, hml, hown, hts⟩ (c_X2_spot l D cI cJ cB cZ h a1 a2 a3 f1 f2 f3 n sz wh N E w hG u v (by omega) (by omega)) (cwV 2 hts gX2_join_X2_spot rfl rfl rfl (by decide +kernel) ⟨Nat.le_of_ble_eq_true rfl, Nat.le_of_ble_eq_true rfl⟩) (pre0V hE hP 0 rfl rfl) rfl rfl hl.1 rfl (lv_room (Nat.le_of_ble_eq_true rfl)) dX2_join_40 ⟨Nat.le_of_ble_eq_true rfl, Nat.le_of_ble_eq_true rfl⟩) (fun r_11 hr_12 => ?_)
          subst hr_12
          refine lv_istore_n (lv' := [(3, .int (iZ ((fst E N u.toNat + fb_ct (E u.toNat) v.toNat : Nat) : Int))), (0, .ref h), (1, .int (iZ u)), (2, .int (iZ v))]) hx hb dX2_join_43 rfl hl (by decide) rfl (fun ls hl => ?_)
          refine lv_aload_n hx hb dX2_join_44 rfl (lv_at hl 1 rfl) ?_
          refine va_get (v := .ref a2) (C := RX2) (T := TX2) (N := 6) (ci := 2) hx hb hts hi_2 hown hK hP 0 rfl rfl 1 (by decide) hw_2 (fun _ h9 => h9) rfl dX2_join_45 ?_
          refine lv_iload_n hx hb dX2_join_48 rfl (lv_at hl 0 rfl) ?_
          refine lv_aload_n hx hb dX2_join_49 rfl (lv_at hl 1 rfl) ?_
          refine va_get (v := .ref a2) (C := RX2) (T := TX2) (N := 6) (ci := 2) hx hb hts hi_2 hown hK hP 0 rfl rfl 1 (by decide) hw_2 (fun _ h9 => h9) rfl dX2_join_50 ?_
          refine lv_iload_n hx hb dX2_join_53 rfl (lv_at hl 0 rfl) ?_
          refine z_iconst hx hb dX2_join_54 ?_
          refine z_iadd hx hb dX2_join_55 ?_
          refine lv_aload_n hx hb dX2_join_56 rfl (lv_at hl 1 rfl) ?_
          refine va_get (v := .int (iZ sz)) (C := RX2) (T := TX2) (N := 6) (ci := 2) hx hb hts hi_2 hown hK hP 0 rfl rfl 4 (by decide) hw_1 (fun _ h9 => h9) rfl dX2_join_57 ?_
          refine lv_iload_n hx hb dX2_join_60 rfl (lv_at hl 0 rfl) ?_
          refine z_isub hx hb dX2_join_61 ?_
          refine z_copyi hx hb (hml.trans hl.1.symm) hown hw_3 hw_4 hw_5 hw_6 hK hP hD hS 2 0 rfl rfl (fst E N u.toNat + fb_ct (E u.toNat) v.toNat) (fst E N u.toNat + fb_ct (E u.toNat) v.toNat + 1) (fst E N N - (fst E N u.toNat + fb_ct (E u.toNat) v.toNat)) (by omega) (by omega) (by omega) (by omega) (by omega) (by omega) (Nat.le_of_ble_eq_true rfl) (Nat.le_of_ble_eq_true rfl) dX2_join_62 (fun H locs hP hD hS => ?_)
          have hP : va_P D vwCl (wGr cI h a1 a2 a3 f1 (cpZ f2 (fst E N u.toNat + fb_ct (E u.toNat) v.toNat) (fst E N u.toNat + fb_ct (E u.toNat) v.toNat + 1) (fst E N N - (fst E N u.toNat + fb_ct (E u.toNat) v.toNat))) f3 n sz wh) H := hP
          have hD : va_D A (wGr cI h a1 a2 a3 f1 (cpZ f2 (fst E N u.toNat + fb_ct (E u.toNat) v.toNat) (fst E N u.toNat + fb_ct (E u.toNat) v.toNat + 1) (fst E N N - (fst E N u.toNat + fb_ct (E u.toNat) v.toNat))) f3 n sz wh) := hD
          refine lv_aload_n hx hb dX2_join_65 rfl (lv_at hl 1 rfl) ?_
          refine va_get (v := .ref a2) (C := RX2) (T := TX2) (N := 6) (ci := 2) hx hb hts hi_2 hown hK hP 0 rfl rfl 1 (by decide) hw_2 (fun _ h9 => h9) rfl dX2_join_66 ?_
          refine lv_iload_n hx hb dX2_join_69 rfl (lv_at hl 0 rfl) ?_
          refine lv_iload_n hx hb dX2_join_70 rfl (lv_at hl 3 rfl) ?_
          refine z_iast hx hb hK hP hD hS 2 0 rfl rfl (fst E N u.toNat + fb_ct (E u.toNat) v.toNat) (by omega) (by omega) (by omega) dX2_join_71 (fun H locs hP hD hS => ?_)
          have hP : va_P D vwCl (wGr cI h a1 a2 a3 f1 (uZ (cpZ f2 (fst E N u.toNat + fb_ct (E u.toNat) v.toNat) (fst E N u.toNat + fb_ct (E u.toNat) v.toNat + 1) (fst E N N - (fst E N u.toNat + fb_ct (E u.toNat) v.toNat))) (fst E N u.toNat + fb_ct (E u.toNat) v.toNat) v) f3 n sz wh) H := hP
          have hD : va_D A (wGr cI h a1 a2 a3 f1 (uZ (cpZ f2 (fst E N u.toNat + fb_ct (E u.toNat) v.toNat) (fst E N u.toNat + fb_ct (E u.toNat) v.toNat + 1) (fst E N N - (fst E N u.toNat + fb_ct (E u.toNat) v.toNat))) (fst E N u.toNat + fb_ct (E u.toNat) v.toNat) v) f3 n sz wh) := hD
          refine lv_aload_n hx hb dX2_join_72 rfl (lv_at hl 1 rfl) ?_
          refine lv_iload_n hx hb dX2_join_73 rfl (lv_at hl 2 rfl) ?_
          refine z_iconst hx hb dX2_join_74 ?_
          refine rw_v (wr := []) (va_runV (As := [.int (iZ u), .int (iZ 1)]) (rest := []) ⟨hx, hb, hml, hown, hts⟩ (c_X2_grow l D cI cJ cB cZ h a1 a2 a3 f1 (uZ (cpZ f2 (fst E N u.toNat + fb_ct (E u.toNat) v.toNat) (fst E N u.toNat + fb_ct (E u.toNat) v.toNat + 1) (fst E N N - (fst E N u.toNat + fb_ct (E u.toNat) v.toNat))) (fst E N u.toNat + fb_ct (E u.toNat) v.toNat) v) f3 n sz wh u 1 (by omega) (by omega) (by omega) _) (cwV 2 hts gX2_join_X2_grow rfl rfl rfl (by decide +kernel) ⟨Nat.le_of_ble_eq_true rfl, Nat.le_of_ble_eq_true rfl⟩) (pre1V hE hP hD 0 rfl rfl) rfl rfl hl.1 rfl (lv_room (Nat.le_of_ble_eq_true rfl)) dX2_join_75 ⟨Nat.le_of_ble_eq_true rfl, Nat.le_of_ble_eq_true rfl⟩) hP hD hS hA [0, 1, 2, 3] [] rfl rfl (by decide) (by decide) (fun u_15 H locs hr_14 hP hD hS => ?_)
          have hP := hP.sub (ws' := (wGr cI h a1 a2 a3 u_15.1 (uZ (cpZ f2 (fst E N u.toNat + fb_ct (E u.toNat) v.toNat) (fst E N u.toNat + fb_ct (E u.toNat) v.toNat + 1) (fst E N N - (fst E N u.toNat + fb_ct (E u.toNat) v.toNat))) (fst E N u.toNat + fb_ct (E u.toNat) v.toNat) v) f3 n u_15.2 wh)) [0, 1, 2, 3] rfl
          have hD := hD.sub (ws' := (wGr cI h a1 a2 a3 u_15.1 (uZ (cpZ f2 (fst E N u.toNat + fb_ct (E u.toNat) v.toNat) (fst E N u.toNat + fb_ct (E u.toNat) v.toNat + 1) (fst E N N - (fst E N u.toNat + fb_ct (E u.toNat) v.toNat))) (fst E N u.toNat + fb_ct (E u.toNat) v.toNat) v) f3 n u_15.2 wh)) [0, 1, 2, 3] (by decide) rfl
          obtain ⟨k1, k2⟩ := hr_14
          refine z_iconst hx hb dX2_join_78 ?_
          exact rw_zret (z := 1) (u_15.1, uZ (cpZ f2 (fst E N u.toNat + fb_ct (E u.toNat) v.toNat) (fst E N u.toNat + fb_ct (E u.toNat) v.toNat + 1) (fst E N N - (fst E N u.toNat + fb_ct (E u.toNat) v.toNat))) (fst E N u.toNat + fb_ct (E u.toNat) v.toNat) v, f3, n, u_15.2, wh) hx hb hr hlocks (Or.inr rfl) hP hD hS (Or.inl ⟨rfl, ⟨by omega, by omega, by omega, by omega, by omega, hgood⟩, GR_join hG (by omega) (by omega) hgood (by omega) (f1_grow g3 k1) (by rw [show ((v.toNat : Nat) : Int) = v by omega]; exact cp_join (by omega)) k2⟩) dX2_join_79
    · refine z_if_eq (tgt := 35) hx hb dX2_join_13 (by decide) (by omega) (fun _ => ?_) (fun c9 => absurd c9 (by decide))
      refine z_iconst hx hb dX2_join_35 ?_
      exact rw_zret (z := 0) (f1, f2, f3, n, sz, wh) hx hb hr hlocks (Or.inl rfl) hP hD hS (Or.inr ⟨rfl, fun hc => by first | omega | exact absurd (hbad.symm.trans hc.2.2.2.2.2) (by decide), rfl⟩) dX2_join_36
  · refine z_if_eq (tgt := 35) hx hb dX2_join_5 (by decide) (by omega) (fun _ => ?_) (fun c9 => absurd c9 (by decide))
    refine z_iconst hx hb dX2_join_35 ?_
    exact rw_zret (z := 0) (f1, f2, f3, n, sz, wh) hx hb hr hlocks (Or.inl rfl) hP hD hS (Or.inr ⟨rfl, fun hc => by first | omega | exact absurd (hbad.symm.trans hc.2.2.2.2.2) (by decide), rfl⟩) dX2_join_36
set_option maxHeartbeats 4000000 in
set_option maxRecDepth 100000 in
theorem c_X2_part (l : Launch) (D : va_G) (cI cJ cB cZ : ClassId) (h a1 a2 a3 : Nat) (f1 f2 f3 : Nat → Int) (n sz wh : Int) (N : Nat) (E : Ed) (w : Nat → Nat) (hG : GR N E w f1 f2 f3 n sz wh) (u v : Int) (hu : -2147483648 ≤ u ∧ u < 2147483648) (hv : -2147483648 ≤ v ∧ v < 2147483648) (sz0 : Nat) : Met l yX2_part wsX2_part ({ frames := 2, cells := 0, slots := 0, locals := 46 } : Room) (Pre1 D cI cJ cB cZ [.ref h, .int (iZ u), .int (iZ v)] (wGr cI h a1 a2 a3 f1 f2 f3 n sz wh) sz0) (rwI (S := GT) D (fun z U => (z = 1 ∧ (0 ≤ u ∧ u < n ∧ 0 ≤ v ∧ v < n ∧ E u.toNat v.toNat = true) ∧ GRu N (uE E u.toNat v.toNat false) w U) ∨ (z = 0 ∧ ¬ (0 ≤ u ∧ u < n ∧ 0 ≤ v ∧ v < n ∧ E u.toNat v.toNat = true) ∧ U = (f1, f2, f3, n, sz, wh))) (fun u => wG cI h a1 a2 a3 u) (va_A (wGr cI h a1 a2 a3 f1 f2 f3 n sz wh) sz0)) 0 0 (va_A (wGr cI h a1 a2 a3 f1 f2 f3 n sz wh) sz0) := by
  refine Met.ofW (cc := cX2_part) (maxL := 4) (ret := (some .boolean)) (by decide) rfl ?_
  intro p e s m args below meth c s₁ B hml hv
  obtain ⟨rfl, hsz, hP, hE, hD0⟩ := hv
  have hx := B.exec
  have hb := B.bytes
  have hr := B.returns
  have hts := atoms_spec (ws := wsX2_part) B.pre
  have hown : s.vm.findClass RX2 = some m.cls := findClass_of_methodNamed B.named
  have hlocks := B.notSynchronized
  have hK := hE.1
  subst hsz
  have hD := hD0.self (sz := s.heap.size)
  generalize hAe : va_A (wGr cI h a1 a2 a3 f1 f2 f3 n sz wh) s.heap.size = A at hD ⊢
  have hA : ∀ q : Nat, s.heap.size ≤ q → A q := fun q h => by rw [← hAe]; exact Or.inr h
  have hS : va_S A s.heap s.heap [] := va_S.rf
  have hP : va_P D vwCl (wGr cI h a1 a2 a3 f1 f2 f3 n sz wh) s.heap := hP
  have hi_2 : ∀ w ∈ wsX20, w ∈ wsX2_part := by decide +kernel
  have hw_1 := hts (.fieldLink RX2 15 "RankHouse$Graph" "targets" "[I") (by decide +kernel)
  have hw_2 := hts (.fieldLink RX2 25 "RankHouse$Graph" "size" "I") (by decide +kernel)
  have hw_3 := hts (.methodLink RX2 50 arraycopyName) (by decide +kernel)
  have hw_4 := hts (.native arraycopyName) (by decide +kernel)
  have hw_5 := hts (.static arraycopyName) (by decide +kernel)
  have hw_6 := hts (.initialized "java/lang/System") (by decide +kernel)
  have hl := lv_entry ([.ref h, .int (iZ u), .int (iZ v)]) (n := 4) (Nat.le_of_ble_eq_true rfl)
  rw [lg_entry_eq]
  generalize (lg_sl ([.ref h, .int (iZ u), .int (iZ v)]) ++ List.replicate (4 - (lg_sl ([.ref h, .int (iZ u), .int (iZ v)])).length) Slot.unset).toArray = ls at hl ⊢
  have hl : lv_has ls 4 [(0, .ref h), (1, .int (iZ u)), (2, .int (iZ v))] := hl
  obtain ⟨g1, g2, g3, g4, g5, g6, g7, g8, g9, g10, g11⟩ := id hG
  refine lv_aload_n hx hb dX2_part_0 rfl (lv_at hl 0 rfl) ?_
  refine lv_iload_n hx hb dX2_part_1 rfl (lv_at hl 1 rfl) ?_
  refine lv_iload_n hx hb dX2_part_2 rfl (lv_at hl 2 rfl) ?_
  refine ro_i (va_runV (As := [.int (iZ u), .int (iZ v)]) (rest := []) ⟨hx, hb, hml, hown, hts⟩ (c_X2_joins l D cI cJ cB cZ h a1 a2 a3 f1 f2 f3 n sz wh N E w hG u v hu (by omega)) (cwV 2 hts gX2_part_X2_joins rfl rfl rfl (by decide +kernel) ⟨Nat.le_of_ble_eq_true rfl, Nat.le_of_ble_eq_true rfl⟩) (pre0V hE hP 0 rfl rfl) rfl rfl hl.1 rfl (lv_room (Nat.le_of_ble_eq_true rfl)) dX2_part_3 ⟨Nat.le_of_ble_eq_true rfl, Nat.le_of_ble_eq_true rfl⟩) (fun r_1 hr_2 => ?_)
  rcases hr_2 with ⟨rfl, hq_3⟩ | ⟨rfl, hq_3⟩
  · have hj := hq_3
    have q6 := row_in hj.2.2.2.2 (show v.toNat < N by omega)
    refine z_if_ne (tgt := 11) hx hb dX2_part_6 (by decide) (by omega) (fun _ => ?_) (fun c9 => absurd c9 (by decide))
    have q4 := fb_ct_mono (E u.toNat) (show v.toNat ≤ N by omega)
    have q5 : fb_ct (E u.toNat) N = dgr E N u.toNat := rfl
    have q3 := fst_le E (show u.toNat < N by omega)
    refine lv_aload_n hx hb dX2_part_11 rfl (lv_at hl 0 rfl) ?_
    refine lv_iload_n hx hb dX2_part_12 rfl (lv_at hl 1 rfl) ?_
    refine lv_iload_n hx hb dX2_part_13 rfl (lv_at hl 2 rfl) ?_
    refine ro_i (va_runV (As := [.int (iZ u), .int (iZ v)]) (rest := []) ⟨hx, hb, hml, hown, hts⟩ (c_X2_spot l D cI cJ cB cZ h a1 a2 a3 f1 f2 f3 n sz wh N E w hG u v (by omega) (by omega)) (cwV 2 hts gX2_part_X2_spot rfl rfl rfl (by decide +kernel) ⟨Nat.le_of_ble_eq_true rfl, Nat.le_of_ble_eq_true rfl⟩) (pre0V hE hP 0 rfl rfl) rfl rfl hl.1 rfl (lv_room (Nat.le_of_ble_eq_true rfl)) dX2_part_14 ⟨Nat.le_of_ble_eq_true rfl, Nat.le_of_ble_eq_true rfl⟩) (fun r_4 hr_5 => ?_)
    subst hr_5
    refine lv_istore_n (lv' := [(3, .int (iZ ((fst E N u.toNat + fb_ct (E u.toNat) v.toNat : Nat) : Int))), (0, .ref h), (1, .int (iZ u)), (2, .int (iZ v))]) hx hb dX2_part_17 rfl hl (by decide) rfl (fun ls hl => ?_)
    refine lv_aload_n hx hb dX2_part_18 rfl (lv_at hl 1 rfl) ?_
    refine va_get (v := .ref a2) (C := RX2) (T := TX2) (N := 6) (ci := 2) hx hb hts hi_2 hown hK hP 0 rfl rfl 1 (by decide) hw_1 (fun _ h9 => h9) rfl dX2_part_19 ?_
    refine lv_iload_n hx hb dX2_part_22 rfl (lv_at hl 0 rfl) ?_
    refine z_iconst hx hb dX2_part_23 ?_
    refine z_iadd hx hb dX2_part_24 ?_
    refine lv_aload_n hx hb dX2_part_25 rfl (lv_at hl 1 rfl) ?_
    refine va_get (v := .ref a2) (C := RX2) (T := TX2) (N := 6) (ci := 2) hx hb hts hi_2 hown hK hP 0 rfl rfl 1 (by decide) hw_1 (fun _ h9 => h9) rfl dX2_part_26 ?_
    refine lv_iload_n hx hb dX2_part_29 rfl (lv_at hl 0 rfl) ?_
    refine lv_aload_n hx hb dX2_part_30 rfl (lv_at hl 1 rfl) ?_
    refine va_get (v := .int (iZ sz)) (C := RX2) (T := TX2) (N := 6) (ci := 2) hx hb hts hi_2 hown hK hP 0 rfl rfl 4 (by decide) hw_2 (fun _ h9 => h9) rfl dX2_part_31 ?_
    refine lv_iload_n hx hb dX2_part_34 rfl (lv_at hl 0 rfl) ?_
    refine z_isub hx hb dX2_part_35 ?_
    refine z_iconst hx hb dX2_part_36 ?_
    refine z_isub hx hb dX2_part_37 ?_
    refine z_copyi hx hb (hml.trans hl.1.symm) hown hw_3 hw_4 hw_5 hw_6 hK hP hD hS 2 0 rfl rfl (fst E N u.toNat + fb_ct (E u.toNat) v.toNat + 1) (fst E N u.toNat + fb_ct (E u.toNat) v.toNat) (fst E N N - (fst E N u.toNat + fb_ct (E u.toNat) v.toNat) - 1) (by omega) (by omega) (by omega) (by omega) (by omega) (by omega) (Nat.le_of_ble_eq_true rfl) (Nat.le_of_ble_eq_true rfl) dX2_part_38 (fun H locs hP hD hS => ?_)
    have hP : va_P D vwCl (wGr cI h a1 a2 a3 f1 (cpZ f2 (fst E N u.toNat + fb_ct (E u.toNat) v.toNat + 1) (fst E N u.toNat + fb_ct (E u.toNat) v.toNat) (fst E N N - (fst E N u.toNat + fb_ct (E u.toNat) v.toNat) - 1)) f3 n sz wh) H := hP
    have hD : va_D A (wGr cI h a1 a2 a3 f1 (cpZ f2 (fst E N u.toNat + fb_ct (E u.toNat) v.toNat + 1) (fst E N u.toNat + fb_ct (E u.toNat) v.toNat) (fst E N N - (fst E N u.toNat + fb_ct (E u.toNat) v.toNat) - 1)) f3 n sz wh) := hD
    refine lv_aload_n hx hb dX2_part_41 rfl (lv_at hl 1 rfl) ?_
    refine lv_iload_n hx hb dX2_part_42 rfl (lv_at hl 2 rfl) ?_
    refine z_iconst hx hb dX2_part_43 ?_
    refine rw_v (wr := []) (va_runV (As := [.int (iZ u), .int (iZ (-1))]) (rest := []) ⟨hx, hb, hml, hown, hts⟩ (c_X2_grow l D cI cJ cB cZ h a1 a2 a3 f1 (cpZ f2 (fst E N u.toNat + fb_ct (E u.toNat) v.toNat + 1) (fst E N u.toNat + fb_ct (E u.toNat) v.toNat) (fst E N N - (fst E N u.toNat + fb_ct (E u.toNat) v.toNat) - 1)) f3 n sz wh u (-1) (by omega) (by omega) (by omega) _) (cwV 2 hts gX2_part_X2_grow rfl rfl rfl (by decide +kernel) ⟨Nat.le_of_ble_eq_true rfl, Nat.le_of_ble_eq_true rfl⟩) (pre1V hE hP hD 0 rfl rfl) rfl rfl hl.1 rfl (lv_room (Nat.le_of_ble_eq_true rfl)) dX2_part_44 ⟨Nat.le_of_ble_eq_true rfl, Nat.le_of_ble_eq_true rfl⟩) hP hD hS hA [0, 1, 2, 3] [] rfl rfl (by decide) (by decide) (fun u_8 H locs hr_7 hP hD hS => ?_)
    have hP := hP.sub (ws' := (wGr cI h a1 a2 a3 u_8.1 (cpZ f2 (fst E N u.toNat + fb_ct (E u.toNat) v.toNat + 1) (fst E N u.toNat + fb_ct (E u.toNat) v.toNat) (fst E N N - (fst E N u.toNat + fb_ct (E u.toNat) v.toNat) - 1)) f3 n u_8.2 wh)) [0, 1, 2, 3] rfl
    have hD := hD.sub (ws' := (wGr cI h a1 a2 a3 u_8.1 (cpZ f2 (fst E N u.toNat + fb_ct (E u.toNat) v.toNat + 1) (fst E N u.toNat + fb_ct (E u.toNat) v.toNat) (fst E N N - (fst E N u.toNat + fb_ct (E u.toNat) v.toNat) - 1)) f3 n u_8.2 wh)) [0, 1, 2, 3] (by decide) rfl
    obtain ⟨k1, k2⟩ := hr_7
    refine z_iconst hx hb dX2_part_47 ?_
    exact rw_zret (z := 1) (u_8.1, cpZ f2 (fst E N u.toNat + fb_ct (E u.toNat) v.toNat + 1) (fst E N u.toNat + fb_ct (E u.toNat) v.toNat) (fst E N N - (fst E N u.toNat + fb_ct (E u.toNat) v.toNat) - 1), f3, n, u_8.2, wh) hx hb hr hlocks (Or.inr rfl) hP hD hS (Or.inl ⟨rfl, hj, GR_part hG (by omega) (by omega) hj.2.2.2.2 (f1_grow g3 k1) (cp_part (by omega)) k2⟩) dX2_part_48
  · have hj := hq_3
    refine z_if_ne (tgt := 11) hx hb dX2_part_6 (by decide) (by omega) (fun c9 => absurd c9 (by decide)) (fun _ => ?_)
    refine z_iconst hx hb dX2_part_9 ?_
    exact rw_zret (z := 0) (f1, f2, f3, n, sz, wh) hx hb hr hlocks (Or.inl rfl) hP hD hS (Or.inr ⟨rfl, hj, rfl⟩) dX2_part_10
set_option maxHeartbeats 4000000 in
set_option maxRecDepth 100000 in
theorem c_X2_weigh (l : Launch) (D : va_G) (cI cJ cB cZ : ClassId) (h a1 a2 a3 : Nat) (f1 f2 f3 : Nat → Int) (n sz wh : Int) (N : Nat) (E : Ed) (w : Nat → Nat) (hG : GR N E w f1 f2 f3 n sz wh) (u x : Int) (hu : -2147483648 ≤ u ∧ u < 2147483648) (hx0 : -2147483648 ≤ x ∧ x < 2147483648) (sz0 : Nat) : Met l yX2_weigh wsX2_weigh ({ frames := 1, cells := 0, slots := 0, locals := 21 } : Room) (Pre1 D cI cJ cB cZ [.ref h, .int (iZ u), .int (iZ x)] (wGr cI h a1 a2 a3 f1 f2 f3 n sz wh) sz0) (rwI (S := GT) D (fun z U => (z = 1 ∧ (0 ≤ u ∧ u < n ∧ 0 ≤ x ∧ x ≤ 1000 ∧ ¬ wh - f3 u.toNat + x = 0) ∧ GRu N E (fun k => if k = u.toNat then x.toNat else w k) U) ∨ (z = 0 ∧ ¬ (0 ≤ u ∧ u < n ∧ 0 ≤ x ∧ x ≤ 1000 ∧ ¬ wh - f3 u.toNat + x = 0) ∧ U = (f1, f2, f3, n, sz, wh))) (fun u => wG cI h a1 a2 a3 u) (va_A (wGr cI h a1 a2 a3 f1 f2 f3 n sz wh) sz0)) 0 0 (va_A (wGr cI h a1 a2 a3 f1 f2 f3 n sz wh) sz0) := by
  refine Met.ofW (cc := cX2_weigh) (maxL := 3) (ret := (some .boolean)) (by decide) rfl ?_
  intro p e s m args below meth c s₁ B hml hv
  obtain ⟨rfl, hsz, hP, hE, hD0⟩ := hv
  have hx := B.exec
  have hb := B.bytes
  have hr := B.returns
  have hts := atoms_spec (ws := wsX2_weigh) B.pre
  have hown : s.vm.findClass RX2 = some m.cls := findClass_of_methodNamed B.named
  have hlocks := B.notSynchronized
  have hK := hE.1
  subst hsz
  have hD := hD0.self (sz := s.heap.size)
  generalize hAe : va_A (wGr cI h a1 a2 a3 f1 f2 f3 n sz wh) s.heap.size = A at hD ⊢
  have hA : ∀ q : Nat, s.heap.size ≤ q → A q := fun q h => by rw [← hAe]; exact Or.inr h
  have hS : va_S A s.heap s.heap [] := va_S.rf
  have hP : va_P D vwCl (wGr cI h a1 a2 a3 f1 f2 f3 n sz wh) s.heap := hP
  have hi_2 : ∀ w ∈ wsX20, w ∈ wsX2_weigh := by decide +kernel
  have hw_1 := hts (.fieldLink RX2 28 "RankHouse$Graph" "whole" "I") (by decide +kernel)
  have hw_2 := hts (.fieldLink RX2 18 "RankHouse$Graph" "weights" "[I") (by decide +kernel)
  have hl := lv_entry ([.ref h, .int (iZ u), .int (iZ x)]) (n := 3) (Nat.le_of_ble_eq_true rfl)
  rw [lg_entry_eq]
  generalize (lg_sl ([.ref h, .int (iZ u), .int (iZ x)]) ++ List.replicate (3 - (lg_sl ([.ref h, .int (iZ u), .int (iZ x)])).length) Slot.unset).toArray = ls at hl ⊢
  have hl : lv_has ls 3 [(0, .ref h), (1, .int (iZ u)), (2, .int (iZ x))] := hl
  obtain ⟨g1, g2, g3, g4, g5, g6, g7, g8, g9, g10, g11⟩ := id hG
  refine lv_aload_n hx hb dX2_weigh_0 rfl (lv_at hl 0 rfl) ?_
  refine lv_iload_n hx hb dX2_weigh_1 rfl (lv_at hl 1 rfl) ?_
  refine ro_i (va_runV (As := [.int (iZ u)]) (rest := []) ⟨hx, hb, hml, hown, hts⟩ (c_X2_isNode l D cI cJ cB cZ h a1 a2 a3 f1 f2 f3 n sz wh u (by omega) hu) (cwV 1 hts gX2_weigh_X2_isNode rfl rfl rfl (by decide +kernel) ⟨Nat.le_of_ble_eq_true rfl, Nat.le_of_ble_eq_true rfl⟩) (pre0V hE hP 0 rfl rfl) rfl rfl hl.1 rfl (lv_room (Nat.le_of_ble_eq_true rfl)) dX2_weigh_2 ⟨Nat.le_of_ble_eq_true rfl, Nat.le_of_ble_eq_true rfl⟩) (fun r_1 hr_2 => ?_)
  rcases hr_2 with ⟨rfl, hq_3⟩ | ⟨rfl, hq_3⟩
  · refine z_if_eq (tgt := 35) hx hb dX2_weigh_5 (by decide) (by omega) (fun c9 => absurd c9 (by decide)) (fun _ => ?_)
    refine lv_iload_n hx hb dX2_weigh_8 rfl (lv_at hl 2 rfl) ?_
    refine z_if_lt (tgt := 35) hx hb dX2_weigh_9 (by decide) (by omega) (fun c_4 => ?_) (fun c_4 => ?_)
    · refine z_iconst hx hb dX2_weigh_35 ?_
      exact rw_zret (z := 0) (f1, f2, f3, n, sz, wh) hx hb hr hlocks (Or.inl rfl) hP hD hS (Or.inr ⟨rfl, by omega, rfl⟩) dX2_weigh_36
    · refine lv_iload_n hx hb dX2_weigh_12 rfl (lv_at hl 2 rfl) ?_
      refine z_sipush hx hb dX2_weigh_13 (by decide) ?_
      refine z_icmp_gt (tgt := 35) hx hb dX2_weigh_16 (by decide) (by omega) (by omega) (fun c_5 => ?_) (fun c_5 => ?_)
      · refine z_iconst hx hb dX2_weigh_35 ?_
        exact rw_zret (z := 0) (f1, f2, f3, n, sz, wh) hx hb hr hlocks (Or.inl rfl) hP hD hS (Or.inr ⟨rfl, by omega, rfl⟩) dX2_weigh_36
      · have q1 := g8 u.toNat (by omega)
        have q2 := GR_wh hG
        refine lv_aload_n hx hb dX2_weigh_19 rfl (lv_at hl 0 rfl) ?_
        refine va_get (v := .int (iZ wh)) (C := RX2) (T := TX2) (N := 6) (ci := 2) hx hb hts hi_2 hown hK hP 0 rfl rfl 5 (by decide) hw_1 (fun _ h9 => h9) rfl dX2_weigh_20 ?_
        refine lv_aload_n hx hb dX2_weigh_23 rfl (lv_at hl 0 rfl) ?_
        refine va_get (v := .ref a3) (C := RX2) (T := TX2) (N := 6) (ci := 2) hx hb hts hi_2 hown hK hP 0 rfl rfl 2 (by decide) hw_2 (fun _ h9 => h9) rfl dX2_weigh_24 ?_
        refine lv_iload_n hx hb dX2_weigh_27 rfl (lv_at hl 1 rfl) ?_
        refine z_iald hx hb hK hP 3 0 rfl rfl u.toNat (by omega) (by omega) (by omega) dX2_weigh_28 ?_
        refine z_isub hx hb dX2_weigh_29 ?_
        refine lv_iload_n hx hb dX2_weigh_30 rfl (lv_at hl 2 rfl) ?_
        refine z_iadd hx hb dX2_weigh_31 ?_
        refine z_if_ne (tgt := 37) hx hb dX2_weigh_32 (by decide) (by omega) (fun c_6 => ?_) (fun c_6 => ?_)
        · have q1 := g8 u.toNat (by omega)
          refine lv_aload_n hx hb dX2_weigh_37 rfl (lv_at hl 0 rfl) ?_
          refine lv_dup hx hb dX2_weigh_38 rfl ?_
          refine va_get (v := .int (iZ wh)) (C := RX2) (T := TX2) (N := 6) (ci := 2) hx hb hts hi_2 hown hK hP 0 rfl rfl 5 (by decide) hw_1 (fun _ h9 => h9) rfl dX2_weigh_39 ?_
          refine lv_iload_n hx hb dX2_weigh_42 rfl (lv_at hl 2 rfl) ?_
          refine lv_aload_n hx hb dX2_weigh_43 rfl (lv_at hl 0 rfl) ?_
          refine va_get (v := .ref a3) (C := RX2) (T := TX2) (N := 6) (ci := 2) hx hb hts hi_2 hown hK hP 0 rfl rfl 2 (by decide) hw_2 (fun _ h9 => h9) rfl dX2_weigh_44 ?_
          refine lv_iload_n hx hb dX2_weigh_47 rfl (lv_at hl 1 rfl) ?_
          refine z_iald hx hb hK hP 3 0 rfl rfl u.toNat (by omega) (by omega) (by omega) dX2_weigh_48 ?_
          refine z_isub hx hb dX2_weigh_49 ?_
          refine z_iadd hx hb dX2_weigh_50 ?_
          refine va_put (v := .int (iZ (wh + (x - (f3 u.toNat))))) (ty := .int) (C := RX2) (T := TX2) (N := 6) (ci := 2) hx hb hts hi_2 tyX2 tyX2_ok nmX2 hown hK hP hD hS 0 rfl rfl 5 (by decide) hw_1 (fun _ h9 => h9) rfl (by decide +kernel) rfl rfl (Nat.le_of_ble_eq_true rfl) dX2_weigh_51 (fun H locs hP hD hS => ?_)
          have hP : va_P D vwCl (wGr cI h a1 a2 a3 f1 f2 f3 n sz (wh + (x - (f3 u.toNat)))) H := hP
          have hD : va_D A (wGr cI h a1 a2 a3 f1 f2 f3 n sz (wh + (x - (f3 u.toNat)))) := hD
          refine lv_aload_n hx hb dX2_weigh_54 rfl (lv_at hl 0 rfl) ?_
          refine va_get (v := .ref a3) (C := RX2) (T := TX2) (N := 6) (ci := 2) hx hb hts hi_2 hown hK hP 0 rfl rfl 2 (by decide) hw_2 (fun _ h9 => h9) rfl dX2_weigh_55 ?_
          refine lv_iload_n hx hb dX2_weigh_58 rfl (lv_at hl 1 rfl) ?_
          refine lv_iload_n hx hb dX2_weigh_59 rfl (lv_at hl 2 rfl) ?_
          refine z_iast hx hb hK hP hD hS 3 0 rfl rfl u.toNat (by omega) (by omega) (by omega) dX2_weigh_60 (fun H locs hP hD hS => ?_)
          have hP : va_P D vwCl (wGr cI h a1 a2 a3 f1 f2 (uZ f3 u.toNat x) n sz (wh + (x - (f3 u.toNat)))) H := hP
          have hD : va_D A (wGr cI h a1 a2 a3 f1 f2 (uZ f3 u.toNat x) n sz (wh + (x - (f3 u.toNat)))) := hD
          refine z_iconst hx hb dX2_weigh_61 ?_
          exact rw_zret (z := 1) (f1, f2, uZ f3 u.toNat x, n, sz, wh + (x - (f3 u.toNat))) hx hb hr hlocks (Or.inr rfl) hP hD hS (Or.inl ⟨rfl, by omega, by have q9 : ((x.toNat : Nat) : Int) = x := (by omega); have q8 := GR_weigh hG (U := u.toNat) (x := x.toNat) (wh' := wh + (x - f3 u.toNat)) (by omega) (by omega) (by rw [q9]) (by omega); rw [q9] at q8; exact q8⟩) dX2_weigh_62
        · refine z_iconst hx hb dX2_weigh_35 ?_
          exact rw_zret (z := 0) (f1, f2, f3, n, sz, wh) hx hb hr hlocks (Or.inl rfl) hP hD hS (Or.inr ⟨rfl, by omega, rfl⟩) dX2_weigh_36
  · refine z_if_eq (tgt := 35) hx hb dX2_weigh_5 (by decide) (by omega) (fun _ => ?_) (fun c9 => absurd c9 (by decide))
    refine z_iconst hx hb dX2_weigh_35 ?_
    exact rw_zret (z := 0) (f1, f2, f3, n, sz, wh) hx hb hr hlocks (Or.inl rfl) hP hD hS (Or.inr ⟨rfl, by omega, rfl⟩) dX2_weigh_36
set_option maxHeartbeats 4000000 in
set_option maxRecDepth 100000 in
theorem c_X2_reset (l : Launch) (D : va_G) (cI cJ cB cZ : ClassId) (h a1 a2 a3 : Nat) (f1 f2 f3 : Nat → Int) (n sz wh : Int) (x : Int) (hx0 : 1 ≤ x ∧ x ≤ 250) (sz0 : Nat) : Met l yX2_reset wsX2_reset ({ frames := 1, cells := 0, slots := 0, locals := 20 } : Room) (Pre1 D cI cJ cB cZ [.ref h, .int (iZ x)] (wGr cI h a1 a2 a3 f1 f2 f3 n sz wh) sz0) (rwV (S := GT) D (fun U => GRu x.toNat (fun _ _ => false) (fun _ => 1) U) (fun u => wG cI h a1 a2 a3 u) (va_A (wGr cI h a1 a2 a3 f1 f2 f3 n sz wh) sz0)) 0 0 (va_A (wGr cI h a1 a2 a3 f1 f2 f3 n sz wh) sz0) := by
  refine Met.ofW (cc := cX2_reset) (maxL := 3) (ret := none) (by decide) rfl ?_
  intro p e s m args below meth c s₁ B hml hv
  obtain ⟨rfl, hsz, hP, hE, hD0⟩ := hv
  have hx := B.exec
  have hb := B.bytes
  have hr := B.returns
  have hts := atoms_spec (ws := wsX2_reset) B.pre
  have hown : s.vm.findClass RX2 = some m.cls := findClass_of_methodNamed B.named
  have hlocks := B.notSynchronized
  have hK := hE.1
  subst hsz
  have hD := hD0.self (sz := s.heap.size)
  generalize hAe : va_A (wGr cI h a1 a2 a3 f1 f2 f3 n sz wh) s.heap.size = A at hD ⊢
  have hA : ∀ q : Nat, s.heap.size ≤ q → A q := fun q h => by rw [← hAe]; exact Or.inr h
  have hS : va_S A s.heap s.heap [] := va_S.rf
  have hP : va_P D vwCl (wGr cI h a1 a2 a3 f1 f2 f3 n sz wh) s.heap := hP
  have hi_2 : ∀ w ∈ wsX20, w ∈ wsX2_reset := by decide +kernel
  have hw_1 := hts (.fieldLink RX2 21 "RankHouse$Graph" "nodes" "I") (by decide +kernel)
  have hw_2 := hts (.fieldLink RX2 25 "RankHouse$Graph" "size" "I") (by decide +kernel)
  have hw_3 := hts (.fieldLink RX2 28 "RankHouse$Graph" "whole" "I") (by decide +kernel)
  have hw_4 := hts (.fieldLink RX2 9 "RankHouse$Graph" "first" "[I") (by decide +kernel)
  have hw_5 := hts (.fieldLink RX2 18 "RankHouse$Graph" "weights" "[I") (by decide +kernel)
  have hl := lv_entry ([.ref h, .int (iZ x)]) (n := 3) (Nat.le_of_ble_eq_true rfl)
  rw [lg_entry_eq]
  generalize (lg_sl ([.ref h, .int (iZ x)]) ++ List.replicate (3 - (lg_sl ([.ref h, .int (iZ x)])).length) Slot.unset).toArray = ls at hl ⊢
  have hl : lv_has ls 3 [(0, .ref h), (1, .int (iZ x))] := hl
  refine lv_iload_n hx hb dX2_reset_0 rfl (lv_at hl 1 rfl) ?_
  refine ro_i (va_runS (As := [.int (iZ x)]) (rest := []) ⟨hx, hb, hml, hown, hts⟩ (c_X2_canHave l D cI cJ cB cZ x (by omega)) (va_cwS 1 hts gX2_reset_X2_canHave rfl rfl rfl (by decide +kernel) ⟨Nat.le_of_ble_eq_true rfl, Nat.le_of_ble_eq_true rfl⟩) (pre0S hE (hP.sub (ws' := []) [] rfl)) rfl rfl hl.1 rfl (lv_room (Nat.le_of_ble_eq_true rfl)) dX2_reset_1 ⟨Nat.le_of_ble_eq_true rfl, Nat.le_of_ble_eq_true rfl⟩) (fun r_1 hr_2 => ?_)
  rcases hr_2 with ⟨rfl, hq_3⟩ | ⟨rfl, hq_3⟩
  · refine z_if_ne (tgt := 8) hx hb dX2_reset_4 (by decide) (by omega) (fun _ => ?_) (fun c9 => absurd c9 (by decide))
    refine lv_aload_n hx hb dX2_reset_8 rfl (lv_at hl 0 rfl) ?_
    refine lv_iload_n hx hb dX2_reset_9 rfl (lv_at hl 1 rfl) ?_
    refine va_put (v := .int (iZ x)) (ty := .int) (C := RX2) (T := TX2) (N := 6) (ci := 2) hx hb hts hi_2 tyX2 tyX2_ok nmX2 hown hK hP hD hS 0 rfl rfl 3 (by decide) hw_1 (fun _ h9 => h9) rfl (by decide +kernel) rfl rfl (Nat.le_of_ble_eq_true rfl) dX2_reset_10 (fun H locs hP hD hS => ?_)
    have hP : va_P D vwCl (wGr cI h a1 a2 a3 f1 f2 f3 x sz wh) H := hP
    have hD : va_D A (wGr cI h a1 a2 a3 f1 f2 f3 x sz wh) := hD
    refine lv_aload_n hx hb dX2_reset_13 rfl (lv_at hl 0 rfl) ?_
    refine z_iconst hx hb dX2_reset_14 ?_
    refine va_put (v := .int (iZ 0)) (ty := .int) (C := RX2) (T := TX2) (N := 6) (ci := 2) hx hb hts hi_2 tyX2 tyX2_ok nmX2 hown hK hP hD hS 0 rfl rfl 4 (by decide) hw_2 (fun _ h9 => h9) rfl (by decide +kernel) rfl rfl (Nat.le_of_ble_eq_true rfl) dX2_reset_15 (fun H locs hP hD hS => ?_)
    have hP : va_P D vwCl (wGr cI h a1 a2 a3 f1 f2 f3 x 0 wh) H := hP
    have hD : va_D A (wGr cI h a1 a2 a3 f1 f2 f3 x 0 wh) := hD
    refine lv_aload_n hx hb dX2_reset_18 rfl (lv_at hl 0 rfl) ?_
    refine lv_iload_n hx hb dX2_reset_19 rfl (lv_at hl 1 rfl) ?_
    refine va_put (v := .int (iZ x)) (ty := .int) (C := RX2) (T := TX2) (N := 6) (ci := 2) hx hb hts hi_2 tyX2 tyX2_ok nmX2 hown hK hP hD hS 0 rfl rfl 5 (by decide) hw_3 (fun _ h9 => h9) rfl (by decide +kernel) rfl rfl (Nat.le_of_ble_eq_true rfl) dX2_reset_20 (fun H locs hP hD hS => ?_)
    have hP : va_P D vwCl (wGr cI h a1 a2 a3 f1 f2 f3 x 0 x) H := hP
    have hD : va_D A (wGr cI h a1 a2 a3 f1 f2 f3 x 0 x) := hD
    refine z_iconst hx hb dX2_reset_23 ?_
    refine lv_istore_n (lv' := [(2, .int (iZ 0)), (0, .ref h), (1, .int (iZ x))]) hx hb dX2_reset_24 rfl hl (by decide) rfl (fun ls hl => ?_)
    refine w_loop (fun kf H locs ls => ∃ (i : Nat), ∃ (g1 g3 : Nat → Int), kf = x.toNat - i ∧ (i ≤ x.toNat ∧ (∀ j, j < i → g1 j = 0) ∧ (∀ j, j < i → g3 j = 1)) ∧ va_P D vwCl (wGr cI h a1 a2 a3 g1 f2 g3 x 0 x) H ∧ va_D A (wGr cI h a1 a2 a3 g1 f2 g3 x 0 x) ∧ va_S A s.heap H locs ∧ lv_has ls 3 [(0, .ref h), (1, .int (iZ x)), (2, .int (iZ ↑i))]) ?_ _ ⟨0, f1, f3, rfl, ⟨by omega, fun j hj => absurd hj (Nat.not_lt_zero j), fun j hj => absurd hj (Nat.not_lt_zero j)⟩, hP, hD, hS, lv_sub hl [1, 2, 0] rfl⟩
    rintro kf H locs ls ⟨i, g1, g3, hk, ⟨i1, i2, i3⟩, hP, hD, hS, hl⟩ ih
    refine lv_iload_n hx hb dX2_reset_25 rfl (lv_at hl 2 rfl) ?_
    refine lv_iload_n hx hb dX2_reset_26 rfl (lv_at hl 1 rfl) ?_
    refine z_icmp_ge (tgt := 50) hx hb dX2_reset_27 (by decide) (by omega) (by omega) (fun c_4 => ?_) (fun c_4 => ?_)
    · refine lv_aload_n hx hb dX2_reset_50 rfl (lv_at hl 0 rfl) ?_
      refine va_get (v := .ref a1) (C := RX2) (T := TX2) (N := 6) (ci := 2) hx hb hts hi_2 hown hK hP 0 rfl rfl 0 (by decide) hw_4 (fun _ h9 => h9) rfl dX2_reset_51 ?_
      refine lv_iload_n hx hb dX2_reset_54 rfl (lv_at hl 1 rfl) ?_
      refine z_iconst hx hb dX2_reset_55 ?_
      refine z_iast hx hb hK hP hD hS 1 0 rfl rfl x.toNat (by omega) (by omega) (by omega) dX2_reset_56 (fun H locs hP hD hS => ?_)
      have hP : va_P D vwCl (wGr cI h a1 a2 a3 (uZ g1 x.toNat 0) f2 g3 x 0 x) H := hP
      have hD : va_D A (wGr cI h a1 a2 a3 (uZ g1 x.toNat 0) f2 g3 x 0 x) := hD
      exact rw_vret (uZ g1 x.toNat 0, f2, g3, x, 0, x) hx hb hr hlocks hP hD hS (by have q9 : ((x.toNat : Nat) : Int) = x := (by omega); have q8 := GR_reset (f2 := f2) (show 1 ≤ x.toNat by omega) (by omega) (uZ_all (show ∀ j, j < x.toNat → g1 j = 0 from fun j hj => i2 j (by omega))) (fun j hj => i3 j (by omega)); rw [q9] at q8; exact q8) dX2_reset_57
    · refine lv_aload_n hx hb dX2_reset_30 rfl (lv_at hl 0 rfl) ?_
      refine va_get (v := .ref a3) (C := RX2) (T := TX2) (N := 6) (ci := 2) hx hb hts hi_2 hown hK hP 0 rfl rfl 2 (by decide) hw_5 (fun _ h9 => h9) rfl dX2_reset_31 ?_
      refine lv_iload_n hx hb dX2_reset_34 rfl (lv_at hl 2 rfl) ?_
      refine z_iconst hx hb dX2_reset_35 ?_
      refine z_iast hx hb hK hP hD hS 3 0 rfl rfl i (by omega) (by omega) (by omega) dX2_reset_36 (fun H locs hP hD hS => ?_)
      have hP : va_P D vwCl (wGr cI h a1 a2 a3 g1 f2 (uZ g3 i 1) x 0 x) H := hP
      have hD : va_D A (wGr cI h a1 a2 a3 g1 f2 (uZ g3 i 1) x 0 x) := hD
      refine lv_aload_n hx hb dX2_reset_37 rfl (lv_at hl 0 rfl) ?_
      refine va_get (v := .ref a1) (C := RX2) (T := TX2) (N := 6) (ci := 2) hx hb hts hi_2 hown hK hP 0 rfl rfl 0 (by decide) hw_4 (fun _ h9 => h9) rfl dX2_reset_38 ?_
      refine lv_iload_n hx hb dX2_reset_41 rfl (lv_at hl 2 rfl) ?_
      refine z_iconst hx hb dX2_reset_42 ?_
      refine z_iast hx hb hK hP hD hS 1 0 rfl rfl i (by omega) (by omega) (by omega) dX2_reset_43 (fun H locs hP hD hS => ?_)
      have hP : va_P D vwCl (wGr cI h a1 a2 a3 (uZ g1 i 0) f2 (uZ g3 i 1) x 0 x) H := hP
      have hD : va_D A (wGr cI h a1 a2 a3 (uZ g1 i 0) f2 (uZ g3 i 1) x 0 x) := hD
      refine lv_iinc (v := iZ (↑i + 1)) (lv' := [(2, .int (iZ (↑i + 1))), (0, .ref h), (1, .int (iZ x))]) hx hb dX2_reset_44 hl (k := 2) rfl (show iZ ↑i + iZ 1 = _ from iZ_add _ _) (by decide) rfl (fun ls hl => ?_)
      refine lv_goto (tgt := 25) hx hb dX2_reset_47 (by decide) ?_
      exact ih _ _ _ _ (by omega) ⟨(i + 1), (uZ g1 i 0), (uZ g3 i 1), rfl, ⟨by omega, reset_step (f := f1) i2, reset_step (f := f1) i3⟩, hP, hD, hS, lv_sub hl [1, 2, 0] rfl⟩
  · exact absurd hx0 hq_3
end
section
set_option maxHeartbeats 4000000 in
set_option maxRecDepth 100000 in
theorem c_X0_put (l : Launch) (D : va_G) (cI cJ cB cZ : ClassId) (NB : Nat) (h a : Nat) (f : Nat → Int) (len : Int) (o : Int) (hN : NB < 100000) (hl0 : 0 ≤ len ∧ len < NB) (sz0 : Nat) : Met l yX0_put wsX0_put ({ frames := 0, cells := 0, slots := 0, locals := 0 } : Room) (Pre1 D cI cJ cB cZ [.ref h, .int (iZ o)] (wBR NB cI h a f len) sz0) (rwV (S := (Nat → Int) × Int) D (fun U => U = (uZ f len.toNat (o % 256), len + 1)) (fun u => wBR NB cI h a u.1 u.2) (va_A (wBR NB cI h a f len) sz0)) 0 0 (va_A (wBR NB cI h a f len) sz0) := by
  refine Met.ofW (cc := cX0_put) (maxL := 2) (ret := none) (by decide) rfl ?_
  intro p e s m args below meth c s₁ B hml hv
  obtain ⟨rfl, hsz, hP, hE, hD0⟩ := hv
  have hx := B.exec
  have hb := B.bytes
  have hr := B.returns
  have hts := atoms_spec (ws := wsX0_put) B.pre
  have hown : s.vm.findClass RX0 = some m.cls := findClass_of_methodNamed B.named
  have hlocks := B.notSynchronized
  have hK := hE.1
  subst hsz
  have hD := hD0.self (sz := s.heap.size)
  generalize hAe : va_A (wBR NB cI h a f len) s.heap.size = A at hD ⊢
  have hA : ∀ q : Nat, s.heap.size ≤ q → A q := fun q h => by rw [← hAe]; exact Or.inr h
  have hS : va_S A s.heap s.heap [] := va_S.rf
  have hP : va_P D vwCl (wBR NB cI h a f len) s.heap := hP
  have hi_0 : ∀ w ∈ wsX00, w ∈ wsX0_put := by decide +kernel
  have hw_1 := hts (.fieldLink RX0 9 "RankHouse$ByteRow" "length" "I") (by decide +kernel)
  have hw_2 := hts (.fieldLink RX0 21 "RankHouse$ByteRow" "bytes" "[I") (by decide +kernel)
  have hl := lv_entry ([.ref h, .int (iZ o)]) (n := 2) (Nat.le_of_ble_eq_true rfl)
  rw [lg_entry_eq]
  generalize (lg_sl ([.ref h, .int (iZ o)]) ++ List.replicate (2 - (lg_sl ([.ref h, .int (iZ o)])).length) Slot.unset).toArray = ls at hl ⊢
  have hl : lv_has ls 2 [(0, .ref h), (1, .int (iZ o))] := hl
  refine lv_aload_n hx hb dX0_put_0 rfl (lv_at hl 0 rfl) ?_
  refine va_get (v := .int (iZ len)) (C := RX0) (T := TX0) (N := 2) (ci := 0) hx hb hts hi_0 hown hK hP 0 rfl rfl 1 (by decide) hw_1 (fun _ h9 => h9) rfl dX0_put_1 ?_
  refine lv_aload_n hx hb dX0_put_4 rfl (lv_at hl 0 rfl) ?_
  refine va_get (v := .ref a) (C := RX0) (T := TX0) (N := 2) (ci := 0) hx hb hts hi_0 hown hK hP 0 rfl rfl 0 (by decide) hw_2 (fun _ h9 => h9) rfl dX0_put_5 ?_
  refine va_alen (v := iZ ((NB : Nat) : Int)) hx hb hK hP 1 0 rfl rfl (iZ_n _).symm dX0_put_8 ?_
  refine z_icmp_ge (tgt := 36) hx hb dX0_put_9 (by decide) (by omega) (by omega) (fun c_1 => absurd c_1 (by omega)) (fun c_1 => ?_)
  refine lv_aload_n hx hb dX0_put_12 rfl (lv_at hl 0 rfl) ?_
  refine va_get (v := .ref a) (C := RX0) (T := TX0) (N := 2) (ci := 0) hx hb hts hi_0 hown hK hP 0 rfl rfl 0 (by decide) hw_2 (fun _ h9 => h9) rfl dX0_put_13 ?_
  refine lv_aload_n hx hb dX0_put_16 rfl (lv_at hl 0 rfl) ?_
  refine va_get (v := .int (iZ len)) (C := RX0) (T := TX0) (N := 2) (ci := 0) hx hb hts hi_0 hown hK hP 0 rfl rfl 1 (by decide) hw_1 (fun _ h9 => h9) rfl dX0_put_17 ?_
  refine lv_iload_n hx hb dX0_put_20 rfl (lv_at hl 1 rfl) ?_
  refine z_sipush hx hb dX0_put_21 (by decide) ?_
  refine z_iand (o % 256) hx hb dX0_put_24 (iZ_and255 o) ?_
  refine z_iast hx hb hK hP hD hS 1 0 rfl rfl len.toNat (by omega) (by omega) (by omega) dX0_put_25 (fun H locs hP hD hS => ?_)
  have hP : va_P D vwCl (wBR NB cI h a (uZ f len.toNat (o % 256)) len) H := hP
  have hD : va_D A (wBR NB cI h a (uZ f len.toNat (o % 256)) len) := hD
  refine lv_aload_n hx hb dX0_put_26 rfl (lv_at hl 0 rfl) ?_
  refine lv_dup hx hb dX0_put_27 rfl ?_
  refine va_get (v := .int (iZ len)) (C := RX0) (T := TX0) (N := 2) (ci := 0) hx hb hts hi_0 hown hK hP 0 rfl rfl 1 (by decide) hw_1 (fun _ h9 => h9) rfl dX0_put_28 ?_
  refine z_iconst hx hb dX0_put_31 ?_
  refine z_iadd hx hb dX0_put_32 ?_
  refine va_put (v := .int (iZ (len + 1))) (ty := .int) (C := RX0) (T := TX0) (N := 2) (ci := 0) hx hb hts hi_0 tyX0 tyX0_ok nmX0 hown hK hP hD hS 0 rfl rfl 1 (by decide) hw_1 (fun _ h9 => h9) rfl (by decide +kernel) rfl rfl (Nat.le_of_ble_eq_true rfl) dX0_put_33 (fun H locs hP hD hS => ?_)
  have hP : va_P D vwCl (wBR NB cI h a (uZ f len.toNat (o % 256)) (len + 1)) H := hP
  have hD : va_D A (wBR NB cI h a (uZ f len.toNat (o % 256)) (len + 1)) := hD
  exact rw_vret (uZ f len.toNat (o % 256), len + 1) hx hb hr hlocks hP hD hS rfl dX0_put_36
set_option maxHeartbeats 4000000 in
set_option maxRecDepth 100000 in
theorem c_X0_putFour (l : Launch) (D : va_G) (cI cJ cB cZ : ClassId) (NB : Nat) (h a : Nat) (f : Nat → Int) (len : Int) (o : Int) (hN : NB < 100000) (hl0 : 0 ≤ len ∧ len + 4 ≤ NB) (sz0 : Nat) : Met l yX0_putFour wsX0_putFour ({ frames := 1, cells := 0, slots := 0, locals := 21 } : Room) (Pre1 D cI cJ cB cZ [.ref h, .int (iZ o)] (wBR NB cI h a f len) sz0) (rwV (S := (Nat → Int) × Int) D (fun U => U = (p4 f len.toNat o, len + 4)) (fun u => wBR NB cI h a u.1 u.2) (va_A (wBR NB cI h a f len) sz0)) 0 0 (va_A (wBR NB cI h a f len) sz0) := by
  refine Met.ofW (cc := cX0_putFour) (maxL := 2) (ret := none) (by decide) rfl ?_
  intro p e s m args below meth c s₁ B hml hv
  obtain ⟨rfl, hsz, hP, hE, hD0⟩ := hv
  have hx := B.exec
  have hb := B.bytes
  have hr := B.returns
  have hts := atoms_spec (ws := wsX0_putFour) B.pre
  have hown : s.vm.findClass RX0 = some m.cls := findClass_of_methodNamed B.named
  have hlocks := B.notSynchronized
  have hK := hE.1
  subst hsz
  have hD := hD0.self (sz := s.heap.size)
  generalize hAe : va_A (wBR NB cI h a f len) s.heap.size = A at hD ⊢
  have hA : ∀ q : Nat, s.heap.size ≤ q → A q := fun q h => by rw [← hAe]; exact Or.inr h
  have hS : va_S A s.heap s.heap [] := va_S.rf
  have hP : va_P D vwCl (wBR NB cI h a f len) s.heap := hP
  have hl := lv_entry ([.ref h, .int (iZ o)]) (n := 2) (Nat.le_of_ble_eq_true rfl)
  rw [lg_entry_eq]
  generalize (lg_sl ([.ref h, .int (iZ o)]) ++ List.replicate (2 - (lg_sl ([.ref h, .int (iZ o)])).length) Slot.unset).toArray = ls at hl ⊢
  have hl : lv_has ls 2 [(0, .ref h), (1, .int (iZ o))] := hl
  refine lv_aload_n hx hb dX0_putFour_0 rfl (lv_at hl 0 rfl) ?_
  refine lv_iload_n hx hb dX0_putFour_1 rfl (lv_at hl 1 rfl) ?_
  refine z_bipush hx hb dX0_putFour_2 (by decide) ?_
  refine z_iushr _ hx hb dX0_putFour_4 (iZ_ushr o 24 24 rfl) ?_
  refine rw_v (wr := []) (va_runV (As := [.int (iZ (((o % 4294967296).toNat / 2 ^ 24 : Nat) : Int))]) (rest := []) ⟨hx, hb, hml, hown, hts⟩ (c_X0_put l D cI cJ cB cZ NB h a f len (((o % 4294967296).toNat / 2 ^ 24 : Nat) : Int) hN (by omega) _) (cwV 1 hts gX0_putFour_X0_put rfl rfl rfl (by decide +kernel) ⟨Nat.le_of_ble_eq_true rfl, Nat.le_of_ble_eq_true rfl⟩) (pre1V hE hP hD 0 rfl rfl) rfl rfl hl.1 rfl (lv_room (Nat.le_of_ble_eq_true rfl)) dX0_putFour_5 ⟨Nat.le_of_ble_eq_true rfl, Nat.le_of_ble_eq_true rfl⟩) hP hD hS hA [0, 1] [] rfl rfl (by decide) (by decide) (fun u_3 H locs hr_2 hP hD hS => ?_)
  subst hr_2
  have hP := hP.sub (ws' := (wBR NB cI h a (uZ f len.toNat ((((o % 4294967296).toNat / 2 ^ 24 : Nat) : Int) % 256)) (len + 1))) [0, 1] rfl
  have hD := hD.sub (ws' := (wBR NB cI h a (uZ f len.toNat ((((o % 4294967296).toNat / 2 ^ 24 : Nat) : Int) % 256)) (len + 1))) [0, 1] (by decide) rfl
  refine lv_aload_n hx hb dX0_putFour_8 rfl (lv_at hl 0 rfl) ?_
  refine lv_iload_n hx hb dX0_putFour_9 rfl (lv_at hl 1 rfl) ?_
  refine z_bipush hx hb dX0_putFour_10 (by decide) ?_
  refine z_iushr _ hx hb dX0_putFour_12 (iZ_ushr o 16 16 rfl) ?_
  refine rw_v (wr := []) (va_runV (As := [.int (iZ (((o % 4294967296).toNat / 2 ^ 16 : Nat) : Int))]) (rest := []) ⟨hx, hb, hml, hown, hts⟩ (c_X0_put l D cI cJ cB cZ NB h a (uZ f len.toNat ((((o % 4294967296).toNat / 2 ^ 24 : Nat) : Int) % 256)) (len + 1) (((o % 4294967296).toNat / 2 ^ 16 : Nat) : Int) hN (by omega) _) (cwV 1 hts gX0_putFour_X0_put rfl rfl rfl (by decide +kernel) ⟨Nat.le_of_ble_eq_true rfl, Nat.le_of_ble_eq_true rfl⟩) (pre1V hE hP hD 0 rfl rfl) rfl rfl hl.1 rfl (lv_room (Nat.le_of_ble_eq_true rfl)) dX0_putFour_13 ⟨Nat.le_of_ble_eq_true rfl, Nat.le_of_ble_eq_true rfl⟩) hP hD hS hA [0, 1] [] rfl rfl (by decide) (by decide) (fun u_6 H locs hr_5 hP hD hS => ?_)
  subst hr_5
  have hP := hP.sub (ws' := (wBR NB cI h a (uZ (uZ f len.toNat ((((o % 4294967296).toNat / 2 ^ 24 : Nat) : Int) % 256)) (len + 1).toNat ((((o % 4294967296).toNat / 2 ^ 16 : Nat) : Int) % 256)) (len + 1 + 1))) [0, 1] rfl
  have hD := hD.sub (ws' := (wBR NB cI h a (uZ (uZ f len.toNat ((((o % 4294967296).toNat / 2 ^ 24 : Nat) : Int) % 256)) (len + 1).toNat ((((o % 4294967296).toNat / 2 ^ 16 : Nat) : Int) % 256)) (len + 1 + 1))) [0, 1] (by decide) rfl
  refine lv_aload_n hx hb dX0_putFour_16 rfl (lv_at hl 0 rfl) ?_
  refine lv_iload_n hx hb dX0_putFour_17 rfl (lv_at hl 1 rfl) ?_
  refine z_bipush hx hb dX0_putFour_18 (by decide) ?_
  refine z_iushr _ hx hb dX0_putFour_20 (iZ_ushr o 8 8 rfl) ?_
  refine rw_v (wr := []) (va_runV (As := [.int (iZ (((o % 4294967296).toNat / 2 ^ 8 : Nat) : Int))]) (rest := []) ⟨hx, hb, hml, hown, hts⟩ (c_X0_put l D cI cJ cB cZ NB h a (uZ (uZ f len.toNat ((((o % 4294967296).toNat / 2 ^ 24 : Nat) : Int) % 256)) (len + 1).toNat ((((o % 4294967296).toNat / 2 ^ 16 : Nat) : Int) % 256)) (len + 1 + 1) (((o % 4294967296).toNat / 2 ^ 8 : Nat) : Int) hN (by omega) _) (cwV 1 hts gX0_putFour_X0_put rfl rfl rfl (by decide +kernel) ⟨Nat.le_of_ble_eq_true rfl, Nat.le_of_ble_eq_true rfl⟩) (pre1V hE hP hD 0 rfl rfl) rfl rfl hl.1 rfl (lv_room (Nat.le_of_ble_eq_true rfl)) dX0_putFour_21 ⟨Nat.le_of_ble_eq_true rfl, Nat.le_of_ble_eq_true rfl⟩) hP hD hS hA [0, 1] [] rfl rfl (by decide) (by decide) (fun u_9 H locs hr_8 hP hD hS => ?_)
  subst hr_8
  have hP := hP.sub (ws' := (wBR NB cI h a (uZ (uZ (uZ f len.toNat ((((o % 4294967296).toNat / 2 ^ 24 : Nat) : Int) % 256)) (len + 1).toNat ((((o % 4294967296).toNat / 2 ^ 16 : Nat) : Int) % 256)) (len + 1 + 1).toNat ((((o % 4294967296).toNat / 2 ^ 8 : Nat) : Int) % 256)) (len + 1 + 1 + 1))) [0, 1] rfl
  have hD := hD.sub (ws' := (wBR NB cI h a (uZ (uZ (uZ f len.toNat ((((o % 4294967296).toNat / 2 ^ 24 : Nat) : Int) % 256)) (len + 1).toNat ((((o % 4294967296).toNat / 2 ^ 16 : Nat) : Int) % 256)) (len + 1 + 1).toNat ((((o % 4294967296).toNat / 2 ^ 8 : Nat) : Int) % 256)) (len + 1 + 1 + 1))) [0, 1] (by decide) rfl
  refine lv_aload_n hx hb dX0_putFour_24 rfl (lv_at hl 0 rfl) ?_
  refine lv_iload_n hx hb dX0_putFour_25 rfl (lv_at hl 1 rfl) ?_
  refine rw_v (wr := []) (va_runV (As := [.int (iZ o)]) (rest := []) ⟨hx, hb, hml, hown, hts⟩ (c_X0_put l D cI cJ cB cZ NB h a (uZ (uZ (uZ f len.toNat ((((o % 4294967296).toNat / 2 ^ 24 : Nat) : Int) % 256)) (len + 1).toNat ((((o % 4294967296).toNat / 2 ^ 16 : Nat) : Int) % 256)) (len + 1 + 1).toNat ((((o % 4294967296).toNat / 2 ^ 8 : Nat) : Int) % 256)) (len + 1 + 1 + 1) o hN (by omega) _) (cwV 1 hts gX0_putFour_X0_put rfl rfl rfl (by decide +kernel) ⟨Nat.le_of_ble_eq_true rfl, Nat.le_of_ble_eq_true rfl⟩) (pre1V hE hP hD 0 rfl rfl) rfl rfl hl.1 rfl (lv_room (Nat.le_of_ble_eq_true rfl)) dX0_putFour_26 ⟨Nat.le_of_ble_eq_true rfl, Nat.le_of_ble_eq_true rfl⟩) hP hD hS hA [0, 1] [] rfl rfl (by decide) (by decide) (fun u_12 H locs hr_11 hP hD hS => ?_)
  subst hr_11
  have hP := hP.sub (ws' := (wBR NB cI h a (uZ (uZ (uZ (uZ f len.toNat ((((o % 4294967296).toNat / 2 ^ 24 : Nat) : Int) % 256)) (len + 1).toNat ((((o % 4294967296).toNat / 2 ^ 16 : Nat) : Int) % 256)) (len + 1 + 1).toNat ((((o % 4294967296).toNat / 2 ^ 8 : Nat) : Int) % 256)) (len + 1 + 1 + 1).toNat (o % 256)) (len + 1 + 1 + 1 + 1))) [0, 1] rfl
  have hD := hD.sub (ws' := (wBR NB cI h a (uZ (uZ (uZ (uZ f len.toNat ((((o % 4294967296).toNat / 2 ^ 24 : Nat) : Int) % 256)) (len + 1).toNat ((((o % 4294967296).toNat / 2 ^ 16 : Nat) : Int) % 256)) (len + 1 + 1).toNat ((((o % 4294967296).toNat / 2 ^ 8 : Nat) : Int) % 256)) (len + 1 + 1 + 1).toNat (o % 256)) (len + 1 + 1 + 1 + 1))) [0, 1] (by decide) rfl
  exact rw_vret (uZ (uZ (uZ (uZ f len.toNat ((((o % 4294967296).toNat / 2 ^ 24 : Nat) : Int) % 256)) (len + 1).toNat ((((o % 4294967296).toNat / 2 ^ 16 : Nat) : Int) % 256)) (len + 1 + 1).toNat ((((o % 4294967296).toNat / 2 ^ 8 : Nat) : Int) % 256)) (len + 1 + 1 + 1).toNat (o % 256), len + 1 + 1 + 1 + 1) hx hb hr hlocks hP hD hS (by rw [p4_eq hl0.1]; rw [show len + 1 + 1 + 1 + 1 = len + 4 by omega]) dX0_putFour_29
set_option maxHeartbeats 4000000 in
set_option maxRecDepth 100000 in
theorem c_X0_putUnsigned (l : Launch) (D : va_G) (cI cJ cB cZ : ClassId) (NB : Nat) (h a : Nat) (f : Nat → Int) (len : Int) (o : Int) (hN : NB < 100000) (ho : 0 ≤ o ∧ o < 16384) (hl0 : 0 ≤ len ∧ len + lU o ≤ NB) (sz0 : Nat) : Met l yX0_putUnsigned wsX0_putUnsigned ({ frames := 1, cells := 0, slots := 0, locals := 21 } : Room) (Pre1 D cI cJ cB cZ [.ref h, .int (iZ o)] (wBR NB cI h a f len) sz0) (rwV (S := (Nat → Int) × Int) D (fun U => U = (pU f len.toNat o, len + lU o)) (fun u => wBR NB cI h a u.1 u.2) (va_A (wBR NB cI h a f len) sz0)) 0 0 (va_A (wBR NB cI h a f len) sz0) := by
  refine Met.ofW (cc := cX0_putUnsigned) (maxL := 4) (ret := none) (by decide) rfl ?_
  intro p e s m args below meth c s₁ B hml hv
  obtain ⟨rfl, hsz, hP, hE, hD0⟩ := hv
  have hx := B.exec
  have hb := B.bytes
  have hr := B.returns
  have hts := atoms_spec (ws := wsX0_putUnsigned) B.pre
  have hown : s.vm.findClass RX0 = some m.cls := findClass_of_methodNamed B.named
  have hlocks := B.notSynchronized
  have hK := hE.1
  subst hsz
  have hD := hD0.self (sz := s.heap.size)
  generalize hAe : va_A (wBR NB cI h a f len) s.heap.size = A at hD ⊢
  have hA : ∀ q : Nat, s.heap.size ≤ q → A q := fun q h => by rw [← hAe]; exact Or.inr h
  have hS : va_S A s.heap s.heap [] := va_S.rf
  have hP : va_P D vwCl (wBR NB cI h a f len) s.heap := hP
  have hl := lv_entry ([.ref h, .int (iZ o)]) (n := 4) (Nat.le_of_ble_eq_true rfl)
  rw [lg_entry_eq]
  generalize (lg_sl ([.ref h, .int (iZ o)]) ++ List.replicate (4 - (lg_sl ([.ref h, .int (iZ o)])).length) Slot.unset).toArray = ls at hl ⊢
  have hl : lv_has ls 4 [(0, .ref h), (1, .int (iZ o))] := hl
  refine lv_iload_n hx hb dX0_putUnsigned_0 rfl (lv_at hl 1 rfl) ?_
  refine lv_istore_n (lv' := [(2, .int (iZ o)), (0, .ref h), (1, .int (iZ o))]) hx hb dX0_putUnsigned_1 rfl hl (by decide) rfl (fun ls hl => ?_)
  refine z_iconst hx hb dX0_putUnsigned_2 ?_
  refine lv_istore_n (lv' := [(3, .int (iZ 0)), (2, .int (iZ o)), (0, .ref h), (1, .int (iZ o))]) hx hb dX0_putUnsigned_3 rfl hl (by decide) rfl (fun ls hl => ?_)
  refine lv_iload_n hx hb dX0_putUnsigned_4 rfl (lv_at hl 0 rfl) ?_
  refine z_bipush hx hb dX0_putUnsigned_5 (by decide) ?_
  refine z_icmp_ge (tgt := 39) hx hb dX0_putUnsigned_7 (by decide) (by omega) (by omega) (fun c9 => absurd c9 (by decide)) (fun _ => ?_)
  refine lv_iload_n hx hb dX0_putUnsigned_10 rfl (lv_at hl 1 rfl) ?_
  refine z_bipush hx hb dX0_putUnsigned_11 (by decide) ?_
  refine z_icmp_le (tgt := 39) hx hb dX0_putUnsigned_13 (by decide) (by omega) (by omega) (fun c_1 => ?_) (fun c_1 => ?_)
  · have q2 : 1 ≤ lU o := by rw [lU]; split <;> omega
    refine lv_aload_n hx hb dX0_putUnsigned_39 rfl (lv_at hl 2 rfl) ?_
    refine lv_iload_n hx hb dX0_putUnsigned_40 rfl (lv_at hl 1 rfl) ?_
    refine rw_v (wr := []) (va_runV (As := [.int (iZ o)]) (rest := []) ⟨hx, hb, hml, hown, hts⟩ (c_X0_put l D cI cJ cB cZ NB h a f len o hN (by omega) _) (cwV 1 hts gX0_putUnsigned_X0_put rfl rfl rfl (by decide +kernel) ⟨Nat.le_of_ble_eq_true rfl, Nat.le_of_ble_eq_true rfl⟩) (pre1V hE hP hD 0 rfl rfl) rfl rfl hl.1 rfl (lv_room (Nat.le_of_ble_eq_true rfl)) dX0_putUnsigned_41 ⟨Nat.le_of_ble_eq_true rfl, Nat.le_of_ble_eq_true rfl⟩) hP hD hS hA [0, 1] [] rfl rfl (by decide) (by decide) (fun u_4 H locs hr_3 hP hD hS => ?_)
    subst hr_3
    have hP := hP.sub (ws' := (wBR NB cI h a (uZ f len.toNat (o % 256)) (len + 1))) [0, 1] rfl
    have hD := hD.sub (ws' := (wBR NB cI h a (uZ f len.toNat (o % 256)) (len + 1))) [0, 1] (by decide) rfl
    exact rw_vret (uZ f len.toNat (o % 256), len + 1) hx hb hr hlocks hP hD hS (pU_1 (by omega)) dX0_putUnsigned_44
  · have q1 : lU o = 2 := by rw [lU, if_neg (by omega)]
    refine lv_aload_n hx hb dX0_putUnsigned_16 rfl (lv_at hl 2 rfl) ?_
    refine z_sipush hx hb dX0_putUnsigned_17 (by decide) ?_
    refine lv_iload_n hx hb dX0_putUnsigned_20 rfl (lv_at hl 1 rfl) ?_
    refine z_bipush hx hb dX0_putUnsigned_21 (by decide) ?_
    refine z_iand (o % 128) hx hb dX0_putUnsigned_23 (iZ_and127 o) ?_
    refine z_ior (128 + o % 128) hx hb dX0_putUnsigned_24 (iZ_or128 (by omega)) ?_
    refine rw_v (wr := []) (va_runV (As := [.int (iZ (128 + o % 128))]) (rest := []) ⟨hx, hb, hml, hown, hts⟩ (c_X0_put l D cI cJ cB cZ NB h a f len (128 + o % 128) hN (by omega) _) (cwV 1 hts gX0_putUnsigned_X0_put rfl rfl rfl (by decide +kernel) ⟨Nat.le_of_ble_eq_true rfl, Nat.le_of_ble_eq_true rfl⟩) (pre1V hE hP hD 0 rfl rfl) rfl rfl hl.1 rfl (lv_room (Nat.le_of_ble_eq_true rfl)) dX0_putUnsigned_25 ⟨Nat.le_of_ble_eq_true rfl, Nat.le_of_ble_eq_true rfl⟩) hP hD hS hA [0, 1] [] rfl rfl (by decide) (by decide) (fun u_7 H locs hr_6 hP hD hS => ?_)
    subst hr_6
    have hP := hP.sub (ws' := (wBR NB cI h a (uZ f len.toNat ((128 + o % 128) % 256)) (len + 1))) [0, 1] rfl
    have hD := hD.sub (ws' := (wBR NB cI h a (uZ f len.toNat ((128 + o % 128) % 256)) (len + 1))) [0, 1] (by decide) rfl
    refine lv_iload_n hx hb dX0_putUnsigned_28 rfl (lv_at hl 1 rfl) ?_
    refine z_bipush hx hb dX0_putUnsigned_29 (by decide) ?_
    refine z_iushr _ hx hb dX0_putUnsigned_31 (iZ_ushr o 7 7 rfl) ?_
    refine lv_istore_n (lv' := [(2, .int (iZ (((o % 4294967296).toNat / 2 ^ 7 : Nat) : Int))), (3, .int (iZ 0)), (0, .ref h), (1, .int (iZ o))]) hx hb dX0_putUnsigned_32 rfl hl (by decide) rfl (fun ls hl => ?_)
    refine lv_iinc (v := iZ (7)) (lv' := [(3, .int (iZ 7)), (2, .int (iZ (((o % 4294967296).toNat / 2 ^ 7 : Nat) : Int))), (0, .ref h), (1, .int (iZ o))]) hx hb dX0_putUnsigned_33 hl (k := 1) rfl (show iZ 0 + iZ 7 = _ from iZ_add _ _) (by decide) rfl (fun ls hl => ?_)
    refine lv_goto (tgt := 4) hx hb dX0_putUnsigned_36 (by decide) ?_
    refine lv_iload_n hx hb dX0_putUnsigned_4 rfl (lv_at hl 0 rfl) ?_
    refine z_bipush hx hb dX0_putUnsigned_5 (by decide) ?_
    refine z_icmp_ge (tgt := 39) hx hb dX0_putUnsigned_7 (by decide) (by omega) (by omega) (fun c9 => absurd c9 (by decide)) (fun _ => ?_)
    refine lv_iload_n hx hb dX0_putUnsigned_10 rfl (lv_at hl 1 rfl) ?_
    refine z_bipush hx hb dX0_putUnsigned_11 (by decide) ?_
    refine z_icmp_le (tgt := 39) hx hb dX0_putUnsigned_13 (by decide) (by omega) (by omega) (fun c_8 => ?_) (fun c_8 => absurd c_8 (by omega))
    have q2 : 1 ≤ lU o := by rw [lU]; split <;> omega
    refine lv_aload_n hx hb dX0_putUnsigned_39 rfl (lv_at hl 2 rfl) ?_
    refine lv_iload_n hx hb dX0_putUnsigned_40 rfl (lv_at hl 1 rfl) ?_
    refine rw_v (wr := []) (va_runV (As := [.int (iZ (((o % 4294967296).toNat / 2 ^ 7 : Nat) : Int))]) (rest := []) ⟨hx, hb, hml, hown, hts⟩ (c_X0_put l D cI cJ cB cZ NB h a (uZ f len.toNat ((128 + o % 128) % 256)) (len + 1) (((o % 4294967296).toNat / 2 ^ 7 : Nat) : Int) hN (by omega) _) (cwV 1 hts gX0_putUnsigned_X0_put rfl rfl rfl (by decide +kernel) ⟨Nat.le_of_ble_eq_true rfl, Nat.le_of_ble_eq_true rfl⟩) (pre1V hE hP hD 0 rfl rfl) rfl rfl hl.1 rfl (lv_room (Nat.le_of_ble_eq_true rfl)) dX0_putUnsigned_41 ⟨Nat.le_of_ble_eq_true rfl, Nat.le_of_ble_eq_true rfl⟩) hP hD hS hA [0, 1] [] rfl rfl (by decide) (by decide) (fun u_11 H locs hr_10 hP hD hS => ?_)
    subst hr_10
    have hP := hP.sub (ws' := (wBR NB cI h a (uZ (uZ f len.toNat ((128 + o % 128) % 256)) (len + 1).toNat ((((o % 4294967296).toNat / 2 ^ 7 : Nat) : Int) % 256)) (len + 1 + 1))) [0, 1] rfl
    have hD := hD.sub (ws' := (wBR NB cI h a (uZ (uZ f len.toNat ((128 + o % 128) % 256)) (len + 1).toNat ((((o % 4294967296).toNat / 2 ^ 7 : Nat) : Int) % 256)) (len + 1 + 1))) [0, 1] (by decide) rfl
    exact rw_vret (uZ (uZ f len.toNat ((128 + o % 128) % 256)) (len + 1).toNat ((((o % 4294967296).toNat / 2 ^ 7 : Nat) : Int) % 256), len + 1 + 1) hx hb hr hlocks hP hD hS (pU_2 hl0.1 (by omega)) dX0_putUnsigned_44
set_option maxHeartbeats 4000000 in
set_option maxRecDepth 100000 in
theorem c_X3_place (l : Launch) (D : va_G) (cI cJ cB cZ : ClassId) (h a1 a2 : Nat) (f1 f2 : Nat → Int) (sz : Int) (x y : Int) (hs : 0 ≤ sz ∧ sz < 250) (hy : 0 ≤ y ∧ y < 4611686018427387904) (hf : ∀ j, j < sz.toNat → 0 ≤ f2 j ∧ f2 j < 4611686018427387904) (sz0 : Nat) : Met l yX3_place wsX3_place ({ frames := 0, cells := 0, slots := 0, locals := 0 } : Room) (Pre1 D cI cJ cB cZ [.ref h, .int (iZ x), .long (lZ y)] (wOr cI cJ h a1 a2 f1 f2 sz) sz0) (rwV (S := (Nat → Int) × (Nat → Int) × Int) D (fun U => ∃ a : Nat, a ≤ sz.toNat ∧ (∀ j, a ≤ j → j < sz.toNat → f2 j < y) ∧ (a = 0 ∨ y ≤ f2 (a - 1)) ∧ U = (shf f1 a sz.toNat x, shf f2 a sz.toNat y, sz + 1)) (fun u => wOr cI cJ h a1 a2 u.1 u.2.1 u.2.2) (va_A (wOr cI cJ h a1 a2 f1 f2 sz) sz0)) 0 0 (va_A (wOr cI cJ h a1 a2 f1 f2 sz) sz0) := by
  refine Met.ofW (cc := cX3_place) (maxL := 5) (ret := none) (by decide) rfl ?_
  intro p e s m args below meth c s₁ B hml hv
  obtain ⟨rfl, hsz, hP, hE, hD0⟩ := hv
  have hx := B.exec
  have hb := B.bytes
  have hr := B.returns
  have hts := atoms_spec (ws := wsX3_place) B.pre
  have hown : s.vm.findClass RX3 = some m.cls := findClass_of_methodNamed B.named
  have hlocks := B.notSynchronized
  have hK := hE.1
  subst hsz
  have hD := hD0.self (sz := s.heap.size)
  generalize hAe : va_A (wOr cI cJ h a1 a2 f1 f2 sz) s.heap.size = A at hD ⊢
  have hA : ∀ q : Nat, s.heap.size ≤ q → A q := fun q h => by rw [← hAe]; exact Or.inr h
  have hS : va_S A s.heap s.heap [] := va_S.rf
  have hP : va_P D vwCl (wOr cI cJ h a1 a2 f1 f2 sz) s.heap := hP
  have hi_3 : ∀ w ∈ wsX30, w ∈ wsX3_place := by decide +kernel
  have hw_1 := hts (.fieldLink RX3 19 "RankHouse$Order" "size" "I") (by decide +kernel)
  have hw_2 := hts (.fieldLink RX3 9 "RankHouse$Order" "nodes" "[I") (by decide +kernel)
  have hw_3 := hts (.fieldLink RX3 15 "RankHouse$Order" "worths" "[J") (by decide +kernel)
  have hl := lv_entry ([.ref h, .int (iZ x), .long (lZ y)]) (n := 5) (Nat.le_of_ble_eq_true rfl)
  rw [lg_entry_eq]
  generalize (lg_sl ([.ref h, .int (iZ x), .long (lZ y)]) ++ List.replicate (5 - (lg_sl ([.ref h, .int (iZ x), .long (lZ y)])).length) Slot.unset).toArray = ls at hl ⊢
  have hl : lv_has ls 5 [(0, .ref h), (1, .int (iZ x)), (2, .long (lZ y))] := hl
  refine lv_aload_n hx hb dX3_place_0 rfl (lv_at hl 0 rfl) ?_
  refine va_get (v := .int (iZ sz)) (C := RX3) (T := TX3) (N := 3) (ci := 3) hx hb hts hi_3 hown hK hP 0 rfl rfl 2 (by decide) hw_1 (fun _ h9 => h9) rfl dX3_place_1 ?_
  refine z_sipush hx hb dX3_place_4 (by decide) ?_
  refine z_icmp_lt (tgt := 11) hx hb dX3_place_7 (by decide) (by omega) (by omega) (fun c_1 => ?_) (fun c_1 => absurd c_1 (by omega))
  refine lv_aload_n hx hb dX3_place_11 rfl (lv_at hl 0 rfl) ?_
  refine va_get (v := .int (iZ sz)) (C := RX3) (T := TX3) (N := 3) (ci := 3) hx hb hts hi_3 hown hK hP 0 rfl rfl 2 (by decide) hw_1 (fun _ h9 => h9) rfl dX3_place_12 ?_
  refine z_toi (((sz.toNat : Nat) : Int)) (by omega) ?_
  refine lv_istore (lv' := [(4, .int (iZ ((sz.toNat : Nat) : Int))), (0, .ref h), (1, .int (iZ x)), (2, .long (lZ y))]) hx hb dX3_place_15 hl (by decide) rfl (fun ls hl => ?_)
  refine w_loop (fun kf H locs ls => ∃ (a : Nat), ∃ (g1 g2 : Nat → Int), kf = a ∧ (a ≤ sz.toNat ∧ (∀ j, a ≤ j → j < sz.toNat → f2 j < y) ∧ (∀ j, g1 j = if a < j ∧ j ≤ sz.toNat then f1 (j - 1) else f1 j) ∧ (∀ j, g2 j = if a < j ∧ j ≤ sz.toNat then f2 (j - 1) else f2 j)) ∧ va_P D vwCl (wOr cI cJ h a1 a2 g1 g2 sz) H ∧ va_D A (wOr cI cJ h a1 a2 g1 g2 sz) ∧ va_S A s.heap H locs ∧ lv_has ls 5 [(0, .ref h), (1, .int (iZ x)), (2, .long (lZ y)), (4, .int (iZ ↑a))]) ?_ _ ⟨sz.toNat, f1, f2, rfl, ⟨by omega, fun j _ _ => absurd ‹_› (by omega), fun j => by rw [if_neg (by omega)], fun j => by rw [if_neg (by omega)]⟩, hP, hD, hS, lv_sub hl [1, 2, 3, 0] rfl⟩
  rintro kf H locs ls ⟨a, g1, g2, hk, ⟨i1, i2, i3, i4⟩, hP, hD, hS, hl⟩ ih
  refine lv_iload hx hb dX3_place_17 (lv_at hl 3 rfl) ?_
  refine z_if_le (tgt := 74) hx hb dX3_place_19 (by decide) (by omega) (fun c_2 => ?_) (fun c_2 => ?_)
  · refine lv_aload_n hx hb dX3_place_74 rfl (lv_at hl 0 rfl) ?_
    refine va_get (v := .ref a1) (C := RX3) (T := TX3) (N := 3) (ci := 3) hx hb hts hi_3 hown hK hP 0 rfl rfl 0 (by decide) hw_2 (fun _ h9 => h9) rfl dX3_place_75 ?_
    refine lv_iload hx hb dX3_place_78 (lv_at hl 3 rfl) ?_
    refine lv_iload_n hx hb dX3_place_80 rfl (lv_at hl 1 rfl) ?_
    refine z_iast hx hb hK hP hD hS 1 0 rfl rfl a (by omega) (by omega) (by omega) dX3_place_81 (fun H locs hP hD hS => ?_)
    have hP : va_P D vwCl (wOr cI cJ h a1 a2 (uZ g1 a x) g2 sz) H := hP
    have hD : va_D A (wOr cI cJ h a1 a2 (uZ g1 a x) g2 sz) := hD
    refine lv_aload_n hx hb dX3_place_82 rfl (lv_at hl 0 rfl) ?_
    refine va_get (v := .ref a2) (C := RX3) (T := TX3) (N := 3) (ci := 3) hx hb hts hi_3 hown hK hP 0 rfl rfl 1 (by decide) hw_3 (fun _ h9 => h9) rfl dX3_place_83 ?_
    refine lv_iload hx hb dX3_place_86 (lv_at hl 3 rfl) ?_
    refine lv_lload_n hx hb dX3_place_88 rfl (lv_at hl 2 rfl) ?_
    refine z_last hx hb hK hP hD hS 2 1 rfl rfl a (by omega) (by omega) (by omega) dX3_place_89 (fun H locs hP hD hS => ?_)
    have hP : va_P D vwCl (wOr cI cJ h a1 a2 (uZ g1 a x) (uZ g2 a y) sz) H := hP
    have hD : va_D A (wOr cI cJ h a1 a2 (uZ g1 a x) (uZ g2 a y) sz) := hD
    refine lv_aload_n hx hb dX3_place_90 rfl (lv_at hl 0 rfl) ?_
    refine lv_dup hx hb dX3_place_91 rfl ?_
    refine va_get (v := .int (iZ sz)) (C := RX3) (T := TX3) (N := 3) (ci := 3) hx hb hts hi_3 hown hK hP 0 rfl rfl 2 (by decide) hw_1 (fun _ h9 => h9) rfl dX3_place_92 ?_
    refine z_iconst hx hb dX3_place_95 ?_
    refine z_iadd hx hb dX3_place_96 ?_
    refine va_put (v := .int (iZ (sz + 1))) (ty := .int) (C := RX3) (T := TX3) (N := 3) (ci := 3) hx hb hts hi_3 tyX3 tyX3_ok nmX3 hown hK hP hD hS 0 rfl rfl 2 (by decide) hw_1 (fun _ h9 => h9) rfl (by decide +kernel) rfl rfl (Nat.le_of_ble_eq_true rfl) dX3_place_97 (fun H locs hP hD hS => ?_)
    have hP : va_P D vwCl (wOr cI cJ h a1 a2 (uZ g1 a x) (uZ g2 a y) (sz + 1)) H := hP
    have hD : va_D A (wOr cI cJ h a1 a2 (uZ g1 a x) (uZ g2 a y) (sz + 1)) := hD
    exact rw_vret (uZ g1 a x, uZ g2 a y, sz + 1) hx hb hr hlocks hP hD hS ⟨a, i1, i2, by first | (left; omega) | (right; omega), by rw [shf_end i3, shf_end i4]⟩ dX3_place_100
  · have q5 := i4 (a - 1)
    rw [if_neg (by omega)] at q5
    have q6 := hf (a - 1) (by omega)
    refine lv_aload_n hx hb dX3_place_22 rfl (lv_at hl 0 rfl) ?_
    refine va_get (v := .ref a2) (C := RX3) (T := TX3) (N := 3) (ci := 3) hx hb hts hi_3 hown hK hP 0 rfl rfl 1 (by decide) hw_3 (fun _ h9 => h9) rfl dX3_place_23 ?_
    refine lv_iload hx hb dX3_place_26 (lv_at hl 3 rfl) ?_
    refine z_iconst hx hb dX3_place_28 ?_
    refine z_isub hx hb dX3_place_29 ?_
    refine z_lald hx hb hK hP 2 1 rfl rfl (a - 1) (by omega) (by omega) (by omega) dX3_place_30 ?_
    refine lv_lload_n hx hb dX3_place_31 rfl (lv_at hl 2 rfl) ?_
    refine z_lc_ge (tgt := 74) hx hb dX3_place_32 dX3_place_33 (by decide) (by omega) (by omega) (fun c_3 => ?_) (fun c_3 => ?_)
    · refine lv_aload_n hx hb dX3_place_74 rfl (lv_at hl 0 rfl) ?_
      refine va_get (v := .ref a1) (C := RX3) (T := TX3) (N := 3) (ci := 3) hx hb hts hi_3 hown hK hP 0 rfl rfl 0 (by decide) hw_2 (fun _ h9 => h9) rfl dX3_place_75 ?_
      refine lv_iload hx hb dX3_place_78 (lv_at hl 3 rfl) ?_
      refine lv_iload_n hx hb dX3_place_80 rfl (lv_at hl 1 rfl) ?_
      refine z_iast hx hb hK hP hD hS 1 0 rfl rfl a (by omega) (by omega) (by omega) dX3_place_81 (fun H locs hP hD hS => ?_)
      have hP : va_P D vwCl (wOr cI cJ h a1 a2 (uZ g1 a x) g2 sz) H := hP
      have hD : va_D A (wOr cI cJ h a1 a2 (uZ g1 a x) g2 sz) := hD
      refine lv_aload_n hx hb dX3_place_82 rfl (lv_at hl 0 rfl) ?_
      refine va_get (v := .ref a2) (C := RX3) (T := TX3) (N := 3) (ci := 3) hx hb hts hi_3 hown hK hP 0 rfl rfl 1 (by decide) hw_3 (fun _ h9 => h9) rfl dX3_place_83 ?_
      refine lv_iload hx hb dX3_place_86 (lv_at hl 3 rfl) ?_
      refine lv_lload_n hx hb dX3_place_88 rfl (lv_at hl 2 rfl) ?_
      refine z_last hx hb hK hP hD hS 2 1 rfl rfl a (by omega) (by omega) (by omega) dX3_place_89 (fun H locs hP hD hS => ?_)
      have hP : va_P D vwCl (wOr cI cJ h a1 a2 (uZ g1 a x) (uZ g2 a y) sz) H := hP
      have hD : va_D A (wOr cI cJ h a1 a2 (uZ g1 a x) (uZ g2 a y) sz) := hD
      refine lv_aload_n hx hb dX3_place_90 rfl (lv_at hl 0 rfl) ?_
      refine lv_dup hx hb dX3_place_91 rfl ?_
      refine va_get (v := .int (iZ sz)) (C := RX3) (T := TX3) (N := 3) (ci := 3) hx hb hts hi_3 hown hK hP 0 rfl rfl 2 (by decide) hw_1 (fun _ h9 => h9) rfl dX3_place_92 ?_
      refine z_iconst hx hb dX3_place_95 ?_
      refine z_iadd hx hb dX3_place_96 ?_
      refine va_put (v := .int (iZ (sz + 1))) (ty := .int) (C := RX3) (T := TX3) (N := 3) (ci := 3) hx hb hts hi_3 tyX3 tyX3_ok nmX3 hown hK hP hD hS 0 rfl rfl 2 (by decide) hw_1 (fun _ h9 => h9) rfl (by decide +kernel) rfl rfl (Nat.le_of_ble_eq_true rfl) dX3_place_97 (fun H locs hP hD hS => ?_)
      have hP : va_P D vwCl (wOr cI cJ h a1 a2 (uZ g1 a x) (uZ g2 a y) (sz + 1)) H := hP
      have hD : va_D A (wOr cI cJ h a1 a2 (uZ g1 a x) (uZ g2 a y) (sz + 1)) := hD
      exact rw_vret (uZ g1 a x, uZ g2 a y, sz + 1) hx hb hr hlocks hP hD hS ⟨a, i1, i2, by first | (left; omega) | (right; omega), by rw [shf_end i3, shf_end i4]⟩ dX3_place_100
    · refine lv_aload_n hx hb dX3_place_36 rfl (lv_at hl 0 rfl) ?_
      refine va_get (v := .ref a1) (C := RX3) (T := TX3) (N := 3) (ci := 3) hx hb hts hi_3 hown hK hP 0 rfl rfl 0 (by decide) hw_2 (fun _ h9 => h9) rfl dX3_place_37 ?_
      refine lv_iload hx hb dX3_place_40 (lv_at hl 3 rfl) ?_
      refine lv_aload_n hx hb dX3_place_42 rfl (lv_at hl 0 rfl) ?_
      refine va_get (v := .ref a1) (C := RX3) (T := TX3) (N := 3) (ci := 3) hx hb hts hi_3 hown hK hP 0 rfl rfl 0 (by decide) hw_2 (fun _ h9 => h9) rfl dX3_place_43 ?_
      refine lv_iload hx hb dX3_place_46 (lv_at hl 3 rfl) ?_
      refine z_iconst hx hb dX3_place_48 ?_
      refine z_isub hx hb dX3_place_49 ?_
      refine z_iald hx hb hK hP 1 0 rfl rfl (a - 1) (by omega) (by omega) (by omega) dX3_place_50 ?_
      refine z_iast hx hb hK hP hD hS 1 0 rfl rfl a (by omega) (by omega) (by omega) dX3_place_51 (fun H locs hP hD hS => ?_)
      have hP : va_P D vwCl (wOr cI cJ h a1 a2 (uZ g1 a (g1 (a - 1))) g2 sz) H := hP
      have hD : va_D A (wOr cI cJ h a1 a2 (uZ g1 a (g1 (a - 1))) g2 sz) := hD
      refine lv_aload_n hx hb dX3_place_52 rfl (lv_at hl 0 rfl) ?_
      refine va_get (v := .ref a2) (C := RX3) (T := TX3) (N := 3) (ci := 3) hx hb hts hi_3 hown hK hP 0 rfl rfl 1 (by decide) hw_3 (fun _ h9 => h9) rfl dX3_place_53 ?_
      refine lv_iload hx hb dX3_place_56 (lv_at hl 3 rfl) ?_
      refine lv_aload_n hx hb dX3_place_58 rfl (lv_at hl 0 rfl) ?_
      refine va_get (v := .ref a2) (C := RX3) (T := TX3) (N := 3) (ci := 3) hx hb hts hi_3 hown hK hP 0 rfl rfl 1 (by decide) hw_3 (fun _ h9 => h9) rfl dX3_place_59 ?_
      refine lv_iload hx hb dX3_place_62 (lv_at hl 3 rfl) ?_
      refine z_iconst hx hb dX3_place_64 ?_
      refine z_isub hx hb dX3_place_65 ?_
      refine z_lald hx hb hK hP 2 1 rfl rfl (a - 1) (by omega) (by omega) (by omega) dX3_place_66 ?_
      refine z_last hx hb hK hP hD hS 2 1 rfl rfl a (by omega) (by omega) (by omega) dX3_place_67 (fun H locs hP hD hS => ?_)
      have hP : va_P D vwCl (wOr cI cJ h a1 a2 (uZ g1 a (g1 (a - 1))) (uZ g2 a (g2 (a - 1))) sz) H := hP
      have hD : va_D A (wOr cI cJ h a1 a2 (uZ g1 a (g1 (a - 1))) (uZ g2 a (g2 (a - 1))) sz) := hD
      refine lv_iinc (v := iZ (↑a + (-1))) (lv' := [(4, .int (iZ (↑a + (-1)))), (0, .ref h), (1, .int (iZ x)), (2, .long (lZ y))]) hx hb dX3_place_68 hl (k := 3) rfl (show iZ ↑a + iZ (-1) = _ from iZ_add _ _) (by decide) rfl (fun ls hl => ?_)
      rw [show (↑a + (-1) : Int) = ((a - 1 : Nat) : Int) by omega] at hl
      refine lv_goto (tgt := 17) hx hb dX3_place_71 (by decide) ?_
      exact ih _ _ _ _ (by omega) ⟨(a - 1), (uZ g1 a (g1 (a - 1))), (uZ g2 a (g2 (a - 1))), rfl, ⟨by omega, fun j q1 q2 => by by_cases q3 : j = a - 1; (rw [q3]; omega); exact i2 j (by omega) q2, shf_step (by omega) i1 i3, shf_step (by omega) i1 i4⟩, hP, hD, hS, lv_sub hl [1, 2, 3, 0] rfl⟩
set_option maxHeartbeats 4000000 in
set_option maxRecDepth 100000 in
theorem c_X3_node (l : Launch) (D : va_G) (cI cJ cB cZ : ClassId) (h a1 a2 : Nat) (f1 f2 : Nat → Int) (sz : Int) (k : Int) (hk0 : -2147483648 ≤ k ∧ k < 2147483648) (hs : 0 ≤ sz ∧ sz ≤ 250) : Met l yX3_node wsX3_node ({ frames := 0, cells := 0, slots := 0, locals := 0 } : Room) (Pre0 D cI cJ cB cZ [.ref h, .int (iZ k)] (wOr cI cJ h a1 a2 f1 f2 sz)) (roI (fun z => ((0 ≤ k ∧ k < sz) → z = f1 k.toNat) ∧ (¬ (0 ≤ k ∧ k < sz) → z = -1))) 0 0 (fun _ => False) := by
  refine Met.ofW (cc := cX3_node) (maxL := 2) (ret := (some .int)) (by decide) rfl ?_
  intro p e s m args below meth c s₁ B hml hv
  obtain ⟨rfl, hP, hE⟩ := hv
  have hx := B.exec
  have hb := B.bytes
  have hr := B.returns
  have hts := atoms_spec (ws := wsX3_node) B.pre
  have hown : s.vm.findClass RX3 = some m.cls := findClass_of_methodNamed B.named
  have hlocks := B.notSynchronized
  have hK := hE.1
  have hi_3 : ∀ w ∈ wsX30, w ∈ wsX3_node := by decide +kernel
  have hw_1 := hts (.fieldLink RX3 19 "RankHouse$Order" "size" "I") (by decide +kernel)
  have hw_2 := hts (.fieldLink RX3 9 "RankHouse$Order" "nodes" "[I") (by decide +kernel)
  have hl := lv_entry ([.ref h, .int (iZ k)]) (n := 2) (Nat.le_of_ble_eq_true rfl)
  rw [lg_entry_eq]
  generalize (lg_sl ([.ref h, .int (iZ k)]) ++ List.replicate (2 - (lg_sl ([.ref h, .int (iZ k)])).length) Slot.unset).toArray = ls at hl ⊢
  have hl : lv_has ls 2 [(0, .ref h), (1, .int (iZ k))] := hl
  refine lv_iload_n hx hb dX3_node_0 rfl (lv_at hl 1 rfl) ?_
  refine z_if_lt (tgt := 21) hx hb dX3_node_1 (by decide) (by omega) (fun c_1 => ?_) (fun c_1 => ?_)
  · refine z_iconst hx hb dX3_node_21 ?_
    exact ro_iret (z := (-1)) hx hb hr hlocks (by omega) dX3_node_22
  · refine lv_iload_n hx hb dX3_node_4 rfl (lv_at hl 1 rfl) ?_
    refine lv_aload_n hx hb dX3_node_5 rfl (lv_at hl 0 rfl) ?_
    refine va_get (v := .int (iZ sz)) (C := RX3) (T := TX3) (N := 3) (ci := 3) hx hb hts hi_3 hown hK hP 0 rfl rfl 2 (by decide) hw_1 (fun _ h9 => h9) rfl dX3_node_6 ?_
    refine z_icmp_ge (tgt := 21) hx hb dX3_node_9 (by decide) (by omega) (by omega) (fun c_2 => ?_) (fun c_2 => ?_)
    · refine z_iconst hx hb dX3_node_21 ?_
      exact ro_iret (z := (-1)) hx hb hr hlocks (by omega) dX3_node_22
    · refine lv_aload_n hx hb dX3_node_12 rfl (lv_at hl 0 rfl) ?_
      refine va_get (v := .ref a1) (C := RX3) (T := TX3) (N := 3) (ci := 3) hx hb hts hi_3 hown hK hP 0 rfl rfl 0 (by decide) hw_2 (fun _ h9 => h9) rfl dX3_node_13 ?_
      refine lv_iload_n hx hb dX3_node_16 rfl (lv_at hl 1 rfl) ?_
      refine z_iald hx hb hK hP 1 0 rfl rfl k.toNat (by omega) (by omega) (by omega) dX3_node_17 ?_
      refine lv_goto (tgt := 22) hx hb dX3_node_18 (by decide) ?_
      exact ro_iret (z := f1 k.toNat) hx hb hr hlocks (by omega) dX3_node_22
end
section
set_option maxHeartbeats 4000000 in
set_option maxRecDepth 100000 in
theorem c_X5_quotient (l : Launch) (D : va_G) (cI cJ cB cZ : ClassId) (a b : Int) (ha : 0 ≤ a ∧ a < 9223372036854775808) (hb0 : 0 ≤ b ∧ b < 9223372036854775808) : Met l yX5_quotient wsX5_quotient ({ frames := 0, cells := 0, slots := 0, locals := 0 } : Room) (Pre0 D cI cJ cB cZ [.long (lZ a), .long (lZ b)] []) (roL (fun z => z = a / b)) 0 0 (fun _ => False) := by
  refine Met.ofW (cc := cX5_quotient) (maxL := 4) (ret := (some .long)) (by decide) rfl ?_
  intro p e s m args below meth c s₁ B hml hv
  obtain ⟨rfl, hP, hE⟩ := hv
  have hx := B.exec
  have hb := B.bytes
  have hr := B.returns
  have hts := atoms_spec (ws := wsX5_quotient) B.pre
  have hown : s.vm.findClass RX5 = some m.cls := findClass_of_methodNamed B.named
  have hlocks := B.notSynchronized
  have hK := hE.1
  have hl := lv_entry ([.long (lZ a), .long (lZ b)]) (n := 4) (Nat.le_of_ble_eq_true rfl)
  rw [lg_entry_eq]
  generalize (lg_sl ([.long (lZ a), .long (lZ b)]) ++ List.replicate (4 - (lg_sl ([.long (lZ a), .long (lZ b)])).length) Slot.unset).toArray = ls at hl ⊢
  have hl : lv_has ls 4 [(0, .long (lZ a)), (2, .long (lZ b))] := hl
  refine lv_lload_n hx hb dX5_quotient_0 rfl (lv_at hl 1 rfl) ?_
  refine z_lconst hx hb 0  dX5_quotient_1 rfl ?_
  refine z_lc_le (tgt := 12) hx hb dX5_quotient_2 dX5_quotient_3 (by decide) (by omega) (by omega) (fun c_1 => ?_) (fun c_1 => ?_)
  · refine z_lconst hx hb 0  dX5_quotient_12 rfl ?_
    exact ro_lret (z := 0) hx hb hr hlocks (by rw [show b = 0 by omega, Int.ediv_zero]) dX5_quotient_13
  · refine lv_lload_n hx hb dX5_quotient_6 rfl (lv_at hl 0 rfl) ?_
    refine lv_lload_n hx hb dX5_quotient_7 rfl (lv_at hl 1 rfl) ?_
    refine z_ldiv hx hb dX5_quotient_8 (by omega) (by omega) ?_
    refine lv_goto (tgt := 13) hx hb dX5_quotient_9 (by decide) ?_
    exact ro_lret (z := a / b) hx hb hr hlocks rfl dX5_quotient_13
end
section
set_option maxHeartbeats 4000000 in
set_option maxRecDepth 100000 in
theorem c_X4_share (l : Launch) (D : va_G) (cI cJ cB cZ : ClassId) (r0 an ax h a1 a2 a3 : Nat) (fn fx : Nat → Int) (pp qq st ch er : Int) (f1 f2 f3 : Nat → Int) (n sz wh : Int) (N : Nat) (E : Ed) (w : Nat → Nat) (hG : GR N E w f1 f2 f3 n sz wh) (P Q : Nat) (x : Nat → Nat) (hR : RK N P Q x fn pp qq) (u : Int) (hu : 0 ≤ u ∧ u < n) : Met l yX4_share wsX4_share ({ frames := 2, cells := 0, slots := 0, locals := 42 } : Room) (Pre0 D cI cJ cB cZ [.ref r0, .ref h, .int (iZ u)] (wRa cJ r0 an ax fn fx pp qq st ch er ++ wGr cI h a1 a2 a3 f1 f2 f3 n sz wh)) (roL (fun z => z = ((shr E N P Q x u.toNat : Nat) : Int))) 0 0 (fun _ => False) := by
  refine Met.ofW (cc := cX4_share) (maxL := 3) (ret := (some .long)) (by decide) rfl ?_
  intro p e s m args below meth c s₁ B hml hv
  obtain ⟨rfl, hP, hE⟩ := hv
  have hx := B.exec
  have hb := B.bytes
  have hr := B.returns
  have hts := atoms_spec (ws := wsX4_share) B.pre
  have hown : s.vm.findClass RX4 = some m.cls := findClass_of_methodNamed B.named
  have hlocks := B.notSynchronized
  have hK := hE.1
  have hi_4 : ∀ w ∈ wsX40, w ∈ wsX4_share := by decide +kernel
  have hw_1 := hts (.fieldLink RX4 18 "RankHouse$Ranks" "p" "I") (by decide +kernel)
  have hw_2 := hts (.fieldLink RX4 9 "RankHouse$Ranks" "now" "[J") (by decide +kernel)
  have hw_3 := hts (.fieldLink RX4 22 "RankHouse$Ranks" "q" "I") (by decide +kernel)
  have hw_4 := hts (.initialized RX5) (by decide +kernel)
  have hw_5 := hts (.static yX5_quotient) (by decide +kernel)
  have hl := lv_entry ([.ref r0, .ref h, .int (iZ u)]) (n := 3) (Nat.le_of_ble_eq_true rfl)
  rw [lg_entry_eq]
  generalize (lg_sl ([.ref r0, .ref h, .int (iZ u)]) ++ List.replicate (3 - (lg_sl ([.ref r0, .ref h, .int (iZ u)])).length) Slot.unset).toArray = ls at hl ⊢
  have hl : lv_has ls 3 [(0, .ref r0), (1, .ref h), (2, .int (iZ u))] := hl
  obtain ⟨g1, g2, g3, g4, g5, g6, g7, g8, g9, g10, g11⟩ := id hG
  obtain ⟨k1, k2, k3, k4, k5, k6⟩ := id hR
  have b0 := sm_at (x := x) (show u.toNat < N by omega)
  have b1 := Nat.mul_le_mul_left P (Nat.le_trans b0 k6)
  have b2 := Nat.mul_le_mul_left Q (Nat.le_trans (dgr_le E N u.toNat) g2)
  have b3 := dgr_le E N u.toNat
  refine lv_aload_n hx hb dX4_share_0 rfl (lv_at hl 0 rfl) ?_
  refine va_get (v := .int (iZ pp)) (C := RX4) (T := TX4) (N := 7) (ci := 4) hx hb hts hi_4 hown hK hP 0 rfl rfl 2 (by decide) hw_1 (fun _ h9 => h9) rfl dX4_share_1 ?_
  refine z_i2l hx hb dX4_share_4 (by omega) ?_
  refine lv_aload_n hx hb dX4_share_5 rfl (lv_at hl 0 rfl) ?_
  refine va_get (v := .ref an) (C := RX4) (T := TX4) (N := 7) (ci := 4) hx hb hts hi_4 hown hK hP 0 rfl rfl 0 (by decide) hw_2 (fun _ h9 => h9) rfl dX4_share_6 ?_
  refine lv_iload_n hx hb dX4_share_9 rfl (lv_at hl 2 rfl) ?_
  refine z_lald hx hb hK hP 1 1 rfl rfl u.toNat (by omega) (by omega) (by omega) dX4_share_10 ?_
  refine z_lmul hx hb dX4_share_11 ?_
  refine z_tol (((P * x u.toNat : Nat) : Int)) (by rw [k1, k5 u.toNat (by omega), Int.natCast_mul]) ?_
  refine lv_aload_n hx hb dX4_share_12 rfl (lv_at hl 0 rfl) ?_
  refine va_get (v := .int (iZ qq)) (C := RX4) (T := TX4) (N := 7) (ci := 4) hx hb hts hi_4 hown hK hP 0 rfl rfl 3 (by decide) hw_3 (fun _ h9 => h9) rfl dX4_share_13 ?_
  refine z_i2l hx hb dX4_share_16 (by omega) ?_
  refine lv_aload_n hx hb dX4_share_17 rfl (lv_at hl 1 rfl) ?_
  refine lv_iload_n hx hb dX4_share_18 rfl (lv_at hl 2 rfl) ?_
  refine ro_i (va_runV (As := [.int (iZ u)]) (rest := [.long (lZ qq), .long (lZ ((P * x u.toNat : Nat) : Int))]) ⟨hx, hb, hml, hown, hts⟩ (c_X2_outOf l D cI cJ cB cZ h a1 a2 a3 f1 f2 f3 n sz wh N E w hG u (by omega)) (cwV 1 hts gX4_share_X2_outOf rfl rfl rfl (by decide +kernel) ⟨Nat.le_of_ble_eq_true rfl, Nat.le_of_ble_eq_true rfl⟩) (pre0V hE (hP.sub (ws' := (wGr cI h a1 a2 a3 f1 f2 f3 n sz wh)) [3, 4, 5, 6] rfl) 0 rfl rfl) rfl rfl hl.1 rfl (lv_room (Nat.le_of_ble_eq_true rfl)) dX4_share_19 ⟨Nat.le_of_ble_eq_true rfl, Nat.le_of_ble_eq_true rfl⟩) (fun r_1 hr_2 => ?_)
  have q4 := hr_2.1 (by omega)
  refine z_i2l hx hb dX4_share_22 (by omega) ?_
  refine z_lmul hx hb dX4_share_23 ?_
  refine z_tol (((Q * dgr E N u.toNat : Nat) : Int)) (by rw [k2, q4, Int.natCast_mul]) ?_
  refine ro_l (va_runSN (As := [.long (lZ ((P * x u.toNat : Nat) : Int)), .long (lZ ((Q * dgr E N u.toNat : Nat) : Int))]) (rest := []) ⟨hx, hb, hml, hown, hts⟩ (c_X5_quotient l D cI cJ cB cZ ((P * x u.toNat : Nat) : Int) ((Q * dgr E N u.toNat : Nat) : Int) (by omega) (by omega)) (⟨va_cnB 2 hts ggX4_share_X5_quotient rfl rfl rfl (hE.2 (.methodLinkNest RX4 32 yX5_quotient "RankHouse") (by decide +kernel)) hw_4 (by decide +kernel) ⟨Nat.le_of_ble_eq_true rfl, Nat.le_of_ble_eq_true rfl⟩, hw_5, trivial⟩) (pre0S hE (hP.sub (ws' := []) [] rfl)) rfl rfl hl.1 rfl (lv_room (Nat.le_of_ble_eq_true rfl)) dX4_share_24 ⟨Nat.le_of_ble_eq_true rfl, Nat.le_of_ble_eq_true rfl⟩) (fun r_3 hr_4 => ?_)
  subst hr_4
  exact ro_lret (z := ((P * x u.toNat : Nat) : Int) / ((Q * dgr E N u.toNat : Nat) : Int)) hx hb hr hlocks (by rw [shr, Int.natCast_ediv]) dX4_share_27
set_option maxHeartbeats 4000000 in
set_option maxRecDepth 100000 in
theorem c_X4_sum (l : Launch) (D : va_G) (cI cJ cB cZ : ClassId) (r0 an ax h a1 a2 a3 : Nat) (fn fx : Nat → Int) (pp qq st ch er : Int) (f1 f2 f3 : Nat → Int) (n sz wh : Int) (N : Nat) (E : Ed) (w : Nat → Nat) (hG : GR N E w f1 f2 f3 n sz wh) (P Q : Nat) (x : Nat → Nat) (hR : RK N P Q x fn pp qq)  : Met l yX4_sum wsX4_sum ({ frames := 0, cells := 0, slots := 0, locals := 0 } : Room) (Pre0 D cI cJ cB cZ [.ref r0, .ref h] (wRa cJ r0 an ax fn fx pp qq st ch er ++ wGr cI h a1 a2 a3 f1 f2 f3 n sz wh)) (roL (fun z => z = ((fb_sm x N : Nat) : Int))) 0 0 (fun _ => False) := by
  refine Met.ofW (cc := cX4_sum) (maxL := 5) (ret := (some .long)) (by decide) rfl ?_
  intro p e s m args below meth c s₁ B hml hv
  obtain ⟨rfl, hP, hE⟩ := hv
  have hx := B.exec
  have hb := B.bytes
  have hr := B.returns
  have hts := atoms_spec (ws := wsX4_sum) B.pre
  have hown : s.vm.findClass RX4 = some m.cls := findClass_of_methodNamed B.named
  have hlocks := B.notSynchronized
  have hK := hE.1
  have hi_2 : ∀ w ∈ wsX20, w ∈ wsX4_sum := by decide +kernel
  have hi_4 : ∀ w ∈ wsX40, w ∈ wsX4_sum := by decide +kernel
  have hw_1 := hE.nl (w := .fieldLinkNest RX4 25 "RankHouse$Graph" "nodes" "I" "RankHouse") (by decide +kernel) ([.ref r0, .ref h] : List Value).toArray
  have hw_2 := hts (.fieldLink RX4 9 "RankHouse$Ranks" "now" "[J") (by decide +kernel)
  have hl := lv_entry ([.ref r0, .ref h]) (n := 5) (Nat.le_of_ble_eq_true rfl)
  rw [lg_entry_eq]
  generalize (lg_sl ([.ref r0, .ref h]) ++ List.replicate (5 - (lg_sl ([.ref r0, .ref h])).length) Slot.unset).toArray = ls at hl ⊢
  have hl : lv_has ls 5 [(0, .ref r0), (1, .ref h)] := hl
  obtain ⟨g1, g2, g3, g4, g5, g6, g7, g8, g9, g10, g11⟩ := id hG
  obtain ⟨k1, k2, k3, k4, k5, k6⟩ := id hR
  refine z_lconst hx hb 0  dX4_sum_0 rfl ?_
  refine lv_lstore_n (lv' := [(2, .long (lZ 0)), (0, .ref r0), (1, .ref h)]) hx hb dX4_sum_1 rfl hl (by decide) rfl (fun ls hl => ?_)
  refine z_iconst hx hb dX4_sum_2 ?_
  refine lv_istore (lv' := [(4, .int (iZ 0)), (2, .long (lZ 0)), (0, .ref r0), (1, .ref h)]) hx hb dX4_sum_3 hl (by decide) rfl (fun ls hl => ?_)
  refine w_loop0 (fun kf ls => ∃ (i : Nat), ∃ (y : Int), kf = N - i ∧ (i ≤ N ∧ y = ((fb_sm x i : Nat) : Int)) ∧ lv_has ls 5 [(0, .ref r0), (1, .ref h), (2, .long (lZ y)), (4, .int (iZ ↑i))]) ?_ _ ⟨0, 0, rfl, ⟨by omega, rfl⟩, lv_sub hl [2, 3, 1, 0] rfl⟩
  rintro kf ls ⟨i, y, hk, hinv, hl⟩ ih
  refine lv_iload hx hb dX4_sum_5 (lv_at hl 3 rfl) ?_
  refine lv_aload_n hx hb dX4_sum_7 rfl (lv_at hl 1 rfl) ?_
  refine va_getN (v := .int (iZ n)) (C := RX2) (T := TX2) (N := 6) (ci := 2) hx hb hts hi_2 hown hK hP 3 rfl rfl 3 (by decide) hw_1 (fun _ h9 => h9) rfl dX4_sum_8 ?_
  refine z_icmp_ge (tgt := 30) hx hb dX4_sum_11 (by decide) (by omega) (by omega) (fun c_1 => ?_) (fun c_1 => ?_)
  · refine lv_lload_n hx hb dX4_sum_30 rfl (lv_at hl 2 rfl) ?_
    exact ro_lret (z := y) hx hb hr hlocks (by rw [show i = N by omega] at hinv; exact hinv.2) dX4_sum_31
  · have q8 := k5 i (by omega)
    have sS : fb_sm x (i + 1) = fb_sm x i + x i := fb_sm_succ _ i
    refine lv_lload_n hx hb dX4_sum_14 rfl (lv_at hl 2 rfl) ?_
    refine lv_aload_n hx hb dX4_sum_15 rfl (lv_at hl 0 rfl) ?_
    refine va_get (v := .ref an) (C := RX4) (T := TX4) (N := 7) (ci := 4) hx hb hts hi_4 hown hK hP 0 rfl rfl 0 (by decide) hw_2 (fun _ h9 => h9) rfl dX4_sum_16 ?_
    refine lv_iload hx hb dX4_sum_19 (lv_at hl 3 rfl) ?_
    refine z_lald hx hb hK hP 1 1 rfl rfl i (by omega) (by omega) (by omega) dX4_sum_21 ?_
    refine z_ladd hx hb dX4_sum_22 ?_
    refine lv_lstore_n (lv' := [(2, .long (lZ (y + (fn i)))), (0, .ref r0), (1, .ref h), (4, .int (iZ ↑i))]) hx hb dX4_sum_23 rfl hl (by decide) rfl (fun ls hl => ?_)
    refine lv_iinc (v := iZ (↑i + 1)) (lv' := [(4, .int (iZ (↑i + 1))), (2, .long (lZ (y + (fn i)))), (0, .ref r0), (1, .ref h)]) hx hb dX4_sum_24 hl (k := 3) rfl (show iZ ↑i + iZ 1 = _ from iZ_add _ _) (by decide) rfl (fun ls hl => ?_)
    refine lv_goto (tgt := 5) hx hb dX4_sum_27 (by decide) ?_
    exact ih _ _ (by omega) ⟨(i + 1), (y + (fn i)), rfl, (by omega), lv_sub hl [2, 3, 1, 0] rfl⟩
set_option maxHeartbeats 4000000 in
set_option maxRecDepth 100000 in
theorem c_X4_bareSum (l : Launch) (D : va_G) (cI cJ cB cZ : ClassId) (r0 an ax h a1 a2 a3 : Nat) (fn fx : Nat → Int) (pp qq st ch er : Int) (f1 f2 f3 : Nat → Int) (n sz wh : Int) (N : Nat) (E : Ed) (w : Nat → Nat) (hG : GR N E w f1 f2 f3 n sz wh) (P Q : Nat) (x : Nat → Nat) (hR : RK N P Q x fn pp qq)  : Met l yX4_bareSum wsX4_bareSum ({ frames := 2, cells := 0, slots := 0, locals := 42 } : Room) (Pre0 D cI cJ cB cZ [.ref r0, .ref h] (wRa cJ r0 an ax fn fx pp qq st ch er ++ wGr cI h a1 a2 a3 f1 f2 f3 n sz wh)) (roL (fun z => z = ((bar E N x : Nat) : Int))) 0 0 (fun _ => False) := by
  refine Met.ofW (cc := cX4_bareSum) (maxL := 5) (ret := (some .long)) (by decide) rfl ?_
  intro p e s m args below meth c s₁ B hml hv
  obtain ⟨rfl, hP, hE⟩ := hv
  have hx := B.exec
  have hb := B.bytes
  have hr := B.returns
  have hts := atoms_spec (ws := wsX4_bareSum) B.pre
  have hown : s.vm.findClass RX4 = some m.cls := findClass_of_methodNamed B.named
  have hlocks := B.notSynchronized
  have hK := hE.1
  have hi_2 : ∀ w ∈ wsX20, w ∈ wsX4_bareSum := by decide +kernel
  have hi_4 : ∀ w ∈ wsX40, w ∈ wsX4_bareSum := by decide +kernel
  have hw_1 := hE.nl (w := .fieldLinkNest RX4 25 "RankHouse$Graph" "nodes" "I" "RankHouse") (by decide +kernel) ([.ref r0, .ref h] : List Value).toArray
  have hw_2 := hts (.fieldLink RX4 9 "RankHouse$Ranks" "now" "[J") (by decide +kernel)
  have hl := lv_entry ([.ref r0, .ref h]) (n := 5) (Nat.le_of_ble_eq_true rfl)
  rw [lg_entry_eq]
  generalize (lg_sl ([.ref r0, .ref h]) ++ List.replicate (5 - (lg_sl ([.ref r0, .ref h])).length) Slot.unset).toArray = ls at hl ⊢
  have hl : lv_has ls 5 [(0, .ref r0), (1, .ref h)] := hl
  obtain ⟨g1, g2, g3, g4, g5, g6, g7, g8, g9, g10, g11⟩ := id hG
  obtain ⟨k1, k2, k3, k4, k5, k6⟩ := id hR
  refine z_lconst hx hb 0  dX4_bareSum_0 rfl ?_
  refine lv_lstore_n (lv' := [(2, .long (lZ 0)), (0, .ref r0), (1, .ref h)]) hx hb dX4_bareSum_1 rfl hl (by decide) rfl (fun ls hl => ?_)
  refine z_iconst hx hb dX4_bareSum_2 ?_
  refine lv_istore (lv' := [(4, .int (iZ 0)), (2, .long (lZ 0)), (0, .ref r0), (1, .ref h)]) hx hb dX4_bareSum_3 hl (by decide) rfl (fun ls hl => ?_)
  refine w_loop0 (fun kf ls => ∃ (i : Nat), ∃ (y : Int), kf = N - i ∧ (i ≤ N ∧ y = ((fb_sm (fun u => if dgr E N u = 0 then x u else 0) i : Nat) : Int)) ∧ lv_has ls 5 [(0, .ref r0), (1, .ref h), (2, .long (lZ y)), (4, .int (iZ ↑i))]) ?_ _ ⟨0, 0, rfl, ⟨by omega, rfl⟩, lv_sub hl [2, 3, 1, 0] rfl⟩
  rintro kf ls ⟨i, y, hk, hinv, hl⟩ ih
  refine lv_iload hx hb dX4_bareSum_5 (lv_at hl 3 rfl) ?_
  refine lv_aload_n hx hb dX4_bareSum_7 rfl (lv_at hl 1 rfl) ?_
  refine va_getN (v := .int (iZ n)) (C := RX2) (T := TX2) (N := 6) (ci := 2) hx hb hts hi_2 hown hK hP 3 rfl rfl 3 (by decide) hw_1 (fun _ h9 => h9) rfl dX4_bareSum_8 ?_
  refine z_icmp_ge (tgt := 39) hx hb dX4_bareSum_11 (by decide) (by omega) (by omega) (fun c_1 => ?_) (fun c_1 => ?_)
  · refine lv_lload_n hx hb dX4_bareSum_39 rfl (lv_at hl 2 rfl) ?_
    exact ro_lret (z := y) hx hb hr hlocks (by rw [show i = N by omega] at hinv; exact hinv.2) dX4_bareSum_40
  · have q8 := k5 i (by omega)
    have sS : fb_sm (fun u => if dgr E N u = 0 then x u else 0) (i + 1) = fb_sm (fun u => if dgr E N u = 0 then x u else 0) i + (if dgr E N i = 0 then x i else 0) := fb_sm_succ _ i
    refine lv_aload_n hx hb dX4_bareSum_14 rfl (lv_at hl 1 rfl) ?_
    refine lv_iload hx hb dX4_bareSum_15 (lv_at hl 3 rfl) ?_
    refine ro_i (va_runV (As := [.int (iZ ↑i)]) (rest := []) ⟨hx, hb, hml, hown, hts⟩ (c_X2_outOf l D cI cJ cB cZ h a1 a2 a3 f1 f2 f3 n sz wh N E w hG (↑i) (by omega)) (cwV 1 hts gX4_bareSum_X2_outOf rfl rfl rfl (by decide +kernel) ⟨Nat.le_of_ble_eq_true rfl, Nat.le_of_ble_eq_true rfl⟩) (pre0V hE (hP.sub (ws' := (wGr cI h a1 a2 a3 f1 f2 f3 n sz wh)) [3, 4, 5, 6] rfl) 0 rfl rfl) rfl rfl hl.1 rfl (lv_room (Nat.le_of_ble_eq_true rfl)) dX4_bareSum_17 ⟨Nat.le_of_ble_eq_true rfl, Nat.le_of_ble_eq_true rfl⟩) (fun r_2 hr_3 => ?_)
    have q4 := hr_3.1 (by omega)
    rw [Int.toNat_natCast] at q4
    have q7 := dgr_le E N i
    refine z_if_ne (tgt := 33) hx hb dX4_bareSum_20 (by decide) (by omega) (fun c_4 => ?_) (fun c_4 => ?_)
    · try rw [if_neg (show ¬ dgr E N i = 0 by omega)] at sS
      refine lv_iinc (v := iZ (↑i + 1)) (lv' := [(4, .int (iZ (↑i + 1))), (0, .ref r0), (1, .ref h), (2, .long (lZ y))]) hx hb dX4_bareSum_33 hl (k := 3) rfl (show iZ ↑i + iZ 1 = _ from iZ_add _ _) (by decide) rfl (fun ls hl => ?_)
      refine lv_goto (tgt := 5) hx hb dX4_bareSum_36 (by decide) ?_
      exact ih _ _ (by omega) ⟨(i + 1), y, rfl, (by omega), lv_sub hl [1, 2, 3, 0] rfl⟩
    · rw [if_pos (show dgr E N i = 0 by omega)] at sS
      refine lv_lload_n hx hb dX4_bareSum_23 rfl (lv_at hl 2 rfl) ?_
      refine lv_aload_n hx hb dX4_bareSum_24 rfl (lv_at hl 0 rfl) ?_
      refine va_get (v := .ref an) (C := RX4) (T := TX4) (N := 7) (ci := 4) hx hb hts hi_4 hown hK hP 0 rfl rfl 0 (by decide) hw_2 (fun _ h9 => h9) rfl dX4_bareSum_25 ?_
      refine lv_iload hx hb dX4_bareSum_28 (lv_at hl 3 rfl) ?_
      refine z_lald hx hb hK hP 1 1 rfl rfl i (by omega) (by omega) (by omega) dX4_bareSum_30 ?_
      refine z_ladd hx hb dX4_bareSum_31 ?_
      refine lv_lstore_n (lv' := [(2, .long (lZ (y + (fn i)))), (0, .ref r0), (1, .ref h), (4, .int (iZ ↑i))]) hx hb dX4_bareSum_32 rfl hl (by decide) rfl (fun ls hl => ?_)
      try rw [if_neg (show ¬ dgr E N i = 0 by omega)] at sS
      refine lv_iinc (v := iZ (↑i + 1)) (lv' := [(4, .int (iZ (↑i + 1))), (2, .long (lZ (y + (fn i)))), (0, .ref r0), (1, .ref h)]) hx hb dX4_bareSum_33 hl (k := 3) rfl (show iZ ↑i + iZ 1 = _ from iZ_add _ _) (by decide) rfl (fun ls hl => ?_)
      refine lv_goto (tgt := 5) hx hb dX4_bareSum_36 (by decide) ?_
      exact ih _ _ (by omega) ⟨(i + 1), (y + (fn i)), rfl, (by omega), lv_sub hl [2, 3, 1, 0] rfl⟩
set_option maxHeartbeats 4000000 in
set_option maxRecDepth 100000 in
theorem c_X4_bound (l : Launch) (D : va_G) (cI cJ cB cZ : ClassId) (r0 an ax h a1 a2 a3 : Nat) (fn fx : Nat → Int) (pp qq st ch er : Int) (f1 f2 f3 : Nat → Int) (n sz wh : Int) (N : Nat) (E : Ed) (w : Nat → Nat) (hG : GR N E w f1 f2 f3 n sz wh) (P Q : Nat) (x : Nat → Nat) (hR : RK N P Q x fn pp qq)  : Met l yX4_bound wsX4_bound ({ frames := 1, cells := 0, slots := 0, locals := 23 } : Room) (Pre0 D cI cJ cB cZ [.ref r0, .ref h] (wRa cJ r0 an ax fn fx pp qq st ch er ++ wGr cI h a1 a2 a3 f1 f2 f3 n sz wh)) (roL (fun z => z = er + (((fst E N N + 2 * N) * Q / (Q - P) : Nat) : Int) + 1)) 0 0 (fun _ => False) := by
  refine Met.ofW (cc := cX4_bound) (maxL := 4) (ret := (some .long)) (by decide) rfl ?_
  intro p e s m args below meth c s₁ B hml hv
  obtain ⟨rfl, hP, hE⟩ := hv
  have hx := B.exec
  have hb := B.bytes
  have hr := B.returns
  have hts := atoms_spec (ws := wsX4_bound) B.pre
  have hown : s.vm.findClass RX4 = some m.cls := findClass_of_methodNamed B.named
  have hlocks := B.notSynchronized
  have hK := hE.1
  have hi_2 : ∀ w ∈ wsX20, w ∈ wsX4_bound := by decide +kernel
  have hi_4 : ∀ w ∈ wsX40, w ∈ wsX4_bound := by decide +kernel
  have hw_1 := hE.nl (w := .fieldLinkNest RX4 72 "RankHouse$Graph" "size" "I" "RankHouse") (by decide +kernel) ([.ref r0, .ref h] : List Value).toArray
  have hw_2 := hts (.constantLong RX4 75 (2)) (by decide +kernel)
  have hw_3 := hE.nl (w := .fieldLinkNest RX4 25 "RankHouse$Graph" "nodes" "I" "RankHouse") (by decide +kernel) ([.ref r0, .ref h] : List Value).toArray
  have hw_4 := hts (.fieldLink RX4 45 "RankHouse$Ranks" "error" "J") (by decide +kernel)
  have hw_5 := hts (.fieldLink RX4 22 "RankHouse$Ranks" "q" "I") (by decide +kernel)
  have hw_6 := hts (.fieldLink RX4 18 "RankHouse$Ranks" "p" "I") (by decide +kernel)
  have hw_7 := hts (.initialized RX5) (by decide +kernel)
  have hw_8 := hts (.static yX5_quotient) (by decide +kernel)
  have hl := lv_entry ([.ref r0, .ref h]) (n := 4) (Nat.le_of_ble_eq_true rfl)
  rw [lg_entry_eq]
  generalize (lg_sl ([.ref r0, .ref h]) ++ List.replicate (4 - (lg_sl ([.ref r0, .ref h])).length) Slot.unset).toArray = ls at hl ⊢
  have hl : lv_has ls 4 [(0, .ref r0), (1, .ref h)] := hl
  obtain ⟨g1, g2, g3, g4, g5, g6, g7, g8, g9, g10, g11⟩ := id hG
  obtain ⟨k1, k2, k3, k4, k5, k6⟩ := id hR
  have b1 := Nat.mul_le_mul_right Q (show fst E N N + 2 * N ≤ 3000 by omega)
  refine lv_aload_n hx hb dX4_bound_0 rfl (lv_at hl 1 rfl) ?_
  refine va_getN (v := .int (iZ sz)) (C := RX2) (T := TX2) (N := 6) (ci := 2) hx hb hts hi_2 hown hK hP 3 rfl rfl 4 (by decide) hw_1 (fun _ h9 => h9) rfl dX4_bound_1 ?_
  refine z_i2l hx hb dX4_bound_4 (by omega) ?_
  refine z_ldc2 hx hb (2) hown hw_2 (by decide) dX4_bound_5 ?_
  refine lv_aload_n hx hb dX4_bound_8 rfl (lv_at hl 1 rfl) ?_
  refine va_getN (v := .int (iZ n)) (C := RX2) (T := TX2) (N := 6) (ci := 2) hx hb hts hi_2 hown hK hP 3 rfl rfl 3 (by decide) hw_3 (fun _ h9 => h9) rfl dX4_bound_9 ?_
  refine z_i2l hx hb dX4_bound_12 (by omega) ?_
  refine z_lmul hx hb dX4_bound_13 ?_
  refine z_ladd hx hb dX4_bound_14 ?_
  refine z_tol (((fst E N N + 2 * N : Nat) : Int)) (by omega) ?_
  refine lv_lstore_n (lv' := [(2, .long (lZ ((fst E N N + 2 * N : Nat) : Int))), (0, .ref r0), (1, .ref h)]) hx hb dX4_bound_15 rfl hl (by decide) rfl (fun ls hl => ?_)
  refine lv_aload_n hx hb dX4_bound_16 rfl (lv_at hl 1 rfl) ?_
  refine va_get (v := .long (lZ er)) (C := RX4) (T := TX4) (N := 7) (ci := 4) hx hb hts hi_4 hown hK hP 0 rfl rfl 6 (by decide) hw_4 (fun _ h9 => h9) rfl dX4_bound_17 ?_
  refine lv_lload_n hx hb dX4_bound_20 rfl (lv_at hl 0 rfl) ?_
  refine lv_aload_n hx hb dX4_bound_21 rfl (lv_at hl 1 rfl) ?_
  refine va_get (v := .int (iZ qq)) (C := RX4) (T := TX4) (N := 7) (ci := 4) hx hb hts hi_4 hown hK hP 0 rfl rfl 3 (by decide) hw_5 (fun _ h9 => h9) rfl dX4_bound_22 ?_
  refine z_i2l hx hb dX4_bound_25 (by omega) ?_
  refine z_lmul hx hb dX4_bound_26 ?_
  refine z_tol ((((fst E N N + 2 * N) * Q : Nat) : Int)) (by rw [k2, Int.natCast_mul]) ?_
  refine lv_aload_n hx hb dX4_bound_27 rfl (lv_at hl 1 rfl) ?_
  refine va_get (v := .int (iZ qq)) (C := RX4) (T := TX4) (N := 7) (ci := 4) hx hb hts hi_4 hown hK hP 0 rfl rfl 3 (by decide) hw_5 (fun _ h9 => h9) rfl dX4_bound_28 ?_
  refine lv_aload_n hx hb dX4_bound_31 rfl (lv_at hl 1 rfl) ?_
  refine va_get (v := .int (iZ pp)) (C := RX4) (T := TX4) (N := 7) (ci := 4) hx hb hts hi_4 hown hK hP 0 rfl rfl 2 (by decide) hw_6 (fun _ h9 => h9) rfl dX4_bound_32 ?_
  refine z_isub hx hb dX4_bound_35 ?_
  refine z_i2l hx hb dX4_bound_36 (by omega) ?_
  refine z_tol (((Q - P : Nat) : Int)) (by omega) ?_
  refine ro_l (va_runSN (As := [.long (lZ (((fst E N N + 2 * N) * Q : Nat) : Int)), .long (lZ ((Q - P : Nat) : Int))]) (rest := [.long (lZ er)]) ⟨hx, hb, hml, hown, hts⟩ (c_X5_quotient l D cI cJ cB cZ (((fst E N N + 2 * N) * Q : Nat) : Int) ((Q - P : Nat) : Int) (by omega) (by omega)) (⟨va_cnB 2 hts ggX4_bound_X5_quotient rfl rfl rfl (hE.2 (.methodLinkNest RX4 32 yX5_quotient "RankHouse") (by decide +kernel)) hw_7 (by decide +kernel) ⟨Nat.le_of_ble_eq_true rfl, Nat.le_of_ble_eq_true rfl⟩, hw_8, trivial⟩) (pre0S hE (hP.sub (ws' := []) [] rfl)) rfl rfl hl.1 rfl (lv_room (Nat.le_of_ble_eq_true rfl)) dX4_bound_37 ⟨Nat.le_of_ble_eq_true rfl, Nat.le_of_ble_eq_true rfl⟩) (fun r_1 hr_2 => ?_)
  subst hr_2
  refine z_tol (((((fst E N N + 2 * N) * Q) / (Q - P) : Nat) : Int)) (by rw [Int.natCast_ediv]) ?_
  refine z_ladd hx hb dX4_bound_40 ?_
  refine z_lconst hx hb 1  dX4_bound_41 rfl ?_
  refine z_ladd hx hb dX4_bound_42 ?_
  exact ro_lret (z := (er + ((((fst E N N + 2 * N) * Q) / (Q - P) : Nat) : Int)) + 1) hx hb hr hlocks rfl dX4_bound_43
set_option maxHeartbeats 4000000 in
set_option maxRecDepth 100000 in
theorem c_X4_areStill (l : Launch) (D : va_G) (cI cJ cB cZ : ClassId) (r0 an ax : Nat) (fn fx : Nat → Int) (pp qq st ch er : Int) (sm : Int) (hst : 0 ≤ st ∧ st < 2147483648) (hch : 0 ≤ ch ∧ ch < 9223372036854775808) (hsm : -9223372036854775808 ≤ sm ∧ sm < 9223372036854775808) : Met l yX4_areStill wsX4_areStill ({ frames := 0, cells := 0, slots := 0, locals := 0 } : Room) (Pre0 D cI cJ cB cZ [.ref r0, .long (lZ sm)] (wRa cJ r0 an ax fn fx pp qq st ch er)) (roI (fun z => (z = 1 ∧ (0 < st ∧ ch ≤ sm)) ∨ (z = 0 ∧ ¬ (0 < st ∧ ch ≤ sm)))) 0 0 (fun _ => False) := by
  refine Met.ofW (cc := cX4_areStill) (maxL := 3) (ret := (some .boolean)) (by decide) rfl ?_
  intro p e s m args below meth c s₁ B hml hv
  obtain ⟨rfl, hP, hE⟩ := hv
  have hx := B.exec
  have hb := B.bytes
  have hr := B.returns
  have hts := atoms_spec (ws := wsX4_areStill) B.pre
  have hown : s.vm.findClass RX4 = some m.cls := findClass_of_methodNamed B.named
  have hlocks := B.notSynchronized
  have hK := hE.1
  have hi_4 : ∀ w ∈ wsX40, w ∈ wsX4_areStill := by decide +kernel
  have hw_1 := hts (.fieldLink RX4 36 "RankHouse$Ranks" "steps" "I") (by decide +kernel)
  have hw_2 := hts (.fieldLink RX4 41 "RankHouse$Ranks" "change" "J") (by decide +kernel)
  have hl := lv_entry ([.ref r0, .long (lZ sm)]) (n := 3) (Nat.le_of_ble_eq_true rfl)
  rw [lg_entry_eq]
  generalize (lg_sl ([.ref r0, .long (lZ sm)]) ++ List.replicate (3 - (lg_sl ([.ref r0, .long (lZ sm)])).length) Slot.unset).toArray = ls at hl ⊢
  have hl : lv_has ls 3 [(0, .ref r0), (1, .long (lZ sm))] := hl
  refine lv_aload_n hx hb dX4_areStill_0 rfl (lv_at hl 0 rfl) ?_
  refine va_get (v := .int (iZ st)) (C := RX4) (T := TX4) (N := 7) (ci := 4) hx hb hts hi_4 hown hK hP 0 rfl rfl 4 (by decide) hw_1 (fun _ h9 => h9) rfl dX4_areStill_1 ?_
  refine z_if_le (tgt := 20) hx hb dX4_areStill_4 (by decide) (by omega) (fun c_1 => ?_) (fun c_1 => ?_)
  · refine z_iconst hx hb dX4_areStill_20 ?_
    exact ro_zret (z := 0) hx hb hr hlocks (Or.inl rfl) (by omega) dX4_areStill_21
  · refine lv_aload_n hx hb dX4_areStill_7 rfl (lv_at hl 0 rfl) ?_
    refine va_get (v := .long (lZ ch)) (C := RX4) (T := TX4) (N := 7) (ci := 4) hx hb hts hi_4 hown hK hP 0 rfl rfl 5 (by decide) hw_2 (fun _ h9 => h9) rfl dX4_areStill_8 ?_
    refine lv_lload_n hx hb dX4_areStill_11 rfl (lv_at hl 1 rfl) ?_
    refine z_lc_gt (tgt := 20) hx hb dX4_areStill_12 dX4_areStill_13 (by decide) (by omega) (by omega) (fun c_2 => ?_) (fun c_2 => ?_)
    · refine z_iconst hx hb dX4_areStill_20 ?_
      exact ro_zret (z := 0) hx hb hr hlocks (Or.inl rfl) (by omega) dX4_areStill_21
    · refine z_iconst hx hb dX4_areStill_16 ?_
      refine lv_goto (tgt := 21) hx hb dX4_areStill_17 (by decide) ?_
      exact ro_zret (z := 1) hx hb hr hlocks (Or.inr rfl) (by omega) dX4_areStill_21
set_option maxHeartbeats 4000000 in
set_option maxRecDepth 100000 in
theorem c_X4_damp (l : Launch) (D : va_G) (cI cJ cB cZ : ClassId) (r0 an ax : Nat) (fn fx : Nat → Int) (pp qq st ch er : Int) (a b : Int) (ha : -2147483648 ≤ a ∧ a < 2147483648) (hb0 : -2147483648 ≤ b ∧ b < 2147483648) (sz0 : Nat) : Met l yX4_damp wsX4_damp ({ frames := 0, cells := 0, slots := 0, locals := 0 } : Room) (Pre1 D cI cJ cB cZ [.ref r0, .int (iZ a), .int (iZ b)] (wRa cJ r0 an ax fn fx pp qq st ch er) sz0) (rwI (S := Int × Int) D (fun z U => (z = 1 ∧ (0 ≤ a ∧ a < b ∧ b < 1073741824) ∧ U = (a, b)) ∨ (z = 0 ∧ ¬ (0 ≤ a ∧ a < b ∧ b < 1073741824) ∧ U = (pp, qq))) (fun u => wRa cJ r0 an ax fn fx u.1 u.2 st ch er) (va_A (wRa cJ r0 an ax fn fx pp qq st ch er) sz0)) 0 0 (va_A (wRa cJ r0 an ax fn fx pp qq st ch er) sz0) := by
  refine Met.ofW (cc := cX4_damp) (maxL := 3) (ret := (some .boolean)) (by decide) rfl ?_
  intro p e s m args below meth c s₁ B hml hv
  obtain ⟨rfl, hsz, hP, hE, hD0⟩ := hv
  have hx := B.exec
  have hb := B.bytes
  have hr := B.returns
  have hts := atoms_spec (ws := wsX4_damp) B.pre
  have hown : s.vm.findClass RX4 = some m.cls := findClass_of_methodNamed B.named
  have hlocks := B.notSynchronized
  have hK := hE.1
  subst hsz
  have hD := hD0.self (sz := s.heap.size)
  generalize hAe : va_A (wRa cJ r0 an ax fn fx pp qq st ch er) s.heap.size = A at hD ⊢
  have hA : ∀ q : Nat, s.heap.size ≤ q → A q := fun q h => by rw [← hAe]; exact Or.inr h
  have hS : va_S A s.heap s.heap [] := va_S.rf
  have hP : va_P D vwCl (wRa cJ r0 an ax fn fx pp qq st ch er) s.heap := hP
  have hi_4 : ∀ w ∈ wsX40, w ∈ wsX4_damp := by decide +kernel
  have hw_1 := hts (.constant RX4 48 (1073741824)) (by decide +kernel)
  have hw_2 := hts (.fieldLink RX4 18 "RankHouse$Ranks" "p" "I") (by decide +kernel)
  have hw_3 := hts (.fieldLink RX4 22 "RankHouse$Ranks" "q" "I") (by decide +kernel)
  have hl := lv_entry ([.ref r0, .int (iZ a), .int (iZ b)]) (n := 3) (Nat.le_of_ble_eq_true rfl)
  rw [lg_entry_eq]
  generalize (lg_sl ([.ref r0, .int (iZ a), .int (iZ b)]) ++ List.replicate (3 - (lg_sl ([.ref r0, .int (iZ a), .int (iZ b)])).length) Slot.unset).toArray = ls at hl ⊢
  have hl : lv_has ls 3 [(0, .ref r0), (1, .int (iZ a)), (2, .int (iZ b))] := hl
  refine lv_iload_n hx hb dX4_damp_0 rfl (lv_at hl 1 rfl) ?_
  refine z_if_lt (tgt := 15) hx hb dX4_damp_1 (by decide) (by omega) (fun c_1 => ?_) (fun c_1 => ?_)
  · refine z_iconst hx hb dX4_damp_15 ?_
    exact rw_zret (z := 0) (pp, qq) hx hb hr hlocks (Or.inl rfl) hP hD hS (Or.inr ⟨rfl, by omega, rfl⟩) dX4_damp_16
  · refine lv_iload_n hx hb dX4_damp_4 rfl (lv_at hl 1 rfl) ?_
    refine lv_iload_n hx hb dX4_damp_5 rfl (lv_at hl 2 rfl) ?_
    refine z_icmp_ge (tgt := 15) hx hb dX4_damp_6 (by decide) (by omega) (by omega) (fun c_2 => ?_) (fun c_2 => ?_)
    · refine z_iconst hx hb dX4_damp_15 ?_
      exact rw_zret (z := 0) (pp, qq) hx hb hr hlocks (Or.inl rfl) hP hD hS (Or.inr ⟨rfl, by omega, rfl⟩) dX4_damp_16
    · refine lv_iload_n hx hb dX4_damp_9 rfl (lv_at hl 2 rfl) ?_
      refine z_ldc hx hb (1073741824) hown hw_1 (by decide) dX4_damp_10 ?_
      refine z_icmp_lt (tgt := 17) hx hb dX4_damp_12 (by decide) (by omega) (by omega) (fun c_3 => ?_) (fun c_3 => ?_)
      · refine lv_aload_n hx hb dX4_damp_17 rfl (lv_at hl 0 rfl) ?_
        refine lv_iload_n hx hb dX4_damp_18 rfl (lv_at hl 1 rfl) ?_
        refine va_put (v := .int (iZ a)) (ty := .int) (C := RX4) (T := TX4) (N := 7) (ci := 4) hx hb hts hi_4 tyX4 tyX4_ok nmX4 hown hK hP hD hS 0 rfl rfl 2 (by decide) hw_2 (fun _ h9 => h9) rfl (by decide +kernel) rfl rfl (Nat.le_of_ble_eq_true rfl) dX4_damp_19 (fun H locs hP hD hS => ?_)
        have hP : va_P D vwCl (wRa cJ r0 an ax fn fx a qq st ch er) H := hP
        have hD : va_D A (wRa cJ r0 an ax fn fx a qq st ch er) := hD
        refine lv_aload_n hx hb dX4_damp_22 rfl (lv_at hl 0 rfl) ?_
        refine lv_iload_n hx hb dX4_damp_23 rfl (lv_at hl 2 rfl) ?_
        refine va_put (v := .int (iZ b)) (ty := .int) (C := RX4) (T := TX4) (N := 7) (ci := 4) hx hb hts hi_4 tyX4 tyX4_ok nmX4 hown hK hP hD hS 0 rfl rfl 3 (by decide) hw_3 (fun _ h9 => h9) rfl (by decide +kernel) rfl rfl (Nat.le_of_ble_eq_true rfl) dX4_damp_24 (fun H locs hP hD hS => ?_)
        have hP : va_P D vwCl (wRa cJ r0 an ax fn fx a b st ch er) H := hP
        have hD : va_D A (wRa cJ r0 an ax fn fx a b st ch er) := hD
        refine z_iconst hx hb dX4_damp_27 ?_
        exact rw_zret (z := 1) (a, b) hx hb hr hlocks (Or.inr rfl) hP hD hS (Or.inl ⟨rfl, by omega, rfl⟩) dX4_damp_28
      · refine z_iconst hx hb dX4_damp_15 ?_
        exact rw_zret (z := 0) (pp, qq) hx hb hr hlocks (Or.inl rfl) hP hD hS (Or.inr ⟨rfl, by omega, rfl⟩) dX4_damp_16
set_option maxHeartbeats 4000000 in
set_option maxRecDepth 100000 in
theorem c_X4_distance (l : Launch) (D : va_G) (cI cJ cB cZ : ClassId) (r0 an ax : Nat) (fn fx : Nat → Int) (pp qq st ch er : Int) (N : Nat) (x y : Nat → Nat) (n : Int) (hN : N ≤ 250) (hn : n = (N : Int)) (k5 : ∀ u, u < N → fn u = (x u : Int)) (k6 : ∀ u, u < N → fx u = (y u : Int)) (k7 : fb_sm x N ≤ 4294967296) (k8 : fb_sm y N ≤ 4294967296) : Met l yX4_distance wsX4_distance ({ frames := 1, cells := 0, slots := 0, locals := 15 } : Room) (Pre0 D cI cJ cB cZ [.ref r0, .int (iZ n)] (wRa cJ r0 an ax fn fx pp qq st ch er)) (roL (fun z => z = ((chg N x y : Nat) : Int))) 0 0 (fun _ => False) := by
  refine Met.ofW (cc := cX4_distance) (maxL := 5) (ret := (some .long)) (by decide) rfl ?_
  intro p e s m args below meth c s₁ B hml hv
  obtain ⟨rfl, hP, hE⟩ := hv
  have hx := B.exec
  have hb := B.bytes
  have hr := B.returns
  have hts := atoms_spec (ws := wsX4_distance) B.pre
  have hown : s.vm.findClass RX4 = some m.cls := findClass_of_methodNamed B.named
  have hlocks := B.notSynchronized
  have hK := hE.1
  have hi_4 : ∀ w ∈ wsX40, w ∈ wsX4_distance := by decide +kernel
  have hw_1 := hts (.fieldLink RX4 15 "RankHouse$Ranks" "next" "[J") (by decide +kernel)
  have hw_2 := hts (.fieldLink RX4 9 "RankHouse$Ranks" "now" "[J") (by decide +kernel)
  have hw_3 := hts (.methodLink RX4 87 Lib.MathLoose.abs_long.x) (by decide +kernel)
  have hw_4 := hts (.static Lib.MathLoose.abs_long.x) (by decide +kernel)
  have hw_5 := hts (.initialized "java/lang/Math") (by decide +kernel)
  have hw_6 := hts (.code Lib.MathLoose.abs_long.x Lib.MathLoose.abs_long.code 2 (some .long)) (by decide +kernel)
  have hl := lv_entry ([.ref r0, .int (iZ n)]) (n := 5) (Nat.le_of_ble_eq_true rfl)
  rw [lg_entry_eq]
  generalize (lg_sl ([.ref r0, .int (iZ n)]) ++ List.replicate (5 - (lg_sl ([.ref r0, .int (iZ n)])).length) Slot.unset).toArray = ls at hl ⊢
  have hl : lv_has ls 5 [(0, .ref r0), (1, .int (iZ n))] := hl
  refine z_lconst hx hb 0  dX4_distance_0 rfl ?_
  refine lv_lstore_n (lv' := [(2, .long (lZ 0)), (0, .ref r0), (1, .int (iZ n))]) hx hb dX4_distance_1 rfl hl (by decide) rfl (fun ls hl => ?_)
  refine z_iconst hx hb dX4_distance_2 ?_
  refine lv_istore (lv' := [(4, .int (iZ 0)), (2, .long (lZ 0)), (0, .ref r0), (1, .int (iZ n))]) hx hb dX4_distance_3 hl (by decide) rfl (fun ls hl => ?_)
  refine w_loop0 (fun kf ls => ∃ (i : Nat), ∃ (t : Int), kf = N - i ∧ (i ≤ N ∧ t = ((fb_sm (fun v => dis (x v) (y v)) i : Nat) : Int)) ∧ lv_has ls 5 [(0, .ref r0), (1, .int (iZ n)), (2, .long (lZ t)), (4, .int (iZ ↑i))]) ?_ _ ⟨0, 0, rfl, ⟨by omega, rfl⟩, lv_sub hl [2, 3, 1, 0] rfl⟩
  rintro kf ls ⟨i, t, hk, hinv, hl⟩ ih
  refine lv_iload hx hb dX4_distance_5 (lv_at hl 3 rfl) ?_
  refine lv_iload_n hx hb dX4_distance_7 rfl (lv_at hl 1 rfl) ?_
  refine z_icmp_ge (tgt := 38) hx hb dX4_distance_8 (by decide) (by omega) (by omega) (fun c_1 => ?_) (fun c_1 => ?_)
  · refine lv_lload_n hx hb dX4_distance_38 rfl (lv_at hl 2 rfl) ?_
    exact ro_lret (z := t) hx hb hr hlocks (by rw [show i = N by omega] at hinv; exact hinv.2) dX4_distance_39
  · have q5 := k5 i (by omega)
    have q6 := k6 i (by omega)
    have q7 := sm_at (x := x) (show i < N by omega)
    have q8 := sm_at (x := y) (show i < N by omega)
    have sS : fb_sm (fun v => dis (x v) (y v)) (i + 1) = fb_sm (fun v => dis (x v) (y v)) i + dis (x i) (y i) := fb_sm_succ _ i
    refine lv_lload_n hx hb dX4_distance_11 rfl (lv_at hl 2 rfl) ?_
    refine lv_aload_n hx hb dX4_distance_12 rfl (lv_at hl 0 rfl) ?_
    refine va_get (v := .ref ax) (C := RX4) (T := TX4) (N := 7) (ci := 4) hx hb hts hi_4 hown hK hP 0 rfl rfl 1 (by decide) hw_1 (fun _ h9 => h9) rfl dX4_distance_13 ?_
    refine lv_iload hx hb dX4_distance_16 (lv_at hl 3 rfl) ?_
    refine z_lald hx hb hK hP 2 1 rfl rfl i (by omega) (by omega) (by omega) dX4_distance_18 ?_
    refine lv_aload_n hx hb dX4_distance_19 rfl (lv_at hl 0 rfl) ?_
    refine va_get (v := .ref an) (C := RX4) (T := TX4) (N := 7) (ci := 4) hx hb hts hi_4 hown hK hP 0 rfl rfl 0 (by decide) hw_2 (fun _ h9 => h9) rfl dX4_distance_20 ?_
    refine lv_iload hx hb dX4_distance_23 (lv_at hl 3 rfl) ?_
    refine z_lald hx hb hK hP 1 1 rfl rfl i (by omega) (by omega) (by omega) dX4_distance_25 ?_
    refine z_lsub hx hb dX4_distance_26 ?_
    refine z_labs hx hb (hml.trans hl.1.symm) hown hw_3 hw_4 hw_5 hw_6 (Nat.le_of_ble_eq_true rfl) (Nat.le_of_ble_eq_true rfl) (Nat.zero_le _) (Nat.zero_le _) (by omega) dX4_distance_27 ?_
    refine z_tol (((dis (x i) (y i) : Nat) : Int)) (by rw [q5, q6]; exact dis_eq) ?_
    refine z_ladd hx hb dX4_distance_30 ?_
    refine lv_lstore_n (lv' := [(2, .long (lZ (t + ((dis (x i) (y i) : Nat) : Int)))), (0, .ref r0), (1, .int (iZ n)), (4, .int (iZ ↑i))]) hx hb dX4_distance_31 rfl hl (by decide) rfl (fun ls hl => ?_)
    refine lv_iinc (v := iZ (↑i + 1)) (lv' := [(4, .int (iZ (↑i + 1))), (2, .long (lZ (t + ((dis (x i) (y i) : Nat) : Int)))), (0, .ref r0), (1, .int (iZ n))]) hx hb dX4_distance_32 hl (k := 3) rfl (show iZ ↑i + iZ 1 = _ from iZ_add _ _) (by decide) rfl (fun ls hl => ?_)
    refine lv_goto (tgt := 5) hx hb dX4_distance_35 (by decide) ?_
    exact ih _ _ (by omega) ⟨(i + 1), (t + ((dis (x i) (y i) : Nat) : Int)), rfl, (by omega), lv_sub hl [2, 3, 1, 0] rfl⟩
end
section
set_option maxHeartbeats 4000000 in
set_option maxRecDepth 100000 in
theorem c_X4_shareOut (l : Launch) (D : va_G) (cI cJ cB cZ : ClassId) (r0 an ax h a1 a2 a3 : Nat) (fn fx : Nat → Int) (pp qq st ch er : Int) (f1 f2 f3 : Nat → Int) (n sz wh : Int) (N : Nat) (E : Ed) (w : Nat → Nat) (hG : GR N E w f1 f2 f3 n sz wh) (P Q : Nat) (x : Nat → Nat) (hR : RK N P Q x fn pp qq) (u : Int) (hu : 0 ≤ u ∧ u < n) (sz0 : Nat) : Met l yX4_shareOut wsX4_shareOut ({ frames := 3, cells := 0, slots := 0, locals := 64 } : Room) (Pre1 D cI cJ cB cZ [.ref r0, .ref h, .int (iZ u)] (wRa cJ r0 an ax fn fx pp qq st ch er ++ wGr cI h a1 a2 a3 f1 f2 f3 n sz wh) sz0) (rwV (S := Nat → Int) D (fun U => ∀ v, v < N → U v = fx v + (if E u.toNat v = true then ((shr E N P Q x u.toNat : Nat) : Int) else 0)) (fun u => wRa cJ r0 an ax fn u pp qq st ch er ++ wGr cI h a1 a2 a3 f1 f2 f3 n sz wh) (va_A (wRa cJ r0 an ax fn fx pp qq st ch er ++ wGr cI h a1 a2 a3 f1 f2 f3 n sz wh) sz0)) 0 0 (va_A (wRa cJ r0 an ax fn fx pp qq st ch er ++ wGr cI h a1 a2 a3 f1 f2 f3 n sz wh) sz0) := by
  refine Met.ofW (cc := cX4_shareOut) (maxL := 7) (ret := none) (by decide) rfl ?_
  intro p e s m args below meth c s₁ B hml hv
  obtain ⟨rfl, hsz, hP, hE, hD0⟩ := hv
  have hx := B.exec
  have hb := B.bytes
  have hr := B.returns
  have hts := atoms_spec (ws := wsX4_shareOut) B.pre
  have hown : s.vm.findClass RX4 = some m.cls := findClass_of_methodNamed B.named
  have hlocks := B.notSynchronized
  have hK := hE.1
  subst hsz
  have hD := hD0.self (sz := s.heap.size)
  generalize hAe : va_A (wRa cJ r0 an ax fn fx pp qq st ch er ++ wGr cI h a1 a2 a3 f1 f2 f3 n sz wh) s.heap.size = A at hD ⊢
  have hA : ∀ q : Nat, s.heap.size ≤ q → A q := fun q h => by rw [← hAe]; exact Or.inr h
  have hS : va_S A s.heap s.heap [] := va_S.rf
  have hP : va_P D vwCl (wRa cJ r0 an ax fn fx pp qq st ch er ++ wGr cI h a1 a2 a3 f1 f2 f3 n sz wh) s.heap := hP
  have hi_2 : ∀ w ∈ wsX20, w ∈ wsX4_shareOut := by decide +kernel
  have hi_4 : ∀ w ∈ wsX40, w ∈ wsX4_shareOut := by decide +kernel
  have hw_1 := hE.nl (w := .fieldLinkNest RX4 81 "RankHouse$Graph" "first" "[I" "RankHouse") (by decide +kernel) ([.ref r0, .ref h, .int (iZ u)] : List Value).toArray
  have hw_2 := hts (.fieldLink RX4 15 "RankHouse$Ranks" "next" "[J") (by decide +kernel)
  have hw_3 := hE.nl (w := .fieldLinkNest RX4 84 "RankHouse$Graph" "targets" "[I" "RankHouse") (by decide +kernel) ([.ref r0, .ref h, .int (iZ u)] : List Value).toArray
  have hl := lv_entry ([.ref r0, .ref h, .int (iZ u)]) (n := 7) (Nat.le_of_ble_eq_true rfl)
  rw [lg_entry_eq]
  generalize (lg_sl ([.ref r0, .ref h, .int (iZ u)]) ++ List.replicate (7 - (lg_sl ([.ref r0, .ref h, .int (iZ u)])).length) Slot.unset).toArray = ls at hl ⊢
  have hl : lv_has ls 7 [(0, .ref r0), (1, .ref h), (2, .int (iZ u))] := hl
  obtain ⟨g1, g2, g3, g4, g5, g6, g7, g8, g9, g10, g11⟩ := id hG
  obtain ⟨k1, k2, k3, k4, k5, k6⟩ := id hR
  have q1 := g4 u.toNat (by omega)
  have q2 := g4 (u.toNat + 1) (by omega)
  rw [fst_succ] at q2
  have q3 := fst_le E (show u.toNat < N by omega)
  refine lv_aload_n hx hb dX4_shareOut_0 rfl (lv_at hl 0 rfl) ?_
  refine lv_aload_n hx hb dX4_shareOut_1 rfl (lv_at hl 1 rfl) ?_
  refine lv_iload_n hx hb dX4_shareOut_2 rfl (lv_at hl 2 rfl) ?_
  refine ro_l (va_runV (As := [.ref h, .int (iZ u)]) (rest := []) ⟨hx, hb, hml, hown, hts⟩ (c_X4_share l D cI cJ cB cZ r0 an ax h a1 a2 a3 fn fx pp qq st ch er f1 f2 f3 n sz wh N E w hG P Q x hR u hu) (cwV 2 hts gX4_shareOut_X4_share rfl rfl rfl (by decide +kernel) ⟨Nat.le_of_ble_eq_true rfl, Nat.le_of_ble_eq_true rfl⟩) (pre0V hE hP 0 rfl rfl) rfl rfl hl.1 rfl (lv_room (Nat.le_of_ble_eq_true rfl)) dX4_shareOut_3 ⟨Nat.le_of_ble_eq_true rfl, Nat.le_of_ble_eq_true rfl⟩) (fun r_1 hr_2 => ?_)
  subst hr_2
  refine lv_lstore_n (lv' := [(3, .long (lZ ((shr E N P Q x u.toNat : Nat) : Int))), (0, .ref r0), (1, .ref h), (2, .int (iZ u))]) hx hb dX4_shareOut_6 rfl hl (by decide) rfl (fun ls hl => ?_)
  refine lv_aload_n hx hb dX4_shareOut_7 rfl (lv_at hl 2 rfl) ?_
  refine va_getN (v := .ref a1) (C := RX2) (T := TX2) (N := 6) (ci := 2) hx hb hts hi_2 hown hK hP 3 rfl rfl 0 (by decide) hw_1 (fun _ h9 => h9) rfl dX4_shareOut_8 ?_
  refine lv_iload_n hx hb dX4_shareOut_11 rfl (lv_at hl 3 rfl) ?_
  refine z_iconst hx hb dX4_shareOut_12 ?_
  refine z_iadd hx hb dX4_shareOut_13 ?_
  refine z_iald hx hb hK hP 4 0 rfl rfl (u.toNat + 1) (by omega) (by omega) (by omega) dX4_shareOut_14 ?_
  refine z_toi (((fst E N u.toNat + dgr E N u.toNat : Nat) : Int)) q2 ?_
  refine lv_istore (lv' := [(5, .int (iZ ((fst E N u.toNat + dgr E N u.toNat : Nat) : Int))), (3, .long (lZ ((shr E N P Q x u.toNat : Nat) : Int))), (0, .ref r0), (1, .ref h), (2, .int (iZ u))]) hx hb dX4_shareOut_15 hl (by decide) rfl (fun ls hl => ?_)
  refine lv_aload_n hx hb dX4_shareOut_17 rfl (lv_at hl 3 rfl) ?_
  refine va_getN (v := .ref a1) (C := RX2) (T := TX2) (N := 6) (ci := 2) hx hb hts hi_2 hown hK hP 3 rfl rfl 0 (by decide) hw_1 (fun _ h9 => h9) rfl dX4_shareOut_18 ?_
  refine lv_iload_n hx hb dX4_shareOut_21 rfl (lv_at hl 4 rfl) ?_
  refine z_iald hx hb hK hP 4 0 rfl rfl u.toNat (by omega) (by omega) (by omega) dX4_shareOut_22 ?_
  refine z_toi (((fst E N u.toNat : Nat) : Int)) q1 ?_
  refine lv_istore (lv' := [(6, .int (iZ ((fst E N u.toNat : Nat) : Int))), (5, .int (iZ ((fst E N u.toNat + dgr E N u.toNat : Nat) : Int))), (3, .long (lZ ((shr E N P Q x u.toNat : Nat) : Int))), (0, .ref r0), (1, .ref h), (2, .int (iZ u))]) hx hb dX4_shareOut_23 hl (by decide) rfl (fun ls hl => ?_)
  refine w_loop (fun kf H locs ls => ∃ (i : Nat), ∃ (g : Nat → Int), kf = dgr E N u.toNat - i ∧ (i ≤ dgr E N u.toNat ∧ ∀ v, v < N → g v = fx v + (if E u.toNat v = true ∧ fb_ct (E u.toNat) v < i then ((shr E N P Q x u.toNat : Nat) : Int) else 0)) ∧ va_P D vwCl (wRa cJ r0 an ax fn g pp qq st ch er ++ wGr cI h a1 a2 a3 f1 f2 f3 n sz wh) H ∧ va_D A (wRa cJ r0 an ax fn g pp qq st ch er ++ wGr cI h a1 a2 a3 f1 f2 f3 n sz wh) ∧ va_S A s.heap H locs ∧ lv_has ls 7 [(0, .ref r0), (1, .ref h), (2, .int (iZ u)), (3, .long (lZ ((shr E N P Q x u.toNat : Nat) : Int))), (5, .int (iZ ((fst E N u.toNat + dgr E N u.toNat : Nat) : Int))), (6, .int (iZ ((fst E N u.toNat + i : Nat) : Int)))]) ?_ _ ⟨0, fx, rfl, ⟨by omega, fun v _ => by rw [if_neg (by omega)]; omega⟩, hP, hD, hS, lv_sub hl [3, 4, 5, 2, 1, 0] rfl⟩
  rintro kf H locs ls ⟨i, g, hk, ⟨i1, i2⟩, hP, hD, hS, hl⟩ ih
  refine lv_iload hx hb dX4_shareOut_25 (lv_at hl 5 rfl) ?_
  refine lv_iload hx hb dX4_shareOut_27 (lv_at hl 4 rfl) ?_
  refine z_icmp_ge (tgt := 54) hx hb dX4_shareOut_29 (by decide) (by omega) (by omega) (fun c_3 => ?_) (fun c_3 => ?_)
  · exact rw_vret g hx hb hr hlocks hP hD hS (so_end (by rw [show dgr E N u.toNat = i by omega]; exact i2)) dX4_shareOut_54
  · obtain ⟨t, r1, r2, r3, r4⟩ := row_at g7 (show u.toNat < N by omega) (show i < dgr E N u.toNat by omega)
    refine lv_aload_n hx hb dX4_shareOut_32 rfl (lv_at hl 0 rfl) ?_
    refine va_get (v := .ref ax) (C := RX4) (T := TX4) (N := 7) (ci := 4) hx hb hts hi_4 hown hK hP 0 rfl rfl 1 (by decide) hw_2 (fun _ h9 => h9) rfl dX4_shareOut_33 ?_
    refine lv_aload_n hx hb dX4_shareOut_36 rfl (lv_at hl 1 rfl) ?_
    refine va_getN (v := .ref a2) (C := RX2) (T := TX2) (N := 6) (ci := 2) hx hb hts hi_2 hown hK hP 3 rfl rfl 1 (by decide) hw_3 (fun _ h9 => h9) rfl dX4_shareOut_37 ?_
    refine lv_iload hx hb dX4_shareOut_40 (lv_at hl 5 rfl) ?_
    refine z_iald hx hb hK hP 5 0 rfl rfl (fst E N u.toNat + i) (by omega) (by omega) (by omega) dX4_shareOut_42 ?_
    refine lv_dup2_11 hx hb dX4_shareOut_43 rfl rfl ?_
    refine z_lald hx hb hK hP 2 1 rfl rfl t (by omega) (by omega) (by omega) dX4_shareOut_44 ?_
    refine lv_lload_n hx hb dX4_shareOut_45 rfl (lv_at hl 3 rfl) ?_
    refine z_ladd hx hb dX4_shareOut_46 ?_
    refine z_last hx hb hK hP hD hS 2 1 rfl rfl t (by omega) (by omega) (by omega) dX4_shareOut_47 (fun H locs hP hD hS => ?_)
    have hP : va_P D vwCl (wRa cJ r0 an ax fn (uZ g t ((g t) + ((shr E N P Q x u.toNat : Nat) : Int))) pp qq st ch er ++ wGr cI h a1 a2 a3 f1 f2 f3 n sz wh) H := hP
    have hD : va_D A (wRa cJ r0 an ax fn (uZ g t ((g t) + ((shr E N P Q x u.toNat : Nat) : Int))) pp qq st ch er ++ wGr cI h a1 a2 a3 f1 f2 f3 n sz wh) := hD
    refine lv_iinc (v := iZ (((fst E N u.toNat + i : Nat) : Int) + 1)) (lv' := [(6, .int (iZ (((fst E N u.toNat + i : Nat) : Int) + 1))), (0, .ref r0), (1, .ref h), (2, .int (iZ u)), (3, .long (lZ ((shr E N P Q x u.toNat : Nat) : Int))), (5, .int (iZ ((fst E N u.toNat + dgr E N u.toNat : Nat) : Int)))]) hx hb dX4_shareOut_48 hl (k := 5) rfl (show iZ ((fst E N u.toNat + i : Nat) : Int) + iZ 1 = _ from iZ_add _ _) (by decide) rfl (fun ls hl => ?_)
    refine lv_goto (tgt := 25) hx hb dX4_shareOut_51 (by decide) ?_
    exact ih _ _ _ _ (by omega) ⟨(i + 1), (uZ g t ((g t) + ((shr E N P Q x u.toNat : Nat) : Int))), rfl, ⟨by omega, so_step r1 r2 r3 i2⟩, hP, hD, hS, lv_sub hl [1, 2, 3, 4, 5, 0] rfl⟩
set_option maxHeartbeats 4000000 in
set_option maxRecDepth 100000 in
theorem c_X4_begin (l : Launch) (D : va_G) (cI cJ cB cZ : ClassId) (r0 an ax h a1 a2 a3 : Nat) (fn fx : Nat → Int) (pp qq st ch er : Int) (f1 f2 f3 : Nat → Int) (n sz wh : Int) (N : Nat) (hN : 1 ≤ N ∧ N ≤ 250) (hn : n = (N : Int)) (sz0 : Nat) : Met l yX4_begin wsX4_begin ({ frames := 1, cells := 0, slots := 0, locals := 23 } : Room) (Pre1 D cI cJ cB cZ [.ref r0, .ref h] (wRa cJ r0 an ax fn fx pp qq st ch er ++ wGr cI h a1 a2 a3 f1 f2 f3 n sz wh) sz0) (rwV (S := Nat → Int) D (fun U => ∀ v, v < N → U v = ((beg N v : Nat) : Int)) (fun u => wRa cJ r0 an ax u fx pp qq 0 8589934592 8589934592 ++ wGr cI h a1 a2 a3 f1 f2 f3 n sz wh) (va_A (wRa cJ r0 an ax fn fx pp qq st ch er ++ wGr cI h a1 a2 a3 f1 f2 f3 n sz wh) sz0)) 0 0 (va_A (wRa cJ r0 an ax fn fx pp qq st ch er ++ wGr cI h a1 a2 a3 f1 f2 f3 n sz wh) sz0) := by
  refine Met.ofW (cc := cX4_begin) (maxL := 8) (ret := none) (by decide) rfl ?_
  intro p e s m args below meth c s₁ B hml hv
  obtain ⟨rfl, hsz, hP, hE, hD0⟩ := hv
  have hx := B.exec
  have hb := B.bytes
  have hr := B.returns
  have hts := atoms_spec (ws := wsX4_begin) B.pre
  have hown : s.vm.findClass RX4 = some m.cls := findClass_of_methodNamed B.named
  have hlocks := B.notSynchronized
  have hK := hE.1
  subst hsz
  have hD := hD0.self (sz := s.heap.size)
  generalize hAe : va_A (wRa cJ r0 an ax fn fx pp qq st ch er ++ wGr cI h a1 a2 a3 f1 f2 f3 n sz wh) s.heap.size = A at hD ⊢
  have hA : ∀ q : Nat, s.heap.size ≤ q → A q := fun q h => by rw [← hAe]; exact Or.inr h
  have hS : va_S A s.heap s.heap [] := va_S.rf
  have hP : va_P D vwCl (wRa cJ r0 an ax fn fx pp qq st ch er ++ wGr cI h a1 a2 a3 f1 f2 f3 n sz wh) s.heap := hP
  have hi_2 : ∀ w ∈ wsX20, w ∈ wsX4_begin := by decide +kernel
  have hi_4 : ∀ w ∈ wsX40, w ∈ wsX4_begin := by decide +kernel
  have hw_1 := hE.nl (w := .fieldLinkNest RX4 25 "RankHouse$Graph" "nodes" "I" "RankHouse") (by decide +kernel) ([.ref r0, .ref h] : List Value).toArray
  have hw_2 := hts (.constantLong RX4 30 (4294967296)) (by decide +kernel)
  have hw_3 := hts (.initialized RX5) (by decide +kernel)
  have hw_4 := hts (.static yX5_quotient) (by decide +kernel)
  have hw_5 := hts (.fieldLink RX4 36 "RankHouse$Ranks" "steps" "I") (by decide +kernel)
  have hw_6 := hts (.constantLong RX4 39 (8589934592)) (by decide +kernel)
  have hw_7 := hts (.fieldLink RX4 41 "RankHouse$Ranks" "change" "J") (by decide +kernel)
  have hw_8 := hts (.fieldLink RX4 45 "RankHouse$Ranks" "error" "J") (by decide +kernel)
  have hw_9 := hts (.fieldLink RX4 9 "RankHouse$Ranks" "now" "[J") (by decide +kernel)
  have hl := lv_entry ([.ref r0, .ref h]) (n := 8) (Nat.le_of_ble_eq_true rfl)
  rw [lg_entry_eq]
  generalize (lg_sl ([.ref r0, .ref h]) ++ List.replicate (8 - (lg_sl ([.ref r0, .ref h])).length) Slot.unset).toArray = ls at hl ⊢
  have hl : lv_has ls 8 [(0, .ref r0), (1, .ref h)] := hl
  have b1 := Nat.div_le_self 4294967296 N
  have b2 := Nat.mod_lt 4294967296 (show 0 < N by omega)
  refine lv_aload_n hx hb dX4_begin_0 rfl (lv_at hl 1 rfl) ?_
  refine va_getN (v := .int (iZ n)) (C := RX2) (T := TX2) (N := 6) (ci := 2) hx hb hts hi_2 hown hK hP 3 rfl rfl 3 (by decide) hw_1 (fun _ h9 => h9) rfl dX4_begin_1 ?_
  refine lv_istore_n (lv' := [(2, .int (iZ n)), (0, .ref r0), (1, .ref h)]) hx hb dX4_begin_4 rfl hl (by decide) rfl (fun ls hl => ?_)
  refine z_ldc2 hx hb (4294967296) hown hw_2 (by decide) dX4_begin_5 ?_
  refine lv_iload_n hx hb dX4_begin_8 rfl (lv_at hl 0 rfl) ?_
  refine z_i2l hx hb dX4_begin_9 (by omega) ?_
  refine ro_l (va_runSN (As := [.long (lZ 4294967296), .long (lZ n)]) (rest := []) ⟨hx, hb, hml, hown, hts⟩ (c_X5_quotient l D cI cJ cB cZ 4294967296 n (by omega) (by omega)) (⟨va_cnB 2 hts ggX4_begin_X5_quotient rfl rfl rfl (hE.2 (.methodLinkNest RX4 32 yX5_quotient "RankHouse") (by decide +kernel)) hw_3 (by decide +kernel) ⟨Nat.le_of_ble_eq_true rfl, Nat.le_of_ble_eq_true rfl⟩, hw_4, trivial⟩) (pre0S hE (hP.sub (ws' := []) [] rfl)) rfl rfl hl.1 rfl (lv_room (Nat.le_of_ble_eq_true rfl)) dX4_begin_10 ⟨Nat.le_of_ble_eq_true rfl, Nat.le_of_ble_eq_true rfl⟩) (fun r_1 hr_2 => ?_)
  subst hr_2
  refine z_tol (((4294967296 / N : Nat) : Int)) (each_eq hn) ?_
  refine lv_lstore_n (lv' := [(3, .long (lZ ((4294967296 / N : Nat) : Int))), (2, .int (iZ n)), (0, .ref r0), (1, .ref h)]) hx hb dX4_begin_13 rfl hl (by decide) rfl (fun ls hl => ?_)
  refine z_ldc2 hx hb (4294967296) hown hw_2 (by decide) dX4_begin_14 ?_
  refine lv_lload_n hx hb dX4_begin_17 rfl (lv_at hl 0 rfl) ?_
  refine lv_iload_n hx hb dX4_begin_18 rfl (lv_at hl 1 rfl) ?_
  refine z_i2l hx hb dX4_begin_19 (by omega) ?_
  refine z_lmul hx hb dX4_begin_20 ?_
  refine z_lsub hx hb dX4_begin_21 ?_
  refine z_tol (((4294967296 % N : Nat) : Int)) (left_eq hn) ?_
  refine lv_lstore (lv' := [(5, .long (lZ ((4294967296 % N : Nat) : Int))), (3, .long (lZ ((4294967296 / N : Nat) : Int))), (2, .int (iZ n)), (0, .ref r0), (1, .ref h)]) hx hb dX4_begin_22 hl (by decide) rfl (fun ls hl => ?_)
  refine z_iconst hx hb dX4_begin_24 ?_
  refine lv_istore (lv' := [(7, .int (iZ 0)), (5, .long (lZ ((4294967296 % N : Nat) : Int))), (3, .long (lZ ((4294967296 / N : Nat) : Int))), (2, .int (iZ n)), (0, .ref r0), (1, .ref h)]) hx hb dX4_begin_25 hl (by decide) rfl (fun ls hl => ?_)
  refine w_loop (fun kf H locs ls => ∃ (i : Nat), ∃ (g : Nat → Int), kf = N - i ∧ (i ≤ N ∧ ∀ v, v < i → g v = ((beg N v : Nat) : Int)) ∧ va_P D vwCl (wRa cJ r0 an ax g fx pp qq st ch er ++ wGr cI h a1 a2 a3 f1 f2 f3 n sz wh) H ∧ va_D A (wRa cJ r0 an ax g fx pp qq st ch er ++ wGr cI h a1 a2 a3 f1 f2 f3 n sz wh) ∧ va_S A s.heap H locs ∧ lv_has ls 8 [(0, .ref r0), (1, .ref h), (2, .int (iZ n)), (3, .long (lZ ((4294967296 / N : Nat) : Int))), (5, .long (lZ ((4294967296 % N : Nat) : Int))), (7, .int (iZ ↑i))]) ?_ _ ⟨0, fn, rfl, ⟨by omega, fun v hv => absurd hv (Nat.not_lt_zero v)⟩, hP, hD, hS, lv_sub hl [4, 5, 3, 2, 1, 0] rfl⟩
  rintro kf H locs ls ⟨i, g, hk, ⟨i1, i2⟩, hP, hD, hS, hl⟩ ih
  refine lv_iload hx hb dX4_begin_27 (lv_at hl 5 rfl) ?_
  refine lv_iload_n hx hb dX4_begin_29 rfl (lv_at hl 2 rfl) ?_
  refine z_icmp_ge (tgt := 62) hx hb dX4_begin_30 (by decide) (by omega) (by omega) (fun c_3 => ?_) (fun c_3 => ?_)
  · refine lv_aload_n hx hb dX4_begin_62 rfl (lv_at hl 0 rfl) ?_
    refine z_iconst hx hb dX4_begin_63 ?_
    refine va_put (v := .int (iZ 0)) (ty := .int) (C := RX4) (T := TX4) (N := 7) (ci := 4) hx hb hts hi_4 tyX4 tyX4_ok nmX4 hown hK hP hD hS 0 rfl rfl 4 (by decide) hw_5 (fun _ h9 => h9) rfl (by decide +kernel) rfl rfl (Nat.le_of_ble_eq_true rfl) dX4_begin_64 (fun H locs hP hD hS => ?_)
    have hP : va_P D vwCl (wRa cJ r0 an ax g fx pp qq 0 ch er ++ wGr cI h a1 a2 a3 f1 f2 f3 n sz wh) H := hP
    have hD : va_D A (wRa cJ r0 an ax g fx pp qq 0 ch er ++ wGr cI h a1 a2 a3 f1 f2 f3 n sz wh) := hD
    refine lv_aload_n hx hb dX4_begin_67 rfl (lv_at hl 0 rfl) ?_
    refine z_ldc2 hx hb (8589934592) hown hw_6 (by decide) dX4_begin_68 ?_
    refine va_put (v := .long (lZ 8589934592)) (ty := .long) (C := RX4) (T := TX4) (N := 7) (ci := 4) hx hb hts hi_4 tyX4 tyX4_ok nmX4 hown hK hP hD hS 0 rfl rfl 5 (by decide) hw_7 (fun _ h9 => h9) rfl (by decide +kernel) rfl rfl (Nat.le_of_ble_eq_true rfl) dX4_begin_71 (fun H locs hP hD hS => ?_)
    have hP : va_P D vwCl (wRa cJ r0 an ax g fx pp qq 0 8589934592 er ++ wGr cI h a1 a2 a3 f1 f2 f3 n sz wh) H := hP
    have hD : va_D A (wRa cJ r0 an ax g fx pp qq 0 8589934592 er ++ wGr cI h a1 a2 a3 f1 f2 f3 n sz wh) := hD
    refine lv_aload_n hx hb dX4_begin_74 rfl (lv_at hl 0 rfl) ?_
    refine z_ldc2 hx hb (8589934592) hown hw_6 (by decide) dX4_begin_75 ?_
    refine va_put (v := .long (lZ 8589934592)) (ty := .long) (C := RX4) (T := TX4) (N := 7) (ci := 4) hx hb hts hi_4 tyX4 tyX4_ok nmX4 hown hK hP hD hS 0 rfl rfl 6 (by decide) hw_8 (fun _ h9 => h9) rfl (by decide +kernel) rfl rfl (Nat.le_of_ble_eq_true rfl) dX4_begin_78 (fun H locs hP hD hS => ?_)
    have hP : va_P D vwCl (wRa cJ r0 an ax g fx pp qq 0 8589934592 8589934592 ++ wGr cI h a1 a2 a3 f1 f2 f3 n sz wh) H := hP
    have hD : va_D A (wRa cJ r0 an ax g fx pp qq 0 8589934592 8589934592 ++ wGr cI h a1 a2 a3 f1 f2 f3 n sz wh) := hD
    exact rw_vret g hx hb hr hlocks hP hD hS (fun v hv => i2 v (by omega)) dX4_begin_81
  · refine lv_aload_n hx hb dX4_begin_33 rfl (lv_at hl 0 rfl) ?_
    refine va_get (v := .ref an) (C := RX4) (T := TX4) (N := 7) (ci := 4) hx hb hts hi_4 hown hK hP 0 rfl rfl 0 (by decide) hw_9 (fun _ h9 => h9) rfl dX4_begin_34 ?_
    refine lv_iload hx hb dX4_begin_37 (lv_at hl 5 rfl) ?_
    refine lv_iload hx hb dX4_begin_39 (lv_at hl 5 rfl) ?_
    refine z_i2l hx hb dX4_begin_41 (by omega) ?_
    refine lv_lload hx hb dX4_begin_42 (lv_at hl 4 rfl) ?_
    refine z_lc_ge (tgt := 54) hx hb dX4_begin_44 dX4_begin_45 (by decide) (by omega) (by omega) (fun c_4 => ?_) (fun c_4 => ?_)
    · refine lv_lload_n hx hb dX4_begin_54 rfl (lv_at hl 3 rfl) ?_
      refine z_last hx hb hK hP hD hS 1 1 rfl rfl i (by omega) (by omega) (by omega) dX4_begin_55 (fun H locs hP hD hS => ?_)
      have hP : va_P D vwCl (wRa cJ r0 an ax (uZ g i ((4294967296 / N : Nat) : Int)) fx pp qq st ch er ++ wGr cI h a1 a2 a3 f1 f2 f3 n sz wh) H := hP
      have hD : va_D A (wRa cJ r0 an ax (uZ g i ((4294967296 / N : Nat) : Int)) fx pp qq st ch er ++ wGr cI h a1 a2 a3 f1 f2 f3 n sz wh) := hD
      refine lv_iinc (v := iZ (↑i + 1)) (lv' := [(7, .int (iZ (↑i + 1))), (0, .ref r0), (1, .ref h), (2, .int (iZ n)), (3, .long (lZ ((4294967296 / N : Nat) : Int))), (5, .long (lZ ((4294967296 % N : Nat) : Int)))]) hx hb dX4_begin_56 hl (k := 5) rfl (show iZ ↑i + iZ 1 = _ from iZ_add _ _) (by decide) rfl (fun ls hl => ?_)
      refine lv_goto (tgt := 27) hx hb dX4_begin_59 (by decide) ?_
      exact ih _ _ _ _ (by omega) ⟨(i + 1), (uZ g i ((4294967296 / N : Nat) : Int)), rfl, ⟨by omega, fun v hv => by by_cases q : v = i; (rw [q, uZ_s, beg]; split <;> omega); (rw [uZ_n q]; exact i2 v (by omega))⟩, hP, hD, hS, lv_sub hl [1, 2, 3, 4, 5, 0] rfl⟩
    · refine lv_lload_n hx hb dX4_begin_48 rfl (lv_at hl 3 rfl) ?_
      refine z_lconst hx hb 1  dX4_begin_49 rfl ?_
      refine z_ladd hx hb dX4_begin_50 ?_
      refine lv_goto (tgt := 55) hx hb dX4_begin_51 (by decide) ?_
      refine z_last hx hb hK hP hD hS 1 1 rfl rfl i (by omega) (by omega) (by omega) dX4_begin_55 (fun H locs hP hD hS => ?_)
      have hP : va_P D vwCl (wRa cJ r0 an ax (uZ g i (((4294967296 / N : Nat) : Int) + 1)) fx pp qq st ch er ++ wGr cI h a1 a2 a3 f1 f2 f3 n sz wh) H := hP
      have hD : va_D A (wRa cJ r0 an ax (uZ g i (((4294967296 / N : Nat) : Int) + 1)) fx pp qq st ch er ++ wGr cI h a1 a2 a3 f1 f2 f3 n sz wh) := hD
      refine lv_iinc (v := iZ (↑i + 1)) (lv' := [(7, .int (iZ (↑i + 1))), (0, .ref r0), (1, .ref h), (2, .int (iZ n)), (3, .long (lZ ((4294967296 / N : Nat) : Int))), (5, .long (lZ ((4294967296 % N : Nat) : Int)))]) hx hb dX4_begin_56 hl (k := 5) rfl (show iZ ↑i + iZ 1 = _ from iZ_add _ _) (by decide) rfl (fun ls hl => ?_)
      refine lv_goto (tgt := 27) hx hb dX4_begin_59 (by decide) ?_
      exact ih _ _ _ _ (by omega) ⟨(i + 1), (uZ g i (((4294967296 / N : Nat) : Int) + 1)), rfl, ⟨by omega, fun v hv => by by_cases q : v = i; (rw [q, uZ_s, beg]; split <;> omega); (rw [uZ_n q]; exact i2 v (by omega))⟩, hP, hD, hS, lv_sub hl [1, 2, 3, 4, 5, 0] rfl⟩
end
section
set_option maxHeartbeats 4000000 in
set_option maxRecDepth 100000 in
theorem c_X4_step (l : Launch) (D : va_G) (cI cJ cB cZ : ClassId) (r0 an ax h a1 a2 a3 : Nat) (fn fx : Nat → Int) (pp qq st ch er : Int) (f1 f2 f3 : Nat → Int) (n sz wh : Int) (N : Nat) (E : Ed) (w : Nat → Nat) (hG : GR N E w f1 f2 f3 n sz wh) (P Q : Nat) (x : Nat → Nat) (hR : RK N P Q x fn pp qq) (Er : Nat) (her : er = (Er : Int)) (hEr : Er ≤ 8589934592) (sz0 : Nat) : Met l yX4_step wsX4_step ({ frames := 4, cells := 0, slots := 0, locals := 90 } : Room) (Pre1 D cI cJ cB cZ [.ref r0, .ref h] (wRa cJ r0 an ax fn fx pp qq st ch er ++ wGr cI h a1 a2 a3 f1 f2 f3 n sz wh) sz0) (rwV (S := (Nat → Int) × (Nat → Int)) D (fun U => ∀ v, v < N → U.1 v = ((stp E N w P Q x v : Nat) : Int)) (fun u => wRa cJ r0 ax an u.1 u.2 pp qq (st + 1) ((chg N x (stp E N w P Q x) : Nat) : Int) ((Er * P / Q + 1 : Nat) : Int) ++ wGr cI h a1 a2 a3 f1 f2 f3 n sz wh) (va_A (wRa cJ r0 an ax fn fx pp qq st ch er ++ wGr cI h a1 a2 a3 f1 f2 f3 n sz wh) sz0)) 0 0 (va_A (wRa cJ r0 an ax fn fx pp qq st ch er ++ wGr cI h a1 a2 a3 f1 f2 f3 n sz wh) sz0) := by
  refine Met.ofW (cc := cX4_step) (maxL := 5) (ret := none) (by decide) rfl ?_
  intro p e s m args below meth c s₁ B hml hv
  obtain ⟨rfl, hsz, hP, hE, hD0⟩ := hv
  have hx := B.exec
  have hb := B.bytes
  have hr := B.returns
  have hts := atoms_spec (ws := wsX4_step) B.pre
  have hown : s.vm.findClass RX4 = some m.cls := findClass_of_methodNamed B.named
  have hlocks := B.notSynchronized
  have hK := hE.1
  subst hsz
  have hD := hD0.self (sz := s.heap.size)
  generalize hAe : va_A (wRa cJ r0 an ax fn fx pp qq st ch er ++ wGr cI h a1 a2 a3 f1 f2 f3 n sz wh) s.heap.size = A at hD ⊢
  have hA : ∀ q : Nat, s.heap.size ≤ q → A q := fun q h => by rw [← hAe]; exact Or.inr h
  have hS : va_S A s.heap s.heap [] := va_S.rf
  have hP : va_P D vwCl (wRa cJ r0 an ax fn fx pp qq st ch er ++ wGr cI h a1 a2 a3 f1 f2 f3 n sz wh) s.heap := hP
  have hi_2 : ∀ w ∈ wsX20, w ∈ wsX4_step := by decide +kernel
  have hi_4 : ∀ w ∈ wsX40, w ∈ wsX4_step := by decide +kernel
  have hw_1 := hts (.fieldLink RX4 22 "RankHouse$Ranks" "q" "I") (by decide +kernel)
  have hw_2 := hts (.fieldLink RX4 18 "RankHouse$Ranks" "p" "I") (by decide +kernel)
  have hw_3 := hts (.constantLong RX4 30 (4294967296)) (by decide +kernel)
  have hw_4 := hts (.initialized RX5) (by decide +kernel)
  have hw_5 := hts (.static yX5_quotient) (by decide +kernel)
  have hw_6 := hE.nl (w := .fieldLinkNest RX4 25 "RankHouse$Graph" "nodes" "I" "RankHouse") (by decide +kernel) ([.ref r0, .ref h] : List Value).toArray
  have hw_7 := hts (.fieldLink RX4 41 "RankHouse$Ranks" "change" "J") (by decide +kernel)
  have hw_8 := hts (.fieldLink RX4 9 "RankHouse$Ranks" "now" "[J") (by decide +kernel)
  have hw_9 := hts (.fieldLink RX4 15 "RankHouse$Ranks" "next" "[J") (by decide +kernel)
  have hw_10 := hts (.fieldLink RX4 36 "RankHouse$Ranks" "steps" "I") (by decide +kernel)
  have hw_11 := hts (.fieldLink RX4 45 "RankHouse$Ranks" "error" "J") (by decide +kernel)
  have hw_12 := hE.nl (w := .fieldLinkNest RX4 53 "RankHouse$Graph" "weights" "[I" "RankHouse") (by decide +kernel) ([.ref r0, .ref h] : List Value).toArray
  have hw_13 := hE.nl (w := .fieldLinkNest RX4 57 "RankHouse$Graph" "whole" "I" "RankHouse") (by decide +kernel) ([.ref r0, .ref h] : List Value).toArray
  have hl := lv_entry ([.ref r0, .ref h]) (n := 5) (Nat.le_of_ble_eq_true rfl)
  rw [lg_entry_eq]
  generalize (lg_sl ([.ref r0, .ref h]) ++ List.replicate (5 - (lg_sl ([.ref r0, .ref h])).length) Slot.unset).toArray = ls at hl ⊢
  have hl : lv_has ls 5 [(0, .ref r0), (1, .ref h)] := hl
  obtain ⟨g1, g2, g3, g4, g5, g6, g7, g8, g9, g10, g11⟩ := id hG
  obtain ⟨k1, k2, k3, k4, k5, k6⟩ := id hR
  have b0 := bar_le E N x
  have b1 := Nat.mul_le_mul_left P (Nat.le_trans b0 k6)
  have t1 := tla_le (E := E) k3 k6
  have wb := GR_wh hG
  have b6 := Nat.mul_le_mul_right P hEr
  refine lv_aload_n hx hb dX4_step_0 rfl (lv_at hl 0 rfl) ?_
  refine va_get (v := .int (iZ qq)) (C := RX4) (T := TX4) (N := 7) (ci := 4) hx hb hts hi_4 hown hK hP 0 rfl rfl 3 (by decide) hw_1 (fun _ h9 => h9) rfl dX4_step_1 ?_
  refine lv_aload_n hx hb dX4_step_4 rfl (lv_at hl 0 rfl) ?_
  refine va_get (v := .int (iZ pp)) (C := RX4) (T := TX4) (N := 7) (ci := 4) hx hb hts hi_4 hown hK hP 0 rfl rfl 2 (by decide) hw_2 (fun _ h9 => h9) rfl dX4_step_5 ?_
  refine z_isub hx hb dX4_step_8 ?_
  refine z_i2l hx hb dX4_step_9 (by omega) ?_
  refine z_ldc2 hx hb (4294967296) hown hw_3 (by decide) dX4_step_10 ?_
  refine z_lmul hx hb dX4_step_13 ?_
  refine lv_aload_n hx hb dX4_step_14 rfl (lv_at hl 0 rfl) ?_
  refine va_get (v := .int (iZ pp)) (C := RX4) (T := TX4) (N := 7) (ci := 4) hx hb hts hi_4 hown hK hP 0 rfl rfl 2 (by decide) hw_2 (fun _ h9 => h9) rfl dX4_step_15 ?_
  refine z_i2l hx hb dX4_step_18 (by omega) ?_
  refine lv_aload_n hx hb dX4_step_19 rfl (lv_at hl 0 rfl) ?_
  refine lv_aload_n hx hb dX4_step_20 rfl (lv_at hl 1 rfl) ?_
  refine ro_l (va_runV (As := [.ref h]) (rest := [.long (lZ pp), .long (lZ ((qq - pp) * 4294967296))]) ⟨hx, hb, hml, hown, hts⟩ (c_X4_bareSum l D cI cJ cB cZ r0 an ax h a1 a2 a3 fn fx pp qq st ch er f1 f2 f3 n sz wh N E w hG P Q x hR) (cwV 1 hts gX4_step_X4_bareSum rfl rfl rfl (by decide +kernel) ⟨Nat.le_of_ble_eq_true rfl, Nat.le_of_ble_eq_true rfl⟩) (pre0V hE hP 0 rfl rfl) rfl rfl hl.1 rfl (lv_room (Nat.le_of_ble_eq_true rfl)) dX4_step_21 ⟨Nat.le_of_ble_eq_true rfl, Nat.le_of_ble_eq_true rfl⟩) (fun r_1 hr_2 => ?_)
  subst hr_2
  refine z_lmul hx hb dX4_step_24 ?_
  refine z_ladd hx hb dX4_step_25 ?_
  refine z_tol ((((Q - P) * 4294967296 + P * bar E N x : Nat) : Int)) (by rw [k1, k2, Int.natCast_add, Int.natCast_mul P]; omega) ?_
  refine lv_aload_n hx hb dX4_step_26 rfl (lv_at hl 0 rfl) ?_
  refine va_get (v := .int (iZ qq)) (C := RX4) (T := TX4) (N := 7) (ci := 4) hx hb hts hi_4 hown hK hP 0 rfl rfl 3 (by decide) hw_1 (fun _ h9 => h9) rfl dX4_step_27 ?_
  refine z_i2l hx hb dX4_step_30 (by omega) ?_
  refine z_tol (((Q : Nat) : Int)) k2 ?_
  refine ro_l (va_runSN (As := [.long (lZ (((Q - P) * 4294967296 + P * bar E N x : Nat) : Int)), .long (lZ ((Q : Nat) : Int))]) (rest := []) ⟨hx, hb, hml, hown, hts⟩ (c_X5_quotient l D cI cJ cB cZ (((Q - P) * 4294967296 + P * bar E N x : Nat) : Int) ((Q : Nat) : Int) (by omega) (by omega)) (⟨va_cnB 2 hts ggX4_step_X5_quotient rfl rfl rfl (hE.2 (.methodLinkNest RX4 32 yX5_quotient "RankHouse") (by decide +kernel)) hw_4 (by decide +kernel) ⟨Nat.le_of_ble_eq_true rfl, Nat.le_of_ble_eq_true rfl⟩, hw_5, trivial⟩) (pre0S hE (hP.sub (ws' := []) [] rfl)) rfl rfl hl.1 rfl (lv_room (Nat.le_of_ble_eq_true rfl)) dX4_step_31 ⟨Nat.le_of_ble_eq_true rfl, Nat.le_of_ble_eq_true rfl⟩) (fun r_3 hr_4 => ?_)
  subst hr_4
  refine z_tol (((tla E N P Q x : Nat) : Int)) (by rw [tla, Int.natCast_ediv]) ?_
  refine lv_lstore_n (lv' := [(2, .long (lZ ((tla E N P Q x : Nat) : Int))), (0, .ref r0), (1, .ref h)]) hx hb dX4_step_34 rfl hl (by decide) rfl (fun ls hl => ?_)
  refine z_iconst hx hb dX4_step_35 ?_
  refine lv_istore (lv' := [(4, .int (iZ 0)), (2, .long (lZ ((tla E N P Q x : Nat) : Int))), (0, .ref r0), (1, .ref h)]) hx hb dX4_step_36 hl (by decide) rfl (fun ls hl => ?_)
  refine w_loop (fun kf H locs ls => ∃ (i : Nat), ∃ (ga : Nat → Int), kf = N - i ∧ (i ≤ N ∧ ∀ v, v < i → ga v = ((tla E N P Q x * w v / fb_sm w N : Nat) : Int)) ∧ va_P D vwCl (wRa cJ r0 an ax fn ga pp qq st ch er ++ wGr cI h a1 a2 a3 f1 f2 f3 n sz wh) H ∧ va_D A (wRa cJ r0 an ax fn ga pp qq st ch er ++ wGr cI h a1 a2 a3 f1 f2 f3 n sz wh) ∧ va_S A s.heap H locs ∧ lv_has ls 5 [(0, .ref r0), (1, .ref h), (2, .long (lZ ((tla E N P Q x : Nat) : Int))), (4, .int (iZ ↑i))]) ?_ _ ⟨0, fx, rfl, ⟨by omega, fun v hv => absurd hv (Nat.not_lt_zero v)⟩, hP, hD, hS, lv_sub hl [2, 3, 1, 0] rfl⟩
  rintro kf H locs ls ⟨i, ga, hk, ⟨i1, i2⟩, hP, hD, hS, hl⟩ ih
  refine lv_iload hx hb dX4_step_38 (lv_at hl 3 rfl) ?_
  refine lv_aload_n hx hb dX4_step_40 rfl (lv_at hl 1 rfl) ?_
  refine va_getN (v := .int (iZ n)) (C := RX2) (T := TX2) (N := 6) (ci := 2) hx hb hts hi_2 hown hK hP 3 rfl rfl 3 (by decide) hw_6 (fun _ h9 => h9) rfl dX4_step_41 ?_
  refine z_icmp_ge (tgt := 78) hx hb dX4_step_44 (by decide) (by omega) (by omega) (fun c_5 => ?_) (fun c_5 => ?_)
  · refine z_iconst hx hb dX4_step_78 ?_
    refine lv_istore (lv' := [(4, .int (iZ 0)), (0, .ref r0), (1, .ref h), (2, .long (lZ ((tla E N P Q x : Nat) : Int)))]) hx hb dX4_step_79 hl (by decide) rfl (fun ls hl => ?_)
    refine w_loop (fun kf H locs ls => ∃ (j : Nat), ∃ (gb : Nat → Int), kf = N - j ∧ (j ≤ N ∧ ∀ v, v < N → gb v = ((tla E N P Q x * w v / fb_sm w N + fb_sm (fun u => if E u v = true then shr E N P Q x u else 0) j : Nat) : Int)) ∧ va_P D vwCl (wRa cJ r0 an ax fn gb pp qq st ch er ++ wGr cI h a1 a2 a3 f1 f2 f3 n sz wh) H ∧ va_D A (wRa cJ r0 an ax fn gb pp qq st ch er ++ wGr cI h a1 a2 a3 f1 f2 f3 n sz wh) ∧ va_S A s.heap H locs ∧ lv_has ls 5 [(0, .ref r0), (1, .ref h), (4, .int (iZ ↑j))]) ?_ _ ⟨0, ga, rfl, ⟨by omega, fun v hv => by rw [i2 v (by omega)]; rfl⟩, hP, hD, hS, lv_sub hl [1, 2, 0] rfl⟩
    rintro kf H locs ls ⟨j, gb, hk, ⟨i3, i4⟩, hP, hD, hS, hl⟩ ih
    refine lv_iload hx hb dX4_step_81 (lv_at hl 2 rfl) ?_
    refine lv_aload_n hx hb dX4_step_83 rfl (lv_at hl 1 rfl) ?_
    refine va_getN (v := .int (iZ n)) (C := RX2) (T := TX2) (N := 6) (ci := 2) hx hb hts hi_2 hown hK hP 3 rfl rfl 3 (by decide) hw_6 (fun _ h9 => h9) rfl dX4_step_84 ?_
    refine z_icmp_ge (tgt := 103) hx hb dX4_step_87 (by decide) (by omega) (by omega) (fun c_6 => ?_) (fun c_6 => ?_)
    · have y1 : ∀ v, v < N → gb v = ((stp E N w P Q x v : Nat) : Int) := fun v hv => by rw [i4 v hv, show j = N by omega]; rfl
      refine lv_aload_n hx hb dX4_step_103 rfl (lv_at hl 0 rfl) ?_
      refine lv_aload_n hx hb dX4_step_104 rfl (lv_at hl 0 rfl) ?_
      refine lv_aload_n hx hb dX4_step_105 rfl (lv_at hl 1 rfl) ?_
      refine va_getN (v := .int (iZ n)) (C := RX2) (T := TX2) (N := 6) (ci := 2) hx hb hts hi_2 hown hK hP 3 rfl rfl 3 (by decide) hw_6 (fun _ h9 => h9) rfl dX4_step_106 ?_
      refine ro_l (va_runV (As := [.int (iZ n)]) (rest := [.ref r0]) ⟨hx, hb, hml, hown, hts⟩ (c_X4_distance l D cI cJ cB cZ r0 an ax fn gb pp qq st ch er N x (stp E N w P Q x) n g2 g3 k5 y1 k6 (stp_sum g10 k3 k6)) (cwV 1 hts gX4_step_X4_distance rfl rfl rfl (by decide +kernel) ⟨Nat.le_of_ble_eq_true rfl, Nat.le_of_ble_eq_true rfl⟩) (pre0V hE (hP.sub (ws' := (wRa cJ r0 an ax fn gb pp qq st ch er)) [0, 1, 2] rfl) 0 rfl rfl) rfl rfl hl.1 rfl (lv_room (Nat.le_of_ble_eq_true rfl)) dX4_step_109 ⟨Nat.le_of_ble_eq_true rfl, Nat.le_of_ble_eq_true rfl⟩) (fun r_7 hr_8 => ?_)
      subst hr_8
      refine va_put (v := .long (lZ ((chg N x (stp E N w P Q x) : Nat) : Int))) (ty := .long) (C := RX4) (T := TX4) (N := 7) (ci := 4) hx hb hts hi_4 tyX4 tyX4_ok nmX4 hown hK hP hD hS 0 rfl rfl 5 (by decide) hw_7 (fun _ h9 => h9) rfl (by decide +kernel) rfl rfl (Nat.le_of_ble_eq_true rfl) dX4_step_112 (fun H locs hP hD hS => ?_)
      have hP : va_P D vwCl (wRa cJ r0 an ax fn gb pp qq st ((chg N x (stp E N w P Q x) : Nat) : Int) er ++ wGr cI h a1 a2 a3 f1 f2 f3 n sz wh) H := hP
      have hD : va_D A (wRa cJ r0 an ax fn gb pp qq st ((chg N x (stp E N w P Q x) : Nat) : Int) er ++ wGr cI h a1 a2 a3 f1 f2 f3 n sz wh) := hD
      have hP : va_P D vwCl ([(r0, .inr (4, [.ref an, .ref ax, .int (iZ pp), .int (iZ qq), .int (iZ st), .long (lZ ((chg N x (stp E N w P Q x) : Nat) : Int)), .long (lZ er)])), (an, .inl (cJ, 250, .inr (.inl (aL fn)))), (ax, .inl (cJ, 250, .inr (.inl (aL gb))))] ++ wGr cI h a1 a2 a3 f1 f2 f3 n sz wh) H := hP
      have hD : va_D A ([(r0, .inr (4, [.ref an, .ref ax, .int (iZ pp), .int (iZ qq), .int (iZ st), .long (lZ ((chg N x (stp E N w P Q x) : Nat) : Int)), .long (lZ er)])), (an, .inl (cJ, 250, .inr (.inl (aL fn)))), (ax, .inl (cJ, 250, .inr (.inl (aL gb))))] ++ wGr cI h a1 a2 a3 f1 f2 f3 n sz wh) := hD
      refine lv_aload_n hx hb dX4_step_115 rfl (lv_at hl 0 rfl) ?_
      refine va_get (v := .ref an) (C := RX4) (T := TX4) (N := 7) (ci := 4) hx hb hts hi_4 hown hK hP 0 rfl rfl 0 (by decide) hw_8 (fun _ h9 => h9) rfl dX4_step_116 ?_
      refine lv_astore (lv' := [(4, .ref an), (0, .ref r0), (1, .ref h)]) hx hb dX4_step_119 hl (by decide) rfl (fun ls hl => ?_)
      refine lv_aload_n hx hb dX4_step_121 rfl (lv_at hl 1 rfl) ?_
      refine lv_aload_n hx hb dX4_step_122 rfl (lv_at hl 1 rfl) ?_
      refine va_get (v := .ref ax) (C := RX4) (T := TX4) (N := 7) (ci := 4) hx hb hts hi_4 hown hK hP 0 rfl rfl 1 (by decide) hw_9 (fun _ h9 => h9) rfl dX4_step_123 ?_
      refine va_put (v := .ref ax) (ty := .array .long) (C := RX4) (T := TX4) (N := 7) (ci := 4) hx hb hts hi_4 tyX4 tyX4_ok nmX4 hown hK hP hD hS 0 rfl rfl 0 (by decide) hw_8 (fun _ h9 => h9) rfl (by decide +kernel) rfl rfl (Nat.le_of_ble_eq_true rfl) dX4_step_126 (fun H locs hP hD hS => ?_)
      have hP : va_P D vwCl ([(r0, .inr (4, [.ref ax, .ref ax, .int (iZ pp), .int (iZ qq), .int (iZ st), .long (lZ ((chg N x (stp E N w P Q x) : Nat) : Int)), .long (lZ er)])), (an, .inl (cJ, 250, .inr (.inl (aL fn)))), (ax, .inl (cJ, 250, .inr (.inl (aL gb))))] ++ wGr cI h a1 a2 a3 f1 f2 f3 n sz wh) H := hP
      have hD : va_D A ([(r0, .inr (4, [.ref ax, .ref ax, .int (iZ pp), .int (iZ qq), .int (iZ st), .long (lZ ((chg N x (stp E N w P Q x) : Nat) : Int)), .long (lZ er)])), (an, .inl (cJ, 250, .inr (.inl (aL fn)))), (ax, .inl (cJ, 250, .inr (.inl (aL gb))))] ++ wGr cI h a1 a2 a3 f1 f2 f3 n sz wh) := hD
      refine lv_aload_n hx hb dX4_step_129 rfl (lv_at hl 1 rfl) ?_
      refine lv_aload hx hb dX4_step_130 (lv_at hl 0 rfl) ?_
      refine va_put (v := .ref an) (ty := .array .long) (C := RX4) (T := TX4) (N := 7) (ci := 4) hx hb hts hi_4 tyX4 tyX4_ok nmX4 hown hK hP hD hS 0 rfl rfl 1 (by decide) hw_9 (fun _ h9 => h9) rfl (by decide +kernel) rfl rfl (Nat.le_of_ble_eq_true rfl) dX4_step_132 (fun H locs hP hD hS => ?_)
      have hP : va_P D vwCl ([(r0, .inr (4, [.ref ax, .ref an, .int (iZ pp), .int (iZ qq), .int (iZ st), .long (lZ ((chg N x (stp E N w P Q x) : Nat) : Int)), .long (lZ er)])), (an, .inl (cJ, 250, .inr (.inl (aL fn)))), (ax, .inl (cJ, 250, .inr (.inl (aL gb))))] ++ wGr cI h a1 a2 a3 f1 f2 f3 n sz wh) H := hP
      have hD : va_D A ([(r0, .inr (4, [.ref ax, .ref an, .int (iZ pp), .int (iZ qq), .int (iZ st), .long (lZ ((chg N x (stp E N w P Q x) : Nat) : Int)), .long (lZ er)])), (an, .inl (cJ, 250, .inr (.inl (aL fn)))), (ax, .inl (cJ, 250, .inr (.inl (aL gb))))] ++ wGr cI h a1 a2 a3 f1 f2 f3 n sz wh) := hD
      refine lv_aload_n hx hb dX4_step_135 rfl (lv_at hl 1 rfl) ?_
      refine lv_dup hx hb dX4_step_136 rfl ?_
      refine va_get (v := .int (iZ st)) (C := RX4) (T := TX4) (N := 7) (ci := 4) hx hb hts hi_4 hown hK hP 0 rfl rfl 4 (by decide) hw_10 (fun _ h9 => h9) rfl dX4_step_137 ?_
      refine z_iconst hx hb dX4_step_140 ?_
      refine z_iadd hx hb dX4_step_141 ?_
      refine va_put (v := .int (iZ (st + 1))) (ty := .int) (C := RX4) (T := TX4) (N := 7) (ci := 4) hx hb hts hi_4 tyX4 tyX4_ok nmX4 hown hK hP hD hS 0 rfl rfl 4 (by decide) hw_10 (fun _ h9 => h9) rfl (by decide +kernel) rfl rfl (Nat.le_of_ble_eq_true rfl) dX4_step_142 (fun H locs hP hD hS => ?_)
      have hP : va_P D vwCl ([(r0, .inr (4, [.ref ax, .ref an, .int (iZ pp), .int (iZ qq), .int (iZ (st + 1)), .long (lZ ((chg N x (stp E N w P Q x) : Nat) : Int)), .long (lZ er)])), (an, .inl (cJ, 250, .inr (.inl (aL fn)))), (ax, .inl (cJ, 250, .inr (.inl (aL gb))))] ++ wGr cI h a1 a2 a3 f1 f2 f3 n sz wh) H := hP
      have hD : va_D A ([(r0, .inr (4, [.ref ax, .ref an, .int (iZ pp), .int (iZ qq), .int (iZ (st + 1)), .long (lZ ((chg N x (stp E N w P Q x) : Nat) : Int)), .long (lZ er)])), (an, .inl (cJ, 250, .inr (.inl (aL fn)))), (ax, .inl (cJ, 250, .inr (.inl (aL gb))))] ++ wGr cI h a1 a2 a3 f1 f2 f3 n sz wh) := hD
      refine lv_aload_n hx hb dX4_step_145 rfl (lv_at hl 1 rfl) ?_
      refine lv_aload_n hx hb dX4_step_146 rfl (lv_at hl 1 rfl) ?_
      refine va_get (v := .long (lZ er)) (C := RX4) (T := TX4) (N := 7) (ci := 4) hx hb hts hi_4 hown hK hP 0 rfl rfl 6 (by decide) hw_11 (fun _ h9 => h9) rfl dX4_step_147 ?_
      refine lv_aload_n hx hb dX4_step_150 rfl (lv_at hl 1 rfl) ?_
      refine va_get (v := .int (iZ pp)) (C := RX4) (T := TX4) (N := 7) (ci := 4) hx hb hts hi_4 hown hK hP 0 rfl rfl 2 (by decide) hw_2 (fun _ h9 => h9) rfl dX4_step_151 ?_
      refine z_i2l hx hb dX4_step_154 (by omega) ?_
      refine z_lmul hx hb dX4_step_155 ?_
      refine z_tol (((Er * P : Nat) : Int)) (by rw [her, k1, Int.natCast_mul]) ?_
      refine lv_aload_n hx hb dX4_step_156 rfl (lv_at hl 1 rfl) ?_
      refine va_get (v := .int (iZ qq)) (C := RX4) (T := TX4) (N := 7) (ci := 4) hx hb hts hi_4 hown hK hP 0 rfl rfl 3 (by decide) hw_1 (fun _ h9 => h9) rfl dX4_step_157 ?_
      refine z_i2l hx hb dX4_step_160 (by omega) ?_
      refine z_tol (((Q : Nat) : Int)) k2 ?_
      refine ro_l (va_runSN (As := [.long (lZ ((Er * P : Nat) : Int)), .long (lZ ((Q : Nat) : Int))]) (rest := [.ref r0]) ⟨hx, hb, hml, hown, hts⟩ (c_X5_quotient l D cI cJ cB cZ ((Er * P : Nat) : Int) ((Q : Nat) : Int) (by omega) (by omega)) (⟨va_cnB 2 hts ggX4_step_X5_quotient rfl rfl rfl (hE.2 (.methodLinkNest RX4 32 yX5_quotient "RankHouse") (by decide +kernel)) hw_4 (by decide +kernel) ⟨Nat.le_of_ble_eq_true rfl, Nat.le_of_ble_eq_true rfl⟩, hw_5, trivial⟩) (pre0S hE (hP.sub (ws' := []) [] rfl)) rfl rfl hl.1 rfl (lv_room (Nat.le_of_ble_eq_true rfl)) dX4_step_161 ⟨Nat.le_of_ble_eq_true rfl, Nat.le_of_ble_eq_true rfl⟩) (fun r_9 hr_10 => ?_)
      subst hr_10
      refine z_tol (((Er * P / Q : Nat) : Int)) (by rw [Int.natCast_ediv]) ?_
      refine z_lconst hx hb 1  dX4_step_164 rfl ?_
      refine z_ladd hx hb dX4_step_165 ?_
      refine z_tol (((Er * P / Q + 1 : Nat) : Int)) (by omega) ?_
      refine va_put (v := .long (lZ ((Er * P / Q + 1 : Nat) : Int))) (ty := .long) (C := RX4) (T := TX4) (N := 7) (ci := 4) hx hb hts hi_4 tyX4 tyX4_ok nmX4 hown hK hP hD hS 0 rfl rfl 6 (by decide) hw_11 (fun _ h9 => h9) rfl (by decide +kernel) rfl rfl (Nat.le_of_ble_eq_true rfl) dX4_step_166 (fun H locs hP hD hS => ?_)
      have hP : va_P D vwCl ([(r0, .inr (4, [.ref ax, .ref an, .int (iZ pp), .int (iZ qq), .int (iZ (st + 1)), .long (lZ ((chg N x (stp E N w P Q x) : Nat) : Int)), .long (lZ ((Er * P / Q + 1 : Nat) : Int))])), (an, .inl (cJ, 250, .inr (.inl (aL fn)))), (ax, .inl (cJ, 250, .inr (.inl (aL gb))))] ++ wGr cI h a1 a2 a3 f1 f2 f3 n sz wh) H := hP
      have hD : va_D A ([(r0, .inr (4, [.ref ax, .ref an, .int (iZ pp), .int (iZ qq), .int (iZ (st + 1)), .long (lZ ((chg N x (stp E N w P Q x) : Nat) : Int)), .long (lZ ((Er * P / Q + 1 : Nat) : Int))])), (an, .inl (cJ, 250, .inr (.inl (aL fn)))), (ax, .inl (cJ, 250, .inr (.inl (aL gb))))] ++ wGr cI h a1 a2 a3 f1 f2 f3 n sz wh) := hD
      have hP := hP.sub (ws' := wRa cJ r0 ax an gb fn pp qq (st + 1) ((chg N x (stp E N w P Q x) : Nat) : Int) ((Er * P / Q + 1 : Nat) : Int) ++ wGr cI h a1 a2 a3 f1 f2 f3 n sz wh) [0, 2, 1, 3, 4, 5, 6] rfl
      have hD := hD.sub (ws' := wRa cJ r0 ax an gb fn pp qq (st + 1) ((chg N x (stp E N w P Q x) : Nat) : Int) ((Er * P / Q + 1 : Nat) : Int) ++ wGr cI h a1 a2 a3 f1 f2 f3 n sz wh) [0, 2, 1, 3, 4, 5, 6] (by decide) rfl
      exact rw_vret (gb, fn) hx hb hr hlocks hP hD hS y1 dX4_step_169
    · refine lv_aload_n hx hb dX4_step_90 rfl (lv_at hl 0 rfl) ?_
      refine lv_aload_n hx hb dX4_step_91 rfl (lv_at hl 1 rfl) ?_
      refine lv_iload hx hb dX4_step_92 (lv_at hl 2 rfl) ?_
      refine rw_v (wr := []) (va_runV (As := [.ref h, .int (iZ ↑j)]) (rest := []) ⟨hx, hb, hml, hown, hts⟩ (c_X4_shareOut l D cI cJ cB cZ r0 an ax h a1 a2 a3 fn gb pp qq st ch er f1 f2 f3 n sz wh N E w hG P Q x hR (↑j) (by omega) _) (cwV 2 hts gX4_step_X4_shareOut rfl rfl rfl (by decide +kernel) ⟨Nat.le_of_ble_eq_true rfl, Nat.le_of_ble_eq_true rfl⟩) (pre1V hE hP hD 0 rfl rfl) rfl rfl hl.1 rfl (lv_room (Nat.le_of_ble_eq_true rfl)) dX4_step_94 ⟨Nat.le_of_ble_eq_true rfl, Nat.le_of_ble_eq_true rfl⟩) hP hD hS hA [0, 1, 2, 3, 4, 5, 6] [] rfl rfl (by decide) (by decide) (fun u_13 H locs hr_12 hP hD hS => ?_)
      have hP := hP.sub (ws' := (wRa cJ r0 an ax fn u_13 pp qq st ch er ++ wGr cI h a1 a2 a3 f1 f2 f3 n sz wh)) [0, 1, 2, 3, 4, 5, 6] rfl
      have hD := hD.sub (ws' := (wRa cJ r0 an ax fn u_13 pp qq st ch er ++ wGr cI h a1 a2 a3 f1 f2 f3 n sz wh)) [0, 1, 2, 3, 4, 5, 6] (by decide) rfl
      have q9 := hr_12
      simp only [Int.toNat_natCast] at q9
      refine lv_iinc (v := iZ (↑j + 1)) (lv' := [(4, .int (iZ (↑j + 1))), (0, .ref r0), (1, .ref h)]) hx hb dX4_step_97 hl (k := 2) rfl (show iZ ↑j + iZ 1 = _ from iZ_add _ _) (by decide) rfl (fun ls hl => ?_)
      refine lv_goto (tgt := 81) hx hb dX4_step_100 (by decide) ?_
      exact ih _ _ _ _ (by omega) ⟨(j + 1), u_13, rfl, ⟨by omega, fun v hv => by have sS : fb_sm (fun u => if E u v = true then shr E N P Q x u else 0) (j + 1) = fb_sm (fun u => if E u v = true then shr E N P Q x u else 0) j + (if E j v = true then shr E N P Q x j else 0) := fb_sm_succ _ j; rw [q9 v hv, i4 v hv, sS]; split <;> omega⟩, hP, hD, hS, lv_sub hl [1, 2, 0] rfl⟩
  · have q8 := g8 i (by omega)
    have b5 := Nat.mul_le_mul t1 q8.2
    refine lv_aload_n hx hb dX4_step_47 rfl (lv_at hl 0 rfl) ?_
    refine va_get (v := .ref ax) (C := RX4) (T := TX4) (N := 7) (ci := 4) hx hb hts hi_4 hown hK hP 0 rfl rfl 1 (by decide) hw_9 (fun _ h9 => h9) rfl dX4_step_48 ?_
    refine lv_iload hx hb dX4_step_51 (lv_at hl 3 rfl) ?_
    refine lv_lload_n hx hb dX4_step_53 rfl (lv_at hl 2 rfl) ?_
    refine lv_aload_n hx hb dX4_step_54 rfl (lv_at hl 1 rfl) ?_
    refine va_getN (v := .ref a3) (C := RX2) (T := TX2) (N := 6) (ci := 2) hx hb hts hi_2 hown hK hP 3 rfl rfl 2 (by decide) hw_12 (fun _ h9 => h9) rfl dX4_step_55 ?_
    refine lv_iload hx hb dX4_step_58 (lv_at hl 3 rfl) ?_
    refine z_iald hx hb hK hP 6 0 rfl rfl i (by omega) (by omega) (by omega) dX4_step_60 ?_
    refine z_i2l hx hb dX4_step_61 (by omega) ?_
    refine z_lmul hx hb dX4_step_62 ?_
    refine z_tol (((tla E N P Q x * w i : Nat) : Int)) (by rw [q8.1, Int.natCast_mul]) ?_
    refine lv_aload_n hx hb dX4_step_63 rfl (lv_at hl 1 rfl) ?_
    refine va_getN (v := .int (iZ wh)) (C := RX2) (T := TX2) (N := 6) (ci := 2) hx hb hts hi_2 hown hK hP 3 rfl rfl 5 (by decide) hw_13 (fun _ h9 => h9) rfl dX4_step_64 ?_
    refine z_i2l hx hb dX4_step_67 (by omega) ?_
    refine z_tol (((fb_sm w N : Nat) : Int)) g9 ?_
    refine ro_l (va_runSN (As := [.long (lZ ((tla E N P Q x * w i : Nat) : Int)), .long (lZ ((fb_sm w N : Nat) : Int))]) (rest := [.int (iZ ↑i), .ref ax]) ⟨hx, hb, hml, hown, hts⟩ (c_X5_quotient l D cI cJ cB cZ ((tla E N P Q x * w i : Nat) : Int) ((fb_sm w N : Nat) : Int) (by omega) (by omega)) (⟨va_cnB 2 hts ggX4_step_X5_quotient rfl rfl rfl (hE.2 (.methodLinkNest RX4 32 yX5_quotient "RankHouse") (by decide +kernel)) hw_4 (by decide +kernel) ⟨Nat.le_of_ble_eq_true rfl, Nat.le_of_ble_eq_true rfl⟩, hw_5, trivial⟩) (pre0S hE (hP.sub (ws' := []) [] rfl)) rfl rfl hl.1 rfl (lv_room (Nat.le_of_ble_eq_true rfl)) dX4_step_68 ⟨Nat.le_of_ble_eq_true rfl, Nat.le_of_ble_eq_true rfl⟩) (fun r_14 hr_15 => ?_)
    subst hr_15
    refine z_tol (((tla E N P Q x * w i / fb_sm w N : Nat) : Int)) (by rw [Int.natCast_ediv]) ?_
    refine z_last hx hb hK hP hD hS 2 1 rfl rfl i (by omega) (by omega) (by omega) dX4_step_71 (fun H locs hP hD hS => ?_)
    have hP : va_P D vwCl (wRa cJ r0 an ax fn (uZ ga i ((tla E N P Q x * w i / fb_sm w N : Nat) : Int)) pp qq st ch er ++ wGr cI h a1 a2 a3 f1 f2 f3 n sz wh) H := hP
    have hD : va_D A (wRa cJ r0 an ax fn (uZ ga i ((tla E N P Q x * w i / fb_sm w N : Nat) : Int)) pp qq st ch er ++ wGr cI h a1 a2 a3 f1 f2 f3 n sz wh) := hD
    refine lv_iinc (v := iZ (↑i + 1)) (lv' := [(4, .int (iZ (↑i + 1))), (0, .ref r0), (1, .ref h), (2, .long (lZ ((tla E N P Q x : Nat) : Int)))]) hx hb dX4_step_72 hl (k := 3) rfl (show iZ ↑i + iZ 1 = _ from iZ_add _ _) (by decide) rfl (fun ls hl => ?_)
    refine lv_goto (tgt := 38) hx hb dX4_step_75 (by decide) ?_
    exact ih _ _ _ _ (by omega) ⟨(i + 1), (uZ ga i ((tla E N P Q x * w i / fb_sm w N : Nat) : Int)), rfl, ⟨by omega, fun v hv => by by_cases q : v = i; (rw [q, uZ_s]); (rw [uZ_n q]; exact i2 v (by omega))⟩, hP, hD, hS, lv_sub hl [1, 2, 3, 0] rfl⟩
end
section
set_option maxHeartbeats 4000000 in
set_option maxRecDepth 100000 in
theorem c_X1_refuse (l : Launch) (D : va_G) (cI cJ cB cZ : ClassId) (hd : Nat) (nx nd sz kd pl : Int) (a b : Int) (sz0 : Nat) : Met l yX1_refuse wsX1_refuse ({ frames := 0, cells := 0, slots := 0, locals := 0 } : Room) (Pre1 D cI cJ cB cZ [.ref hd, .int (iZ a), .int (iZ b)] (wDe hd nx nd sz kd pl) sz0) (rwI (S := Int × Int) D (fun z U => z = 0 ∧ U = (a, b)) (fun u => wDe hd nx nd sz u.1 u.2) (va_A (wDe hd nx nd sz kd pl) sz0)) 0 0 (va_A (wDe hd nx nd sz kd pl) sz0) := by
  refine Met.ofW (cc := cX1_refuse) (maxL := 3) (ret := (some .boolean)) (by decide) rfl ?_
  intro p e s m args below meth c s₁ B hml hv
  obtain ⟨rfl, hsz, hP, hE, hD0⟩ := hv
  have hx := B.exec
  have hb := B.bytes
  have hr := B.returns
  have hts := atoms_spec (ws := wsX1_refuse) B.pre
  have hown : s.vm.findClass RX1 = some m.cls := findClass_of_methodNamed B.named
  have hlocks := B.notSynchronized
  have hK := hE.1
  subst hsz
  have hD := hD0.self (sz := s.heap.size)
  generalize hAe : va_A (wDe hd nx nd sz kd pl) s.heap.size = A at hD ⊢
  have hA : ∀ q : Nat, s.heap.size ≤ q → A q := fun q h => by rw [← hAe]; exact Or.inr h
  have hS : va_S A s.heap s.heap [] := va_S.rf
  have hP : va_P D vwCl (wDe hd nx nd sz kd pl) s.heap := hP
  have hi_1 : ∀ w ∈ wsX10, w ∈ wsX1_refuse := by decide +kernel
  have hw_1 := hts (.fieldLink RX1 21 "RankHouse$Decoder" "kind" "I") (by decide +kernel)
  have hw_2 := hts (.fieldLink RX1 24 "RankHouse$Decoder" "place" "I") (by decide +kernel)
  have hl := lv_entry ([.ref hd, .int (iZ a), .int (iZ b)]) (n := 3) (Nat.le_of_ble_eq_true rfl)
  rw [lg_entry_eq]
  generalize (lg_sl ([.ref hd, .int (iZ a), .int (iZ b)]) ++ List.replicate (3 - (lg_sl ([.ref hd, .int (iZ a), .int (iZ b)])).length) Slot.unset).toArray = ls at hl ⊢
  have hl : lv_has ls 3 [(0, .ref hd), (1, .int (iZ a)), (2, .int (iZ b))] := hl
  refine lv_aload_n hx hb dX1_refuse_0 rfl (lv_at hl 0 rfl) ?_
  refine lv_iload_n hx hb dX1_refuse_1 rfl (lv_at hl 1 rfl) ?_
  refine va_put (v := .int (iZ a)) (ty := .int) (C := RX1) (T := TX1) (N := 5) (ci := 1) hx hb hts hi_1 tyX1 tyX1_ok nmX1 hown hK hP hD hS 0 rfl rfl 3 (by decide) hw_1 (fun _ h9 => h9) rfl (by decide +kernel) rfl rfl (Nat.le_of_ble_eq_true rfl) dX1_refuse_2 (fun H locs hP hD hS => ?_)
  have hP : va_P D vwCl (wDe hd nx nd sz a pl) H := hP
  have hD : va_D A (wDe hd nx nd sz a pl) := hD
  refine lv_aload_n hx hb dX1_refuse_5 rfl (lv_at hl 0 rfl) ?_
  refine lv_iload_n hx hb dX1_refuse_6 rfl (lv_at hl 2 rfl) ?_
  refine va_put (v := .int (iZ b)) (ty := .int) (C := RX1) (T := TX1) (N := 5) (ci := 1) hx hb hts hi_1 tyX1 tyX1_ok nmX1 hown hK hP hD hS 0 rfl rfl 4 (by decide) hw_2 (fun _ h9 => h9) rfl (by decide +kernel) rfl rfl (Nat.le_of_ble_eq_true rfl) dX1_refuse_7 (fun H locs hP hD hS => ?_)
  have hP : va_P D vwCl (wDe hd nx nd sz a b) H := hP
  have hD : va_D A (wDe hd nx nd sz a b) := hD
  refine z_iconst hx hb dX1_refuse_10 ?_
  exact rw_zret (z := 0) (a, b) hx hb hr hlocks (Or.inl rfl) hP hD hS ⟨rfl, rfl⟩ dX1_refuse_11
set_option maxHeartbeats 4000000 in
set_option maxRecDepth 100000 in
theorem c_X1_refuseUnsigned (l : Launch) (D : va_G) (cI cJ cB cZ : ClassId) (hd : Nat) (nx nd sz kd pl : Int) (b : Int) (sz0 : Nat) : Met l yX1_refuseUnsigned wsX1_refuseUnsigned ({ frames := 1, cells := 0, slots := 0, locals := 22 } : Room) (Pre1 D cI cJ cB cZ [.ref hd, .int (iZ b)] (wDe hd nx nd sz kd pl) sz0) (rwI (S := Int × Int) D (fun z U => z = -1 ∧ U = (2, b)) (fun u => wDe hd nx nd sz u.1 u.2) (va_A (wDe hd nx nd sz kd pl) sz0)) 0 0 (va_A (wDe hd nx nd sz kd pl) sz0) := by
  refine Met.ofW (cc := cX1_refuseUnsigned) (maxL := 2) (ret := (some .int)) (by decide) rfl ?_
  intro p e s m args below meth c s₁ B hml hv
  obtain ⟨rfl, hsz, hP, hE, hD0⟩ := hv
  have hx := B.exec
  have hb := B.bytes
  have hr := B.returns
  have hts := atoms_spec (ws := wsX1_refuseUnsigned) B.pre
  have hown : s.vm.findClass RX1 = some m.cls := findClass_of_methodNamed B.named
  have hlocks := B.notSynchronized
  have hK := hE.1
  subst hsz
  have hD := hD0.self (sz := s.heap.size)
  generalize hAe : va_A (wDe hd nx nd sz kd pl) s.heap.size = A at hD ⊢
  have hA : ∀ q : Nat, s.heap.size ≤ q → A q := fun q h => by rw [← hAe]; exact Or.inr h
  have hS : va_S A s.heap s.heap [] := va_S.rf
  have hP : va_P D vwCl (wDe hd nx nd sz kd pl) s.heap := hP
  have hl := lv_entry ([.ref hd, .int (iZ b)]) (n := 2) (Nat.le_of_ble_eq_true rfl)
  rw [lg_entry_eq]
  generalize (lg_sl ([.ref hd, .int (iZ b)]) ++ List.replicate (2 - (lg_sl ([.ref hd, .int (iZ b)])).length) Slot.unset).toArray = ls at hl ⊢
  have hl : lv_has ls 2 [(0, .ref hd), (1, .int (iZ b))] := hl
  refine lv_aload_n hx hb dX1_refuseUnsigned_0 rfl (lv_at hl 0 rfl) ?_
  refine z_iconst hx hb dX1_refuseUnsigned_1 ?_
  refine lv_iload_n hx hb dX1_refuseUnsigned_2 rfl (lv_at hl 1 rfl) ?_
  refine rw_i (wr := []) (va_runV (As := [.int (iZ 2), .int (iZ b)]) (rest := []) ⟨hx, hb, hml, hown, hts⟩ (c_X1_refuse l D cI cJ cB cZ hd nx nd sz kd pl 2 b _) (cwV 2 hts gX1_refuseUnsigned_X1_refuse rfl rfl rfl (by decide +kernel) ⟨Nat.le_of_ble_eq_true rfl, Nat.le_of_ble_eq_true rfl⟩) (pre1V hE hP hD 0 rfl rfl) rfl rfl hl.1 rfl (lv_room (Nat.le_of_ble_eq_true rfl)) dX1_refuseUnsigned_3 ⟨Nat.le_of_ble_eq_true rfl, Nat.le_of_ble_eq_true rfl⟩) hP hD hS hA [0] [] rfl rfl (by decide) (by decide) (fun r_1 u_3 H locs hr_2 hP hD hS => ?_)
  obtain ⟨rfl, rfl⟩ := hr_2
  have hP := hP.sub (ws' := (wDe hd nx nd sz 2 b)) [0] rfl
  have hD := hD.sub (ws' := (wDe hd nx nd sz 2 b)) [0] (by decide) rfl
  refine lv_pop hx hb dX1_refuseUnsigned_6 rfl ?_
  refine z_iconst hx hb dX1_refuseUnsigned_7 ?_
  exact rw_iret (z := (-1)) (2, b) hx hb hr hlocks hP hD hS ⟨rfl, rfl⟩ dX1_refuseUnsigned_8
set_option maxHeartbeats 4000000 in
set_option maxRecDepth 100000 in
theorem c_X1_signed (l : Launch) (D : va_G) (cI cJ cB cZ : ClassId) (a : Int) (ha : 0 ≤ a ∧ a ≤ 65535) : Met l yX1_signed wsX1_signed ({ frames := 0, cells := 0, slots := 0, locals := 0 } : Room) (Pre0 D cI cJ cB cZ [.int (iZ a)] []) (roI (fun z => z = sg a)) 0 0 (fun _ => False) := by
  refine Met.ofW (cc := cX1_signed) (maxL := 1) (ret := (some .int)) (by decide) rfl ?_
  intro p e s m args below meth c s₁ B hml hv
  obtain ⟨rfl, hP, hE⟩ := hv
  have hx := B.exec
  have hb := B.bytes
  have hr := B.returns
  have hts := atoms_spec (ws := wsX1_signed) B.pre
  have hown : s.vm.findClass RX1 = some m.cls := findClass_of_methodNamed B.named
  have hlocks := B.notSynchronized
  have hK := hE.1
  have hl := lv_entry ([.int (iZ a)]) (n := 1) (Nat.le_of_ble_eq_true rfl)
  rw [lg_entry_eq]
  generalize (lg_sl ([.int (iZ a)]) ++ List.replicate (1 - (lg_sl ([.int (iZ a)])).length) Slot.unset).toArray = ls at hl ⊢
  have hl : lv_has ls 1 [(0, .int (iZ a))] := hl
  refine lv_iload_n hx hb dX1_signed_0 rfl (lv_at hl 0 rfl) ?_
  refine z_iconst hx hb dX1_signed_1 ?_
  refine z_iand (a % 2) hx hb dX1_signed_2 (iZ_and1 a) ?_
  refine z_if_ne (tgt := 12) hx hb dX1_signed_3 (by decide) (by omega) (fun c_1 => ?_) (fun c_1 => ?_)
  · refine lv_iload_n hx hb dX1_signed_12 rfl (lv_at hl 0 rfl) ?_
    refine z_iconst hx hb dX1_signed_13 ?_
    refine z_iadd hx hb dX1_signed_14 ?_
    refine z_iconst hx hb dX1_signed_15 ?_
    refine z_ishr ((a + 1) / 2 ^ 1) hx hb dX1_signed_16 (iZ_shr 1 (by omega) rfl) ?_
    refine z_ineg hx hb dX1_signed_17 ?_
    exact ro_iret (z := -((a + 1) / 2 ^ 1)) hx hb hr hlocks (by unfold sg; split <;> omega) dX1_signed_18
  · refine lv_iload_n hx hb dX1_signed_6 rfl (lv_at hl 0 rfl) ?_
    refine z_iconst hx hb dX1_signed_7 ?_
    refine z_ishr (a / 2 ^ 1) hx hb dX1_signed_8 (iZ_shr 1 (by omega) rfl) ?_
    refine lv_goto (tgt := 18) hx hb dX1_signed_9 (by decide) ?_
    exact ro_iret (z := a / 2 ^ 1) hx hb hr hlocks (by unfold sg; split <;> omega) dX1_signed_18
set_option maxHeartbeats 4000000 in
set_option maxRecDepth 100000 in
theorem c_X1_unsigned (l : Launch) (D : va_G) (cI cJ cB cZ : ClassId) (hd ht ta : Nat) (nx nd sz kd pl : Int) (tf : Nat → Int) (len : Int) (hT : ∀ j, j < len.toNat → 0 ≤ tf j ∧ tf j < 256) (hL : 0 ≤ len ∧ len ≤ 2000) (hnx : 0 ≤ nx ∧ nx ≤ len)  (sz0 : Nat) : Met l yX1_unsigned wsX1_unsigned ({ frames := 2, cells := 0, slots := 0, locals := 43 } : Room) (Pre1 D cI cJ cB cZ [.ref hd, .ref ht] (wDe hd nx nd sz kd pl ++ wBR 2000 cI ht ta tf len) sz0) (rwI (S := Int × Int × Int) D (fun z U => uR (uns tf len.toNat nx.toNat) kd pl z U.1 U.2.1 U.2.2) (fun u => wDe hd u.1 nd sz u.2.1 u.2.2 ++ wBR 2000 cI ht ta tf len) (va_A (wDe hd nx nd sz kd pl ++ wBR 2000 cI ht ta tf len) sz0)) 0 0 (va_A (wDe hd nx nd sz kd pl ++ wBR 2000 cI ht ta tf len) sz0) := by
  refine Met.ofW (cc := cX1_unsigned) (maxL := 7) (ret := (some .int)) (by decide) rfl ?_
  intro p e s m args below meth c s₁ B hml hv
  obtain ⟨rfl, hsz, hP, hE, hD0⟩ := hv
  have hx := B.exec
  have hb := B.bytes
  have hr := B.returns
  have hts := atoms_spec (ws := wsX1_unsigned) B.pre
  have hown : s.vm.findClass RX1 = some m.cls := findClass_of_methodNamed B.named
  have hlocks := B.notSynchronized
  have hK := hE.1
  subst hsz
  have hD := hD0.self (sz := s.heap.size)
  generalize hAe : va_A (wDe hd nx nd sz kd pl ++ wBR 2000 cI ht ta tf len) s.heap.size = A at hD ⊢
  have hA : ∀ q : Nat, s.heap.size ≤ q → A q := fun q h => by rw [← hAe]; exact Or.inr h
  have hS : va_S A s.heap s.heap [] := va_S.rf
  have hP : va_P D vwCl (wDe hd nx nd sz kd pl ++ wBR 2000 cI ht ta tf len) s.heap := hP
  have hi_0 : ∀ w ∈ wsX00, w ∈ wsX1_unsigned := by decide +kernel
  have hi_1 : ∀ w ∈ wsX10, w ∈ wsX1_unsigned := by decide +kernel
  have hw_1 := hts (.fieldLink RX1 9 "RankHouse$Decoder" "next" "I") (by decide +kernel)
  have hw_2 := hE.nl (w := .fieldLinkNest RX1 49 "RankHouse$ByteRow" "length" "I" "RankHouse") (by decide +kernel) ([.ref hd, .ref ht] : List Value).toArray
  have hw_3 := hE.nl (w := .fieldLinkNest RX1 61 "RankHouse$ByteRow" "bytes" "[I" "RankHouse") (by decide +kernel) ([.ref hd, .ref ht] : List Value).toArray
  have hw_4 := hts (.constant RX1 65 (65535)) (by decide +kernel)
  have hl := lv_entry ([.ref hd, .ref ht]) (n := 7) (Nat.le_of_ble_eq_true rfl)
  rw [lg_entry_eq]
  generalize (lg_sl ([.ref hd, .ref ht]) ++ List.replicate (7 - (lg_sl ([.ref hd, .ref ht])).length) Slot.unset).toArray = ls at hl ⊢
  have hl : lv_has ls 7 [(0, .ref hd), (1, .ref ht)] := hl
  refine lv_aload_n hx hb dX1_unsigned_0 rfl (lv_at hl 0 rfl) ?_
  refine va_get (v := .int (iZ nx)) (C := RX1) (T := TX1) (N := 5) (ci := 1) hx hb hts hi_1 hown hK hP 0 rfl rfl 0 (by decide) hw_1 (fun _ h9 => h9) rfl dX1_unsigned_1 ?_
  refine lv_istore_n (lv' := [(2, .int (iZ nx)), (0, .ref hd), (1, .ref ht)]) hx hb dX1_unsigned_4 rfl hl (by decide) rfl (fun ls hl => ?_)
  refine z_iconst hx hb dX1_unsigned_5 ?_
  refine lv_istore_n (lv' := [(3, .int (iZ 0)), (2, .int (iZ nx)), (0, .ref hd), (1, .ref ht)]) hx hb dX1_unsigned_6 rfl hl (by decide) rfl (fun ls hl => ?_)
  refine z_iconst hx hb dX1_unsigned_7 ?_
  refine lv_istore (lv' := [(4, .int (iZ 0)), (3, .int (iZ 0)), (2, .int (iZ nx)), (0, .ref hd), (1, .ref ht)]) hx hb dX1_unsigned_8 hl (by decide) rfl (fun ls hl => ?_)
  refine lv_iload hx hb dX1_unsigned_10 (lv_at hl 0 rfl) ?_
  refine z_bipush hx hb dX1_unsigned_12 (by decide) ?_
  refine z_icmp_gt (tgt := 124) hx hb dX1_unsigned_14 (by decide) (by omega) (by omega) (fun c9 => absurd c9 (by decide)) (fun _ => ?_)
  refine lv_aload_n hx hb dX1_unsigned_17 rfl (lv_at hl 3 rfl) ?_
  refine va_get (v := .int (iZ nx)) (C := RX1) (T := TX1) (N := 5) (ci := 1) hx hb hts hi_1 hown hK hP 0 rfl rfl 0 (by decide) hw_1 (fun _ h9 => h9) rfl dX1_unsigned_18 ?_
  refine lv_aload_n hx hb dX1_unsigned_21 rfl (lv_at hl 4 rfl) ?_
  refine va_getN (v := .int (iZ len)) (C := RX0) (T := TX0) (N := 2) (ci := 0) hx hb hts hi_0 hown hK hP 1 rfl rfl 1 (by decide) hw_2 (fun _ h9 => h9) rfl dX1_unsigned_22 ?_
  refine z_icmp_lt (tgt := 40) hx hb dX1_unsigned_25 (by decide) (by omega) (by omega) (fun c_1 => ?_) (fun c_1 => ?_)
  · have t_2 := hT nx.toNat (by omega)
    refine lv_aload_n hx hb dX1_unsigned_40 rfl (lv_at hl 4 rfl) ?_
    refine va_getN (v := .ref ta) (C := RX0) (T := TX0) (N := 2) (ci := 0) hx hb hts hi_0 hown hK hP 1 rfl rfl 0 (by decide) hw_3 (fun _ h9 => h9) rfl dX1_unsigned_41 ?_
    refine lv_aload_n hx hb dX1_unsigned_44 rfl (lv_at hl 3 rfl) ?_
    refine va_get (v := .int (iZ nx)) (C := RX1) (T := TX1) (N := 5) (ci := 1) hx hb hts hi_1 hown hK hP 0 rfl rfl 0 (by decide) hw_1 (fun _ h9 => h9) rfl dX1_unsigned_45 ?_
    refine z_iald hx hb hK hP 2 0 rfl rfl nx.toNat (by omega) (by omega) (by omega) dX1_unsigned_48 ?_
    refine lv_istore (lv' := [(5, .int (iZ (tf nx.toNat))), (4, .int (iZ 0)), (3, .int (iZ 0)), (2, .int (iZ nx)), (0, .ref hd), (1, .ref ht)]) hx hb dX1_unsigned_49 hl (by decide) rfl (fun ls hl => ?_)
    refine lv_aload_n hx hb dX1_unsigned_51 rfl (lv_at hl 4 rfl) ?_
    refine lv_dup hx hb dX1_unsigned_52 rfl ?_
    refine va_get (v := .int (iZ nx)) (C := RX1) (T := TX1) (N := 5) (ci := 1) hx hb hts hi_1 hown hK hP 0 rfl rfl 0 (by decide) hw_1 (fun _ h9 => h9) rfl dX1_unsigned_53 ?_
    refine z_iconst hx hb dX1_unsigned_56 ?_
    refine z_iadd hx hb dX1_unsigned_57 ?_
    refine va_put (v := .int (iZ (nx + 1))) (ty := .int) (C := RX1) (T := TX1) (N := 5) (ci := 1) hx hb hts hi_1 tyX1 tyX1_ok nmX1 hown hK hP hD hS 0 rfl rfl 0 (by decide) hw_1 (fun _ h9 => h9) rfl (by decide +kernel) rfl rfl (Nat.le_of_ble_eq_true rfl) dX1_unsigned_58 (fun H locs hP hD hS => ?_)
    have hP : va_P D vwCl (wDe hd (nx + 1) nd sz kd pl ++ wBR 2000 cI ht ta tf len) H := hP
    have hD : va_D A (wDe hd (nx + 1) nd sz kd pl ++ wBR 2000 cI ht ta tf len) := hD
    refine lv_iload_n hx hb dX1_unsigned_61 rfl (lv_at hl 2 rfl) ?_
    refine lv_iload hx hb dX1_unsigned_62 (lv_at hl 0 rfl) ?_
    refine z_bipush hx hb dX1_unsigned_64 (by decide) ?_
    refine z_iand ((tf nx.toNat) % 128) hx hb dX1_unsigned_66 (iZ_and127 _) ?_
    refine lv_iload hx hb dX1_unsigned_67 (lv_at hl 1 rfl) ?_
    refine z_ishl ((tf nx.toNat) % 128) hx hb dX1_unsigned_69 (iZ_shl0 (by omega)) ?_
    refine z_iadd hx hb dX1_unsigned_70 ?_
    refine lv_istore_n (lv' := [(3, .int (iZ (0 + ((tf nx.toNat) % 128)))), (5, .int (iZ (tf nx.toNat))), (4, .int (iZ 0)), (2, .int (iZ nx)), (0, .ref hd), (1, .ref ht)]) hx hb dX1_unsigned_71 rfl hl (by decide) rfl (fun ls hl => ?_)
    refine lv_iload hx hb dX1_unsigned_72 (lv_at hl 1 rfl) ?_
    refine z_sipush hx hb dX1_unsigned_74 (by decide) ?_
    refine z_icmp_ge (tgt := 118) hx hb dX1_unsigned_77 (by decide) (by omega) (by omega) (fun c_3 => ?_) (fun c_3 => ?_)
    · refine lv_iinc (v := iZ (7)) (lv' := [(4, .int (iZ 7)), (3, .int (iZ (0 + ((tf nx.toNat) % 128)))), (5, .int (iZ (tf nx.toNat))), (2, .int (iZ nx)), (0, .ref hd), (1, .ref ht)]) hx hb dX1_unsigned_118 hl (k := 2) rfl (show iZ 0 + iZ 7 = _ from iZ_add _ _) (by decide) rfl (fun ls hl => ?_)
      refine lv_goto (tgt := 10) hx hb dX1_unsigned_121 (by decide) ?_
      refine lv_iload hx hb dX1_unsigned_10 (lv_at hl 0 rfl) ?_
      refine z_bipush hx hb dX1_unsigned_12 (by decide) ?_
      refine z_icmp_gt (tgt := 124) hx hb dX1_unsigned_14 (by decide) (by omega) (by omega) (fun c9 => absurd c9 (by decide)) (fun _ => ?_)
      refine lv_aload_n hx hb dX1_unsigned_17 rfl (lv_at hl 4 rfl) ?_
      refine va_get (v := .int (iZ (nx + 1))) (C := RX1) (T := TX1) (N := 5) (ci := 1) hx hb hts hi_1 hown hK hP 0 rfl rfl 0 (by decide) hw_1 (fun _ h9 => h9) rfl dX1_unsigned_18 ?_
      refine lv_aload_n hx hb dX1_unsigned_21 rfl (lv_at hl 5 rfl) ?_
      refine va_getN (v := .int (iZ len)) (C := RX0) (T := TX0) (N := 2) (ci := 0) hx hb hts hi_0 hown hK hP 1 rfl rfl 1 (by decide) hw_2 (fun _ h9 => h9) rfl dX1_unsigned_22 ?_
      refine z_icmp_lt (tgt := 40) hx hb dX1_unsigned_25 (by decide) (by omega) (by omega) (fun c_4 => ?_) (fun c_4 => ?_)
      · have t_5 := hT (nx.toNat + 1) (by omega)
        refine lv_aload_n hx hb dX1_unsigned_40 rfl (lv_at hl 5 rfl) ?_
        refine va_getN (v := .ref ta) (C := RX0) (T := TX0) (N := 2) (ci := 0) hx hb hts hi_0 hown hK hP 1 rfl rfl 0 (by decide) hw_3 (fun _ h9 => h9) rfl dX1_unsigned_41 ?_
        refine lv_aload_n hx hb dX1_unsigned_44 rfl (lv_at hl 4 rfl) ?_
        refine va_get (v := .int (iZ (nx + 1))) (C := RX1) (T := TX1) (N := 5) (ci := 1) hx hb hts hi_1 hown hK hP 0 rfl rfl 0 (by decide) hw_1 (fun _ h9 => h9) rfl dX1_unsigned_45 ?_
        refine z_iald hx hb hK hP 2 0 rfl rfl (nx.toNat + 1) (by omega) (by omega) (by omega) dX1_unsigned_48 ?_
        refine lv_istore (lv' := [(5, .int (iZ (tf (nx.toNat + 1)))), (4, .int (iZ 7)), (3, .int (iZ (0 + ((tf nx.toNat) % 128)))), (2, .int (iZ nx)), (0, .ref hd), (1, .ref ht)]) hx hb dX1_unsigned_49 hl (by decide) rfl (fun ls hl => ?_)
        refine lv_aload_n hx hb dX1_unsigned_51 rfl (lv_at hl 4 rfl) ?_
        refine lv_dup hx hb dX1_unsigned_52 rfl ?_
        refine va_get (v := .int (iZ (nx + 1))) (C := RX1) (T := TX1) (N := 5) (ci := 1) hx hb hts hi_1 hown hK hP 0 rfl rfl 0 (by decide) hw_1 (fun _ h9 => h9) rfl dX1_unsigned_53 ?_
        refine z_iconst hx hb dX1_unsigned_56 ?_
        refine z_iadd hx hb dX1_unsigned_57 ?_
        refine va_put (v := .int (iZ ((nx + 1) + 1))) (ty := .int) (C := RX1) (T := TX1) (N := 5) (ci := 1) hx hb hts hi_1 tyX1 tyX1_ok nmX1 hown hK hP hD hS 0 rfl rfl 0 (by decide) hw_1 (fun _ h9 => h9) rfl (by decide +kernel) rfl rfl (Nat.le_of_ble_eq_true rfl) dX1_unsigned_58 (fun H locs hP hD hS => ?_)
        have hP : va_P D vwCl (wDe hd ((nx + 1) + 1) nd sz kd pl ++ wBR 2000 cI ht ta tf len) H := hP
        have hD : va_D A (wDe hd ((nx + 1) + 1) nd sz kd pl ++ wBR 2000 cI ht ta tf len) := hD
        refine lv_iload_n hx hb dX1_unsigned_61 rfl (lv_at hl 2 rfl) ?_
        refine lv_iload hx hb dX1_unsigned_62 (lv_at hl 0 rfl) ?_
        refine z_bipush hx hb dX1_unsigned_64 (by decide) ?_
        refine z_iand ((tf (nx.toNat + 1)) % 128) hx hb dX1_unsigned_66 (iZ_and127 _) ?_
        refine lv_iload hx hb dX1_unsigned_67 (lv_at hl 1 rfl) ?_
        refine z_ishl (((tf (nx.toNat + 1)) % 128) * 128) hx hb dX1_unsigned_69 (iZ_shl7 (by omega)) ?_
        refine z_iadd hx hb dX1_unsigned_70 ?_
        refine lv_istore_n (lv' := [(3, .int (iZ ((0 + ((tf nx.toNat) % 128)) + (((tf (nx.toNat + 1)) % 128) * 128)))), (5, .int (iZ (tf (nx.toNat + 1)))), (4, .int (iZ 7)), (2, .int (iZ nx)), (0, .ref hd), (1, .ref ht)]) hx hb dX1_unsigned_71 rfl hl (by decide) rfl (fun ls hl => ?_)
        refine lv_iload hx hb dX1_unsigned_72 (lv_at hl 1 rfl) ?_
        refine z_sipush hx hb dX1_unsigned_74 (by decide) ?_
        refine z_icmp_ge (tgt := 118) hx hb dX1_unsigned_77 (by decide) (by omega) (by omega) (fun c_6 => ?_) (fun c_6 => ?_)
        · refine lv_iinc (v := iZ (14)) (lv' := [(4, .int (iZ 14)), (3, .int (iZ ((0 + ((tf nx.toNat) % 128)) + (((tf (nx.toNat + 1)) % 128) * 128)))), (5, .int (iZ (tf (nx.toNat + 1)))), (2, .int (iZ nx)), (0, .ref hd), (1, .ref ht)]) hx hb dX1_unsigned_118 hl (k := 2) rfl (show iZ 7 + iZ 7 = _ from iZ_add _ _) (by decide) rfl (fun ls hl => ?_)
          refine lv_goto (tgt := 10) hx hb dX1_unsigned_121 (by decide) ?_
          refine lv_iload hx hb dX1_unsigned_10 (lv_at hl 0 rfl) ?_
          refine z_bipush hx hb dX1_unsigned_12 (by decide) ?_
          refine z_icmp_gt (tgt := 124) hx hb dX1_unsigned_14 (by decide) (by omega) (by omega) (fun c9 => absurd c9 (by decide)) (fun _ => ?_)
          refine lv_aload_n hx hb dX1_unsigned_17 rfl (lv_at hl 4 rfl) ?_
          refine va_get (v := .int (iZ ((nx + 1) + 1))) (C := RX1) (T := TX1) (N := 5) (ci := 1) hx hb hts hi_1 hown hK hP 0 rfl rfl 0 (by decide) hw_1 (fun _ h9 => h9) rfl dX1_unsigned_18 ?_
          refine lv_aload_n hx hb dX1_unsigned_21 rfl (lv_at hl 5 rfl) ?_
          refine va_getN (v := .int (iZ len)) (C := RX0) (T := TX0) (N := 2) (ci := 0) hx hb hts hi_0 hown hK hP 1 rfl rfl 1 (by decide) hw_2 (fun _ h9 => h9) rfl dX1_unsigned_22 ?_
          refine z_icmp_lt (tgt := 40) hx hb dX1_unsigned_25 (by decide) (by omega) (by omega) (fun c_7 => ?_) (fun c_7 => ?_)
          · have t_8 := hT (nx.toNat + 2) (by omega)
            refine lv_aload_n hx hb dX1_unsigned_40 rfl (lv_at hl 5 rfl) ?_
            refine va_getN (v := .ref ta) (C := RX0) (T := TX0) (N := 2) (ci := 0) hx hb hts hi_0 hown hK hP 1 rfl rfl 0 (by decide) hw_3 (fun _ h9 => h9) rfl dX1_unsigned_41 ?_
            refine lv_aload_n hx hb dX1_unsigned_44 rfl (lv_at hl 4 rfl) ?_
            refine va_get (v := .int (iZ ((nx + 1) + 1))) (C := RX1) (T := TX1) (N := 5) (ci := 1) hx hb hts hi_1 hown hK hP 0 rfl rfl 0 (by decide) hw_1 (fun _ h9 => h9) rfl dX1_unsigned_45 ?_
            refine z_iald hx hb hK hP 2 0 rfl rfl (nx.toNat + 2) (by omega) (by omega) (by omega) dX1_unsigned_48 ?_
            refine lv_istore (lv' := [(5, .int (iZ (tf (nx.toNat + 2)))), (4, .int (iZ 14)), (3, .int (iZ ((0 + ((tf nx.toNat) % 128)) + (((tf (nx.toNat + 1)) % 128) * 128)))), (2, .int (iZ nx)), (0, .ref hd), (1, .ref ht)]) hx hb dX1_unsigned_49 hl (by decide) rfl (fun ls hl => ?_)
            refine lv_aload_n hx hb dX1_unsigned_51 rfl (lv_at hl 4 rfl) ?_
            refine lv_dup hx hb dX1_unsigned_52 rfl ?_
            refine va_get (v := .int (iZ ((nx + 1) + 1))) (C := RX1) (T := TX1) (N := 5) (ci := 1) hx hb hts hi_1 hown hK hP 0 rfl rfl 0 (by decide) hw_1 (fun _ h9 => h9) rfl dX1_unsigned_53 ?_
            refine z_iconst hx hb dX1_unsigned_56 ?_
            refine z_iadd hx hb dX1_unsigned_57 ?_
            refine va_put (v := .int (iZ (((nx + 1) + 1) + 1))) (ty := .int) (C := RX1) (T := TX1) (N := 5) (ci := 1) hx hb hts hi_1 tyX1 tyX1_ok nmX1 hown hK hP hD hS 0 rfl rfl 0 (by decide) hw_1 (fun _ h9 => h9) rfl (by decide +kernel) rfl rfl (Nat.le_of_ble_eq_true rfl) dX1_unsigned_58 (fun H locs hP hD hS => ?_)
            have hP : va_P D vwCl (wDe hd (((nx + 1) + 1) + 1) nd sz kd pl ++ wBR 2000 cI ht ta tf len) H := hP
            have hD : va_D A (wDe hd (((nx + 1) + 1) + 1) nd sz kd pl ++ wBR 2000 cI ht ta tf len) := hD
            refine lv_iload_n hx hb dX1_unsigned_61 rfl (lv_at hl 2 rfl) ?_
            refine lv_iload hx hb dX1_unsigned_62 (lv_at hl 0 rfl) ?_
            refine z_bipush hx hb dX1_unsigned_64 (by decide) ?_
            refine z_iand ((tf (nx.toNat + 2)) % 128) hx hb dX1_unsigned_66 (iZ_and127 _) ?_
            refine lv_iload hx hb dX1_unsigned_67 (lv_at hl 1 rfl) ?_
            refine z_ishl (((tf (nx.toNat + 2)) % 128) * 16384) hx hb dX1_unsigned_69 (iZ_shl14 (by omega)) ?_
            refine z_iadd hx hb dX1_unsigned_70 ?_
            refine lv_istore_n (lv' := [(3, .int (iZ (((0 + ((tf nx.toNat) % 128)) + (((tf (nx.toNat + 1)) % 128) * 128)) + (((tf (nx.toNat + 2)) % 128) * 16384)))), (5, .int (iZ (tf (nx.toNat + 2)))), (4, .int (iZ 14)), (2, .int (iZ nx)), (0, .ref hd), (1, .ref ht)]) hx hb dX1_unsigned_71 rfl hl (by decide) rfl (fun ls hl => ?_)
            refine lv_iload hx hb dX1_unsigned_72 (lv_at hl 1 rfl) ?_
            refine z_sipush hx hb dX1_unsigned_74 (by decide) ?_
            refine z_icmp_ge (tgt := 118) hx hb dX1_unsigned_77 (by decide) (by omega) (by omega) (fun c_9 => ?_) (fun c_9 => ?_)
            · refine lv_iinc (v := iZ (21)) (lv' := [(4, .int (iZ 21)), (3, .int (iZ (((0 + ((tf nx.toNat) % 128)) + (((tf (nx.toNat + 1)) % 128) * 128)) + (((tf (nx.toNat + 2)) % 128) * 16384)))), (5, .int (iZ (tf (nx.toNat + 2)))), (2, .int (iZ nx)), (0, .ref hd), (1, .ref ht)]) hx hb dX1_unsigned_118 hl (k := 2) rfl (show iZ 14 + iZ 7 = _ from iZ_add _ _) (by decide) rfl (fun ls hl => ?_)
              refine lv_goto (tgt := 10) hx hb dX1_unsigned_121 (by decide) ?_
              refine lv_iload hx hb dX1_unsigned_10 (lv_at hl 0 rfl) ?_
              refine z_bipush hx hb dX1_unsigned_12 (by decide) ?_
              refine z_icmp_gt (tgt := 124) hx hb dX1_unsigned_14 (by decide) (by omega) (by omega) (fun _ => ?_) (fun c9 => absurd c9 (by decide))
              refine lv_aload_n hx hb dX1_unsigned_124 rfl (lv_at hl 4 rfl) ?_
              refine lv_iload_n hx hb dX1_unsigned_125 rfl (lv_at hl 3 rfl) ?_
              refine rw_i (wr := [(ht, .inr (0, [.ref ta, .int (iZ len)])), (ta, .inl (cI, 2000, .inl (aI tf)))]) (va_runV (As := [.int (iZ nx)]) (rest := []) ⟨hx, hb, hml, hown, hts⟩ (c_X1_refuseUnsigned l D cI cJ cB cZ hd (((nx + 1) + 1) + 1) nd sz kd pl nx _) (cwV 1 hts gX1_unsigned_X1_refuseUnsigned rfl rfl rfl (by decide +kernel) ⟨Nat.le_of_ble_eq_true rfl, Nat.le_of_ble_eq_true rfl⟩) (pre1V hE (hP.sub (ws' := (wDe hd (((nx + 1) + 1) + 1) nd sz kd pl)) [0] rfl) (hD.sub (ws' := (wDe hd (((nx + 1) + 1) + 1) nd sz kd pl)) [0] (by decide) rfl) 0 rfl rfl) rfl rfl hl.1 rfl (lv_room (Nat.le_of_ble_eq_true rfl)) dX1_unsigned_126 ⟨Nat.le_of_ble_eq_true rfl, Nat.le_of_ble_eq_true rfl⟩) hP hD hS hA [0] [1, 2] rfl rfl (by decide) (by decide) (fun r_10 u_12 H locs hr_11 hP hD hS => ?_)
              obtain ⟨rfl, rfl⟩ := hr_11
              have hP := hP.sub (ws' := (wDe hd (((nx + 1) + 1) + 1) nd sz 2 nx ++ wBR 2000 cI ht ta tf len)) [2, 0, 1] rfl
              have hD := hD.sub (ws' := (wDe hd (((nx + 1) + 1) + 1) nd sz 2 nx ++ wBR 2000 cI ht ta tf len)) [2, 0, 1] (by decide) rfl
              exact rw_iret (z := (-1)) (((nx + 1) + 1) + 1, 2, nx) hx hb hr hlocks hP hD hS (by first | (rw [uns_e0 (by omega)]; dsimp only [uR]; omega) | (rw [uns_v0 (by omega) (by omega)]; dsimp only [uR]; omega) | (rw [uns_e1 (by omega) (by omega) (by omega)]; dsimp only [uR]; omega) | (rw [uns_z1 (by omega) (by omega) (by omega) (by omega) (by omega)]; dsimp only [uR]; omega) | (rw [uns_v1 (by omega) (by omega) (by omega) (by omega) (by omega)]; dsimp only [uR]; omega) | (rw [uns_e2 (by omega) (by omega) (by omega) (by omega) (by omega)]; dsimp only [uR]; omega) | (rw [uns_z2 (by omega) (by omega) (by omega) (by omega) (by omega) (by omega) (by omega)]; dsimp only [uR]; omega) | (rw [uns_v2 (by omega) (by omega) (by omega) (by omega) (by omega) (by omega) (by omega)]; dsimp only [uR]; omega) | (rw [uns_b (by omega) (by omega) (by omega) (by omega) (by omega) (by omega)]; dsimp only [uR]; omega)) dX1_unsigned_129
            · refine lv_iload hx hb dX1_unsigned_80 (lv_at hl 2 rfl) ?_
              refine z_if_le (tgt := 94) hx hb dX1_unsigned_82 (by decide) (by omega) (fun c9 => absurd c9 (by decide)) (fun _ => ?_)
              refine lv_iload hx hb dX1_unsigned_85 (lv_at hl 1 rfl) ?_
              refine z_if_ne (tgt := 94) hx hb dX1_unsigned_87 (by decide) (by omega) (fun c_13 => ?_) (fun c_13 => ?_)
              · refine z_iconst hx hb dX1_unsigned_94 ?_
                refine lv_istore (lv' := [(6, .int (iZ 0)), (3, .int (iZ (((0 + ((tf nx.toNat) % 128)) + (((tf (nx.toNat + 1)) % 128) * 128)) + (((tf (nx.toNat + 2)) % 128) * 16384)))), (5, .int (iZ (tf (nx.toNat + 2)))), (4, .int (iZ 14)), (2, .int (iZ nx)), (0, .ref hd), (1, .ref ht)]) hx hb dX1_unsigned_95 hl (by decide) rfl (fun ls hl => ?_)
                refine lv_iload hx hb dX1_unsigned_97 (lv_at hl 0 rfl) ?_
                refine z_if_ne (tgt := 108) hx hb dX1_unsigned_99 (by decide) (by omega) (fun c9 => absurd c9 (by decide)) (fun _ => ?_)
                refine lv_iload_n hx hb dX1_unsigned_102 rfl (lv_at hl 1 rfl) ?_
                refine z_ldc hx hb (65535) hown hw_4 (by decide) dX1_unsigned_103 ?_
                refine z_icmp_le (tgt := 116) hx hb dX1_unsigned_105 (by decide) (by omega) (by omega) (fun c_14 => ?_) (fun c_14 => ?_)
                · refine lv_iload_n hx hb dX1_unsigned_116 rfl (lv_at hl 1 rfl) ?_
                  exact rw_iret (z := ((0 + ((tf nx.toNat) % 128)) + (((tf (nx.toNat + 1)) % 128) * 128)) + (((tf (nx.toNat + 2)) % 128) * 16384)) (((nx + 1) + 1) + 1, kd, pl) hx hb hr hlocks hP hD hS (by first | (rw [uns_e0 (by omega)]; dsimp only [uR]; omega) | (rw [uns_v0 (by omega) (by omega)]; dsimp only [uR]; omega) | (rw [uns_e1 (by omega) (by omega) (by omega)]; dsimp only [uR]; omega) | (rw [uns_z1 (by omega) (by omega) (by omega) (by omega) (by omega)]; dsimp only [uR]; omega) | (rw [uns_v1 (by omega) (by omega) (by omega) (by omega) (by omega)]; dsimp only [uR]; omega) | (rw [uns_e2 (by omega) (by omega) (by omega) (by omega) (by omega)]; dsimp only [uR]; omega) | (rw [uns_z2 (by omega) (by omega) (by omega) (by omega) (by omega) (by omega) (by omega)]; dsimp only [uR]; omega) | (rw [uns_v2 (by omega) (by omega) (by omega) (by omega) (by omega) (by omega) (by omega)]; dsimp only [uR]; omega) | (rw [uns_b (by omega) (by omega) (by omega) (by omega) (by omega) (by omega)]; dsimp only [uR]; omega)) dX1_unsigned_117
                · refine lv_aload_n hx hb dX1_unsigned_108 rfl (lv_at hl 5 rfl) ?_
                  refine lv_iload_n hx hb dX1_unsigned_109 rfl (lv_at hl 4 rfl) ?_
                  refine rw_i (wr := [(ht, .inr (0, [.ref ta, .int (iZ len)])), (ta, .inl (cI, 2000, .inl (aI tf)))]) (va_runV (As := [.int (iZ nx)]) (rest := []) ⟨hx, hb, hml, hown, hts⟩ (c_X1_refuseUnsigned l D cI cJ cB cZ hd (((nx + 1) + 1) + 1) nd sz kd pl nx _) (cwV 1 hts gX1_unsigned_X1_refuseUnsigned rfl rfl rfl (by decide +kernel) ⟨Nat.le_of_ble_eq_true rfl, Nat.le_of_ble_eq_true rfl⟩) (pre1V hE (hP.sub (ws' := (wDe hd (((nx + 1) + 1) + 1) nd sz kd pl)) [0] rfl) (hD.sub (ws' := (wDe hd (((nx + 1) + 1) + 1) nd sz kd pl)) [0] (by decide) rfl) 0 rfl rfl) rfl rfl hl.1 rfl (lv_room (Nat.le_of_ble_eq_true rfl)) dX1_unsigned_110 ⟨Nat.le_of_ble_eq_true rfl, Nat.le_of_ble_eq_true rfl⟩) hP hD hS hA [0] [1, 2] rfl rfl (by decide) (by decide) (fun r_15 u_17 H locs hr_16 hP hD hS => ?_)
                  obtain ⟨rfl, rfl⟩ := hr_16
                  have hP := hP.sub (ws' := (wDe hd (((nx + 1) + 1) + 1) nd sz 2 nx ++ wBR 2000 cI ht ta tf len)) [2, 0, 1] rfl
                  have hD := hD.sub (ws' := (wDe hd (((nx + 1) + 1) + 1) nd sz 2 nx ++ wBR 2000 cI ht ta tf len)) [2, 0, 1] (by decide) rfl
                  refine lv_goto (tgt := 117) hx hb dX1_unsigned_113 (by decide) ?_
                  exact rw_iret (z := (-1)) (((nx + 1) + 1) + 1, 2, nx) hx hb hr hlocks hP hD hS (by first | (rw [uns_e0 (by omega)]; dsimp only [uR]; omega) | (rw [uns_v0 (by omega) (by omega)]; dsimp only [uR]; omega) | (rw [uns_e1 (by omega) (by omega) (by omega)]; dsimp only [uR]; omega) | (rw [uns_z1 (by omega) (by omega) (by omega) (by omega) (by omega)]; dsimp only [uR]; omega) | (rw [uns_v1 (by omega) (by omega) (by omega) (by omega) (by omega)]; dsimp only [uR]; omega) | (rw [uns_e2 (by omega) (by omega) (by omega) (by omega) (by omega)]; dsimp only [uR]; omega) | (rw [uns_z2 (by omega) (by omega) (by omega) (by omega) (by omega) (by omega) (by omega)]; dsimp only [uR]; omega) | (rw [uns_v2 (by omega) (by omega) (by omega) (by omega) (by omega) (by omega) (by omega)]; dsimp only [uR]; omega) | (rw [uns_b (by omega) (by omega) (by omega) (by omega) (by omega) (by omega)]; dsimp only [uR]; omega)) dX1_unsigned_117
              · refine z_iconst hx hb dX1_unsigned_90 ?_
                refine lv_goto (tgt := 95) hx hb dX1_unsigned_91 (by decide) ?_
                refine lv_istore (lv' := [(6, .int (iZ 1)), (3, .int (iZ (((0 + ((tf nx.toNat) % 128)) + (((tf (nx.toNat + 1)) % 128) * 128)) + (((tf (nx.toNat + 2)) % 128) * 16384)))), (5, .int (iZ (tf (nx.toNat + 2)))), (4, .int (iZ 14)), (2, .int (iZ nx)), (0, .ref hd), (1, .ref ht)]) hx hb dX1_unsigned_95 hl (by decide) rfl (fun ls hl => ?_)
                refine lv_iload hx hb dX1_unsigned_97 (lv_at hl 0 rfl) ?_
                refine z_if_ne (tgt := 108) hx hb dX1_unsigned_99 (by decide) (by omega) (fun _ => ?_) (fun c9 => absurd c9 (by decide))
                refine lv_aload_n hx hb dX1_unsigned_108 rfl (lv_at hl 5 rfl) ?_
                refine lv_iload_n hx hb dX1_unsigned_109 rfl (lv_at hl 4 rfl) ?_
                refine rw_i (wr := [(ht, .inr (0, [.ref ta, .int (iZ len)])), (ta, .inl (cI, 2000, .inl (aI tf)))]) (va_runV (As := [.int (iZ nx)]) (rest := []) ⟨hx, hb, hml, hown, hts⟩ (c_X1_refuseUnsigned l D cI cJ cB cZ hd (((nx + 1) + 1) + 1) nd sz kd pl nx _) (cwV 1 hts gX1_unsigned_X1_refuseUnsigned rfl rfl rfl (by decide +kernel) ⟨Nat.le_of_ble_eq_true rfl, Nat.le_of_ble_eq_true rfl⟩) (pre1V hE (hP.sub (ws' := (wDe hd (((nx + 1) + 1) + 1) nd sz kd pl)) [0] rfl) (hD.sub (ws' := (wDe hd (((nx + 1) + 1) + 1) nd sz kd pl)) [0] (by decide) rfl) 0 rfl rfl) rfl rfl hl.1 rfl (lv_room (Nat.le_of_ble_eq_true rfl)) dX1_unsigned_110 ⟨Nat.le_of_ble_eq_true rfl, Nat.le_of_ble_eq_true rfl⟩) hP hD hS hA [0] [1, 2] rfl rfl (by decide) (by decide) (fun r_18 u_20 H locs hr_19 hP hD hS => ?_)
                obtain ⟨rfl, rfl⟩ := hr_19
                have hP := hP.sub (ws' := (wDe hd (((nx + 1) + 1) + 1) nd sz 2 nx ++ wBR 2000 cI ht ta tf len)) [2, 0, 1] rfl
                have hD := hD.sub (ws' := (wDe hd (((nx + 1) + 1) + 1) nd sz 2 nx ++ wBR 2000 cI ht ta tf len)) [2, 0, 1] (by decide) rfl
                refine lv_goto (tgt := 117) hx hb dX1_unsigned_113 (by decide) ?_
                exact rw_iret (z := (-1)) (((nx + 1) + 1) + 1, 2, nx) hx hb hr hlocks hP hD hS (by first | (rw [uns_e0 (by omega)]; dsimp only [uR]; omega) | (rw [uns_v0 (by omega) (by omega)]; dsimp only [uR]; omega) | (rw [uns_e1 (by omega) (by omega) (by omega)]; dsimp only [uR]; omega) | (rw [uns_z1 (by omega) (by omega) (by omega) (by omega) (by omega)]; dsimp only [uR]; omega) | (rw [uns_v1 (by omega) (by omega) (by omega) (by omega) (by omega)]; dsimp only [uR]; omega) | (rw [uns_e2 (by omega) (by omega) (by omega) (by omega) (by omega)]; dsimp only [uR]; omega) | (rw [uns_z2 (by omega) (by omega) (by omega) (by omega) (by omega) (by omega) (by omega)]; dsimp only [uR]; omega) | (rw [uns_v2 (by omega) (by omega) (by omega) (by omega) (by omega) (by omega) (by omega)]; dsimp only [uR]; omega) | (rw [uns_b (by omega) (by omega) (by omega) (by omega) (by omega) (by omega)]; dsimp only [uR]; omega)) dX1_unsigned_117
          · refine lv_aload_n hx hb dX1_unsigned_28 rfl (lv_at hl 4 rfl) ?_
            refine z_iconst hx hb dX1_unsigned_29 ?_
            refine lv_aload_n hx hb dX1_unsigned_30 rfl (lv_at hl 5 rfl) ?_
            refine va_getN (v := .int (iZ len)) (C := RX0) (T := TX0) (N := 2) (ci := 0) hx hb hts hi_0 hown hK hP 1 rfl rfl 1 (by decide) hw_2 (fun _ h9 => h9) rfl dX1_unsigned_31 ?_
            refine rw_i (wr := [(ht, .inr (0, [.ref ta, .int (iZ len)])), (ta, .inl (cI, 2000, .inl (aI tf)))]) (va_runV (As := [.int (iZ 1), .int (iZ len)]) (rest := []) ⟨hx, hb, hml, hown, hts⟩ (c_X1_refuse l D cI cJ cB cZ hd ((nx + 1) + 1) nd sz kd pl 1 len _) (cwV 2 hts gX1_unsigned_X1_refuse rfl rfl rfl (by decide +kernel) ⟨Nat.le_of_ble_eq_true rfl, Nat.le_of_ble_eq_true rfl⟩) (pre1V hE (hP.sub (ws' := (wDe hd ((nx + 1) + 1) nd sz kd pl)) [0] rfl) (hD.sub (ws' := (wDe hd ((nx + 1) + 1) nd sz kd pl)) [0] (by decide) rfl) 0 rfl rfl) rfl rfl hl.1 rfl (lv_room (Nat.le_of_ble_eq_true rfl)) dX1_unsigned_34 ⟨Nat.le_of_ble_eq_true rfl, Nat.le_of_ble_eq_true rfl⟩) hP hD hS hA [0] [1, 2] rfl rfl (by decide) (by decide) (fun r_21 u_23 H locs hr_22 hP hD hS => ?_)
            obtain ⟨rfl, rfl⟩ := hr_22
            have hP := hP.sub (ws' := (wDe hd ((nx + 1) + 1) nd sz 1 len ++ wBR 2000 cI ht ta tf len)) [2, 0, 1] rfl
            have hD := hD.sub (ws' := (wDe hd ((nx + 1) + 1) nd sz 1 len ++ wBR 2000 cI ht ta tf len)) [2, 0, 1] (by decide) rfl
            refine lv_pop hx hb dX1_unsigned_37 rfl ?_
            refine z_iconst hx hb dX1_unsigned_38 ?_
            exact rw_iret (z := (-1)) ((nx + 1) + 1, 1, len) hx hb hr hlocks hP hD hS (by first | (rw [uns_e0 (by omega)]; dsimp only [uR]; omega) | (rw [uns_v0 (by omega) (by omega)]; dsimp only [uR]; omega) | (rw [uns_e1 (by omega) (by omega) (by omega)]; dsimp only [uR]; omega) | (rw [uns_z1 (by omega) (by omega) (by omega) (by omega) (by omega)]; dsimp only [uR]; omega) | (rw [uns_v1 (by omega) (by omega) (by omega) (by omega) (by omega)]; dsimp only [uR]; omega) | (rw [uns_e2 (by omega) (by omega) (by omega) (by omega) (by omega)]; dsimp only [uR]; omega) | (rw [uns_z2 (by omega) (by omega) (by omega) (by omega) (by omega) (by omega) (by omega)]; dsimp only [uR]; omega) | (rw [uns_v2 (by omega) (by omega) (by omega) (by omega) (by omega) (by omega) (by omega)]; dsimp only [uR]; omega) | (rw [uns_b (by omega) (by omega) (by omega) (by omega) (by omega) (by omega)]; dsimp only [uR]; omega)) dX1_unsigned_39
        · refine lv_iload hx hb dX1_unsigned_80 (lv_at hl 2 rfl) ?_
          refine z_if_le (tgt := 94) hx hb dX1_unsigned_82 (by decide) (by omega) (fun c9 => absurd c9 (by decide)) (fun _ => ?_)
          refine lv_iload hx hb dX1_unsigned_85 (lv_at hl 1 rfl) ?_
          refine z_if_ne (tgt := 94) hx hb dX1_unsigned_87 (by decide) (by omega) (fun c_24 => ?_) (fun c_24 => ?_)
          · refine z_iconst hx hb dX1_unsigned_94 ?_
            refine lv_istore (lv' := [(6, .int (iZ 0)), (3, .int (iZ ((0 + ((tf nx.toNat) % 128)) + (((tf (nx.toNat + 1)) % 128) * 128)))), (5, .int (iZ (tf (nx.toNat + 1)))), (4, .int (iZ 7)), (2, .int (iZ nx)), (0, .ref hd), (1, .ref ht)]) hx hb dX1_unsigned_95 hl (by decide) rfl (fun ls hl => ?_)
            refine lv_iload hx hb dX1_unsigned_97 (lv_at hl 0 rfl) ?_
            refine z_if_ne (tgt := 108) hx hb dX1_unsigned_99 (by decide) (by omega) (fun c9 => absurd c9 (by decide)) (fun _ => ?_)
            refine lv_iload_n hx hb dX1_unsigned_102 rfl (lv_at hl 1 rfl) ?_
            refine z_ldc hx hb (65535) hown hw_4 (by decide) dX1_unsigned_103 ?_
            refine z_icmp_le (tgt := 116) hx hb dX1_unsigned_105 (by decide) (by omega) (by omega) (fun c_25 => ?_) (fun c_25 => ?_)
            · refine lv_iload_n hx hb dX1_unsigned_116 rfl (lv_at hl 1 rfl) ?_
              exact rw_iret (z := (0 + ((tf nx.toNat) % 128)) + (((tf (nx.toNat + 1)) % 128) * 128)) ((nx + 1) + 1, kd, pl) hx hb hr hlocks hP hD hS (by first | (rw [uns_e0 (by omega)]; dsimp only [uR]; omega) | (rw [uns_v0 (by omega) (by omega)]; dsimp only [uR]; omega) | (rw [uns_e1 (by omega) (by omega) (by omega)]; dsimp only [uR]; omega) | (rw [uns_z1 (by omega) (by omega) (by omega) (by omega) (by omega)]; dsimp only [uR]; omega) | (rw [uns_v1 (by omega) (by omega) (by omega) (by omega) (by omega)]; dsimp only [uR]; omega) | (rw [uns_e2 (by omega) (by omega) (by omega) (by omega) (by omega)]; dsimp only [uR]; omega) | (rw [uns_z2 (by omega) (by omega) (by omega) (by omega) (by omega) (by omega) (by omega)]; dsimp only [uR]; omega) | (rw [uns_v2 (by omega) (by omega) (by omega) (by omega) (by omega) (by omega) (by omega)]; dsimp only [uR]; omega) | (rw [uns_b (by omega) (by omega) (by omega) (by omega) (by omega) (by omega)]; dsimp only [uR]; omega)) dX1_unsigned_117
            · refine lv_aload_n hx hb dX1_unsigned_108 rfl (lv_at hl 5 rfl) ?_
              refine lv_iload_n hx hb dX1_unsigned_109 rfl (lv_at hl 4 rfl) ?_
              refine rw_i (wr := [(ht, .inr (0, [.ref ta, .int (iZ len)])), (ta, .inl (cI, 2000, .inl (aI tf)))]) (va_runV (As := [.int (iZ nx)]) (rest := []) ⟨hx, hb, hml, hown, hts⟩ (c_X1_refuseUnsigned l D cI cJ cB cZ hd ((nx + 1) + 1) nd sz kd pl nx _) (cwV 1 hts gX1_unsigned_X1_refuseUnsigned rfl rfl rfl (by decide +kernel) ⟨Nat.le_of_ble_eq_true rfl, Nat.le_of_ble_eq_true rfl⟩) (pre1V hE (hP.sub (ws' := (wDe hd ((nx + 1) + 1) nd sz kd pl)) [0] rfl) (hD.sub (ws' := (wDe hd ((nx + 1) + 1) nd sz kd pl)) [0] (by decide) rfl) 0 rfl rfl) rfl rfl hl.1 rfl (lv_room (Nat.le_of_ble_eq_true rfl)) dX1_unsigned_110 ⟨Nat.le_of_ble_eq_true rfl, Nat.le_of_ble_eq_true rfl⟩) hP hD hS hA [0] [1, 2] rfl rfl (by decide) (by decide) (fun r_26 u_28 H locs hr_27 hP hD hS => ?_)
              obtain ⟨rfl, rfl⟩ := hr_27
              have hP := hP.sub (ws' := (wDe hd ((nx + 1) + 1) nd sz 2 nx ++ wBR 2000 cI ht ta tf len)) [2, 0, 1] rfl
              have hD := hD.sub (ws' := (wDe hd ((nx + 1) + 1) nd sz 2 nx ++ wBR 2000 cI ht ta tf len)) [2, 0, 1] (by decide) rfl
              refine lv_goto (tgt := 117) hx hb dX1_unsigned_113 (by decide) ?_
              exact rw_iret (z := (-1)) ((nx + 1) + 1, 2, nx) hx hb hr hlocks hP hD hS (by first | (rw [uns_e0 (by omega)]; dsimp only [uR]; omega) | (rw [uns_v0 (by omega) (by omega)]; dsimp only [uR]; omega) | (rw [uns_e1 (by omega) (by omega) (by omega)]; dsimp only [uR]; omega) | (rw [uns_z1 (by omega) (by omega) (by omega) (by omega) (by omega)]; dsimp only [uR]; omega) | (rw [uns_v1 (by omega) (by omega) (by omega) (by omega) (by omega)]; dsimp only [uR]; omega) | (rw [uns_e2 (by omega) (by omega) (by omega) (by omega) (by omega)]; dsimp only [uR]; omega) | (rw [uns_z2 (by omega) (by omega) (by omega) (by omega) (by omega) (by omega) (by omega)]; dsimp only [uR]; omega) | (rw [uns_v2 (by omega) (by omega) (by omega) (by omega) (by omega) (by omega) (by omega)]; dsimp only [uR]; omega) | (rw [uns_b (by omega) (by omega) (by omega) (by omega) (by omega) (by omega)]; dsimp only [uR]; omega)) dX1_unsigned_117
          · refine z_iconst hx hb dX1_unsigned_90 ?_
            refine lv_goto (tgt := 95) hx hb dX1_unsigned_91 (by decide) ?_
            refine lv_istore (lv' := [(6, .int (iZ 1)), (3, .int (iZ ((0 + ((tf nx.toNat) % 128)) + (((tf (nx.toNat + 1)) % 128) * 128)))), (5, .int (iZ (tf (nx.toNat + 1)))), (4, .int (iZ 7)), (2, .int (iZ nx)), (0, .ref hd), (1, .ref ht)]) hx hb dX1_unsigned_95 hl (by decide) rfl (fun ls hl => ?_)
            refine lv_iload hx hb dX1_unsigned_97 (lv_at hl 0 rfl) ?_
            refine z_if_ne (tgt := 108) hx hb dX1_unsigned_99 (by decide) (by omega) (fun _ => ?_) (fun c9 => absurd c9 (by decide))
            refine lv_aload_n hx hb dX1_unsigned_108 rfl (lv_at hl 5 rfl) ?_
            refine lv_iload_n hx hb dX1_unsigned_109 rfl (lv_at hl 4 rfl) ?_
            refine rw_i (wr := [(ht, .inr (0, [.ref ta, .int (iZ len)])), (ta, .inl (cI, 2000, .inl (aI tf)))]) (va_runV (As := [.int (iZ nx)]) (rest := []) ⟨hx, hb, hml, hown, hts⟩ (c_X1_refuseUnsigned l D cI cJ cB cZ hd ((nx + 1) + 1) nd sz kd pl nx _) (cwV 1 hts gX1_unsigned_X1_refuseUnsigned rfl rfl rfl (by decide +kernel) ⟨Nat.le_of_ble_eq_true rfl, Nat.le_of_ble_eq_true rfl⟩) (pre1V hE (hP.sub (ws' := (wDe hd ((nx + 1) + 1) nd sz kd pl)) [0] rfl) (hD.sub (ws' := (wDe hd ((nx + 1) + 1) nd sz kd pl)) [0] (by decide) rfl) 0 rfl rfl) rfl rfl hl.1 rfl (lv_room (Nat.le_of_ble_eq_true rfl)) dX1_unsigned_110 ⟨Nat.le_of_ble_eq_true rfl, Nat.le_of_ble_eq_true rfl⟩) hP hD hS hA [0] [1, 2] rfl rfl (by decide) (by decide) (fun r_29 u_31 H locs hr_30 hP hD hS => ?_)
            obtain ⟨rfl, rfl⟩ := hr_30
            have hP := hP.sub (ws' := (wDe hd ((nx + 1) + 1) nd sz 2 nx ++ wBR 2000 cI ht ta tf len)) [2, 0, 1] rfl
            have hD := hD.sub (ws' := (wDe hd ((nx + 1) + 1) nd sz 2 nx ++ wBR 2000 cI ht ta tf len)) [2, 0, 1] (by decide) rfl
            refine lv_goto (tgt := 117) hx hb dX1_unsigned_113 (by decide) ?_
            exact rw_iret (z := (-1)) ((nx + 1) + 1, 2, nx) hx hb hr hlocks hP hD hS (by first | (rw [uns_e0 (by omega)]; dsimp only [uR]; omega) | (rw [uns_v0 (by omega) (by omega)]; dsimp only [uR]; omega) | (rw [uns_e1 (by omega) (by omega) (by omega)]; dsimp only [uR]; omega) | (rw [uns_z1 (by omega) (by omega) (by omega) (by omega) (by omega)]; dsimp only [uR]; omega) | (rw [uns_v1 (by omega) (by omega) (by omega) (by omega) (by omega)]; dsimp only [uR]; omega) | (rw [uns_e2 (by omega) (by omega) (by omega) (by omega) (by omega)]; dsimp only [uR]; omega) | (rw [uns_z2 (by omega) (by omega) (by omega) (by omega) (by omega) (by omega) (by omega)]; dsimp only [uR]; omega) | (rw [uns_v2 (by omega) (by omega) (by omega) (by omega) (by omega) (by omega) (by omega)]; dsimp only [uR]; omega) | (rw [uns_b (by omega) (by omega) (by omega) (by omega) (by omega) (by omega)]; dsimp only [uR]; omega)) dX1_unsigned_117
      · refine lv_aload_n hx hb dX1_unsigned_28 rfl (lv_at hl 4 rfl) ?_
        refine z_iconst hx hb dX1_unsigned_29 ?_
        refine lv_aload_n hx hb dX1_unsigned_30 rfl (lv_at hl 5 rfl) ?_
        refine va_getN (v := .int (iZ len)) (C := RX0) (T := TX0) (N := 2) (ci := 0) hx hb hts hi_0 hown hK hP 1 rfl rfl 1 (by decide) hw_2 (fun _ h9 => h9) rfl dX1_unsigned_31 ?_
        refine rw_i (wr := [(ht, .inr (0, [.ref ta, .int (iZ len)])), (ta, .inl (cI, 2000, .inl (aI tf)))]) (va_runV (As := [.int (iZ 1), .int (iZ len)]) (rest := []) ⟨hx, hb, hml, hown, hts⟩ (c_X1_refuse l D cI cJ cB cZ hd (nx + 1) nd sz kd pl 1 len _) (cwV 2 hts gX1_unsigned_X1_refuse rfl rfl rfl (by decide +kernel) ⟨Nat.le_of_ble_eq_true rfl, Nat.le_of_ble_eq_true rfl⟩) (pre1V hE (hP.sub (ws' := (wDe hd (nx + 1) nd sz kd pl)) [0] rfl) (hD.sub (ws' := (wDe hd (nx + 1) nd sz kd pl)) [0] (by decide) rfl) 0 rfl rfl) rfl rfl hl.1 rfl (lv_room (Nat.le_of_ble_eq_true rfl)) dX1_unsigned_34 ⟨Nat.le_of_ble_eq_true rfl, Nat.le_of_ble_eq_true rfl⟩) hP hD hS hA [0] [1, 2] rfl rfl (by decide) (by decide) (fun r_32 u_34 H locs hr_33 hP hD hS => ?_)
        obtain ⟨rfl, rfl⟩ := hr_33
        have hP := hP.sub (ws' := (wDe hd (nx + 1) nd sz 1 len ++ wBR 2000 cI ht ta tf len)) [2, 0, 1] rfl
        have hD := hD.sub (ws' := (wDe hd (nx + 1) nd sz 1 len ++ wBR 2000 cI ht ta tf len)) [2, 0, 1] (by decide) rfl
        refine lv_pop hx hb dX1_unsigned_37 rfl ?_
        refine z_iconst hx hb dX1_unsigned_38 ?_
        exact rw_iret (z := (-1)) (nx + 1, 1, len) hx hb hr hlocks hP hD hS (by first | (rw [uns_e0 (by omega)]; dsimp only [uR]; omega) | (rw [uns_v0 (by omega) (by omega)]; dsimp only [uR]; omega) | (rw [uns_e1 (by omega) (by omega) (by omega)]; dsimp only [uR]; omega) | (rw [uns_z1 (by omega) (by omega) (by omega) (by omega) (by omega)]; dsimp only [uR]; omega) | (rw [uns_v1 (by omega) (by omega) (by omega) (by omega) (by omega)]; dsimp only [uR]; omega) | (rw [uns_e2 (by omega) (by omega) (by omega) (by omega) (by omega)]; dsimp only [uR]; omega) | (rw [uns_z2 (by omega) (by omega) (by omega) (by omega) (by omega) (by omega) (by omega)]; dsimp only [uR]; omega) | (rw [uns_v2 (by omega) (by omega) (by omega) (by omega) (by omega) (by omega) (by omega)]; dsimp only [uR]; omega) | (rw [uns_b (by omega) (by omega) (by omega) (by omega) (by omega) (by omega)]; dsimp only [uR]; omega)) dX1_unsigned_39
    · refine lv_iload hx hb dX1_unsigned_80 (lv_at hl 2 rfl) ?_
      refine z_if_le (tgt := 94) hx hb dX1_unsigned_82 (by decide) (by omega) (fun _ => ?_) (fun c9 => absurd c9 (by decide))
      refine z_iconst hx hb dX1_unsigned_94 ?_
      refine lv_istore (lv' := [(6, .int (iZ 0)), (3, .int (iZ (0 + ((tf nx.toNat) % 128)))), (5, .int (iZ (tf nx.toNat))), (4, .int (iZ 0)), (2, .int (iZ nx)), (0, .ref hd), (1, .ref ht)]) hx hb dX1_unsigned_95 hl (by decide) rfl (fun ls hl => ?_)
      refine lv_iload hx hb dX1_unsigned_97 (lv_at hl 0 rfl) ?_
      refine z_if_ne (tgt := 108) hx hb dX1_unsigned_99 (by decide) (by omega) (fun c9 => absurd c9 (by decide)) (fun _ => ?_)
      refine lv_iload_n hx hb dX1_unsigned_102 rfl (lv_at hl 1 rfl) ?_
      refine z_ldc hx hb (65535) hown hw_4 (by decide) dX1_unsigned_103 ?_
      refine z_icmp_le (tgt := 116) hx hb dX1_unsigned_105 (by decide) (by omega) (by omega) (fun c_35 => ?_) (fun c_35 => ?_)
      · refine lv_iload_n hx hb dX1_unsigned_116 rfl (lv_at hl 1 rfl) ?_
        exact rw_iret (z := 0 + ((tf nx.toNat) % 128)) (nx + 1, kd, pl) hx hb hr hlocks hP hD hS (by first | (rw [uns_e0 (by omega)]; dsimp only [uR]; omega) | (rw [uns_v0 (by omega) (by omega)]; dsimp only [uR]; omega) | (rw [uns_e1 (by omega) (by omega) (by omega)]; dsimp only [uR]; omega) | (rw [uns_z1 (by omega) (by omega) (by omega) (by omega) (by omega)]; dsimp only [uR]; omega) | (rw [uns_v1 (by omega) (by omega) (by omega) (by omega) (by omega)]; dsimp only [uR]; omega) | (rw [uns_e2 (by omega) (by omega) (by omega) (by omega) (by omega)]; dsimp only [uR]; omega) | (rw [uns_z2 (by omega) (by omega) (by omega) (by omega) (by omega) (by omega) (by omega)]; dsimp only [uR]; omega) | (rw [uns_v2 (by omega) (by omega) (by omega) (by omega) (by omega) (by omega) (by omega)]; dsimp only [uR]; omega) | (rw [uns_b (by omega) (by omega) (by omega) (by omega) (by omega) (by omega)]; dsimp only [uR]; omega)) dX1_unsigned_117
      · refine lv_aload_n hx hb dX1_unsigned_108 rfl (lv_at hl 5 rfl) ?_
        refine lv_iload_n hx hb dX1_unsigned_109 rfl (lv_at hl 4 rfl) ?_
        refine rw_i (wr := [(ht, .inr (0, [.ref ta, .int (iZ len)])), (ta, .inl (cI, 2000, .inl (aI tf)))]) (va_runV (As := [.int (iZ nx)]) (rest := []) ⟨hx, hb, hml, hown, hts⟩ (c_X1_refuseUnsigned l D cI cJ cB cZ hd (nx + 1) nd sz kd pl nx _) (cwV 1 hts gX1_unsigned_X1_refuseUnsigned rfl rfl rfl (by decide +kernel) ⟨Nat.le_of_ble_eq_true rfl, Nat.le_of_ble_eq_true rfl⟩) (pre1V hE (hP.sub (ws' := (wDe hd (nx + 1) nd sz kd pl)) [0] rfl) (hD.sub (ws' := (wDe hd (nx + 1) nd sz kd pl)) [0] (by decide) rfl) 0 rfl rfl) rfl rfl hl.1 rfl (lv_room (Nat.le_of_ble_eq_true rfl)) dX1_unsigned_110 ⟨Nat.le_of_ble_eq_true rfl, Nat.le_of_ble_eq_true rfl⟩) hP hD hS hA [0] [1, 2] rfl rfl (by decide) (by decide) (fun r_36 u_38 H locs hr_37 hP hD hS => ?_)
        obtain ⟨rfl, rfl⟩ := hr_37
        have hP := hP.sub (ws' := (wDe hd (nx + 1) nd sz 2 nx ++ wBR 2000 cI ht ta tf len)) [2, 0, 1] rfl
        have hD := hD.sub (ws' := (wDe hd (nx + 1) nd sz 2 nx ++ wBR 2000 cI ht ta tf len)) [2, 0, 1] (by decide) rfl
        refine lv_goto (tgt := 117) hx hb dX1_unsigned_113 (by decide) ?_
        exact rw_iret (z := (-1)) (nx + 1, 2, nx) hx hb hr hlocks hP hD hS (by first | (rw [uns_e0 (by omega)]; dsimp only [uR]; omega) | (rw [uns_v0 (by omega) (by omega)]; dsimp only [uR]; omega) | (rw [uns_e1 (by omega) (by omega) (by omega)]; dsimp only [uR]; omega) | (rw [uns_z1 (by omega) (by omega) (by omega) (by omega) (by omega)]; dsimp only [uR]; omega) | (rw [uns_v1 (by omega) (by omega) (by omega) (by omega) (by omega)]; dsimp only [uR]; omega) | (rw [uns_e2 (by omega) (by omega) (by omega) (by omega) (by omega)]; dsimp only [uR]; omega) | (rw [uns_z2 (by omega) (by omega) (by omega) (by omega) (by omega) (by omega) (by omega)]; dsimp only [uR]; omega) | (rw [uns_v2 (by omega) (by omega) (by omega) (by omega) (by omega) (by omega) (by omega)]; dsimp only [uR]; omega) | (rw [uns_b (by omega) (by omega) (by omega) (by omega) (by omega) (by omega)]; dsimp only [uR]; omega)) dX1_unsigned_117
  · refine lv_aload_n hx hb dX1_unsigned_28 rfl (lv_at hl 3 rfl) ?_
    refine z_iconst hx hb dX1_unsigned_29 ?_
    refine lv_aload_n hx hb dX1_unsigned_30 rfl (lv_at hl 4 rfl) ?_
    refine va_getN (v := .int (iZ len)) (C := RX0) (T := TX0) (N := 2) (ci := 0) hx hb hts hi_0 hown hK hP 1 rfl rfl 1 (by decide) hw_2 (fun _ h9 => h9) rfl dX1_unsigned_31 ?_
    refine rw_i (wr := [(ht, .inr (0, [.ref ta, .int (iZ len)])), (ta, .inl (cI, 2000, .inl (aI tf)))]) (va_runV (As := [.int (iZ 1), .int (iZ len)]) (rest := []) ⟨hx, hb, hml, hown, hts⟩ (c_X1_refuse l D cI cJ cB cZ hd nx nd sz kd pl 1 len _) (cwV 2 hts gX1_unsigned_X1_refuse rfl rfl rfl (by decide +kernel) ⟨Nat.le_of_ble_eq_true rfl, Nat.le_of_ble_eq_true rfl⟩) (pre1V hE (hP.sub (ws' := (wDe hd nx nd sz kd pl)) [0] rfl) (hD.sub (ws' := (wDe hd nx nd sz kd pl)) [0] (by decide) rfl) 0 rfl rfl) rfl rfl hl.1 rfl (lv_room (Nat.le_of_ble_eq_true rfl)) dX1_unsigned_34 ⟨Nat.le_of_ble_eq_true rfl, Nat.le_of_ble_eq_true rfl⟩) hP hD hS hA [0] [1, 2] rfl rfl (by decide) (by decide) (fun r_39 u_41 H locs hr_40 hP hD hS => ?_)
    obtain ⟨rfl, rfl⟩ := hr_40
    have hP := hP.sub (ws' := (wDe hd nx nd sz 1 len ++ wBR 2000 cI ht ta tf len)) [2, 0, 1] rfl
    have hD := hD.sub (ws' := (wDe hd nx nd sz 1 len ++ wBR 2000 cI ht ta tf len)) [2, 0, 1] (by decide) rfl
    refine lv_pop hx hb dX1_unsigned_37 rfl ?_
    refine z_iconst hx hb dX1_unsigned_38 ?_
    exact rw_iret (z := (-1)) (nx, 1, len) hx hb hr hlocks hP hD hS (by first | (rw [uns_e0 (by omega)]; dsimp only [uR]; omega) | (rw [uns_v0 (by omega) (by omega)]; dsimp only [uR]; omega) | (rw [uns_e1 (by omega) (by omega) (by omega)]; dsimp only [uR]; omega) | (rw [uns_z1 (by omega) (by omega) (by omega) (by omega) (by omega)]; dsimp only [uR]; omega) | (rw [uns_v1 (by omega) (by omega) (by omega) (by omega) (by omega)]; dsimp only [uR]; omega) | (rw [uns_e2 (by omega) (by omega) (by omega) (by omega) (by omega)]; dsimp only [uR]; omega) | (rw [uns_z2 (by omega) (by omega) (by omega) (by omega) (by omega) (by omega) (by omega)]; dsimp only [uR]; omega) | (rw [uns_v2 (by omega) (by omega) (by omega) (by omega) (by omega) (by omega) (by omega)]; dsimp only [uR]; omega) | (rw [uns_b (by omega) (by omega) (by omega) (by omega) (by omega) (by omega)]; dsimp only [uR]; omega)) dX1_unsigned_39
end
section
theorem GR_fst0 (N : Nat) : fst (fun _ _ => false) N N = 0 := by
  have z : ∀ j, fst (fun _ _ => false) N j = 0 := by
    intro j
    induction j with
    | zero => rfl
    | succ j ih => rw [fst_succ, ih, dgr, ct_false N (fun _ => rfl)]
  exact z N
set_option maxHeartbeats 4000000 in
set_option maxRecDepth 100000 in
theorem c_X1_decodeNode0 (l : Launch) (D : va_G) (cI cJ cB cZ : ClassId) (hd ht ta : Nat) (nx nd sz kd pl : Int) (tf : Nat → Int) (len : Int) (hT : ∀ j, j < len.toNat → 0 ≤ tf j ∧ tf j < 256) (hL : 0 ≤ len ∧ len ≤ 2000) (hnx : 0 ≤ nx ∧ nx ≤ len) (N U0 size : Nat) (E : Ed) (hN : 1 ≤ N ∧ N ≤ 250) (hnd : nd = (N : Int)) (hU : U0 < N) (hsz : sz = (size : Int)) (hs2 : size ≤ 2500)  (sz0 : Nat) : Met l yX1_decodeNode wsX1_decodeNode ({ frames := 3, cells := 0, slots := 0, locals := 69 } : Room) (Pre1 D cI cJ cB cZ [.ref hd, .ref ht, .null, .int (iZ ((U0 : Nat) : Int))] (wDe hd nx nd sz kd pl ++ wBR 2000 cI ht ta tf len) sz0) (rwI (S := Int × Int × Int × Int) D (fun z U => ∃ (rk rp : Int) (rq rn : Nat) (rE : Ed), pNode tf len.toNat N U0 size nx.toNat E = (rk, rp, rq, rn, rE) ∧ ((z = 1 ∧ rk = 0 ∧ U.1 = (rq : Int) ∧ U.2.1 = sz + (rn : Int) ∧ U.2.2.1 = kd ∧ rq ≤ len.toNat ∧ size + rn ≤ 2500) ∨ (z = 0 ∧ rk ≠ 0 ∧ U.2.2.1 = rk ∧ U.2.2.2 = rp))) (fun u => wDe hd u.1 nd u.2.1 u.2.2.1 u.2.2.2 ++ wBR 2000 cI ht ta tf len) (va_A (wDe hd nx nd sz kd pl ++ wBR 2000 cI ht ta tf len) sz0)) 0 0 (va_A (wDe hd nx nd sz kd pl ++ wBR 2000 cI ht ta tf len) sz0) := by
  refine Met.ofW (cc := cX1_decodeNode) (maxL := 9) (ret := (some .boolean)) (by decide) rfl ?_
  intro p e s m args below meth c s₁ B hml hv
  obtain ⟨rfl, hsz, hP, hE, hD0⟩ := hv
  have hx := B.exec
  have hb := B.bytes
  have hr := B.returns
  have hts := atoms_spec (ws := wsX1_decodeNode) B.pre
  have hown : s.vm.findClass RX1 = some m.cls := findClass_of_methodNamed B.named
  have hlocks := B.notSynchronized
  have hK := hE.1
  subst hsz
  have hD := hD0.self (sz := s.heap.size)
  generalize hAe : va_A (wDe hd nx nd sz kd pl ++ wBR 2000 cI ht ta tf len) s.heap.size = A at hD ⊢
  have hA : ∀ q : Nat, s.heap.size ≤ q → A q := fun q h => by rw [← hAe]; exact Or.inr h
  have hS : va_S A s.heap s.heap [] := va_S.rf
  have hP : va_P D vwCl (wDe hd nx nd sz kd pl ++ wBR 2000 cI ht ta tf len) s.heap := hP
  have hi_1 : ∀ w ∈ wsX10, w ∈ wsX1_decodeNode := by decide +kernel
  have hw_1 := hts (.fieldLink RX1 9 "RankHouse$Decoder" "next" "I") (by decide +kernel)
  have hw_2 := hts (.fieldLink RX1 15 "RankHouse$Decoder" "nodes" "I") (by decide +kernel)
  have hw_3 := hts (.fieldLink RX1 18 "RankHouse$Decoder" "size" "I") (by decide +kernel)
  have hl := lv_entry ([.ref hd, .ref ht, .null, .int (iZ ((U0 : Nat) : Int))]) (n := 9) (Nat.le_of_ble_eq_true rfl)
  rw [lg_entry_eq]
  generalize (lg_sl ([.ref hd, .ref ht, .null, .int (iZ ((U0 : Nat) : Int))]) ++ List.replicate (9 - (lg_sl ([.ref hd, .ref ht, .null, .int (iZ ((U0 : Nat) : Int))])).length) Slot.unset).toArray = ls at hl ⊢
  have hl : lv_has ls 9 [(0, .ref hd), (1, .ref ht), (2, .null), (3, .int (iZ ((U0 : Nat) : Int)))] := hl
  refine lv_aload_n hx hb dX1_decodeNode_0 rfl (lv_at hl 0 rfl) ?_
  refine va_get (v := .int (iZ nx)) (C := RX1) (T := TX1) (N := 5) (ci := 1) hx hb hts hi_1 hown hK hP 0 rfl rfl 0 (by decide) hw_1 (fun _ h9 => h9) rfl dX1_decodeNode_1 ?_
  refine lv_istore (lv' := [(4, .int (iZ nx)), (0, .ref hd), (1, .ref ht), (2, .null), (3, .int (iZ ((U0 : Nat) : Int)))]) hx hb dX1_decodeNode_4 hl (by decide) rfl (fun ls hl => ?_)
  refine lv_aload_n hx hb dX1_decodeNode_6 rfl (lv_at hl 1 rfl) ?_
  refine lv_aload_n hx hb dX1_decodeNode_7 rfl (lv_at hl 2 rfl) ?_
  refine rw_i (wr := []) (va_runV (As := [.ref ht]) (rest := []) ⟨hx, hb, hml, hown, hts⟩ (c_X1_unsigned l D cI cJ cB cZ hd ht ta nx nd sz kd pl tf len hT hL hnx _) (cwV 1 hts gX1_decodeNode_X1_unsigned rfl rfl rfl (by decide +kernel) ⟨Nat.le_of_ble_eq_true rfl, Nat.le_of_ble_eq_true rfl⟩) (pre1V hE hP hD 0 rfl rfl) rfl rfl hl.1 rfl (lv_room (Nat.le_of_ble_eq_true rfl)) dX1_decodeNode_8 ⟨Nat.le_of_ble_eq_true rfl, Nat.le_of_ble_eq_true rfl⟩) hP hD hS hA [0, 1, 2] [] rfl rfl (by decide) (by decide) (fun r_1 u_3 H locs hr_2 hP hD hS => ?_)
  have hP := hP.sub (ws' := (wDe hd u_3.1 nd sz u_3.2.1 u_3.2.2 ++ wBR 2000 cI ht ta tf len)) [0, 1, 2] rfl
  have hD := hD.sub (ws' := (wDe hd u_3.1 nd sz u_3.2.1 u_3.2.2 ++ wBR 2000 cI ht ta tf len)) [0, 1, 2] (by decide) rfl
  obtain ⟨⟨qk, qv, qp⟩, hq⟩ : ∃ q, q = uns tf len.toNat nx.toNat := ⟨_, rfl⟩
  rw [← hq] at hr_2
  have w1 := uns_ok hq (by omega) hT
  dsimp only [uR] at hr_2
  refine lv_istore (lv' := [(5, .int (iZ r_1)), (4, .int (iZ nx)), (0, .ref hd), (1, .ref ht), (2, .null), (3, .int (iZ ((U0 : Nat) : Int)))]) hx hb dX1_decodeNode_11 hl (by decide) rfl (fun ls hl => ?_)
  refine lv_iload hx hb dX1_decodeNode_13 (lv_at hl 0 rfl) ?_
  refine z_iconst hx hb dX1_decodeNode_15 ?_
  refine z_icmp_ne (tgt := 21) hx hb dX1_decodeNode_16 (by decide) (by omega) (by omega) (fun c_4 => ?_) (fun c_4 => ?_)
  · obtain rfl : qv = r_1 := by omega
    refine lv_iload hx hb dX1_decodeNode_21 (lv_at hl 0 rfl) ?_
    refine lv_aload_n hx hb dX1_decodeNode_23 rfl (lv_at hl 2 rfl) ?_
    refine va_get (v := .int (iZ nd)) (C := RX1) (T := TX1) (N := 5) (ci := 1) hx hb hts hi_1 hown hK hP 0 rfl rfl 1 (by decide) hw_2 (fun _ h9 => h9) rfl dX1_decodeNode_24 ?_
    refine z_icmp_gt (tgt := 43) hx hb dX1_decodeNode_27 (by decide) (by omega) (by omega) (fun c_5 => ?_) (fun c_5 => ?_)
    · refine lv_aload_n hx hb dX1_decodeNode_43 rfl (lv_at hl 2 rfl) ?_
      refine z_iconst hx hb dX1_decodeNode_44 ?_
      refine lv_iload hx hb dX1_decodeNode_45 (lv_at hl 1 rfl) ?_
      refine rw_i (wr := [(ht, .inr (0, [.ref ta, .int (iZ len)])), (ta, .inl (cI, 2000, .inl (aI tf)))]) (va_runV (As := [.int (iZ 3), .int (iZ nx)]) (rest := []) ⟨hx, hb, hml, hown, hts⟩ (c_X1_refuse l D cI cJ cB cZ hd u_3.1 nd sz u_3.2.1 u_3.2.2 3 nx _) (cwV 2 hts gX1_decodeNode_X1_refuse rfl rfl rfl (by decide +kernel) ⟨Nat.le_of_ble_eq_true rfl, Nat.le_of_ble_eq_true rfl⟩) (pre1V hE (hP.sub (ws' := (wDe hd u_3.1 nd sz u_3.2.1 u_3.2.2)) [0] rfl) (hD.sub (ws' := (wDe hd u_3.1 nd sz u_3.2.1 u_3.2.2)) [0] (by decide) rfl) 0 rfl rfl) rfl rfl hl.1 rfl (lv_room (Nat.le_of_ble_eq_true rfl)) dX1_decodeNode_47 ⟨Nat.le_of_ble_eq_true rfl, Nat.le_of_ble_eq_true rfl⟩) hP hD hS hA [0] [1, 2] rfl rfl (by decide) (by decide) (fun r_6 u_8 H locs hr_7 hP hD hS => ?_)
      obtain ⟨rfl, rfl⟩ := hr_7
      have hP := hP.sub (ws' := (wDe hd u_3.1 nd sz 3 nx ++ wBR 2000 cI ht ta tf len)) [2, 0, 1] rfl
      have hD := hD.sub (ws' := (wDe hd u_3.1 nd sz 3 nx ++ wBR 2000 cI ht ta tf len)) [2, 0, 1] (by decide) rfl
      exact rw_zret (z := 0) (u_3.1, sz, 3, nx) hx hb hr hlocks (Or.inl rfl) hP hD hS ⟨3, _, qp, 0, E, pNode_o hq (by omega) (by omega), Or.inr ⟨rfl, by first | omega | (dsimp only; omega), rfl, by first | omega | (dsimp only; omega)⟩⟩ dX1_decodeNode_50
    · refine lv_iload hx hb dX1_decodeNode_30 (lv_at hl 0 rfl) ?_
      refine z_sipush hx hb dX1_decodeNode_32 (by decide) ?_
      refine lv_aload_n hx hb dX1_decodeNode_35 rfl (lv_at hl 2 rfl) ?_
      refine va_get (v := .int (iZ sz)) (C := RX1) (T := TX1) (N := 5) (ci := 1) hx hb hts hi_1 hown hK hP 0 rfl rfl 2 (by decide) hw_3 (fun _ h9 => h9) rfl dX1_decodeNode_36 ?_
      refine z_isub hx hb dX1_decodeNode_39 ?_
      refine z_icmp_le (tgt := 51) hx hb dX1_decodeNode_40 (by decide) (by omega) (by omega) (fun c_9 => ?_) (fun c_9 => ?_)
      · refine lv_aload_n hx hb dX1_decodeNode_51 rfl (lv_at hl 2 rfl) ?_
        refine lv_dup hx hb dX1_decodeNode_52 rfl ?_
        refine va_get (v := .int (iZ sz)) (C := RX1) (T := TX1) (N := 5) (ci := 1) hx hb hts hi_1 hown hK hP 0 rfl rfl 2 (by decide) hw_3 (fun _ h9 => h9) rfl dX1_decodeNode_53 ?_
        refine lv_iload hx hb dX1_decodeNode_56 (lv_at hl 0 rfl) ?_
        refine z_iadd hx hb dX1_decodeNode_58 ?_
        refine va_put (v := .int (iZ (sz + qv))) (ty := .int) (C := RX1) (T := TX1) (N := 5) (ci := 1) hx hb hts hi_1 tyX1 tyX1_ok nmX1 hown hK hP hD hS 0 rfl rfl 2 (by decide) hw_3 (fun _ h9 => h9) rfl (by decide +kernel) rfl rfl (Nat.le_of_ble_eq_true rfl) dX1_decodeNode_59 (fun H locs hP hD hS => ?_)
        have hP : va_P D vwCl (wDe hd u_3.1 nd (sz + qv) u_3.2.1 u_3.2.2 ++ wBR 2000 cI ht ta tf len) H := hP
        have hD : va_D A (wDe hd u_3.1 nd (sz + qv) u_3.2.1 u_3.2.2 ++ wBR 2000 cI ht ta tf len) := hD
        refine z_iconst hx hb dX1_decodeNode_62 ?_
        refine lv_istore (lv' := [(6, .int (iZ (-1))), (5, .int (iZ qv)), (4, .int (iZ nx)), (0, .ref hd), (1, .ref ht), (2, .null), (3, .int (iZ ((U0 : Nat) : Int)))]) hx hb dX1_decodeNode_63 hl (by decide) rfl (fun ls hl => ?_)
        refine z_iconst hx hb dX1_decodeNode_65 ?_
        refine lv_istore (lv' := [(7, .int (iZ 0)), (6, .int (iZ (-1))), (5, .int (iZ qv)), (4, .int (iZ nx)), (0, .ref hd), (1, .ref ht), (2, .null), (3, .int (iZ ((U0 : Nat) : Int)))]) hx hb dX1_decodeNode_66 hl (by decide) rfl (fun ls hl => ?_)
        refine w_loop (fun kf H locs ls => ∃ (i : Nat), ∃ (v nx1 kd1 pl1 : Int), ∃ (E1 : Ed), kf = qv.toNat - i ∧ (i ≤ qv.toNat ∧ 0 ≤ nx1 ∧ nx1 ≤ len ∧ kd1 = kd ∧ -1 ≤ v ∧ v < (N : Int) ∧ pRow tf len.toNat N U0 (qv.toNat - i) (decide (i = 0)) v nx1.toNat E1 = pRow tf len.toNat N U0 qv.toNat true 0 qp E) ∧ va_P D vwCl (wDe hd nx1 nd (sz + qv) kd1 pl1 ++ wBR 2000 cI ht ta tf len) H ∧ va_D A (wDe hd nx1 nd (sz + qv) kd1 pl1 ++ wBR 2000 cI ht ta tf len) ∧ va_S A s.heap H locs ∧ lv_has ls 9 [(0, .ref hd), (1, .ref ht), (2, .null), (3, .int (iZ ((U0 : Nat) : Int))), (5, .int (iZ qv)), (6, .int (iZ v)), (7, .int (iZ ↑i))]) ?_ _ ⟨0, (-1), u_3.1, u_3.2.1, u_3.2.2, E, rfl, ⟨by omega, by omega, by omega, by omega, by omega, by omega, (by rw [show (u_3.1).toNat = qp by omega]; exact pRow_v)⟩, hP, hD, hS, lv_sub hl [4, 5, 6, 7, 2, 1, 0] rfl⟩
        rintro kf H locs ls ⟨i, v, nx1, kd1, pl1, E1, hk, ⟨i1, i2, i3, i4, i5, i6, i7⟩, hP, hD, hS, hl⟩ ih
        refine lv_iload hx hb dX1_decodeNode_68 (lv_at hl 6 rfl) ?_
        refine lv_iload hx hb dX1_decodeNode_70 (lv_at hl 4 rfl) ?_
        refine z_icmp_ge (tgt := 160) hx hb dX1_decodeNode_72 (by decide) (by omega) (by omega) (fun c_10 => ?_) (fun c_10 => ?_)
        · refine z_iconst hx hb dX1_decodeNode_160 ?_
          exact rw_zret (z := 1) (nx1, sz + qv, kd1, pl1) hx hb hr hlocks (Or.inr rfl) hP hD hS ⟨0, 0, nx1.toNat, qv.toNat, E1, pNode_s hq (by omega) (by omega) (by rw [← i7, show qv.toNat - i = 0 by omega]; rfl), Or.inl ⟨rfl, rfl, by first | omega | (dsimp only; omega), by first | omega | (dsimp only; omega), by first | omega | (dsimp only; omega), by first | omega | (dsimp only; omega), by first | omega | (dsimp only; omega)⟩⟩ dX1_decodeNode_161
        · refine lv_aload_n hx hb dX1_decodeNode_75 rfl (lv_at hl 0 rfl) ?_
          refine va_get (v := .int (iZ nx1)) (C := RX1) (T := TX1) (N := 5) (ci := 1) hx hb hts hi_1 hown hK hP 0 rfl rfl 0 (by decide) hw_1 (fun _ h9 => h9) rfl dX1_decodeNode_76 ?_
          refine lv_istore (lv' := [(4, .int (iZ nx1)), (0, .ref hd), (1, .ref ht), (2, .null), (3, .int (iZ ((U0 : Nat) : Int))), (5, .int (iZ qv)), (6, .int (iZ v)), (7, .int (iZ ↑i))]) hx hb dX1_decodeNode_79 hl (by decide) rfl (fun ls hl => ?_)
          refine lv_aload_n hx hb dX1_decodeNode_81 rfl (lv_at hl 1 rfl) ?_
          refine lv_aload_n hx hb dX1_decodeNode_82 rfl (lv_at hl 2 rfl) ?_
          refine rw_i (wr := []) (va_runV (As := [.ref ht]) (rest := []) ⟨hx, hb, hml, hown, hts⟩ (c_X1_unsigned l D cI cJ cB cZ hd ht ta nx1 nd (sz + qv) kd1 pl1 tf len hT hL (by omega) _) (cwV 1 hts gX1_decodeNode_X1_unsigned rfl rfl rfl (by decide +kernel) ⟨Nat.le_of_ble_eq_true rfl, Nat.le_of_ble_eq_true rfl⟩) (pre1V hE hP hD 0 rfl rfl) rfl rfl hl.1 rfl (lv_room (Nat.le_of_ble_eq_true rfl)) dX1_decodeNode_83 ⟨Nat.le_of_ble_eq_true rfl, Nat.le_of_ble_eq_true rfl⟩) hP hD hS hA [0, 1, 2] [] rfl rfl (by decide) (by decide) (fun r_11 u_13 H locs hr_12 hP hD hS => ?_)
          have hP := hP.sub (ws' := (wDe hd u_13.1 nd (sz + qv) u_13.2.1 u_13.2.2 ++ wBR 2000 cI ht ta tf len)) [0, 1, 2] rfl
          have hD := hD.sub (ws' := (wDe hd u_13.1 nd (sz + qv) u_13.2.1 u_13.2.2 ++ wBR 2000 cI ht ta tf len)) [0, 1, 2] (by decide) rfl
          obtain ⟨⟨qk2, qv2, qp2⟩, hq2⟩ : ∃ q, q = uns tf len.toNat nx1.toNat := ⟨_, rfl⟩
          rw [← hq2] at hr_12
          have w2 := uns_ok hq2 (by omega) hT
          dsimp only [uR] at hr_12
          refine lv_istore (lv' := [(8, .int (iZ r_11)), (4, .int (iZ nx1)), (0, .ref hd), (1, .ref ht), (2, .null), (3, .int (iZ ((U0 : Nat) : Int))), (5, .int (iZ qv)), (6, .int (iZ v)), (7, .int (iZ ↑i))]) hx hb dX1_decodeNode_86 hl (by decide) rfl (fun ls hl => ?_)
          refine lv_iload hx hb dX1_decodeNode_88 (lv_at hl 0 rfl) ?_
          refine z_iconst hx hb dX1_decodeNode_90 ?_
          refine z_icmp_ne (tgt := 96) hx hb dX1_decodeNode_91 (by decide) (by omega) (by omega) (fun c_14 => ?_) (fun c_14 => ?_)
          · obtain rfl : qv2 = r_11 := by omega
            refine lv_iload hx hb dX1_decodeNode_96 (lv_at hl 8 rfl) ?_
            refine z_if_le (tgt := 111) hx hb dX1_decodeNode_98 (by decide) (by omega) (fun c_15 => ?_) (fun c_15 => ?_)
            · refine lv_iload_n hx hb dX1_decodeNode_111 rfl (lv_at hl 5 rfl) ?_
              refine lv_iload hx hb dX1_decodeNode_112 (lv_at hl 0 rfl) ?_
              refine ro_i (va_runS (As := [.int (iZ qv2)]) (rest := [.int (iZ ((U0 : Nat) : Int))]) ⟨hx, hb, hml, hown, hts⟩ (c_X1_signed l D cI cJ cB cZ qv2 (by omega)) (va_cwS 1 hts gX1_decodeNode_X1_signed rfl rfl rfl (by decide +kernel) ⟨Nat.le_of_ble_eq_true rfl, Nat.le_of_ble_eq_true rfl⟩) (pre0S hE (hP.sub (ws' := []) [] rfl)) rfl rfl hl.1 rfl (lv_room (Nat.le_of_ble_eq_true rfl)) dX1_decodeNode_114 ⟨Nat.le_of_ble_eq_true rfl, Nat.le_of_ble_eq_true rfl⟩) (fun r_16 hr_17 => ?_)
              subst hr_17
              refine z_iadd hx hb dX1_decodeNode_117 ?_
              have hv : (((U0 : Nat) : Int) + (sg qv2)) = if decide (i = 0) = true then ((U0 : Nat) : Int) + sg qv2 else v + 1 + qv2 := by rw [if_pos (decide_eq_true (show i = 0 by omega))]
              have hsg := sg_r (show 0 ≤ qv2 ∧ qv2 ≤ 65535 by omega)
              refine lv_istore (lv' := [(6, .int (iZ (((U0 : Nat) : Int) + (sg qv2)))), (8, .int (iZ qv2)), (4, .int (iZ nx1)), (0, .ref hd), (1, .ref ht), (2, .null), (3, .int (iZ ((U0 : Nat) : Int))), (5, .int (iZ qv)), (7, .int (iZ ↑i))]) hx hb dX1_decodeNode_118 hl (by decide) rfl (fun ls hl => ?_)
              refine lv_iload hx hb dX1_decodeNode_120 (lv_at hl 0 rfl) ?_
              refine z_if_lt (tgt := 134) hx hb dX1_decodeNode_122 (by decide) (by omega) (fun c_18 => ?_) (fun c_18 => ?_)
              · refine lv_aload_n hx hb dX1_decodeNode_134 rfl (lv_at hl 3 rfl) ?_
                refine z_iconst hx hb dX1_decodeNode_135 ?_
                refine lv_iload hx hb dX1_decodeNode_136 (lv_at hl 2 rfl) ?_
                refine rw_i (wr := [(ht, .inr (0, [.ref ta, .int (iZ len)])), (ta, .inl (cI, 2000, .inl (aI tf)))]) (va_runV (As := [.int (iZ 3), .int (iZ nx1)]) (rest := []) ⟨hx, hb, hml, hown, hts⟩ (c_X1_refuse l D cI cJ cB cZ hd u_13.1 nd (sz + qv) u_13.2.1 u_13.2.2 3 nx1 _) (cwV 2 hts gX1_decodeNode_X1_refuse rfl rfl rfl (by decide +kernel) ⟨Nat.le_of_ble_eq_true rfl, Nat.le_of_ble_eq_true rfl⟩) (pre1V hE (hP.sub (ws' := (wDe hd u_13.1 nd (sz + qv) u_13.2.1 u_13.2.2)) [0] rfl) (hD.sub (ws' := (wDe hd u_13.1 nd (sz + qv) u_13.2.1 u_13.2.2)) [0] (by decide) rfl) 0 rfl rfl) rfl rfl hl.1 rfl (lv_room (Nat.le_of_ble_eq_true rfl)) dX1_decodeNode_138 ⟨Nat.le_of_ble_eq_true rfl, Nat.le_of_ble_eq_true rfl⟩) hP hD hS hA [0] [1, 2] rfl rfl (by decide) (by decide) (fun r_19 u_21 H locs hr_20 hP hD hS => ?_)
                obtain ⟨rfl, rfl⟩ := hr_20
                have hP := hP.sub (ws' := (wDe hd u_13.1 nd (sz + qv) 3 nx1 ++ wBR 2000 cI ht ta tf len)) [2, 0, 1] rfl
                have hD := hD.sub (ws' := (wDe hd u_13.1 nd (sz + qv) 3 nx1 ++ wBR 2000 cI ht ta tf len)) [2, 0, 1] (by decide) rfl
                exact rw_zret (z := 0) (u_13.1, sz + qv, 3, nx1) hx hb hr hlocks (Or.inl rfl) hP hD hS ⟨3, _, qp2, qv.toNat, E1, pNode_s hq (by omega) (by omega) (by rw [← i7, show qv.toNat - i = (qv.toNat - (i + 1)) + 1 by omega]; exact pRow_o hq2 (by omega) hv (by omega)), Or.inr ⟨rfl, by first | omega | (dsimp only; omega), rfl, by first | omega | (dsimp only; omega)⟩⟩ dX1_decodeNode_141
              · refine lv_iload hx hb dX1_decodeNode_125 (lv_at hl 0 rfl) ?_
                refine lv_aload_n hx hb dX1_decodeNode_127 rfl (lv_at hl 3 rfl) ?_
                refine va_get (v := .int (iZ nd)) (C := RX1) (T := TX1) (N := 5) (ci := 1) hx hb hts hi_1 hown hK hP 0 rfl rfl 1 (by decide) hw_2 (fun _ h9 => h9) rfl dX1_decodeNode_128 ?_
                refine z_icmp_lt (tgt := 142) hx hb dX1_decodeNode_131 (by decide) (by omega) (by omega) (fun c_22 => ?_) (fun c_22 => ?_)
                · refine lv_aload_nN hx hb dX1_decodeNode_142 rfl (lv_at hl 5 rfl) ?_
                  refine lv_ifnullN (tgt := 154) hx hb dX1_decodeNode_143 (by decide) ?_
                  refine lv_iinc (v := iZ (↑i + 1)) (lv' := [(7, .int (iZ (↑i + 1))), (6, .int (iZ (((U0 : Nat) : Int) + (sg qv2)))), (8, .int (iZ qv2)), (4, .int (iZ nx1)), (0, .ref hd), (1, .ref ht), (2, .null), (3, .int (iZ ((U0 : Nat) : Int))), (5, .int (iZ qv))]) hx hb dX1_decodeNode_154 hl (k := 8) rfl (show iZ ↑i + iZ 1 = _ from iZ_add _ _) (by decide) rfl (fun ls hl => ?_)
                  refine lv_goto (tgt := 68) hx hb dX1_decodeNode_157 (by decide) ?_
                  exact ih _ _ _ _ (by omega) ⟨(i + 1), (((U0 : Nat) : Int) + (sg qv2)), u_13.1, u_13.2.1, u_13.2.2, (uE E1 U0 (((U0 : Nat) : Int) + (sg qv2)).toNat true), rfl, ⟨by omega, by omega, by omega, by omega, by omega, by omega, (by rw [← i7, show qv.toNat - i = (qv.toNat - (i + 1)) + 1 by omega, pRow_s hq2 (by omega) hv (by omega), show (u_13.1).toNat = qp2 by omega]; rfl)⟩, hP, hD, hS, lv_sub hl [4, 5, 6, 7, 8, 1, 0] rfl⟩
                · refine lv_aload_n hx hb dX1_decodeNode_134 rfl (lv_at hl 3 rfl) ?_
                  refine z_iconst hx hb dX1_decodeNode_135 ?_
                  refine lv_iload hx hb dX1_decodeNode_136 (lv_at hl 2 rfl) ?_
                  refine rw_i (wr := [(ht, .inr (0, [.ref ta, .int (iZ len)])), (ta, .inl (cI, 2000, .inl (aI tf)))]) (va_runV (As := [.int (iZ 3), .int (iZ nx1)]) (rest := []) ⟨hx, hb, hml, hown, hts⟩ (c_X1_refuse l D cI cJ cB cZ hd u_13.1 nd (sz + qv) u_13.2.1 u_13.2.2 3 nx1 _) (cwV 2 hts gX1_decodeNode_X1_refuse rfl rfl rfl (by decide +kernel) ⟨Nat.le_of_ble_eq_true rfl, Nat.le_of_ble_eq_true rfl⟩) (pre1V hE (hP.sub (ws' := (wDe hd u_13.1 nd (sz + qv) u_13.2.1 u_13.2.2)) [0] rfl) (hD.sub (ws' := (wDe hd u_13.1 nd (sz + qv) u_13.2.1 u_13.2.2)) [0] (by decide) rfl) 0 rfl rfl) rfl rfl hl.1 rfl (lv_room (Nat.le_of_ble_eq_true rfl)) dX1_decodeNode_138 ⟨Nat.le_of_ble_eq_true rfl, Nat.le_of_ble_eq_true rfl⟩) hP hD hS hA [0] [1, 2] rfl rfl (by decide) (by decide) (fun r_23 u_25 H locs hr_24 hP hD hS => ?_)
                  obtain ⟨rfl, rfl⟩ := hr_24
                  have hP := hP.sub (ws' := (wDe hd u_13.1 nd (sz + qv) 3 nx1 ++ wBR 2000 cI ht ta tf len)) [2, 0, 1] rfl
                  have hD := hD.sub (ws' := (wDe hd u_13.1 nd (sz + qv) 3 nx1 ++ wBR 2000 cI ht ta tf len)) [2, 0, 1] (by decide) rfl
                  exact rw_zret (z := 0) (u_13.1, sz + qv, 3, nx1) hx hb hr hlocks (Or.inl rfl) hP hD hS ⟨3, _, qp2, qv.toNat, E1, pNode_s hq (by omega) (by omega) (by rw [← i7, show qv.toNat - i = (qv.toNat - (i + 1)) + 1 by omega]; exact pRow_o hq2 (by omega) hv (by omega)), Or.inr ⟨rfl, by first | omega | (dsimp only; omega), rfl, by first | omega | (dsimp only; omega)⟩⟩ dX1_decodeNode_141
            · refine lv_iload hx hb dX1_decodeNode_101 (lv_at hl 7 rfl) ?_
              refine z_iconst hx hb dX1_decodeNode_103 ?_
              refine z_iadd hx hb dX1_decodeNode_104 ?_
              refine lv_iload hx hb dX1_decodeNode_105 (lv_at hl 0 rfl) ?_
              refine z_iadd hx hb dX1_decodeNode_107 ?_
              refine lv_goto (tgt := 118) hx hb dX1_decodeNode_108 (by decide) ?_
              have hv : ((v + 1) + qv2) = if decide (i = 0) = true then ((U0 : Nat) : Int) + sg qv2 else v + 1 + qv2 := by rw [if_neg (by simp; omega)]
              refine lv_istore (lv' := [(6, .int (iZ ((v + 1) + qv2))), (8, .int (iZ qv2)), (4, .int (iZ nx1)), (0, .ref hd), (1, .ref ht), (2, .null), (3, .int (iZ ((U0 : Nat) : Int))), (5, .int (iZ qv)), (7, .int (iZ ↑i))]) hx hb dX1_decodeNode_118 hl (by decide) rfl (fun ls hl => ?_)
              refine lv_iload hx hb dX1_decodeNode_120 (lv_at hl 0 rfl) ?_
              refine z_if_lt (tgt := 134) hx hb dX1_decodeNode_122 (by decide) (by omega) (fun c_26 => ?_) (fun c_26 => ?_)
              · refine lv_aload_n hx hb dX1_decodeNode_134 rfl (lv_at hl 3 rfl) ?_
                refine z_iconst hx hb dX1_decodeNode_135 ?_
                refine lv_iload hx hb dX1_decodeNode_136 (lv_at hl 2 rfl) ?_
                refine rw_i (wr := [(ht, .inr (0, [.ref ta, .int (iZ len)])), (ta, .inl (cI, 2000, .inl (aI tf)))]) (va_runV (As := [.int (iZ 3), .int (iZ nx1)]) (rest := []) ⟨hx, hb, hml, hown, hts⟩ (c_X1_refuse l D cI cJ cB cZ hd u_13.1 nd (sz + qv) u_13.2.1 u_13.2.2 3 nx1 _) (cwV 2 hts gX1_decodeNode_X1_refuse rfl rfl rfl (by decide +kernel) ⟨Nat.le_of_ble_eq_true rfl, Nat.le_of_ble_eq_true rfl⟩) (pre1V hE (hP.sub (ws' := (wDe hd u_13.1 nd (sz + qv) u_13.2.1 u_13.2.2)) [0] rfl) (hD.sub (ws' := (wDe hd u_13.1 nd (sz + qv) u_13.2.1 u_13.2.2)) [0] (by decide) rfl) 0 rfl rfl) rfl rfl hl.1 rfl (lv_room (Nat.le_of_ble_eq_true rfl)) dX1_decodeNode_138 ⟨Nat.le_of_ble_eq_true rfl, Nat.le_of_ble_eq_true rfl⟩) hP hD hS hA [0] [1, 2] rfl rfl (by decide) (by decide) (fun r_27 u_29 H locs hr_28 hP hD hS => ?_)
                obtain ⟨rfl, rfl⟩ := hr_28
                have hP := hP.sub (ws' := (wDe hd u_13.1 nd (sz + qv) 3 nx1 ++ wBR 2000 cI ht ta tf len)) [2, 0, 1] rfl
                have hD := hD.sub (ws' := (wDe hd u_13.1 nd (sz + qv) 3 nx1 ++ wBR 2000 cI ht ta tf len)) [2, 0, 1] (by decide) rfl
                exact rw_zret (z := 0) (u_13.1, sz + qv, 3, nx1) hx hb hr hlocks (Or.inl rfl) hP hD hS ⟨3, _, qp2, qv.toNat, E1, pNode_s hq (by omega) (by omega) (by rw [← i7, show qv.toNat - i = (qv.toNat - (i + 1)) + 1 by omega]; exact pRow_o hq2 (by omega) hv (by omega)), Or.inr ⟨rfl, by first | omega | (dsimp only; omega), rfl, by first | omega | (dsimp only; omega)⟩⟩ dX1_decodeNode_141
              · refine lv_iload hx hb dX1_decodeNode_125 (lv_at hl 0 rfl) ?_
                refine lv_aload_n hx hb dX1_decodeNode_127 rfl (lv_at hl 3 rfl) ?_
                refine va_get (v := .int (iZ nd)) (C := RX1) (T := TX1) (N := 5) (ci := 1) hx hb hts hi_1 hown hK hP 0 rfl rfl 1 (by decide) hw_2 (fun _ h9 => h9) rfl dX1_decodeNode_128 ?_
                refine z_icmp_lt (tgt := 142) hx hb dX1_decodeNode_131 (by decide) (by omega) (by omega) (fun c_30 => ?_) (fun c_30 => ?_)
                · refine lv_aload_nN hx hb dX1_decodeNode_142 rfl (lv_at hl 5 rfl) ?_
                  refine lv_ifnullN (tgt := 154) hx hb dX1_decodeNode_143 (by decide) ?_
                  refine lv_iinc (v := iZ (↑i + 1)) (lv' := [(7, .int (iZ (↑i + 1))), (6, .int (iZ ((v + 1) + qv2))), (8, .int (iZ qv2)), (4, .int (iZ nx1)), (0, .ref hd), (1, .ref ht), (2, .null), (3, .int (iZ ((U0 : Nat) : Int))), (5, .int (iZ qv))]) hx hb dX1_decodeNode_154 hl (k := 8) rfl (show iZ ↑i + iZ 1 = _ from iZ_add _ _) (by decide) rfl (fun ls hl => ?_)
                  refine lv_goto (tgt := 68) hx hb dX1_decodeNode_157 (by decide) ?_
                  exact ih _ _ _ _ (by omega) ⟨(i + 1), ((v + 1) + qv2), u_13.1, u_13.2.1, u_13.2.2, (uE E1 U0 ((v + 1) + qv2).toNat true), rfl, ⟨by omega, by omega, by omega, by omega, by omega, by omega, (by rw [← i7, show qv.toNat - i = (qv.toNat - (i + 1)) + 1 by omega, pRow_s hq2 (by omega) hv (by omega), show (u_13.1).toNat = qp2 by omega]; rfl)⟩, hP, hD, hS, lv_sub hl [4, 5, 6, 7, 8, 1, 0] rfl⟩
                · refine lv_aload_n hx hb dX1_decodeNode_134 rfl (lv_at hl 3 rfl) ?_
                  refine z_iconst hx hb dX1_decodeNode_135 ?_
                  refine lv_iload hx hb dX1_decodeNode_136 (lv_at hl 2 rfl) ?_
                  refine rw_i (wr := [(ht, .inr (0, [.ref ta, .int (iZ len)])), (ta, .inl (cI, 2000, .inl (aI tf)))]) (va_runV (As := [.int (iZ 3), .int (iZ nx1)]) (rest := []) ⟨hx, hb, hml, hown, hts⟩ (c_X1_refuse l D cI cJ cB cZ hd u_13.1 nd (sz + qv) u_13.2.1 u_13.2.2 3 nx1 _) (cwV 2 hts gX1_decodeNode_X1_refuse rfl rfl rfl (by decide +kernel) ⟨Nat.le_of_ble_eq_true rfl, Nat.le_of_ble_eq_true rfl⟩) (pre1V hE (hP.sub (ws' := (wDe hd u_13.1 nd (sz + qv) u_13.2.1 u_13.2.2)) [0] rfl) (hD.sub (ws' := (wDe hd u_13.1 nd (sz + qv) u_13.2.1 u_13.2.2)) [0] (by decide) rfl) 0 rfl rfl) rfl rfl hl.1 rfl (lv_room (Nat.le_of_ble_eq_true rfl)) dX1_decodeNode_138 ⟨Nat.le_of_ble_eq_true rfl, Nat.le_of_ble_eq_true rfl⟩) hP hD hS hA [0] [1, 2] rfl rfl (by decide) (by decide) (fun r_31 u_33 H locs hr_32 hP hD hS => ?_)
                  obtain ⟨rfl, rfl⟩ := hr_32
                  have hP := hP.sub (ws' := (wDe hd u_13.1 nd (sz + qv) 3 nx1 ++ wBR 2000 cI ht ta tf len)) [2, 0, 1] rfl
                  have hD := hD.sub (ws' := (wDe hd u_13.1 nd (sz + qv) 3 nx1 ++ wBR 2000 cI ht ta tf len)) [2, 0, 1] (by decide) rfl
                  exact rw_zret (z := 0) (u_13.1, sz + qv, 3, nx1) hx hb hr hlocks (Or.inl rfl) hP hD hS ⟨3, _, qp2, qv.toNat, E1, pNode_s hq (by omega) (by omega) (by rw [← i7, show qv.toNat - i = (qv.toNat - (i + 1)) + 1 by omega]; exact pRow_o hq2 (by omega) hv (by omega)), Or.inr ⟨rfl, by first | omega | (dsimp only; omega), rfl, by first | omega | (dsimp only; omega)⟩⟩ dX1_decodeNode_141
          · refine z_iconst hx hb dX1_decodeNode_94 ?_
            exact rw_zret (z := 0) (u_13.1, sz + qv, u_13.2.1, u_13.2.2) hx hb hr hlocks (Or.inl rfl) hP hD hS ⟨qk2, qv2, qp2, qv.toNat, E1, pNode_s hq (by omega) (by omega) (by rw [← i7, show qv.toNat - i = (qv.toNat - (i + 1)) + 1 by omega]; exact pRow_f hq2 (by omega)), Or.inr ⟨rfl, by first | omega | (dsimp only; omega), by first | omega | (dsimp only; omega), by first | omega | (dsimp only; omega)⟩⟩ dX1_decodeNode_95
      · refine lv_aload_n hx hb dX1_decodeNode_43 rfl (lv_at hl 2 rfl) ?_
        refine z_iconst hx hb dX1_decodeNode_44 ?_
        refine lv_iload hx hb dX1_decodeNode_45 (lv_at hl 1 rfl) ?_
        refine rw_i (wr := [(ht, .inr (0, [.ref ta, .int (iZ len)])), (ta, .inl (cI, 2000, .inl (aI tf)))]) (va_runV (As := [.int (iZ 3), .int (iZ nx)]) (rest := []) ⟨hx, hb, hml, hown, hts⟩ (c_X1_refuse l D cI cJ cB cZ hd u_3.1 nd sz u_3.2.1 u_3.2.2 3 nx _) (cwV 2 hts gX1_decodeNode_X1_refuse rfl rfl rfl (by decide +kernel) ⟨Nat.le_of_ble_eq_true rfl, Nat.le_of_ble_eq_true rfl⟩) (pre1V hE (hP.sub (ws' := (wDe hd u_3.1 nd sz u_3.2.1 u_3.2.2)) [0] rfl) (hD.sub (ws' := (wDe hd u_3.1 nd sz u_3.2.1 u_3.2.2)) [0] (by decide) rfl) 0 rfl rfl) rfl rfl hl.1 rfl (lv_room (Nat.le_of_ble_eq_true rfl)) dX1_decodeNode_47 ⟨Nat.le_of_ble_eq_true rfl, Nat.le_of_ble_eq_true rfl⟩) hP hD hS hA [0] [1, 2] rfl rfl (by decide) (by decide) (fun r_34 u_36 H locs hr_35 hP hD hS => ?_)
        obtain ⟨rfl, rfl⟩ := hr_35
        have hP := hP.sub (ws' := (wDe hd u_3.1 nd sz 3 nx ++ wBR 2000 cI ht ta tf len)) [2, 0, 1] rfl
        have hD := hD.sub (ws' := (wDe hd u_3.1 nd sz 3 nx ++ wBR 2000 cI ht ta tf len)) [2, 0, 1] (by decide) rfl
        exact rw_zret (z := 0) (u_3.1, sz, 3, nx) hx hb hr hlocks (Or.inl rfl) hP hD hS ⟨3, _, qp, 0, E, pNode_o hq (by omega) (by omega), Or.inr ⟨rfl, by first | omega | (dsimp only; omega), rfl, by first | omega | (dsimp only; omega)⟩⟩ dX1_decodeNode_50
  · refine z_iconst hx hb dX1_decodeNode_19 ?_
    exact rw_zret (z := 0) (u_3.1, sz, u_3.2.1, u_3.2.2) hx hb hr hlocks (Or.inl rfl) hP hD hS ⟨qk, qv, qp, 0, E, pNode_f hq (by omega), Or.inr ⟨rfl, by first | omega | (dsimp only; omega), by first | omega | (dsimp only; omega), by first | omega | (dsimp only; omega)⟩⟩ dX1_decodeNode_20
end
section
set_option maxHeartbeats 4000000 in
set_option maxRecDepth 100000 in
theorem c_X1_decode0 (l : Launch) (D : va_G) (cI cJ cB cZ : ClassId) (hd ht ta : Nat) (nx nd sz kd pl : Int) (tf : Nat → Int) (len : Int) (hT : ∀ j, j < len.toNat → 0 ≤ tf j ∧ tf j < 256) (hL : 0 ≤ len ∧ len ≤ 2000)  (sz0 : Nat) : Met l yX1_decode wsX1_decode ({ frames := 4, cells := 0, slots := 0, locals := 97 } : Room) (Pre1 D cI cJ cB cZ [.ref hd, .ref ht, .null] (wDe hd nx nd sz kd pl ++ wBR 2000 cI ht ta tf len) sz0) (rwI (S := Int × Int × Int × Int × Int) D (fun z U => ∃ (rk rp : Int) (rn rs : Nat) (rE : Ed), pAll tf len.toNat = (rk, rp, rn, rs, rE) ∧ ((z = 1 ∧ rk = 0 ∧ U.2.2.2.1 = 0) ∨ (z = 0 ∧ rk ≠ 0 ∧ U.2.2.2.1 = rk ∧ U.2.2.2.2 = rp))) (fun u => wDe hd u.1 u.2.1 u.2.2.1 u.2.2.2.1 u.2.2.2.2 ++ wBR 2000 cI ht ta tf len) (va_A (wDe hd nx nd sz kd pl ++ wBR 2000 cI ht ta tf len) sz0)) 0 0 (va_A (wDe hd nx nd sz kd pl ++ wBR 2000 cI ht ta tf len) sz0) := by
  refine Met.ofW (cc := cX1_decode) (maxL := 4) (ret := (some .boolean)) (by decide) rfl ?_
  intro p e s m args below meth c s₁ B hml hv
  obtain ⟨rfl, hsz, hP, hE, hD0⟩ := hv
  have hx := B.exec
  have hb := B.bytes
  have hr := B.returns
  have hts := atoms_spec (ws := wsX1_decode) B.pre
  have hown : s.vm.findClass RX1 = some m.cls := findClass_of_methodNamed B.named
  have hlocks := B.notSynchronized
  have hK := hE.1
  subst hsz
  have hD := hD0.self (sz := s.heap.size)
  generalize hAe : va_A (wDe hd nx nd sz kd pl ++ wBR 2000 cI ht ta tf len) s.heap.size = A at hD ⊢
  have hA : ∀ q : Nat, s.heap.size ≤ q → A q := fun q h => by rw [← hAe]; exact Or.inr h
  have hS : va_S A s.heap s.heap [] := va_S.rf
  have hP : va_P D vwCl (wDe hd nx nd sz kd pl ++ wBR 2000 cI ht ta tf len) s.heap := hP
  have hi_0 : ∀ w ∈ wsX00, w ∈ wsX1_decode := by decide +kernel
  have hi_1 : ∀ w ∈ wsX10, w ∈ wsX1_decode := by decide +kernel
  have hw_1 := hts (.fieldLink RX1 9 "RankHouse$Decoder" "next" "I") (by decide +kernel)
  have hw_2 := hts (.fieldLink RX1 21 "RankHouse$Decoder" "kind" "I") (by decide +kernel)
  have hw_3 := hts (.fieldLink RX1 18 "RankHouse$Decoder" "size" "I") (by decide +kernel)
  have hw_4 := hts (.fieldLink RX1 15 "RankHouse$Decoder" "nodes" "I") (by decide +kernel)
  have hw_5 := hE.nl (w := .fieldLinkNest RX1 49 "RankHouse$ByteRow" "length" "I" "RankHouse") (by decide +kernel) ([.ref hd, .ref ht, .null] : List Value).toArray
  have hl := lv_entry ([.ref hd, .ref ht, .null]) (n := 4) (Nat.le_of_ble_eq_true rfl)
  rw [lg_entry_eq]
  generalize (lg_sl ([.ref hd, .ref ht, .null]) ++ List.replicate (4 - (lg_sl ([.ref hd, .ref ht, .null])).length) Slot.unset).toArray = ls at hl ⊢
  have hl : lv_has ls 4 [(0, .ref hd), (1, .ref ht), (2, .null)] := hl
  refine lv_aload_n hx hb dX1_decode_0 rfl (lv_at hl 0 rfl) ?_
  refine z_iconst hx hb dX1_decode_1 ?_
  refine va_put (v := .int (iZ 0)) (ty := .int) (C := RX1) (T := TX1) (N := 5) (ci := 1) hx hb hts hi_1 tyX1 tyX1_ok nmX1 hown hK hP hD hS 0 rfl rfl 0 (by decide) hw_1 (fun _ h9 => h9) rfl (by decide +kernel) rfl rfl (Nat.le_of_ble_eq_true rfl) dX1_decode_2 (fun H locs hP hD hS => ?_)
  have hP : va_P D vwCl (wDe hd 0 nd sz kd pl ++ wBR 2000 cI ht ta tf len) H := hP
  have hD : va_D A (wDe hd 0 nd sz kd pl ++ wBR 2000 cI ht ta tf len) := hD
  refine lv_aload_n hx hb dX1_decode_5 rfl (lv_at hl 0 rfl) ?_
  refine z_iconst hx hb dX1_decode_6 ?_
  refine va_put (v := .int (iZ 0)) (ty := .int) (C := RX1) (T := TX1) (N := 5) (ci := 1) hx hb hts hi_1 tyX1 tyX1_ok nmX1 hown hK hP hD hS 0 rfl rfl 3 (by decide) hw_2 (fun _ h9 => h9) rfl (by decide +kernel) rfl rfl (Nat.le_of_ble_eq_true rfl) dX1_decode_7 (fun H locs hP hD hS => ?_)
  have hP : va_P D vwCl (wDe hd 0 nd sz 0 pl ++ wBR 2000 cI ht ta tf len) H := hP
  have hD : va_D A (wDe hd 0 nd sz 0 pl ++ wBR 2000 cI ht ta tf len) := hD
  refine lv_aload_n hx hb dX1_decode_10 rfl (lv_at hl 0 rfl) ?_
  refine z_iconst hx hb dX1_decode_11 ?_
  refine va_put (v := .int (iZ 0)) (ty := .int) (C := RX1) (T := TX1) (N := 5) (ci := 1) hx hb hts hi_1 tyX1 tyX1_ok nmX1 hown hK hP hD hS 0 rfl rfl 2 (by decide) hw_3 (fun _ h9 => h9) rfl (by decide +kernel) rfl rfl (Nat.le_of_ble_eq_true rfl) dX1_decode_12 (fun H locs hP hD hS => ?_)
  have hP : va_P D vwCl (wDe hd 0 nd 0 0 pl ++ wBR 2000 cI ht ta tf len) H := hP
  have hD : va_D A (wDe hd 0 nd 0 0 pl ++ wBR 2000 cI ht ta tf len) := hD
  refine lv_aload_n hx hb dX1_decode_15 rfl (lv_at hl 0 rfl) ?_
  refine lv_aload_n hx hb dX1_decode_16 rfl (lv_at hl 0 rfl) ?_
  refine lv_aload_n hx hb dX1_decode_17 rfl (lv_at hl 1 rfl) ?_
  refine rw_i (wr := []) (va_runV (As := [.ref ht]) (rest := [.ref hd]) ⟨hx, hb, hml, hown, hts⟩ (c_X1_unsigned l D cI cJ cB cZ hd ht ta 0 nd 0 0 pl tf len hT hL (by omega) _) (cwV 1 hts gX1_decode_X1_unsigned rfl rfl rfl (by decide +kernel) ⟨Nat.le_of_ble_eq_true rfl, Nat.le_of_ble_eq_true rfl⟩) (pre1V hE hP hD 0 rfl rfl) rfl rfl hl.1 rfl (lv_room (Nat.le_of_ble_eq_true rfl)) dX1_decode_18 ⟨Nat.le_of_ble_eq_true rfl, Nat.le_of_ble_eq_true rfl⟩) hP hD hS hA [0, 1, 2] [] rfl rfl (by decide) (by decide) (fun r_1 u_3 H locs hr_2 hP hD hS => ?_)
  have hP := hP.sub (ws' := (wDe hd u_3.1 nd 0 u_3.2.1 u_3.2.2 ++ wBR 2000 cI ht ta tf len)) [0, 1, 2] rfl
  have hD := hD.sub (ws' := (wDe hd u_3.1 nd 0 u_3.2.1 u_3.2.2 ++ wBR 2000 cI ht ta tf len)) [0, 1, 2] (by decide) rfl
  obtain ⟨⟨qk, qv, qp⟩, hq⟩ : ∃ q, q = uns tf len.toNat (0 : Int).toNat := ⟨_, rfl⟩
  rw [← hq] at hr_2
  have w1 := uns_ok hq (by omega) hT
  dsimp only [uR] at hr_2
  refine va_put (v := .int (iZ r_1)) (ty := .int) (C := RX1) (T := TX1) (N := 5) (ci := 1) hx hb hts hi_1 tyX1 tyX1_ok nmX1 hown hK hP hD hS 0 rfl rfl 1 (by decide) hw_4 (fun _ h9 => h9) rfl (by decide +kernel) rfl rfl (Nat.le_of_ble_eq_true rfl) dX1_decode_21 (fun H locs hP hD hS => ?_)
  have hP : va_P D vwCl (wDe hd u_3.1 r_1 0 u_3.2.1 u_3.2.2 ++ wBR 2000 cI ht ta tf len) H := hP
  have hD : va_D A (wDe hd u_3.1 r_1 0 u_3.2.1 u_3.2.2 ++ wBR 2000 cI ht ta tf len) := hD
  refine lv_aload_n hx hb dX1_decode_24 rfl (lv_at hl 0 rfl) ?_
  refine va_get (v := .int (iZ r_1)) (C := RX1) (T := TX1) (N := 5) (ci := 1) hx hb hts hi_1 hown hK hP 0 rfl rfl 1 (by decide) hw_4 (fun _ h9 => h9) rfl dX1_decode_25 ?_
  refine z_iconst hx hb dX1_decode_28 ?_
  refine z_icmp_ne (tgt := 34) hx hb dX1_decode_29 (by decide) (by omega) (by omega) (fun c_4 => ?_) (fun c_4 => ?_)
  · obtain rfl : qv = r_1 := by omega
    refine lv_aload_n hx hb dX1_decode_34 rfl (lv_at hl 0 rfl) ?_
    refine va_get (v := .int (iZ qv)) (C := RX1) (T := TX1) (N := 5) (ci := 1) hx hb hts hi_1 hown hK hP 0 rfl rfl 1 (by decide) hw_4 (fun _ h9 => h9) rfl dX1_decode_35 ?_
    refine ro_i (va_runS (As := [.int (iZ qv)]) (rest := []) ⟨hx, hb, hml, hown, hts⟩ (c_X2_canHave l D cI cJ cB cZ qv (by omega)) (va_cwS 1 hts gX1_decode_X2_canHave rfl rfl rfl (by decide +kernel) ⟨Nat.le_of_ble_eq_true rfl, Nat.le_of_ble_eq_true rfl⟩) (pre0S hE (hP.sub (ws' := []) [] rfl)) rfl rfl hl.1 rfl (lv_room (Nat.le_of_ble_eq_true rfl)) dX1_decode_38 ⟨Nat.le_of_ble_eq_true rfl, Nat.le_of_ble_eq_true rfl⟩) (fun r_5 hr_6 => ?_)
    rcases hr_6 with ⟨rfl, hq_7⟩ | ⟨rfl, hq_7⟩
    · refine z_if_ne (tgt := 51) hx hb dX1_decode_41 (by decide) (by omega) (fun _ => ?_) (fun c9 => absurd c9 (by decide))
      refine lv_aload_nN hx hb dX1_decode_51 rfl (lv_at hl 2 rfl) ?_
      refine lv_ifnullN (tgt := 63) hx hb dX1_decode_52 (by decide) ?_
      refine z_iconst hx hb dX1_decode_63 ?_
      refine lv_istore_n (lv' := [(3, .int (iZ 0)), (0, .ref hd), (1, .ref ht), (2, .null)]) hx hb dX1_decode_64 rfl hl (by decide) rfl (fun ls hl => ?_)
      refine w_loop (fun kf H locs ls => ∃ (i size : Nat), ∃ (nx1 sz1 kd1 pl1 : Int), ∃ (E1 : Ed), kf = qv.toNat - i ∧ (i ≤ qv.toNat ∧ 0 ≤ nx1 ∧ nx1 ≤ len ∧ sz1 = (size : Int) ∧ size ≤ 2500 ∧ kd1 = 0 ∧ pNodes tf len.toNat qv.toNat (qv.toNat - i) i nx1.toNat size E1 = pNodes tf len.toNat qv.toNat qv.toNat 0 qp 0 (fun _ _ => false)) ∧ va_P D vwCl (wDe hd nx1 qv sz1 kd1 pl1 ++ wBR 2000 cI ht ta tf len) H ∧ va_D A (wDe hd nx1 qv sz1 kd1 pl1 ++ wBR 2000 cI ht ta tf len) ∧ va_S A s.heap H locs ∧ lv_has ls 4 [(0, .ref hd), (1, .ref ht), (2, .null), (3, .int (iZ ↑i))]) ?_ _ ⟨0, 0, u_3.1, 0, u_3.2.1, u_3.2.2, (fun _ _ => false), rfl, ⟨by omega, by omega, by omega, rfl, by omega, by omega, (by rw [show (u_3.1).toNat = qp by omega]; rfl)⟩, hP, hD, hS, lv_sub hl [1, 2, 3, 0] rfl⟩
      rintro kf H locs ls ⟨i, size, nx1, sz1, kd1, pl1, E1, hk, ⟨i1, i2, i3, i4, i5, i6, i7⟩, hP, hD, hS, hl⟩ ih
      refine lv_iload_n hx hb dX1_decode_65 rfl (lv_at hl 3 rfl) ?_
      refine lv_aload_n hx hb dX1_decode_66 rfl (lv_at hl 0 rfl) ?_
      refine va_get (v := .int (iZ qv)) (C := RX1) (T := TX1) (N := 5) (ci := 1) hx hb hts hi_1 hown hK hP 0 rfl rfl 1 (by decide) hw_4 (fun _ h9 => h9) rfl dX1_decode_67 ?_
      refine z_icmp_ge (tgt := 91) hx hb dX1_decode_70 (by decide) (by omega) (by omega) (fun c_8 => ?_) (fun c_8 => ?_)
      · refine lv_aload_n hx hb dX1_decode_91 rfl (lv_at hl 0 rfl) ?_
        refine va_get (v := .int (iZ nx1)) (C := RX1) (T := TX1) (N := 5) (ci := 1) hx hb hts hi_1 hown hK hP 0 rfl rfl 0 (by decide) hw_1 (fun _ h9 => h9) rfl dX1_decode_92 ?_
        refine lv_aload_n hx hb dX1_decode_95 rfl (lv_at hl 1 rfl) ?_
        refine va_getN (v := .int (iZ len)) (C := RX0) (T := TX0) (N := 2) (ci := 0) hx hb hts hi_0 hown hK hP 1 rfl rfl 1 (by decide) hw_5 (fun _ h9 => h9) rfl dX1_decode_96 ?_
        refine z_icmp_ge (tgt := 114) hx hb dX1_decode_99 (by decide) (by omega) (by omega) (fun c_9 => ?_) (fun c_9 => ?_)
        · refine z_iconst hx hb dX1_decode_114 ?_
          refine lv_goto (tgt := 119) hx hb dX1_decode_115 (by decide) ?_
          exact rw_zret (z := 1) (nx1, qv, sz1, kd1, pl1) hx hb hr hlocks (Or.inr rfl) hP hD hS ⟨0, 0, qv.toNat, size, E1, pAll_s hq (by omega) (by omega) (by rw [← i7, show qv.toNat - i = 0 by omega, pNodes, if_neg (by omega)]), Or.inl ⟨rfl, rfl, by first | omega | (dsimp only; omega)⟩⟩ dX1_decode_119
        · refine lv_aload_n hx hb dX1_decode_102 rfl (lv_at hl 0 rfl) ?_
          refine z_iconst hx hb dX1_decode_103 ?_
          refine lv_aload_n hx hb dX1_decode_104 rfl (lv_at hl 0 rfl) ?_
          refine va_get (v := .int (iZ nx1)) (C := RX1) (T := TX1) (N := 5) (ci := 1) hx hb hts hi_1 hown hK hP 0 rfl rfl 0 (by decide) hw_1 (fun _ h9 => h9) rfl dX1_decode_105 ?_
          refine rw_i (wr := [(ht, .inr (0, [.ref ta, .int (iZ len)])), (ta, .inl (cI, 2000, .inl (aI tf)))]) (va_runV (As := [.int (iZ 4), .int (iZ nx1)]) (rest := []) ⟨hx, hb, hml, hown, hts⟩ (c_X1_refuse l D cI cJ cB cZ hd nx1 qv sz1 kd1 pl1 4 nx1 _) (cwV 2 hts gX1_decode_X1_refuse rfl rfl rfl (by decide +kernel) ⟨Nat.le_of_ble_eq_true rfl, Nat.le_of_ble_eq_true rfl⟩) (pre1V hE (hP.sub (ws' := (wDe hd nx1 qv sz1 kd1 pl1)) [0] rfl) (hD.sub (ws' := (wDe hd nx1 qv sz1 kd1 pl1)) [0] (by decide) rfl) 0 rfl rfl) rfl rfl hl.1 rfl (lv_room (Nat.le_of_ble_eq_true rfl)) dX1_decode_108 ⟨Nat.le_of_ble_eq_true rfl, Nat.le_of_ble_eq_true rfl⟩) hP hD hS hA [0] [1, 2] rfl rfl (by decide) (by decide) (fun r_10 u_12 H locs hr_11 hP hD hS => ?_)
          obtain ⟨rfl, rfl⟩ := hr_11
          have hP := hP.sub (ws' := (wDe hd nx1 qv sz1 4 nx1 ++ wBR 2000 cI ht ta tf len)) [2, 0, 1] rfl
          have hD := hD.sub (ws' := (wDe hd nx1 qv sz1 4 nx1 ++ wBR 2000 cI ht ta tf len)) [2, 0, 1] (by decide) rfl
          refine z_if_eq (tgt := 118) hx hb dX1_decode_111 (by decide) (by omega) (fun _ => ?_) (fun c9 => absurd c9 (by decide))
          refine z_iconst hx hb dX1_decode_118 ?_
          exact rw_zret (z := 0) (nx1, qv, sz1, 4, nx1) hx hb hr hlocks (Or.inl rfl) hP hD hS ⟨4, _, qv.toNat, size, E1, pAll_s hq (by omega) (by omega) (by rw [← i7, show qv.toNat - i = 0 by omega, pNodes, if_pos (by omega)]), Or.inr ⟨rfl, by omega, rfl, by first | omega | (dsimp only; omega)⟩⟩ dX1_decode_119
      · refine lv_aload_n hx hb dX1_decode_73 rfl (lv_at hl 0 rfl) ?_
        refine lv_aload_n hx hb dX1_decode_74 rfl (lv_at hl 1 rfl) ?_
        refine lv_aload_nN hx hb dX1_decode_75 rfl (lv_at hl 2 rfl) ?_
        refine lv_iload_n hx hb dX1_decode_76 rfl (lv_at hl 3 rfl) ?_
        refine rw_i (wr := []) (va_runV (As := [.ref ht, .null, .int (iZ ↑i)]) (rest := []) ⟨hx, hb, hml, hown, hts⟩ (c_X1_decodeNode0 l D cI cJ cB cZ hd ht ta nx1 qv sz1 kd1 pl1 tf len hT hL (by omega) qv.toNat i size E1 (by omega) (by omega) (by omega) (by omega) (by omega) _) (cwV 3 hts gX1_decode_X1_decodeNode rfl rfl rfl (by decide +kernel) ⟨Nat.le_of_ble_eq_true rfl, Nat.le_of_ble_eq_true rfl⟩) (pre1V hE hP hD 0 rfl rfl) rfl rfl hl.1 rfl (lv_room (Nat.le_of_ble_eq_true rfl)) dX1_decode_77 ⟨Nat.le_of_ble_eq_true rfl, Nat.le_of_ble_eq_true rfl⟩) hP hD hS hA [0, 1, 2] [] rfl rfl (by decide) (by decide) (fun r_13 u_15 H locs hr_14 hP hD hS => ?_)
        have hP := hP.sub (ws' := (wDe hd u_15.1 qv u_15.2.1 u_15.2.2.1 u_15.2.2.2 ++ wBR 2000 cI ht ta tf len)) [0, 1, 2] rfl
        have hD := hD.sub (ws' := (wDe hd u_15.1 qv u_15.2.1 u_15.2.2.1 u_15.2.2.2 ++ wBR 2000 cI ht ta tf len)) [0, 1, 2] (by decide) rfl
        obtain ⟨rk, rp, rq, rn, rE, hpn, hz9⟩ := hr_14
        rcases hz9 with ⟨rfl, hq_16⟩ | ⟨rfl, hq_16⟩
        · refine z_if_ne (tgt := 85) hx hb dX1_decode_80 (by decide) (by omega) (fun _ => ?_) (fun c9 => absurd c9 (by decide))
          refine lv_iinc (v := iZ (↑i + 1)) (lv' := [(3, .int (iZ (↑i + 1))), (0, .ref hd), (1, .ref ht), (2, .null)]) hx hb dX1_decode_85 hl (k := 3) rfl (show iZ ↑i + iZ 1 = _ from iZ_add _ _) (by decide) rfl (fun ls hl => ?_)
          refine lv_goto (tgt := 65) hx hb dX1_decode_88 (by decide) ?_
          exact ih _ _ _ _ (by omega) ⟨(i + 1), (size + rn), u_15.1, u_15.2.1, u_15.2.2.1, u_15.2.2.2, rE, rfl, ⟨by omega, by omega, by omega, by omega, by omega, by omega, (by rw [← i7, show qv.toNat - i = (qv.toNat - (i + 1)) + 1 by omega, pNodes_s hpn (by omega), show (u_15.1).toNat = rq by omega])⟩, hP, hD, hS, lv_sub hl [1, 2, 3, 0] rfl⟩
        · refine z_if_ne (tgt := 85) hx hb dX1_decode_80 (by decide) (by omega) (fun c9 => absurd c9 (by decide)) (fun _ => ?_)
          refine z_iconst hx hb dX1_decode_83 ?_
          exact rw_zret (z := 0) (u_15.1, qv, u_15.2.1, u_15.2.2.1, u_15.2.2.2) hx hb hr hlocks (Or.inl rfl) hP hD hS ⟨rk, rp, qv.toNat, size, E1, pAll_s hq (by omega) (by omega) (by rw [← i7, show qv.toNat - i = (qv.toNat - (i + 1)) + 1 by omega]; exact pNodes_f hpn (by omega)), Or.inr ⟨rfl, by omega, by first | omega | (dsimp only; omega), by first | omega | (dsimp only; omega)⟩⟩ dX1_decode_84
    · refine z_if_ne (tgt := 51) hx hb dX1_decode_41 (by decide) (by omega) (fun c9 => absurd c9 (by decide)) (fun _ => ?_)
      refine lv_aload_n hx hb dX1_decode_44 rfl (lv_at hl 0 rfl) ?_
      refine z_iconst hx hb dX1_decode_45 ?_
      refine z_iconst hx hb dX1_decode_46 ?_
      refine rw_i (wr := [(ht, .inr (0, [.ref ta, .int (iZ len)])), (ta, .inl (cI, 2000, .inl (aI tf)))]) (va_runV (As := [.int (iZ 3), .int (iZ 0)]) (rest := []) ⟨hx, hb, hml, hown, hts⟩ (c_X1_refuse l D cI cJ cB cZ hd u_3.1 qv 0 u_3.2.1 u_3.2.2 3 0 _) (cwV 2 hts gX1_decode_X1_refuse rfl rfl rfl (by decide +kernel) ⟨Nat.le_of_ble_eq_true rfl, Nat.le_of_ble_eq_true rfl⟩) (pre1V hE (hP.sub (ws' := (wDe hd u_3.1 qv 0 u_3.2.1 u_3.2.2)) [0] rfl) (hD.sub (ws' := (wDe hd u_3.1 qv 0 u_3.2.1 u_3.2.2)) [0] (by decide) rfl) 0 rfl rfl) rfl rfl hl.1 rfl (lv_room (Nat.le_of_ble_eq_true rfl)) dX1_decode_47 ⟨Nat.le_of_ble_eq_true rfl, Nat.le_of_ble_eq_true rfl⟩) hP hD hS hA [0] [1, 2] rfl rfl (by decide) (by decide) (fun r_17 u_19 H locs hr_18 hP hD hS => ?_)
      obtain ⟨rfl, rfl⟩ := hr_18
      have hP := hP.sub (ws' := (wDe hd u_3.1 qv 0 3 0 ++ wBR 2000 cI ht ta tf len)) [2, 0, 1] rfl
      have hD := hD.sub (ws' := (wDe hd u_3.1 qv 0 3 0 ++ wBR 2000 cI ht ta tf len)) [2, 0, 1] (by decide) rfl
      exact rw_zret (z := 0) (u_3.1, qv, 0, 3, 0) hx hb hr hlocks (Or.inl rfl) hP hD hS ⟨3, 0, 0, 0, (fun _ _ => false), pAll_o hq (by omega) (by omega), Or.inr ⟨rfl, by omega, rfl, rfl⟩⟩ dX1_decode_50
  · refine z_iconst hx hb dX1_decode_32 ?_
    exact rw_zret (z := 0) (u_3.1, r_1, 0, u_3.2.1, u_3.2.2) hx hb hr hlocks (Or.inl rfl) hP hD hS ⟨qk, qv, 0, 0, (fun _ _ => false), pAll_f hq (by omega), Or.inr ⟨rfl, by omega, by first | omega | (dsimp only; omega), by first | omega | (dsimp only; omega)⟩⟩ dX1_decode_33
end
section
set_option maxHeartbeats 4000000 in
set_option maxRecDepth 100000 in
theorem c_X1_decodeNode1 (l : Launch) (D : va_G) (cI cJ cB cZ : ClassId) (hd ht ta h a1 a2 a3 : Nat) (nx nd sz kd pl : Int) (tf : Nat → Int) (len : Int) (f1 f2 f3 : Nat → Int) (n sz2 wh : Int) (hT : ∀ j, j < len.toNat → 0 ≤ tf j ∧ tf j < 256) (hL : 0 ≤ len ∧ len ≤ 2000) (hnx : 0 ≤ nx ∧ nx ≤ len) (N U0 size : Nat) (E : Ed) (hN : 1 ≤ N ∧ N ≤ 250) (hnd : nd = (N : Int)) (hU : U0 < N) (hsz : sz = (size : Int)) (hs2 : size ≤ 2500) (hok : (pNode tf len.toNat N U0 size nx.toNat E).1 = 0) (hG : GR N E (fun _ => 1) f1 f2 f3 n sz2 wh) (hfs : fst E N N = size) (hrow : ∀ a b, E a b = true → a < U0)  (sz0 : Nat) : Met l yX1_decodeNode wsX1_decodeNode ({ frames := 3, cells := 0, slots := 0, locals := 69 } : Room) (Pre1 D cI cJ cB cZ [.ref hd, .ref ht, .ref h, .int (iZ ((U0 : Nat) : Int))] (wDe hd nx nd sz kd pl ++ wBR 2000 cI ht ta tf len ++ wGr cI h a1 a2 a3 f1 f2 f3 n sz2 wh) sz0) (rwI (S := Int × Int × Int × Int × GT) D (fun z U => z = 1 ∧ ∃ (rp : Int) (rq rn : Nat) (rE : Ed), pNode tf len.toNat N U0 size nx.toNat E = (0, rp, rq, rn, rE) ∧ U.1 = (rq : Int) ∧ U.2.1 = sz + (rn : Int) ∧ U.2.2.1 = kd ∧ rq ≤ len.toNat ∧ size + rn ≤ 2500 ∧ GRu N rE (fun _ => 1) U.2.2.2.2 ∧ fst rE N N = size + rn ∧ (∀ a b, rE a b = true → a < U0 + 1)) (fun u => wDe hd u.1 nd u.2.1 u.2.2.1 u.2.2.2.1 ++ wBR 2000 cI ht ta tf len ++ wG cI h a1 a2 a3 u.2.2.2.2) (va_A (wDe hd nx nd sz kd pl ++ wBR 2000 cI ht ta tf len ++ wGr cI h a1 a2 a3 f1 f2 f3 n sz2 wh) sz0)) 0 0 (va_A (wDe hd nx nd sz kd pl ++ wBR 2000 cI ht ta tf len ++ wGr cI h a1 a2 a3 f1 f2 f3 n sz2 wh) sz0) := by
  refine Met.ofW (cc := cX1_decodeNode) (maxL := 9) (ret := (some .boolean)) (by decide) rfl ?_
  intro p e s m args below meth c s₁ B hml hv
  obtain ⟨rfl, hsz, hP, hE, hD0⟩ := hv
  have hx := B.exec
  have hb := B.bytes
  have hr := B.returns
  have hts := atoms_spec (ws := wsX1_decodeNode) B.pre
  have hown : s.vm.findClass RX1 = some m.cls := findClass_of_methodNamed B.named
  have hlocks := B.notSynchronized
  have hK := hE.1
  subst hsz
  have hD := hD0.self (sz := s.heap.size)
  generalize hAe : va_A (wDe hd nx nd sz kd pl ++ wBR 2000 cI ht ta tf len ++ wGr cI h a1 a2 a3 f1 f2 f3 n sz2 wh) s.heap.size = A at hD ⊢
  have hA : ∀ q : Nat, s.heap.size ≤ q → A q := fun q h => by rw [← hAe]; exact Or.inr h
  have hS : va_S A s.heap s.heap [] := va_S.rf
  have hP : va_P D vwCl (wDe hd nx nd sz kd pl ++ wBR 2000 cI ht ta tf len ++ wGr cI h a1 a2 a3 f1 f2 f3 n sz2 wh) s.heap := hP
  have hi_1 : ∀ w ∈ wsX10, w ∈ wsX1_decodeNode := by decide +kernel
  have hw_1 := hts (.fieldLink RX1 9 "RankHouse$Decoder" "next" "I") (by decide +kernel)
  have hw_2 := hts (.fieldLink RX1 15 "RankHouse$Decoder" "nodes" "I") (by decide +kernel)
  have hw_3 := hts (.fieldLink RX1 18 "RankHouse$Decoder" "size" "I") (by decide +kernel)
  have hl := lv_entry ([.ref hd, .ref ht, .ref h, .int (iZ ((U0 : Nat) : Int))]) (n := 9) (Nat.le_of_ble_eq_true rfl)
  rw [lg_entry_eq]
  generalize (lg_sl ([.ref hd, .ref ht, .ref h, .int (iZ ((U0 : Nat) : Int))]) ++ List.replicate (9 - (lg_sl ([.ref hd, .ref ht, .ref h, .int (iZ ((U0 : Nat) : Int))])).length) Slot.unset).toArray = ls at hl ⊢
  have hl : lv_has ls 9 [(0, .ref hd), (1, .ref ht), (2, .ref h), (3, .int (iZ ((U0 : Nat) : Int)))] := hl
  refine lv_aload_n hx hb dX1_decodeNode_0 rfl (lv_at hl 0 rfl) ?_
  refine va_get (v := .int (iZ nx)) (C := RX1) (T := TX1) (N := 5) (ci := 1) hx hb hts hi_1 hown hK hP 0 rfl rfl 0 (by decide) hw_1 (fun _ h9 => h9) rfl dX1_decodeNode_1 ?_
  refine lv_istore (lv' := [(4, .int (iZ nx)), (0, .ref hd), (1, .ref ht), (2, .ref h), (3, .int (iZ ((U0 : Nat) : Int)))]) hx hb dX1_decodeNode_4 hl (by decide) rfl (fun ls hl => ?_)
  refine lv_aload_n hx hb dX1_decodeNode_6 rfl (lv_at hl 1 rfl) ?_
  refine lv_aload_n hx hb dX1_decodeNode_7 rfl (lv_at hl 2 rfl) ?_
  refine rw_i (wr := [(h, .inr (2, [.ref a1, .ref a2, .ref a3, .int (iZ n), .int (iZ sz2), .int (iZ wh)])), (a1, .inl (cI, 251, .inl (aI f1))), (a2, .inl (cI, 2500, .inl (aI f2))), (a3, .inl (cI, 250, .inl (aI f3)))]) (va_runV (As := [.ref ht]) (rest := []) ⟨hx, hb, hml, hown, hts⟩ (c_X1_unsigned l D cI cJ cB cZ hd ht ta nx nd sz kd pl tf len hT hL hnx _) (cwV 1 hts gX1_decodeNode_X1_unsigned rfl rfl rfl (by decide +kernel) ⟨Nat.le_of_ble_eq_true rfl, Nat.le_of_ble_eq_true rfl⟩) (pre1V hE (hP.sub (ws' := (wDe hd nx nd sz kd pl ++ wBR 2000 cI ht ta tf len)) [0, 1, 2] rfl) (hD.sub (ws' := (wDe hd nx nd sz kd pl ++ wBR 2000 cI ht ta tf len)) [0, 1, 2] (by decide) rfl) 0 rfl rfl) rfl rfl hl.1 rfl (lv_room (Nat.le_of_ble_eq_true rfl)) dX1_decodeNode_8 ⟨Nat.le_of_ble_eq_true rfl, Nat.le_of_ble_eq_true rfl⟩) hP hD hS hA [0, 1, 2] [3, 4, 5, 6] rfl rfl (by decide) (by decide) (fun r_1 u_3 H locs hr_2 hP hD hS => ?_)
  have hP := hP.sub (ws' := (wDe hd u_3.1 nd sz u_3.2.1 u_3.2.2 ++ wBR 2000 cI ht ta tf len ++ wGr cI h a1 a2 a3 f1 f2 f3 n sz2 wh)) [4, 5, 6, 0, 1, 2, 3] rfl
  have hD := hD.sub (ws' := (wDe hd u_3.1 nd sz u_3.2.1 u_3.2.2 ++ wBR 2000 cI ht ta tf len ++ wGr cI h a1 a2 a3 f1 f2 f3 n sz2 wh)) [4, 5, 6, 0, 1, 2, 3] (by decide) rfl
  obtain ⟨⟨qk, qv, qp⟩, hq⟩ : ∃ q, q = uns tf len.toNat nx.toNat := ⟨_, rfl⟩
  rw [← hq] at hr_2
  have w1 := uns_ok hq (by omega) hT
  dsimp only [uR] at hr_2
  refine lv_istore (lv' := [(5, .int (iZ r_1)), (4, .int (iZ nx)), (0, .ref hd), (1, .ref ht), (2, .ref h), (3, .int (iZ ((U0 : Nat) : Int)))]) hx hb dX1_decodeNode_11 hl (by decide) rfl (fun ls hl => ?_)
  refine lv_iload hx hb dX1_decodeNode_13 (lv_at hl 0 rfl) ?_
  refine z_iconst hx hb dX1_decodeNode_15 ?_
  refine z_icmp_ne (tgt := 21) hx hb dX1_decodeNode_16 (by decide) (by omega) (by omega) (fun c_4 => ?_) (fun c_4 => ?_)
  · obtain rfl : qv = r_1 := by omega
    refine lv_iload hx hb dX1_decodeNode_21 (lv_at hl 0 rfl) ?_
    refine lv_aload_n hx hb dX1_decodeNode_23 rfl (lv_at hl 2 rfl) ?_
    refine va_get (v := .int (iZ nd)) (C := RX1) (T := TX1) (N := 5) (ci := 1) hx hb hts hi_1 hown hK hP 0 rfl rfl 1 (by decide) hw_2 (fun _ h9 => h9) rfl dX1_decodeNode_24 ?_
    refine z_icmp_gt (tgt := 43) hx hb dX1_decodeNode_27 (by decide) (by omega) (by omega) (fun c_5 => ?_) (fun c_5 => ?_)
    · exact absurd hok (by rw [pNode_o hq (by omega) (by omega)]; dsimp only; omega)
    · refine lv_iload hx hb dX1_decodeNode_30 (lv_at hl 0 rfl) ?_
      refine z_sipush hx hb dX1_decodeNode_32 (by decide) ?_
      refine lv_aload_n hx hb dX1_decodeNode_35 rfl (lv_at hl 2 rfl) ?_
      refine va_get (v := .int (iZ sz)) (C := RX1) (T := TX1) (N := 5) (ci := 1) hx hb hts hi_1 hown hK hP 0 rfl rfl 2 (by decide) hw_3 (fun _ h9 => h9) rfl dX1_decodeNode_36 ?_
      refine z_isub hx hb dX1_decodeNode_39 ?_
      refine z_icmp_le (tgt := 51) hx hb dX1_decodeNode_40 (by decide) (by omega) (by omega) (fun c_6 => ?_) (fun c_6 => ?_)
      · refine lv_aload_n hx hb dX1_decodeNode_51 rfl (lv_at hl 2 rfl) ?_
        refine lv_dup hx hb dX1_decodeNode_52 rfl ?_
        refine va_get (v := .int (iZ sz)) (C := RX1) (T := TX1) (N := 5) (ci := 1) hx hb hts hi_1 hown hK hP 0 rfl rfl 2 (by decide) hw_3 (fun _ h9 => h9) rfl dX1_decodeNode_53 ?_
        refine lv_iload hx hb dX1_decodeNode_56 (lv_at hl 0 rfl) ?_
        refine z_iadd hx hb dX1_decodeNode_58 ?_
        refine va_put (v := .int (iZ (sz + qv))) (ty := .int) (C := RX1) (T := TX1) (N := 5) (ci := 1) hx hb hts hi_1 tyX1 tyX1_ok nmX1 hown hK hP hD hS 0 rfl rfl 2 (by decide) hw_3 (fun _ h9 => h9) rfl (by decide +kernel) rfl rfl (Nat.le_of_ble_eq_true rfl) dX1_decodeNode_59 (fun H locs hP hD hS => ?_)
        have hP : va_P D vwCl (wDe hd u_3.1 nd (sz + qv) u_3.2.1 u_3.2.2 ++ wBR 2000 cI ht ta tf len ++ wGr cI h a1 a2 a3 f1 f2 f3 n sz2 wh) H := hP
        have hD : va_D A (wDe hd u_3.1 nd (sz + qv) u_3.2.1 u_3.2.2 ++ wBR 2000 cI ht ta tf len ++ wGr cI h a1 a2 a3 f1 f2 f3 n sz2 wh) := hD
        refine z_iconst hx hb dX1_decodeNode_62 ?_
        refine lv_istore (lv' := [(6, .int (iZ (-1))), (5, .int (iZ qv)), (4, .int (iZ nx)), (0, .ref hd), (1, .ref ht), (2, .ref h), (3, .int (iZ ((U0 : Nat) : Int)))]) hx hb dX1_decodeNode_63 hl (by decide) rfl (fun ls hl => ?_)
        refine z_iconst hx hb dX1_decodeNode_65 ?_
        refine lv_istore (lv' := [(7, .int (iZ 0)), (6, .int (iZ (-1))), (5, .int (iZ qv)), (4, .int (iZ nx)), (0, .ref hd), (1, .ref ht), (2, .ref h), (3, .int (iZ ((U0 : Nat) : Int)))]) hx hb dX1_decodeNode_66 hl (by decide) rfl (fun ls hl => ?_)
        refine w_loop (fun kf H locs ls => ∃ (i : Nat), ∃ (v nx1 kd1 pl1 : Int), ∃ (E1 : Ed), ∃ (ga gb gc : Nat → Int), ∃ (gn gs gwh : Int), kf = qv.toNat - i ∧ (i ≤ qv.toNat ∧ 0 ≤ nx1 ∧ nx1 ≤ len ∧ kd1 = kd ∧ -1 ≤ v ∧ v < (N : Int) ∧ pRow tf len.toNat N U0 (qv.toNat - i) (decide (i = 0)) v nx1.toNat E1 = pRow tf len.toNat N U0 qv.toNat true 0 qp E ∧ GR N E1 (fun _ => 1) ga gb gc gn gs gwh ∧ fst E1 N N = size + i ∧ (∀ a b, E1 a b = true → a < U0 ∨ (a = U0 ∧ 0 < i ∧ (b : Int) ≤ v))) ∧ va_P D vwCl (wDe hd nx1 nd (sz + qv) kd1 pl1 ++ wBR 2000 cI ht ta tf len ++ wGr cI h a1 a2 a3 ga gb gc gn gs gwh) H ∧ va_D A (wDe hd nx1 nd (sz + qv) kd1 pl1 ++ wBR 2000 cI ht ta tf len ++ wGr cI h a1 a2 a3 ga gb gc gn gs gwh) ∧ va_S A s.heap H locs ∧ lv_has ls 9 [(0, .ref hd), (1, .ref ht), (2, .ref h), (3, .int (iZ ((U0 : Nat) : Int))), (5, .int (iZ qv)), (6, .int (iZ v)), (7, .int (iZ ↑i))]) ?_ _ ⟨0, (-1), u_3.1, u_3.2.1, u_3.2.2, E, f1, f2, f3, n, sz2, wh, rfl, ⟨by omega, by omega, by omega, by omega, by omega, by omega, (by rw [show (u_3.1).toNat = qp by omega]; exact pRow_v), hG, by omega, fun a b hab => Or.inl (hrow a b hab)⟩, hP, hD, hS, lv_sub hl [4, 5, 6, 7, 2, 1, 0] rfl⟩
        rintro kf H locs ls ⟨i, v, nx1, kd1, pl1, E1, ga, gb, gc, gn, gs, gwh, hk, ⟨i1, i2, i3, i4, i5, i6, i7, j1, j2, j3⟩, hP, hD, hS, hl⟩ ih
        refine lv_iload hx hb dX1_decodeNode_68 (lv_at hl 6 rfl) ?_
        refine lv_iload hx hb dX1_decodeNode_70 (lv_at hl 4 rfl) ?_
        refine z_icmp_ge (tgt := 160) hx hb dX1_decodeNode_72 (by decide) (by omega) (by omega) (fun c_7 => ?_) (fun c_7 => ?_)
        · refine z_iconst hx hb dX1_decodeNode_160 ?_
          exact rw_zret (z := 1) (nx1, sz + qv, kd1, pl1, ga, gb, gc, gn, gs, gwh) hx hb hr hlocks (Or.inr rfl) hP hD hS ⟨rfl, 0, nx1.toNat, qv.toNat, E1, pNode_s hq (by omega) (by omega) (by rw [← i7, show qv.toNat - i = 0 by omega]; rfl), by first | omega | (dsimp only; omega), by first | omega | (dsimp only; omega), by first | omega | (dsimp only; omega), by omega, by omega, j1, by omega, (fun a b hab => by have q9 := j3 a b hab; omega)⟩ dX1_decodeNode_161
        · refine lv_aload_n hx hb dX1_decodeNode_75 rfl (lv_at hl 0 rfl) ?_
          refine va_get (v := .int (iZ nx1)) (C := RX1) (T := TX1) (N := 5) (ci := 1) hx hb hts hi_1 hown hK hP 0 rfl rfl 0 (by decide) hw_1 (fun _ h9 => h9) rfl dX1_decodeNode_76 ?_
          refine lv_istore (lv' := [(4, .int (iZ nx1)), (0, .ref hd), (1, .ref ht), (2, .ref h), (3, .int (iZ ((U0 : Nat) : Int))), (5, .int (iZ qv)), (6, .int (iZ v)), (7, .int (iZ ↑i))]) hx hb dX1_decodeNode_79 hl (by decide) rfl (fun ls hl => ?_)
          refine lv_aload_n hx hb dX1_decodeNode_81 rfl (lv_at hl 1 rfl) ?_
          refine lv_aload_n hx hb dX1_decodeNode_82 rfl (lv_at hl 2 rfl) ?_
          refine rw_i (wr := [(h, .inr (2, [.ref a1, .ref a2, .ref a3, .int (iZ gn), .int (iZ gs), .int (iZ gwh)])), (a1, .inl (cI, 251, .inl (aI ga))), (a2, .inl (cI, 2500, .inl (aI gb))), (a3, .inl (cI, 250, .inl (aI gc)))]) (va_runV (As := [.ref ht]) (rest := []) ⟨hx, hb, hml, hown, hts⟩ (c_X1_unsigned l D cI cJ cB cZ hd ht ta nx1 nd (sz + qv) kd1 pl1 tf len hT hL (by omega) _) (cwV 1 hts gX1_decodeNode_X1_unsigned rfl rfl rfl (by decide +kernel) ⟨Nat.le_of_ble_eq_true rfl, Nat.le_of_ble_eq_true rfl⟩) (pre1V hE (hP.sub (ws' := (wDe hd nx1 nd (sz + qv) kd1 pl1 ++ wBR 2000 cI ht ta tf len)) [0, 1, 2] rfl) (hD.sub (ws' := (wDe hd nx1 nd (sz + qv) kd1 pl1 ++ wBR 2000 cI ht ta tf len)) [0, 1, 2] (by decide) rfl) 0 rfl rfl) rfl rfl hl.1 rfl (lv_room (Nat.le_of_ble_eq_true rfl)) dX1_decodeNode_83 ⟨Nat.le_of_ble_eq_true rfl, Nat.le_of_ble_eq_true rfl⟩) hP hD hS hA [0, 1, 2] [3, 4, 5, 6] rfl rfl (by decide) (by decide) (fun r_8 u_10 H locs hr_9 hP hD hS => ?_)
          have hP := hP.sub (ws' := (wDe hd u_10.1 nd (sz + qv) u_10.2.1 u_10.2.2 ++ wBR 2000 cI ht ta tf len ++ wGr cI h a1 a2 a3 ga gb gc gn gs gwh)) [4, 5, 6, 0, 1, 2, 3] rfl
          have hD := hD.sub (ws' := (wDe hd u_10.1 nd (sz + qv) u_10.2.1 u_10.2.2 ++ wBR 2000 cI ht ta tf len ++ wGr cI h a1 a2 a3 ga gb gc gn gs gwh)) [4, 5, 6, 0, 1, 2, 3] (by decide) rfl
          obtain ⟨⟨qk2, qv2, qp2⟩, hq2⟩ : ∃ q, q = uns tf len.toNat nx1.toNat := ⟨_, rfl⟩
          rw [← hq2] at hr_9
          have w2 := uns_ok hq2 (by omega) hT
          dsimp only [uR] at hr_9
          refine lv_istore (lv' := [(8, .int (iZ r_8)), (4, .int (iZ nx1)), (0, .ref hd), (1, .ref ht), (2, .ref h), (3, .int (iZ ((U0 : Nat) : Int))), (5, .int (iZ qv)), (6, .int (iZ v)), (7, .int (iZ ↑i))]) hx hb dX1_decodeNode_86 hl (by decide) rfl (fun ls hl => ?_)
          refine lv_iload hx hb dX1_decodeNode_88 (lv_at hl 0 rfl) ?_
          refine z_iconst hx hb dX1_decodeNode_90 ?_
          refine z_icmp_ne (tgt := 96) hx hb dX1_decodeNode_91 (by decide) (by omega) (by omega) (fun c_11 => ?_) (fun c_11 => ?_)
          · obtain rfl : qv2 = r_8 := by omega
            refine lv_iload hx hb dX1_decodeNode_96 (lv_at hl 8 rfl) ?_
            refine z_if_le (tgt := 111) hx hb dX1_decodeNode_98 (by decide) (by omega) (fun c_12 => ?_) (fun c_12 => ?_)
            · refine lv_iload_n hx hb dX1_decodeNode_111 rfl (lv_at hl 5 rfl) ?_
              refine lv_iload hx hb dX1_decodeNode_112 (lv_at hl 0 rfl) ?_
              refine ro_i (va_runS (As := [.int (iZ qv2)]) (rest := [.int (iZ ((U0 : Nat) : Int))]) ⟨hx, hb, hml, hown, hts⟩ (c_X1_signed l D cI cJ cB cZ qv2 (by omega)) (va_cwS 1 hts gX1_decodeNode_X1_signed rfl rfl rfl (by decide +kernel) ⟨Nat.le_of_ble_eq_true rfl, Nat.le_of_ble_eq_true rfl⟩) (pre0S hE (hP.sub (ws' := []) [] rfl)) rfl rfl hl.1 rfl (lv_room (Nat.le_of_ble_eq_true rfl)) dX1_decodeNode_114 ⟨Nat.le_of_ble_eq_true rfl, Nat.le_of_ble_eq_true rfl⟩) (fun r_13 hr_14 => ?_)
              subst hr_14
              refine z_iadd hx hb dX1_decodeNode_117 ?_
              have hv : (((U0 : Nat) : Int) + (sg qv2)) = if decide (i = 0) = true then ((U0 : Nat) : Int) + sg qv2 else v + 1 + qv2 := by rw [if_pos (decide_eq_true (show i = 0 by omega))]
              have hsg := sg_r (show 0 ≤ qv2 ∧ qv2 ≤ 65535 by omega)
              refine lv_istore (lv' := [(6, .int (iZ (((U0 : Nat) : Int) + (sg qv2)))), (8, .int (iZ qv2)), (4, .int (iZ nx1)), (0, .ref hd), (1, .ref ht), (2, .ref h), (3, .int (iZ ((U0 : Nat) : Int))), (5, .int (iZ qv)), (7, .int (iZ ↑i))]) hx hb dX1_decodeNode_118 hl (by decide) rfl (fun ls hl => ?_)
              refine lv_iload hx hb dX1_decodeNode_120 (lv_at hl 0 rfl) ?_
              refine z_if_lt (tgt := 134) hx hb dX1_decodeNode_122 (by decide) (by omega) (fun c_15 => ?_) (fun c_15 => ?_)
              · exact absurd hok (by have z9 : pRow tf len.toNat N U0 qv.toNat true 0 qp E = (3, ((nx1.toNat : Nat) : Int), qp2, E1) := (by rw [← i7, show qv.toNat - i = (qv.toNat - (i + 1)) + 1 by omega]; exact pRow_o hq2 (by omega) hv (by omega)); rw [pNode_s hq (by omega) (by omega) z9]; dsimp only; omega)
              · refine lv_iload hx hb dX1_decodeNode_125 (lv_at hl 0 rfl) ?_
                refine lv_aload_n hx hb dX1_decodeNode_127 rfl (lv_at hl 3 rfl) ?_
                refine va_get (v := .int (iZ nd)) (C := RX1) (T := TX1) (N := 5) (ci := 1) hx hb hts hi_1 hown hK hP 0 rfl rfl 1 (by decide) hw_2 (fun _ h9 => h9) rfl dX1_decodeNode_128 ?_
                refine z_icmp_lt (tgt := 142) hx hb dX1_decodeNode_131 (by decide) (by omega) (by omega) (fun c_16 => ?_) (fun c_16 => ?_)
                · refine lv_aload_n hx hb dX1_decodeNode_142 rfl (lv_at hl 5 rfl) ?_
                  refine lv_ifnull hx hb dX1_decodeNode_143 ?_
                  obtain ⟨gg1, gg2, gg3, -, gg5, gg6, -⟩ := id j1
                  have hfree : E1 U0 (((U0 : Nat) : Int) + (sg qv2)).toNat = false := Bool.eq_false_iff.mpr (fun q => by have q9 := j3 _ _ q; omega)
                  refine lv_aload_n hx hb dX1_decodeNode_146 rfl (lv_at hl 5 rfl) ?_
                  refine lv_iload_n hx hb dX1_decodeNode_147 rfl (lv_at hl 6 rfl) ?_
                  refine lv_iload hx hb dX1_decodeNode_148 (lv_at hl 0 rfl) ?_
                  refine rw_i (wr := [(hd, .inr (1, [.int (iZ u_10.1), .int (iZ nd), .int (iZ (sz + qv)), .int (iZ u_10.2.1), .int (iZ u_10.2.2)])), (ht, .inr (0, [.ref ta, .int (iZ len)])), (ta, .inl (cI, 2000, .inl (aI tf)))]) (va_runV (As := [.int (iZ ((U0 : Nat) : Int)), .int (iZ (((U0 : Nat) : Int) + (sg qv2)))]) (rest := []) ⟨hx, hb, hml, hown, hts⟩ (c_X2_join l D cI cJ cB cZ h a1 a2 a3 ga gb gc gn gs gwh N E1 (fun _ => 1) j1 ((U0 : Nat) : Int) (((U0 : Nat) : Int) + (sg qv2)) (by omega) (by omega) _) (cwV 2 hts gX1_decodeNode_X2_join rfl rfl rfl (by decide +kernel) ⟨Nat.le_of_ble_eq_true rfl, Nat.le_of_ble_eq_true rfl⟩) (pre1V hE (hP.sub (ws' := (wGr cI h a1 a2 a3 ga gb gc gn gs gwh)) [3, 4, 5, 6] rfl) (hD.sub (ws' := (wGr cI h a1 a2 a3 ga gb gc gn gs gwh)) [3, 4, 5, 6] (by decide) rfl) 0 rfl rfl) rfl rfl hl.1 rfl (lv_room (Nat.le_of_ble_eq_true rfl)) dX1_decodeNode_150 ⟨Nat.le_of_ble_eq_true rfl, Nat.le_of_ble_eq_true rfl⟩) hP hD hS hA [3, 4, 5, 6] [0, 1, 2] rfl rfl (by decide) (by decide) (fun r_17 u_19 H locs hr_18 hP hD hS => ?_)
                  have hP := hP.sub (ws' := (wDe hd u_10.1 nd (sz + qv) u_10.2.1 u_10.2.2 ++ wBR 2000 cI ht ta tf len ++ wGr cI h a1 a2 a3 u_19.1 u_19.2.1 u_19.2.2.1 u_19.2.2.2.1 u_19.2.2.2.2.1 u_19.2.2.2.2.2)) [0, 1, 2, 3, 4, 5, 6] rfl
                  have hD := hD.sub (ws' := (wDe hd u_10.1 nd (sz + qv) u_10.2.1 u_10.2.2 ++ wBR 2000 cI ht ta tf len ++ wGr cI h a1 a2 a3 u_19.1 u_19.2.1 u_19.2.2.1 u_19.2.2.2.1 u_19.2.2.2.2.1 u_19.2.2.2.2.2)) [0, 1, 2, 3, 4, 5, 6] (by decide) rfl
                  rcases hr_18 with ⟨rfl, hq_20⟩ | ⟨rfl, hq_20⟩
                  · have j4 := hq_20.2
                    rw [Int.toNat_natCast] at j4
                    have j5 := fst_in (n := N) hfree (show (((U0 : Nat) : Int) + (sg qv2)).toNat < N by omega) N
                    rw [if_pos hU] at j5
                    refine lv_pop hx hb dX1_decodeNode_153 rfl ?_
                    refine lv_iinc (v := iZ (↑i + 1)) (lv' := [(7, .int (iZ (↑i + 1))), (6, .int (iZ (((U0 : Nat) : Int) + (sg qv2)))), (8, .int (iZ qv2)), (4, .int (iZ nx1)), (0, .ref hd), (1, .ref ht), (2, .ref h), (3, .int (iZ ((U0 : Nat) : Int))), (5, .int (iZ qv))]) hx hb dX1_decodeNode_154 hl (k := 8) rfl (show iZ ↑i + iZ 1 = _ from iZ_add _ _) (by decide) rfl (fun ls hl => ?_)
                    refine lv_goto (tgt := 68) hx hb dX1_decodeNode_157 (by decide) ?_
                    exact ih _ _ _ _ (by omega) ⟨(i + 1), (((U0 : Nat) : Int) + (sg qv2)), u_10.1, u_10.2.1, u_10.2.2, (uE E1 U0 (((U0 : Nat) : Int) + (sg qv2)).toNat true), u_19.1, u_19.2.1, u_19.2.2.1, u_19.2.2.2.1, u_19.2.2.2.2.1, u_19.2.2.2.2.2, rfl, ⟨by omega, by omega, by omega, by omega, by omega, by omega, (by rw [← i7, show qv.toNat - i = (qv.toNat - (i + 1)) + 1 by omega, pRow_s hq2 (by omega) hv (by omega), show (u_10.1).toNat = qp2 by omega]; rfl), j4, by omega, (fun a b hab => by by_cases e9 : a = U0 ∧ b = (((U0 : Nat) : Int) + (sg qv2)).toNat; (right; omega); (simp only [uE, if_neg e9] at hab; have q9 := j3 a b hab; omega))⟩, hP, hD, hS, lv_sub hl [4, 5, 6, 7, 8, 1, 0] rfl⟩
                  · exact absurd ⟨by omega, by omega, by omega, by omega, by omega, by rw [Int.toNat_natCast]; exact hfree⟩ hq_20.1
                · exact absurd hok (by have z9 : pRow tf len.toNat N U0 qv.toNat true 0 qp E = (3, ((nx1.toNat : Nat) : Int), qp2, E1) := (by rw [← i7, show qv.toNat - i = (qv.toNat - (i + 1)) + 1 by omega]; exact pRow_o hq2 (by omega) hv (by omega)); rw [pNode_s hq (by omega) (by omega) z9]; dsimp only; omega)
            · refine lv_iload hx hb dX1_decodeNode_101 (lv_at hl 7 rfl) ?_
              refine z_iconst hx hb dX1_decodeNode_103 ?_
              refine z_iadd hx hb dX1_decodeNode_104 ?_
              refine lv_iload hx hb dX1_decodeNode_105 (lv_at hl 0 rfl) ?_
              refine z_iadd hx hb dX1_decodeNode_107 ?_
              refine lv_goto (tgt := 118) hx hb dX1_decodeNode_108 (by decide) ?_
              have hv : ((v + 1) + qv2) = if decide (i = 0) = true then ((U0 : Nat) : Int) + sg qv2 else v + 1 + qv2 := by rw [if_neg (by simp; omega)]
              refine lv_istore (lv' := [(6, .int (iZ ((v + 1) + qv2))), (8, .int (iZ qv2)), (4, .int (iZ nx1)), (0, .ref hd), (1, .ref ht), (2, .ref h), (3, .int (iZ ((U0 : Nat) : Int))), (5, .int (iZ qv)), (7, .int (iZ ↑i))]) hx hb dX1_decodeNode_118 hl (by decide) rfl (fun ls hl => ?_)
              refine lv_iload hx hb dX1_decodeNode_120 (lv_at hl 0 rfl) ?_
              refine z_if_lt (tgt := 134) hx hb dX1_decodeNode_122 (by decide) (by omega) (fun c_21 => ?_) (fun c_21 => ?_)
              · exact absurd hok (by have z9 : pRow tf len.toNat N U0 qv.toNat true 0 qp E = (3, ((nx1.toNat : Nat) : Int), qp2, E1) := (by rw [← i7, show qv.toNat - i = (qv.toNat - (i + 1)) + 1 by omega]; exact pRow_o hq2 (by omega) hv (by omega)); rw [pNode_s hq (by omega) (by omega) z9]; dsimp only; omega)
              · refine lv_iload hx hb dX1_decodeNode_125 (lv_at hl 0 rfl) ?_
                refine lv_aload_n hx hb dX1_decodeNode_127 rfl (lv_at hl 3 rfl) ?_
                refine va_get (v := .int (iZ nd)) (C := RX1) (T := TX1) (N := 5) (ci := 1) hx hb hts hi_1 hown hK hP 0 rfl rfl 1 (by decide) hw_2 (fun _ h9 => h9) rfl dX1_decodeNode_128 ?_
                refine z_icmp_lt (tgt := 142) hx hb dX1_decodeNode_131 (by decide) (by omega) (by omega) (fun c_22 => ?_) (fun c_22 => ?_)
                · refine lv_aload_n hx hb dX1_decodeNode_142 rfl (lv_at hl 5 rfl) ?_
                  refine lv_ifnull hx hb dX1_decodeNode_143 ?_
                  obtain ⟨gg1, gg2, gg3, -, gg5, gg6, -⟩ := id j1
                  have hfree : E1 U0 ((v + 1) + qv2).toNat = false := Bool.eq_false_iff.mpr (fun q => by have q9 := j3 _ _ q; omega)
                  refine lv_aload_n hx hb dX1_decodeNode_146 rfl (lv_at hl 5 rfl) ?_
                  refine lv_iload_n hx hb dX1_decodeNode_147 rfl (lv_at hl 6 rfl) ?_
                  refine lv_iload hx hb dX1_decodeNode_148 (lv_at hl 0 rfl) ?_
                  refine rw_i (wr := [(hd, .inr (1, [.int (iZ u_10.1), .int (iZ nd), .int (iZ (sz + qv)), .int (iZ u_10.2.1), .int (iZ u_10.2.2)])), (ht, .inr (0, [.ref ta, .int (iZ len)])), (ta, .inl (cI, 2000, .inl (aI tf)))]) (va_runV (As := [.int (iZ ((U0 : Nat) : Int)), .int (iZ ((v + 1) + qv2))]) (rest := []) ⟨hx, hb, hml, hown, hts⟩ (c_X2_join l D cI cJ cB cZ h a1 a2 a3 ga gb gc gn gs gwh N E1 (fun _ => 1) j1 ((U0 : Nat) : Int) ((v + 1) + qv2) (by omega) (by omega) _) (cwV 2 hts gX1_decodeNode_X2_join rfl rfl rfl (by decide +kernel) ⟨Nat.le_of_ble_eq_true rfl, Nat.le_of_ble_eq_true rfl⟩) (pre1V hE (hP.sub (ws' := (wGr cI h a1 a2 a3 ga gb gc gn gs gwh)) [3, 4, 5, 6] rfl) (hD.sub (ws' := (wGr cI h a1 a2 a3 ga gb gc gn gs gwh)) [3, 4, 5, 6] (by decide) rfl) 0 rfl rfl) rfl rfl hl.1 rfl (lv_room (Nat.le_of_ble_eq_true rfl)) dX1_decodeNode_150 ⟨Nat.le_of_ble_eq_true rfl, Nat.le_of_ble_eq_true rfl⟩) hP hD hS hA [3, 4, 5, 6] [0, 1, 2] rfl rfl (by decide) (by decide) (fun r_23 u_25 H locs hr_24 hP hD hS => ?_)
                  have hP := hP.sub (ws' := (wDe hd u_10.1 nd (sz + qv) u_10.2.1 u_10.2.2 ++ wBR 2000 cI ht ta tf len ++ wGr cI h a1 a2 a3 u_25.1 u_25.2.1 u_25.2.2.1 u_25.2.2.2.1 u_25.2.2.2.2.1 u_25.2.2.2.2.2)) [0, 1, 2, 3, 4, 5, 6] rfl
                  have hD := hD.sub (ws' := (wDe hd u_10.1 nd (sz + qv) u_10.2.1 u_10.2.2 ++ wBR 2000 cI ht ta tf len ++ wGr cI h a1 a2 a3 u_25.1 u_25.2.1 u_25.2.2.1 u_25.2.2.2.1 u_25.2.2.2.2.1 u_25.2.2.2.2.2)) [0, 1, 2, 3, 4, 5, 6] (by decide) rfl
                  rcases hr_24 with ⟨rfl, hq_26⟩ | ⟨rfl, hq_26⟩
                  · have j4 := hq_26.2
                    rw [Int.toNat_natCast] at j4
                    have j5 := fst_in (n := N) hfree (show ((v + 1) + qv2).toNat < N by omega) N
                    rw [if_pos hU] at j5
                    refine lv_pop hx hb dX1_decodeNode_153 rfl ?_
                    refine lv_iinc (v := iZ (↑i + 1)) (lv' := [(7, .int (iZ (↑i + 1))), (6, .int (iZ ((v + 1) + qv2))), (8, .int (iZ qv2)), (4, .int (iZ nx1)), (0, .ref hd), (1, .ref ht), (2, .ref h), (3, .int (iZ ((U0 : Nat) : Int))), (5, .int (iZ qv))]) hx hb dX1_decodeNode_154 hl (k := 8) rfl (show iZ ↑i + iZ 1 = _ from iZ_add _ _) (by decide) rfl (fun ls hl => ?_)
                    refine lv_goto (tgt := 68) hx hb dX1_decodeNode_157 (by decide) ?_
                    exact ih _ _ _ _ (by omega) ⟨(i + 1), ((v + 1) + qv2), u_10.1, u_10.2.1, u_10.2.2, (uE E1 U0 ((v + 1) + qv2).toNat true), u_25.1, u_25.2.1, u_25.2.2.1, u_25.2.2.2.1, u_25.2.2.2.2.1, u_25.2.2.2.2.2, rfl, ⟨by omega, by omega, by omega, by omega, by omega, by omega, (by rw [← i7, show qv.toNat - i = (qv.toNat - (i + 1)) + 1 by omega, pRow_s hq2 (by omega) hv (by omega), show (u_10.1).toNat = qp2 by omega]; rfl), j4, by omega, (fun a b hab => by by_cases e9 : a = U0 ∧ b = ((v + 1) + qv2).toNat; (right; omega); (simp only [uE, if_neg e9] at hab; have q9 := j3 a b hab; omega))⟩, hP, hD, hS, lv_sub hl [4, 5, 6, 7, 8, 1, 0] rfl⟩
                  · exact absurd ⟨by omega, by omega, by omega, by omega, by omega, by rw [Int.toNat_natCast]; exact hfree⟩ hq_26.1
                · exact absurd hok (by have z9 : pRow tf len.toNat N U0 qv.toNat true 0 qp E = (3, ((nx1.toNat : Nat) : Int), qp2, E1) := (by rw [← i7, show qv.toNat - i = (qv.toNat - (i + 1)) + 1 by omega]; exact pRow_o hq2 (by omega) hv (by omega)); rw [pNode_s hq (by omega) (by omega) z9]; dsimp only; omega)
          · exact absurd hok (by have z9 : pRow tf len.toNat N U0 qv.toNat true 0 qp E = (qk2, qv2, qp2, E1) := (by rw [← i7, show qv.toNat - i = (qv.toNat - (i + 1)) + 1 by omega]; exact pRow_f hq2 (by omega)); rw [pNode_s hq (by omega) (by omega) z9]; dsimp only; omega)
      · exact absurd hok (by rw [pNode_o hq (by omega) (by omega)]; dsimp only; omega)
  · exact absurd hok (by rw [pNode_f hq (by omega)]; dsimp only; omega)
end
section
set_option maxHeartbeats 4000000 in
set_option maxRecDepth 100000 in
theorem c_X1_decode1 (l : Launch) (D : va_G) (cI cJ cB cZ : ClassId) (hd ht ta h a1 a2 a3 : Nat) (nx nd sz kd pl : Int) (tf : Nat → Int) (len : Int) (f1 f2 f3 : Nat → Int) (n sz2 wh : Int) (hT : ∀ j, j < len.toNat → 0 ≤ tf j ∧ tf j < 256) (hL : 0 ≤ len ∧ len ≤ 2000) (hok : (pAll tf len.toNat).1 = 0)  (sz0 : Nat) : Met l yX1_decode wsX1_decode ({ frames := 4, cells := 0, slots := 0, locals := 97 } : Room) (Pre1 D cI cJ cB cZ [.ref hd, .ref ht, .ref h] (wDe hd nx nd sz kd pl ++ wBR 2000 cI ht ta tf len ++ wGr cI h a1 a2 a3 f1 f2 f3 n sz2 wh) sz0) (rwI (S := Int × Int × Int × Int × Int × GT) D (fun z U => z = 1 ∧ U.2.2.2.1 = 0 ∧ ∃ (rp : Int) (rn rs : Nat) (rE : Ed), pAll tf len.toNat = (0, rp, rn, rs, rE) ∧ GRu rn rE (fun _ => 1) U.2.2.2.2.2 ∧ fst rE rn rn = rs) (fun u => wDe hd u.1 u.2.1 u.2.2.1 u.2.2.2.1 u.2.2.2.2.1 ++ wBR 2000 cI ht ta tf len ++ wG cI h a1 a2 a3 u.2.2.2.2.2) (va_A (wDe hd nx nd sz kd pl ++ wBR 2000 cI ht ta tf len ++ wGr cI h a1 a2 a3 f1 f2 f3 n sz2 wh) sz0)) 0 0 (va_A (wDe hd nx nd sz kd pl ++ wBR 2000 cI ht ta tf len ++ wGr cI h a1 a2 a3 f1 f2 f3 n sz2 wh) sz0) := by
  refine Met.ofW (cc := cX1_decode) (maxL := 4) (ret := (some .boolean)) (by decide) rfl ?_
  intro p e s m args below meth c s₁ B hml hv
  obtain ⟨rfl, hsz, hP, hE, hD0⟩ := hv
  have hx := B.exec
  have hb := B.bytes
  have hr := B.returns
  have hts := atoms_spec (ws := wsX1_decode) B.pre
  have hown : s.vm.findClass RX1 = some m.cls := findClass_of_methodNamed B.named
  have hlocks := B.notSynchronized
  have hK := hE.1
  subst hsz
  have hD := hD0.self (sz := s.heap.size)
  generalize hAe : va_A (wDe hd nx nd sz kd pl ++ wBR 2000 cI ht ta tf len ++ wGr cI h a1 a2 a3 f1 f2 f3 n sz2 wh) s.heap.size = A at hD ⊢
  have hA : ∀ q : Nat, s.heap.size ≤ q → A q := fun q h => by rw [← hAe]; exact Or.inr h
  have hS : va_S A s.heap s.heap [] := va_S.rf
  have hP : va_P D vwCl (wDe hd nx nd sz kd pl ++ wBR 2000 cI ht ta tf len ++ wGr cI h a1 a2 a3 f1 f2 f3 n sz2 wh) s.heap := hP
  have hi_0 : ∀ w ∈ wsX00, w ∈ wsX1_decode := by decide +kernel
  have hi_1 : ∀ w ∈ wsX10, w ∈ wsX1_decode := by decide +kernel
  have hw_1 := hts (.fieldLink RX1 9 "RankHouse$Decoder" "next" "I") (by decide +kernel)
  have hw_2 := hts (.fieldLink RX1 21 "RankHouse$Decoder" "kind" "I") (by decide +kernel)
  have hw_3 := hts (.fieldLink RX1 18 "RankHouse$Decoder" "size" "I") (by decide +kernel)
  have hw_4 := hts (.fieldLink RX1 15 "RankHouse$Decoder" "nodes" "I") (by decide +kernel)
  have hw_5 := hE.nl (w := .fieldLinkNest RX1 49 "RankHouse$ByteRow" "length" "I" "RankHouse") (by decide +kernel) ([.ref hd, .ref ht, .ref h] : List Value).toArray
  have hl := lv_entry ([.ref hd, .ref ht, .ref h]) (n := 4) (Nat.le_of_ble_eq_true rfl)
  rw [lg_entry_eq]
  generalize (lg_sl ([.ref hd, .ref ht, .ref h]) ++ List.replicate (4 - (lg_sl ([.ref hd, .ref ht, .ref h])).length) Slot.unset).toArray = ls at hl ⊢
  have hl : lv_has ls 4 [(0, .ref hd), (1, .ref ht), (2, .ref h)] := hl
  refine lv_aload_n hx hb dX1_decode_0 rfl (lv_at hl 0 rfl) ?_
  refine z_iconst hx hb dX1_decode_1 ?_
  refine va_put (v := .int (iZ 0)) (ty := .int) (C := RX1) (T := TX1) (N := 5) (ci := 1) hx hb hts hi_1 tyX1 tyX1_ok nmX1 hown hK hP hD hS 0 rfl rfl 0 (by decide) hw_1 (fun _ h9 => h9) rfl (by decide +kernel) rfl rfl (Nat.le_of_ble_eq_true rfl) dX1_decode_2 (fun H locs hP hD hS => ?_)
  have hP : va_P D vwCl (wDe hd 0 nd sz kd pl ++ wBR 2000 cI ht ta tf len ++ wGr cI h a1 a2 a3 f1 f2 f3 n sz2 wh) H := hP
  have hD : va_D A (wDe hd 0 nd sz kd pl ++ wBR 2000 cI ht ta tf len ++ wGr cI h a1 a2 a3 f1 f2 f3 n sz2 wh) := hD
  refine lv_aload_n hx hb dX1_decode_5 rfl (lv_at hl 0 rfl) ?_
  refine z_iconst hx hb dX1_decode_6 ?_
  refine va_put (v := .int (iZ 0)) (ty := .int) (C := RX1) (T := TX1) (N := 5) (ci := 1) hx hb hts hi_1 tyX1 tyX1_ok nmX1 hown hK hP hD hS 0 rfl rfl 3 (by decide) hw_2 (fun _ h9 => h9) rfl (by decide +kernel) rfl rfl (Nat.le_of_ble_eq_true rfl) dX1_decode_7 (fun H locs hP hD hS => ?_)
  have hP : va_P D vwCl (wDe hd 0 nd sz 0 pl ++ wBR 2000 cI ht ta tf len ++ wGr cI h a1 a2 a3 f1 f2 f3 n sz2 wh) H := hP
  have hD : va_D A (wDe hd 0 nd sz 0 pl ++ wBR 2000 cI ht ta tf len ++ wGr cI h a1 a2 a3 f1 f2 f3 n sz2 wh) := hD
  refine lv_aload_n hx hb dX1_decode_10 rfl (lv_at hl 0 rfl) ?_
  refine z_iconst hx hb dX1_decode_11 ?_
  refine va_put (v := .int (iZ 0)) (ty := .int) (C := RX1) (T := TX1) (N := 5) (ci := 1) hx hb hts hi_1 tyX1 tyX1_ok nmX1 hown hK hP hD hS 0 rfl rfl 2 (by decide) hw_3 (fun _ h9 => h9) rfl (by decide +kernel) rfl rfl (Nat.le_of_ble_eq_true rfl) dX1_decode_12 (fun H locs hP hD hS => ?_)
  have hP : va_P D vwCl (wDe hd 0 nd 0 0 pl ++ wBR 2000 cI ht ta tf len ++ wGr cI h a1 a2 a3 f1 f2 f3 n sz2 wh) H := hP
  have hD : va_D A (wDe hd 0 nd 0 0 pl ++ wBR 2000 cI ht ta tf len ++ wGr cI h a1 a2 a3 f1 f2 f3 n sz2 wh) := hD
  refine lv_aload_n hx hb dX1_decode_15 rfl (lv_at hl 0 rfl) ?_
  refine lv_aload_n hx hb dX1_decode_16 rfl (lv_at hl 0 rfl) ?_
  refine lv_aload_n hx hb dX1_decode_17 rfl (lv_at hl 1 rfl) ?_
  refine rw_i (wr := [(h, .inr (2, [.ref a1, .ref a2, .ref a3, .int (iZ n), .int (iZ sz2), .int (iZ wh)])), (a1, .inl (cI, 251, .inl (aI f1))), (a2, .inl (cI, 2500, .inl (aI f2))), (a3, .inl (cI, 250, .inl (aI f3)))]) (va_runV (As := [.ref ht]) (rest := [.ref hd]) ⟨hx, hb, hml, hown, hts⟩ (c_X1_unsigned l D cI cJ cB cZ hd ht ta 0 nd 0 0 pl tf len hT hL (by omega) _) (cwV 1 hts gX1_decode_X1_unsigned rfl rfl rfl (by decide +kernel) ⟨Nat.le_of_ble_eq_true rfl, Nat.le_of_ble_eq_true rfl⟩) (pre1V hE (hP.sub (ws' := (wDe hd 0 nd 0 0 pl ++ wBR 2000 cI ht ta tf len)) [0, 1, 2] rfl) (hD.sub (ws' := (wDe hd 0 nd 0 0 pl ++ wBR 2000 cI ht ta tf len)) [0, 1, 2] (by decide) rfl) 0 rfl rfl) rfl rfl hl.1 rfl (lv_room (Nat.le_of_ble_eq_true rfl)) dX1_decode_18 ⟨Nat.le_of_ble_eq_true rfl, Nat.le_of_ble_eq_true rfl⟩) hP hD hS hA [0, 1, 2] [3, 4, 5, 6] rfl rfl (by decide) (by decide) (fun r_1 u_3 H locs hr_2 hP hD hS => ?_)
  have hP := hP.sub (ws' := (wDe hd u_3.1 nd 0 u_3.2.1 u_3.2.2 ++ wBR 2000 cI ht ta tf len ++ wGr cI h a1 a2 a3 f1 f2 f3 n sz2 wh)) [4, 5, 6, 0, 1, 2, 3] rfl
  have hD := hD.sub (ws' := (wDe hd u_3.1 nd 0 u_3.2.1 u_3.2.2 ++ wBR 2000 cI ht ta tf len ++ wGr cI h a1 a2 a3 f1 f2 f3 n sz2 wh)) [4, 5, 6, 0, 1, 2, 3] (by decide) rfl
  obtain ⟨⟨qk, qv, qp⟩, hq⟩ : ∃ q, q = uns tf len.toNat (0 : Int).toNat := ⟨_, rfl⟩
  rw [← hq] at hr_2
  have w1 := uns_ok hq (by omega) hT
  dsimp only [uR] at hr_2
  refine va_put (v := .int (iZ r_1)) (ty := .int) (C := RX1) (T := TX1) (N := 5) (ci := 1) hx hb hts hi_1 tyX1 tyX1_ok nmX1 hown hK hP hD hS 0 rfl rfl 1 (by decide) hw_4 (fun _ h9 => h9) rfl (by decide +kernel) rfl rfl (Nat.le_of_ble_eq_true rfl) dX1_decode_21 (fun H locs hP hD hS => ?_)
  have hP : va_P D vwCl (wDe hd u_3.1 r_1 0 u_3.2.1 u_3.2.2 ++ wBR 2000 cI ht ta tf len ++ wGr cI h a1 a2 a3 f1 f2 f3 n sz2 wh) H := hP
  have hD : va_D A (wDe hd u_3.1 r_1 0 u_3.2.1 u_3.2.2 ++ wBR 2000 cI ht ta tf len ++ wGr cI h a1 a2 a3 f1 f2 f3 n sz2 wh) := hD
  refine lv_aload_n hx hb dX1_decode_24 rfl (lv_at hl 0 rfl) ?_
  refine va_get (v := .int (iZ r_1)) (C := RX1) (T := TX1) (N := 5) (ci := 1) hx hb hts hi_1 hown hK hP 0 rfl rfl 1 (by decide) hw_4 (fun _ h9 => h9) rfl dX1_decode_25 ?_
  refine z_iconst hx hb dX1_decode_28 ?_
  refine z_icmp_ne (tgt := 34) hx hb dX1_decode_29 (by decide) (by omega) (by omega) (fun c_4 => ?_) (fun c_4 => ?_)
  · obtain rfl : qv = r_1 := by omega
    refine lv_aload_n hx hb dX1_decode_34 rfl (lv_at hl 0 rfl) ?_
    refine va_get (v := .int (iZ qv)) (C := RX1) (T := TX1) (N := 5) (ci := 1) hx hb hts hi_1 hown hK hP 0 rfl rfl 1 (by decide) hw_4 (fun _ h9 => h9) rfl dX1_decode_35 ?_
    refine ro_i (va_runS (As := [.int (iZ qv)]) (rest := []) ⟨hx, hb, hml, hown, hts⟩ (c_X2_canHave l D cI cJ cB cZ qv (by omega)) (va_cwS 1 hts gX1_decode_X2_canHave rfl rfl rfl (by decide +kernel) ⟨Nat.le_of_ble_eq_true rfl, Nat.le_of_ble_eq_true rfl⟩) (pre0S hE (hP.sub (ws' := []) [] rfl)) rfl rfl hl.1 rfl (lv_room (Nat.le_of_ble_eq_true rfl)) dX1_decode_38 ⟨Nat.le_of_ble_eq_true rfl, Nat.le_of_ble_eq_true rfl⟩) (fun r_5 hr_6 => ?_)
    rcases hr_6 with ⟨rfl, hq_7⟩ | ⟨rfl, hq_7⟩
    · refine z_if_ne (tgt := 51) hx hb dX1_decode_41 (by decide) (by omega) (fun _ => ?_) (fun c9 => absurd c9 (by decide))
      have hokN : (pNodes tf len.toNat qv.toNat qv.toNat 0 qp 0 (fun _ _ => false)).1 = 0 := (by obtain ⟨⟨b1, b2, b3, b4⟩, hb9⟩ : ∃ q, q = pNodes tf len.toNat qv.toNat qv.toNat 0 qp 0 (fun _ _ => false) := ⟨_, rfl⟩; rw [pAll_s hq (by omega) (by omega) hb9.symm] at hok; rw [← hb9]; exact hok)
      refine lv_aload_n hx hb dX1_decode_51 rfl (lv_at hl 2 rfl) ?_
      refine lv_ifnull hx hb dX1_decode_52 ?_
      refine lv_aload_n hx hb dX1_decode_55 rfl (lv_at hl 2 rfl) ?_
      refine lv_aload_n hx hb dX1_decode_56 rfl (lv_at hl 0 rfl) ?_
      refine va_get (v := .int (iZ qv)) (C := RX1) (T := TX1) (N := 5) (ci := 1) hx hb hts hi_1 hown hK hP 0 rfl rfl 1 (by decide) hw_4 (fun _ h9 => h9) rfl dX1_decode_57 ?_
      refine rw_v (wr := [(hd, .inr (1, [.int (iZ u_3.1), .int (iZ qv), .int (iZ 0), .int (iZ u_3.2.1), .int (iZ u_3.2.2)])), (ht, .inr (0, [.ref ta, .int (iZ len)])), (ta, .inl (cI, 2000, .inl (aI tf)))]) (va_runV (As := [.int (iZ qv)]) (rest := []) ⟨hx, hb, hml, hown, hts⟩ (c_X2_reset l D cI cJ cB cZ h a1 a2 a3 f1 f2 f3 n sz2 wh qv (by omega) _) (cwV 1 hts gX1_decode_X2_reset rfl rfl rfl (by decide +kernel) ⟨Nat.le_of_ble_eq_true rfl, Nat.le_of_ble_eq_true rfl⟩) (pre1V hE (hP.sub (ws' := (wGr cI h a1 a2 a3 f1 f2 f3 n sz2 wh)) [3, 4, 5, 6] rfl) (hD.sub (ws' := (wGr cI h a1 a2 a3 f1 f2 f3 n sz2 wh)) [3, 4, 5, 6] (by decide) rfl) 0 rfl rfl) rfl rfl hl.1 rfl (lv_room (Nat.le_of_ble_eq_true rfl)) dX1_decode_60 ⟨Nat.le_of_ble_eq_true rfl, Nat.le_of_ble_eq_true rfl⟩) hP hD hS hA [3, 4, 5, 6] [0, 1, 2] rfl rfl (by decide) (by decide) (fun u_10 H locs hr_9 hP hD hS => ?_)
      have hP := hP.sub (ws' := (wDe hd u_3.1 qv 0 u_3.2.1 u_3.2.2 ++ wBR 2000 cI ht ta tf len ++ wGr cI h a1 a2 a3 u_10.1 u_10.2.1 u_10.2.2.1 u_10.2.2.2.1 u_10.2.2.2.2.1 u_10.2.2.2.2.2)) [0, 1, 2, 3, 4, 5, 6] rfl
      have hD := hD.sub (ws' := (wDe hd u_3.1 qv 0 u_3.2.1 u_3.2.2 ++ wBR 2000 cI ht ta tf len ++ wGr cI h a1 a2 a3 u_10.1 u_10.2.1 u_10.2.2.1 u_10.2.2.2.1 u_10.2.2.2.2.1 u_10.2.2.2.2.2)) [0, 1, 2, 3, 4, 5, 6] (by decide) rfl
      have j0 := hr_9
      refine z_iconst hx hb dX1_decode_63 ?_
      refine lv_istore_n (lv' := [(3, .int (iZ 0)), (0, .ref hd), (1, .ref ht), (2, .ref h)]) hx hb dX1_decode_64 rfl hl (by decide) rfl (fun ls hl => ?_)
      refine w_loop (fun kf H locs ls => ∃ (i size : Nat), ∃ (nx1 sz1 kd1 pl1 : Int), ∃ (E1 : Ed), ∃ (ga gb gc : Nat → Int), ∃ (gn gs gwh : Int), kf = qv.toNat - i ∧ (i ≤ qv.toNat ∧ 0 ≤ nx1 ∧ nx1 ≤ len ∧ sz1 = (size : Int) ∧ size ≤ 2500 ∧ kd1 = 0 ∧ pNodes tf len.toNat qv.toNat (qv.toNat - i) i nx1.toNat size E1 = pNodes tf len.toNat qv.toNat qv.toNat 0 qp 0 (fun _ _ => false) ∧ GR qv.toNat E1 (fun _ => 1) ga gb gc gn gs gwh ∧ fst E1 qv.toNat qv.toNat = size ∧ (∀ a b, E1 a b = true → a < i)) ∧ va_P D vwCl (wDe hd nx1 qv sz1 kd1 pl1 ++ wBR 2000 cI ht ta tf len ++ wGr cI h a1 a2 a3 ga gb gc gn gs gwh) H ∧ va_D A (wDe hd nx1 qv sz1 kd1 pl1 ++ wBR 2000 cI ht ta tf len ++ wGr cI h a1 a2 a3 ga gb gc gn gs gwh) ∧ va_S A s.heap H locs ∧ lv_has ls 4 [(0, .ref hd), (1, .ref ht), (2, .ref h), (3, .int (iZ ↑i))]) ?_ _ ⟨0, 0, u_3.1, 0, u_3.2.1, u_3.2.2, (fun _ _ => false), u_10.1, u_10.2.1, u_10.2.2.1, u_10.2.2.2.1, u_10.2.2.2.2.1, u_10.2.2.2.2.2, rfl, ⟨by omega, by omega, by omega, rfl, by omega, by omega, (by rw [show (u_3.1).toNat = qp by omega]; rfl), j0, (by have q9 := j0.2.2.2.2.1; have q8 := GR_fst0 qv.toNat; exact q8), fun a b hab => by cases hab⟩, hP, hD, hS, lv_sub hl [1, 2, 3, 0] rfl⟩
      rintro kf H locs ls ⟨i, size, nx1, sz1, kd1, pl1, E1, ga, gb, gc, gn, gs, gwh, hk, ⟨i1, i2, i3, i4, i5, i6, i7, j1, j2, j3⟩, hP, hD, hS, hl⟩ ih
      refine lv_iload_n hx hb dX1_decode_65 rfl (lv_at hl 3 rfl) ?_
      refine lv_aload_n hx hb dX1_decode_66 rfl (lv_at hl 0 rfl) ?_
      refine va_get (v := .int (iZ qv)) (C := RX1) (T := TX1) (N := 5) (ci := 1) hx hb hts hi_1 hown hK hP 0 rfl rfl 1 (by decide) hw_4 (fun _ h9 => h9) rfl dX1_decode_67 ?_
      refine z_icmp_ge (tgt := 91) hx hb dX1_decode_70 (by decide) (by omega) (by omega) (fun c_11 => ?_) (fun c_11 => ?_)
      · refine lv_aload_n hx hb dX1_decode_91 rfl (lv_at hl 0 rfl) ?_
        refine va_get (v := .int (iZ nx1)) (C := RX1) (T := TX1) (N := 5) (ci := 1) hx hb hts hi_1 hown hK hP 0 rfl rfl 0 (by decide) hw_1 (fun _ h9 => h9) rfl dX1_decode_92 ?_
        refine lv_aload_n hx hb dX1_decode_95 rfl (lv_at hl 1 rfl) ?_
        refine va_getN (v := .int (iZ len)) (C := RX0) (T := TX0) (N := 2) (ci := 0) hx hb hts hi_0 hown hK hP 1 rfl rfl 1 (by decide) hw_5 (fun _ h9 => h9) rfl dX1_decode_96 ?_
        refine z_icmp_ge (tgt := 114) hx hb dX1_decode_99 (by decide) (by omega) (by omega) (fun c_12 => ?_) (fun c_12 => ?_)
        · refine z_iconst hx hb dX1_decode_114 ?_
          refine lv_goto (tgt := 119) hx hb dX1_decode_115 (by decide) ?_
          exact rw_zret (z := 1) (nx1, qv, sz1, kd1, pl1, ga, gb, gc, gn, gs, gwh) hx hb hr hlocks (Or.inr rfl) hP hD hS ⟨rfl, by first | omega | (dsimp only; omega), 0, qv.toNat, size, E1, pAll_s hq (by omega) (by omega) (by rw [← i7, show qv.toNat - i = 0 by omega, pNodes, if_neg (by omega)]), j1, j2⟩ dX1_decode_119
        · exact absurd hokN (by rw [← i7, show qv.toNat - i = 0 by omega, pNodes, if_pos (by omega)]; dsimp only; omega)
      · have hpk := (by have z8 : (pNodes tf len.toNat qv.toNat (qv.toNat - i) i nx1.toNat size E1).1 = 0 := (by rw [i7]; exact hokN); rw [show qv.toNat - i = (qv.toNat - (i + 1)) + 1 by omega] at z8; by_cases z7 : (pNode tf len.toNat qv.toNat i size nx1.toNat E1).1 = 0; exact z7; (exfalso; obtain ⟨⟨b1, b2, b3, b4, b5⟩, hb9⟩ : ∃ q, q = pNode tf len.toNat qv.toNat i size nx1.toNat E1 := ⟨_, rfl⟩; rw [← hb9] at z7; rw [pNodes_f hb9.symm z7] at z8; exact z7 z8))
        refine lv_aload_n hx hb dX1_decode_73 rfl (lv_at hl 0 rfl) ?_
        refine lv_aload_n hx hb dX1_decode_74 rfl (lv_at hl 1 rfl) ?_
        refine lv_aload_n hx hb dX1_decode_75 rfl (lv_at hl 2 rfl) ?_
        refine lv_iload_n hx hb dX1_decode_76 rfl (lv_at hl 3 rfl) ?_
        refine rw_i (wr := []) (va_runV (As := [.ref ht, .ref h, .int (iZ ↑i)]) (rest := []) ⟨hx, hb, hml, hown, hts⟩ (c_X1_decodeNode1 l D cI cJ cB cZ hd ht ta h a1 a2 a3 nx1 qv sz1 kd1 pl1 tf len ga gb gc gn gs gwh hT hL (by omega) qv.toNat i size E1 (by omega) (by omega) (by omega) (by omega) (by omega) hpk j1 j2 j3 _) (cwV 3 hts gX1_decode_X1_decodeNode rfl rfl rfl (by decide +kernel) ⟨Nat.le_of_ble_eq_true rfl, Nat.le_of_ble_eq_true rfl⟩) (pre1V hE hP hD 0 rfl rfl) rfl rfl hl.1 rfl (lv_room (Nat.le_of_ble_eq_true rfl)) dX1_decode_77 ⟨Nat.le_of_ble_eq_true rfl, Nat.le_of_ble_eq_true rfl⟩) hP hD hS hA [0, 1, 2, 3, 4, 5, 6] [] rfl rfl (by decide) (by decide) (fun r_13 u_15 H locs hr_14 hP hD hS => ?_)
        have hP := hP.sub (ws' := (wDe hd u_15.1 qv u_15.2.1 u_15.2.2.1 u_15.2.2.2.1 ++ wBR 2000 cI ht ta tf len ++ wGr cI h a1 a2 a3 u_15.2.2.2.2.1 u_15.2.2.2.2.2.1 u_15.2.2.2.2.2.2.1 u_15.2.2.2.2.2.2.2.1 u_15.2.2.2.2.2.2.2.2.1 u_15.2.2.2.2.2.2.2.2.2)) [0, 1, 2, 3, 4, 5, 6] rfl
        have hD := hD.sub (ws' := (wDe hd u_15.1 qv u_15.2.1 u_15.2.2.1 u_15.2.2.2.1 ++ wBR 2000 cI ht ta tf len ++ wGr cI h a1 a2 a3 u_15.2.2.2.2.1 u_15.2.2.2.2.2.1 u_15.2.2.2.2.2.2.1 u_15.2.2.2.2.2.2.2.1 u_15.2.2.2.2.2.2.2.2.1 u_15.2.2.2.2.2.2.2.2.2)) [0, 1, 2, 3, 4, 5, 6] (by decide) rfl
        obtain ⟨rfl, rp, rq, rn, rE, hpn, m1, m2, m3, m4, m5, m6, m7, m8⟩ := hr_14
        refine z_if_ne (tgt := 85) hx hb dX1_decode_80 (by decide) (by omega) (fun _ => ?_) (fun c9 => absurd c9 (by decide))
        refine lv_iinc (v := iZ (↑i + 1)) (lv' := [(3, .int (iZ (↑i + 1))), (0, .ref hd), (1, .ref ht), (2, .ref h)]) hx hb dX1_decode_85 hl (k := 3) rfl (show iZ ↑i + iZ 1 = _ from iZ_add _ _) (by decide) rfl (fun ls hl => ?_)
        refine lv_goto (tgt := 65) hx hb dX1_decode_88 (by decide) ?_
        exact ih _ _ _ _ (by omega) ⟨(i + 1), (size + rn), u_15.1, u_15.2.1, u_15.2.2.1, u_15.2.2.2.1, rE, u_15.2.2.2.2.1, u_15.2.2.2.2.2.1, u_15.2.2.2.2.2.2.1, u_15.2.2.2.2.2.2.2.1, u_15.2.2.2.2.2.2.2.2.1, u_15.2.2.2.2.2.2.2.2.2, rfl, ⟨by omega, by omega, by omega, by omega, by omega, by omega, (by rw [← i7, show qv.toNat - i = (qv.toNat - (i + 1)) + 1 by omega, pNodes_s hpn rfl, show (u_15.1).toNat = rq by omega]), m6, m7, m8⟩, hP, hD, hS, lv_sub hl [1, 2, 3, 0] rfl⟩
    · refine z_if_ne (tgt := 51) hx hb dX1_decode_41 (by decide) (by omega) (fun c9 => absurd c9 (by decide)) (fun _ => ?_)
      exact absurd hok (by rw [pAll_o hq (by omega) (by omega)]; dsimp only; omega)
  · exact absurd hok (by rw [pAll_f hq (by omega)]; dsimp only; omega)
end
