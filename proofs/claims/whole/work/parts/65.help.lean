set_option maxHeartbeats 4000000 in
set_option maxRecDepth 100000 in
theorem c_L_edges (l : Launch) (hst : l.stackTraces = false) (D : va_G) (cI cJ cB cZ : ClassId) (h ta ou de ra od gr tb ob an ax o1 o2 b1 b2 b3 : Nat) (tF : Nat → Int) (tL : Int) (oF : Nat → Int) (oL : Int) (nx nd sz1 kd pl : Int) (fn fx : Nat → Int) (pp qq st ch er : Int) (q1 q2 : Nat → Int) (qs : Int) (f1 f2 f3 : Nat → Int) (n sz wh : Int) (o : Nat) (g0 : Nat → Int) (N : Nat) (E : Ed) (w : Nat → Nat) (P Q : Nat) (x : Nat → Nat) (ks kc ke tl : Nat) (tf : Nat → Int) (ol : Nat) (of_ : Nat → Int) (fk : Int) (hH : HR N E w P Q x ks kc ke tl tf ol of_ fk ((tF, tL), (oF, oL), (nx, nd, sz1, kd, pl), ((an, ax), fn, fx, pp, qq, st, ch, er), (q1, q2, qs), f1, f2, f3, n, sz, wh)) (a : Int) (ha : -2147483648 ≤ a ∧ a < 2147483648) (b : Int) (hb0 : -2147483648 ≤ b ∧ b < 2147483648)  (sz0 : Nat) : vx_Met l yL_edges wsL_edges ({ frames := 7, cells := 1, slots := 6, locals := 103 } : Room) (PreX "java/util/NoSuchElementException" D cI cJ cB cZ [.ref h, .int (iZ a), .int (iZ b), .ref o] (wHo h ta ou de ra od gr ++ wBR 2000 cI ta tb tF tL ++ wBR 3502 cI ou ob oF oL ++ wDe de nx nd sz1 kd pl ++ wRa cJ ra an ax fn fx pp qq st ch er ++ wOr cI cJ od o1 o2 q1 q2 qs ++ wGr cI gr b1 b2 b3 f1 f2 f3 n sz wh ++ [(o, .inl (cJ, 1, .inr (.inl (aL g0))))]) sz0) (rwI (S := Nat → Int) D (fun z U => (z = 1 ∧ ¬ ((b = 0 ∨ b = 1) ∧ 0 ≤ a ∧ a < (N : Int))) ∨ (z = 0 ∧ ((b = 0 ∨ b = 1) ∧ 0 ≤ a ∧ a < (N : Int)) ∧ (b = 0 → U 0 = (dgr E N a.toNat : Int)) ∧ (b = 1 → U 0 = (fb_ct (fun c9 => E c9 a.toNat) N : Int)))) (fun u => wHo h ta ou de ra od gr ++ wBR 2000 cI ta tb tF tL ++ wBR 3502 cI ou ob oF oL ++ wDe de nx nd sz1 kd pl ++ wRa cJ ra an ax fn fx pp qq st ch er ++ wOr cI cJ od o1 o2 q1 q2 qs ++ wGr cI gr b1 b2 b3 f1 f2 f3 n sz wh ++ [(o, .inl (cJ, 1, .inr (.inl (aL u))))]) (va_A (wHo h ta ou de ra od gr ++ wBR 2000 cI ta tb tF tL ++ wBR 3502 cI ou ob oF oL ++ wDe de nx nd sz1 kd pl ++ wRa cJ ra an ax fn fx pp qq st ch er ++ wOr cI cJ od o1 o2 q1 q2 qs ++ wGr cI gr b1 b2 b3 f1 f2 f3 n sz wh ++ [(o, .inl (cJ, 1, .inr (.inl (aL g0))))]) sz0)) XN 1 6 (va_A (wHo h ta ou de ra od gr ++ wBR 2000 cI ta tb tF tL ++ wBR 3502 cI ou ob oF oL ++ wDe de nx nd sz1 kd pl ++ wRa cJ ra an ax fn fx pp qq st ch er ++ wOr cI cJ od o1 o2 q1 q2 qs ++ wGr cI gr b1 b2 b3 f1 f2 f3 n sz wh ++ [(o, .inl (cJ, 1, .inr (.inl (aL g0))))]) sz0) := by
  refine vx_ofWH (cc := cL_edges) (maxL := 5) (ret := (some .int)) (hh := [(0, 10, 13, 13)]) (by decide) rfl ?_
  intro p e s m args below meth c s₁ B hml hv
  obtain ⟨rfl, hsz, hP, hE, hD0, hZ⟩ := hv
  have hx := B.exec
  have hb := B.bytes
  have hr := B.returns
  have hts := atoms_spec (ws := wsL_edges) B.pre
  have hown : s.vm.findClass RL = some m.cls := findClass_of_methodNamed B.named
  have hlocks := B.notSynchronized
  have hK := hE.1
  have htab := vx_table (x := yL_edges) B (hts _ List.mem_cons_self)
  subst hsz
  have hD := hD0.self (sz := s.heap.size)
  generalize hAe : va_A (wHo h ta ou de ra od gr ++ wBR 2000 cI ta tb tF tL ++ wBR 3502 cI ou ob oF oL ++ wDe de nx nd sz1 kd pl ++ wRa cJ ra an ax fn fx pp qq st ch er ++ wOr cI cJ od o1 o2 q1 q2 qs ++ wGr cI gr b1 b2 b3 f1 f2 f3 n sz wh ++ [(o, .inl (cJ, 1, .inr (.inl (aL g0))))]) s.heap.size = A at hD hZ ⊢
  have hA : ∀ q : Nat, s.heap.size ≤ q → A q := fun q h => by rw [← hAe]; exact Or.inr h
  have hS : va_S A s.heap s.heap [] := va_S.rf
  have hP : va_P D vwCl (wHo h ta ou de ra od gr ++ wBR 2000 cI ta tb tF tL ++ wBR 3502 cI ou ob oF oL ++ wDe de nx nd sz1 kd pl ++ wRa cJ ra an ax fn fx pp qq st ch er ++ wOr cI cJ od o1 o2 q1 q2 qs ++ wGr cI gr b1 b2 b3 f1 f2 f3 n sz wh ++ [(o, .inl (cJ, 1, .inr (.inl (aL g0))))]) s.heap := hP
  have hw_1 := hts (.classLink RL 13 "java/util/NoSuchElementException") (by decide +kernel)
  have hl := lv_entry ([.ref h, .int (iZ a), .int (iZ b), .ref o]) (n := 5) (Nat.le_of_ble_eq_true rfl)
  rw [lg_entry_eq]
  generalize (lg_sl ([.ref h, .int (iZ a), .int (iZ b), .ref o]) ++ List.replicate (5 - (lg_sl ([.ref h, .int (iZ a), .int (iZ b), .ref o])).length) Slot.unset).toArray = ls at hl ⊢
  have hl : lv_has ls 5 [(0, .ref h), (1, .int (iZ a)), (2, .int (iZ b)), (3, .ref o)] := hl
  obtain ⟨hG, hR, s1, s2, s3, s5, s6, t1, t1b, t2, t3, y1, y1b, y2, y3, d1⟩ := id hH
  dsimp only at hG hR s1 s2 s3 t1 t1b y1 y1b d1
  have hG : GR N E w f1 f2 f3 n sz wh := hG
  obtain ⟨g1, g2, g3, g4, g5, g6, g7, g8, g9, g10, g11⟩ := id hG
  obtain ⟨k1, k2, k3, k4, k5, k6⟩ := id hR
  refine lv_aload_n hx hb dL_edges_0 rfl (lv_at hl 3 rfl) ?_
  refine z_iconst hx hb dL_edges_1 ?_
  refine lv_aload_n hx hb dL_edges_2 rfl (lv_at hl 0 rfl) ?_
  refine lv_iload_n hx hb dL_edges_3 rfl (lv_at hl 1 rfl) ?_
  refine lv_iload_n hx hb dL_edges_4 rfl (lv_at hl 2 rfl) ?_
  refine rwx_i (wr := [(o, .inl (cJ, 1, .inr (.inl (aL g0))))]) (vx_runV (As := [.int (iZ a), .int (iZ b)]) (rest := [.int (iZ 0), .ref o]) ⟨hx, hb, hml, hown, hts⟩ (c_X5_edges l hst D cI cJ cB cZ h ta ou de ra od gr tb ob an ax o1 o2 b1 b2 b3 tF tL oF oL nx nd sz1 kd pl fn fx pp qq st ch er q1 q2 qs f1 f2 f3 n sz wh N E w P Q x ks kc ke tl tf ol of_ fk hH a ha b hb0 _) (cwV 2 hts gL_edges_X5_edges rfl rfl rfl (by decide +kernel) ⟨Nat.le_of_ble_eq_true rfl, Nat.le_of_ble_eq_true rfl⟩) (preXV hE (hP.sub (ws' := (wHo h ta ou de ra od gr ++ wBR 2000 cI ta tb tF tL ++ wBR 3502 cI ou ob oF oL ++ wDe de nx nd sz1 kd pl ++ wRa cJ ra an ax fn fx pp qq st ch er ++ wOr cI cJ od o1 o2 q1 q2 qs ++ wGr cI gr b1 b2 b3 f1 f2 f3 n sz wh)) [0, 1, 2, 3, 4, 5, 6, 7, 8, 9, 10, 11, 12, 13, 14, 15] rfl) (hD.sub (ws' := (wHo h ta ou de ra od gr ++ wBR 2000 cI ta tb tF tL ++ wBR 3502 cI ou ob oF oL ++ wDe de nx nd sz1 kd pl ++ wRa cJ ra an ax fn fx pp qq st ch er ++ wOr cI cJ od o1 o2 q1 q2 qs ++ wGr cI gr b1 b2 b3 f1 f2 f3 n sz wh)) [0, 1, 2, 3, 4, 5, 6, 7, 8, 9, 10, 11, 12, 13, 14, 15] (by decide) rfl) (SXZ.sub (wc := (wHo h ta ou de ra od gr ++ wBR 2000 cI ta tb tF tL ++ wBR 3502 cI ou ob oF oL ++ wDe de nx nd sz1 kd pl ++ wRa cJ ra an ax fn fx pp qq st ch er ++ wOr cI cJ od o1 o2 q1 q2 qs ++ wGr cI gr b1 b2 b3 f1 f2 f3 n sz wh)) hZ hD hS hA [0, 1, 2, 3, 4, 5, 6, 7, 8, 9, 10, 11, 12, 13, 14, 15] rfl) 0 rfl rfl) rfl rfl hl.1 rfl (lv_room (Nat.le_of_ble_eq_true rfl)) dL_edges_5 ⟨Nat.le_of_ble_eq_true rfl, Nat.le_of_ble_eq_true rfl⟩) hP hD hS hA [0, 1, 2, 3, 4, 5, 6, 7, 8, 9, 10, 11, 12, 13, 14, 15] [16] rfl rfl (by decide) (by decide) (fun ce q9 H locs hpx hP hD hS hce hcv hcl => ?_) (fun r_1 u_3 H locs hr_2 hP hD hS => ?_)
  · have hP := hP.sub (ws' := (wHo h ta ou de ra od gr ++ wBR 2000 cI ta tb tF tL ++ wBR 3502 cI ou ob oF oL ++ wDe de nx nd sz1 kd pl ++ wRa cJ ra an ax fn fx pp qq st ch er ++ wOr cI cJ od o1 o2 q1 q2 qs ++ wGr cI gr b1 b2 b3 f1 f2 f3 n sz wh ++ [(o, .inl (cJ, 1, .inr (.inl (aL g0))))])) [1, 2, 3, 4, 5, 6, 7, 8, 9, 10, 11, 12, 13, 14, 15, 16, 0] rfl
    have hD := hD.sub (ws' := (wHo h ta ou de ra od gr ++ wBR 2000 cI ta tb tF tL ++ wBR 3502 cI ou ob oF oL ++ wDe de nx nd sz1 kd pl ++ wRa cJ ra an ax fn fx pp qq st ch er ++ wOr cI cJ od o1 o2 q1 q2 qs ++ wGr cI gr b1 b2 b3 f1 f2 f3 n sz wh ++ [(o, .inl (cJ, 1, .inr (.inl (aL g0))))])) [1, 2, 3, 4, 5, 6, 7, 8, 9, 10, 11, 12, 13, 14, 15, 16, 0] (by decide) rfl
    refine vx_catch (name := "java/util/NoSuchElementException") hown [] ⟨0, 10, 13, 13⟩ [] htab (fun z hz => absurd hz List.not_mem_nil) (by decide) (by decide) hw_1 (va_Nw.use rfl hZ.2.2.1) hce hcv hcl ?_
    refine W.eq (g2 := F0 m 13 ls [.ref q9]) rfl ?_
    refine lv_astore (lv' := [(4, .ref q9), (0, .ref h), (1, .int (iZ a)), (2, .int (iZ b)), (3, .ref o)]) hx hb dL_edges_13 hl (by decide) rfl (fun ls hl => ?_)
    refine z_iconst hx hb dL_edges_15 ?_
    refine vx_ret (W.widen (k := 1) (n := 6) (Nat.le_of_ble_eq_true rfl) (Nat.le_of_ble_eq_true rfl) ?_)
    exact rw_iret (z := 1) g0 hx hb hr hlocks hP hD hS (Or.inl ⟨rfl, hpx⟩) dL_edges_16
  have hP := hP.sub (ws' := (wHo h ta ou de ra od gr ++ wBR 2000 cI ta tb tF tL ++ wBR 3502 cI ou ob oF oL ++ wDe de nx nd sz1 kd pl ++ wRa cJ ra an ax fn fx pp qq st ch er ++ wOr cI cJ od o1 o2 q1 q2 qs ++ wGr cI gr b1 b2 b3 f1 f2 f3 n sz wh ++ [(o, .inl (cJ, 1, .inr (.inl (aL g0))))])) [1, 2, 3, 4, 5, 6, 7, 8, 9, 10, 11, 12, 13, 14, 15, 16, 0] rfl
  have hD := hD.sub (ws' := (wHo h ta ou de ra od gr ++ wBR 2000 cI ta tb tF tL ++ wBR 3502 cI ou ob oF oL ++ wDe de nx nd sz1 kd pl ++ wRa cJ ra an ax fn fx pp qq st ch er ++ wOr cI cJ od o1 o2 q1 q2 qs ++ wGr cI gr b1 b2 b3 f1 f2 f3 n sz wh ++ [(o, .inl (cJ, 1, .inr (.inl (aL g0))))])) [1, 2, 3, 4, 5, 6, 7, 8, 9, 10, 11, 12, 13, 14, 15, 16, 0] (by decide) rfl
  obtain ⟨e1, e2, e3⟩ := hr_2
  have d9 := dgr_le E N a.toNat
  have d8 := fb_ct_le (fun c9 => E c9 a.toNat) N
  have rr : 0 ≤ r_1 ∧ r_1 ≤ 250 := by (rcases e1.1 with q | q; (have q9 := e2 q; omega); (have q9 := e3 q; omega))
  refine z_i2l hx hb dL_edges_8 (by omega) ?_
  refine z_last hx hb hK hP hD hS 16 1 rfl rfl 0 (by omega) (by omega) (by omega) dL_edges_9 (fun H locs hP hD hS => ?_)
  have hP : va_P D vwCl (wHo h ta ou de ra od gr ++ wBR 2000 cI ta tb tF tL ++ wBR 3502 cI ou ob oF oL ++ wDe de nx nd sz1 kd pl ++ wRa cJ ra an ax fn fx pp qq st ch er ++ wOr cI cJ od o1 o2 q1 q2 qs ++ wGr cI gr b1 b2 b3 f1 f2 f3 n sz wh ++ [(o, .inl (cJ, 1, .inr (.inl (aL (uZ g0 0 r_1)))))]) H := hP
  have hD : va_D A (wHo h ta ou de ra od gr ++ wBR 2000 cI ta tb tF tL ++ wBR 3502 cI ou ob oF oL ++ wDe de nx nd sz1 kd pl ++ wRa cJ ra an ax fn fx pp qq st ch er ++ wOr cI cJ od o1 o2 q1 q2 qs ++ wGr cI gr b1 b2 b3 f1 f2 f3 n sz wh ++ [(o, .inl (cJ, 1, .inr (.inl (aL (uZ g0 0 r_1)))))]) := hD
  refine lv_goto (tgt := 17) hx hb dL_edges_10 (by decide) ?_
  refine z_iconst hx hb dL_edges_17 ?_
  refine vx_ret (W.widen (k := 1) (n := 6) (Nat.le_of_ble_eq_true rfl) (Nat.le_of_ble_eq_true rfl) ?_)
  exact rw_iret (z := 0) (uZ g0 0 r_1) hx hb hr hlocks hP hD hS (Or.inr ⟨rfl, e1, fun q => (by rw [uZ_s]; exact e2 q), fun q => (by rw [uZ_s]; exact e3 q)⟩) dL_edges_18
set_option maxHeartbeats 4000000 in
set_option maxRecDepth 100000 in
theorem c_L_rank (l : Launch) (hst : l.stackTraces = false) (D : va_G) (cI cJ cB cZ : ClassId) (h ta ou de ra od gr tb ob an ax o1 o2 b1 b2 b3 : Nat) (tF : Nat → Int) (tL : Int) (oF : Nat → Int) (oL : Int) (nx nd sz1 kd pl : Int) (fn fx : Nat → Int) (pp qq st ch er : Int) (q1 q2 : Nat → Int) (qs : Int) (f1 f2 f3 : Nat → Int) (n sz wh : Int) (o : Nat) (g0 : Nat → Int) (N : Nat) (E : Ed) (w : Nat → Nat) (P Q : Nat) (x : Nat → Nat) (ks kc ke tl : Nat) (tf : Nat → Int) (ol : Nat) (of_ : Nat → Int) (fk : Int) (hH : HR N E w P Q x ks kc ke tl tf ol of_ fk ((tF, tL), (oF, oL), (nx, nd, sz1, kd, pl), ((an, ax), fn, fx, pp, qq, st, ch, er), (q1, q2, qs), f1, f2, f3, n, sz, wh)) (a : Int) (ha : -2147483648 ≤ a ∧ a < 2147483648)  (sz0 : Nat) : vx_Met l yL_rank wsL_rank ({ frames := 7, cells := 1, slots := 6, locals := 102 } : Room) (PreX "java/util/NoSuchElementException" D cI cJ cB cZ [.ref h, .int (iZ a), .ref o] (wHo h ta ou de ra od gr ++ wBR 2000 cI ta tb tF tL ++ wBR 3502 cI ou ob oF oL ++ wDe de nx nd sz1 kd pl ++ wRa cJ ra an ax fn fx pp qq st ch er ++ wOr cI cJ od o1 o2 q1 q2 qs ++ wGr cI gr b1 b2 b3 f1 f2 f3 n sz wh ++ [(o, .inl (cJ, 1, .inr (.inl (aL g0))))]) sz0) (rwI (S := Nat → Int) D (fun z U => (z = 1 ∧ ¬ (0 ≤ a ∧ a < (N : Int))) ∨ (z = 0 ∧ (0 ≤ a ∧ a < (N : Int)) ∧ U 0 = ((x a.toNat : Nat) : Int))) (fun u => wHo h ta ou de ra od gr ++ wBR 2000 cI ta tb tF tL ++ wBR 3502 cI ou ob oF oL ++ wDe de nx nd sz1 kd pl ++ wRa cJ ra an ax fn fx pp qq st ch er ++ wOr cI cJ od o1 o2 q1 q2 qs ++ wGr cI gr b1 b2 b3 f1 f2 f3 n sz wh ++ [(o, .inl (cJ, 1, .inr (.inl (aL u))))]) (va_A (wHo h ta ou de ra od gr ++ wBR 2000 cI ta tb tF tL ++ wBR 3502 cI ou ob oF oL ++ wDe de nx nd sz1 kd pl ++ wRa cJ ra an ax fn fx pp qq st ch er ++ wOr cI cJ od o1 o2 q1 q2 qs ++ wGr cI gr b1 b2 b3 f1 f2 f3 n sz wh ++ [(o, .inl (cJ, 1, .inr (.inl (aL g0))))]) sz0)) XN 1 6 (va_A (wHo h ta ou de ra od gr ++ wBR 2000 cI ta tb tF tL ++ wBR 3502 cI ou ob oF oL ++ wDe de nx nd sz1 kd pl ++ wRa cJ ra an ax fn fx pp qq st ch er ++ wOr cI cJ od o1 o2 q1 q2 qs ++ wGr cI gr b1 b2 b3 f1 f2 f3 n sz wh ++ [(o, .inl (cJ, 1, .inr (.inl (aL g0))))]) sz0) := by
  refine vx_ofWH (cc := cL_rank) (maxL := 4) (ret := (some .int)) (hh := [(0, 8, 11, 13)]) (by decide) rfl ?_
  intro p e s m args below meth c s₁ B hml hv
  obtain ⟨rfl, hsz, hP, hE, hD0, hZ⟩ := hv
  have hx := B.exec
  have hb := B.bytes
  have hr := B.returns
  have hts := atoms_spec (ws := wsL_rank) B.pre
  have hown : s.vm.findClass RL = some m.cls := findClass_of_methodNamed B.named
  have hlocks := B.notSynchronized
  have hK := hE.1
  have htab := vx_table (x := yL_rank) B (hts _ List.mem_cons_self)
  subst hsz
  have hD := hD0.self (sz := s.heap.size)
  generalize hAe : va_A (wHo h ta ou de ra od gr ++ wBR 2000 cI ta tb tF tL ++ wBR 3502 cI ou ob oF oL ++ wDe de nx nd sz1 kd pl ++ wRa cJ ra an ax fn fx pp qq st ch er ++ wOr cI cJ od o1 o2 q1 q2 qs ++ wGr cI gr b1 b2 b3 f1 f2 f3 n sz wh ++ [(o, .inl (cJ, 1, .inr (.inl (aL g0))))]) s.heap.size = A at hD hZ ⊢
  have hA : ∀ q : Nat, s.heap.size ≤ q → A q := fun q h => by rw [← hAe]; exact Or.inr h
  have hS : va_S A s.heap s.heap [] := va_S.rf
  have hP : va_P D vwCl (wHo h ta ou de ra od gr ++ wBR 2000 cI ta tb tF tL ++ wBR 3502 cI ou ob oF oL ++ wDe de nx nd sz1 kd pl ++ wRa cJ ra an ax fn fx pp qq st ch er ++ wOr cI cJ od o1 o2 q1 q2 qs ++ wGr cI gr b1 b2 b3 f1 f2 f3 n sz wh ++ [(o, .inl (cJ, 1, .inr (.inl (aL g0))))]) s.heap := hP
  have hw_1 := hts (.classLink RL 13 "java/util/NoSuchElementException") (by decide +kernel)
  have hl := lv_entry ([.ref h, .int (iZ a), .ref o]) (n := 4) (Nat.le_of_ble_eq_true rfl)
  rw [lg_entry_eq]
  generalize (lg_sl ([.ref h, .int (iZ a), .ref o]) ++ List.replicate (4 - (lg_sl ([.ref h, .int (iZ a), .ref o])).length) Slot.unset).toArray = ls at hl ⊢
  have hl : lv_has ls 4 [(0, .ref h), (1, .int (iZ a)), (2, .ref o)] := hl
  obtain ⟨hG, hR, s1, s2, s3, s5, s6, t1, t1b, t2, t3, y1, y1b, y2, y3, d1⟩ := id hH
  dsimp only at hG hR s1 s2 s3 t1 t1b y1 y1b d1
  have hG : GR N E w f1 f2 f3 n sz wh := hG
  obtain ⟨g1, g2, g3, g4, g5, g6, g7, g8, g9, g10, g11⟩ := id hG
  obtain ⟨k1, k2, k3, k4, k5, k6⟩ := id hR
  refine lv_aload_n hx hb dL_rank_0 rfl (lv_at hl 2 rfl) ?_
  refine z_iconst hx hb dL_rank_1 ?_
  refine lv_aload_n hx hb dL_rank_2 rfl (lv_at hl 0 rfl) ?_
  refine lv_iload_n hx hb dL_rank_3 rfl (lv_at hl 1 rfl) ?_
  refine rwx_l (wr := [(o, .inl (cJ, 1, .inr (.inl (aL g0))))]) (vx_runV (As := [.int (iZ a)]) (rest := [.int (iZ 0), .ref o]) ⟨hx, hb, hml, hown, hts⟩ (c_X5_rank l hst D cI cJ cB cZ h ta ou de ra od gr tb ob an ax o1 o2 b1 b2 b3 tF tL oF oL nx nd sz1 kd pl fn fx pp qq st ch er q1 q2 qs f1 f2 f3 n sz wh N E w P Q x ks kc ke tl tf ol of_ fk hH a ha _) (cwV 1 hts gL_rank_X5_rank rfl rfl rfl (by decide +kernel) ⟨Nat.le_of_ble_eq_true rfl, Nat.le_of_ble_eq_true rfl⟩) (preXV hE (hP.sub (ws' := (wHo h ta ou de ra od gr ++ wBR 2000 cI ta tb tF tL ++ wBR 3502 cI ou ob oF oL ++ wDe de nx nd sz1 kd pl ++ wRa cJ ra an ax fn fx pp qq st ch er ++ wOr cI cJ od o1 o2 q1 q2 qs ++ wGr cI gr b1 b2 b3 f1 f2 f3 n sz wh)) [0, 1, 2, 3, 4, 5, 6, 7, 8, 9, 10, 11, 12, 13, 14, 15] rfl) (hD.sub (ws' := (wHo h ta ou de ra od gr ++ wBR 2000 cI ta tb tF tL ++ wBR 3502 cI ou ob oF oL ++ wDe de nx nd sz1 kd pl ++ wRa cJ ra an ax fn fx pp qq st ch er ++ wOr cI cJ od o1 o2 q1 q2 qs ++ wGr cI gr b1 b2 b3 f1 f2 f3 n sz wh)) [0, 1, 2, 3, 4, 5, 6, 7, 8, 9, 10, 11, 12, 13, 14, 15] (by decide) rfl) (SXZ.sub (wc := (wHo h ta ou de ra od gr ++ wBR 2000 cI ta tb tF tL ++ wBR 3502 cI ou ob oF oL ++ wDe de nx nd sz1 kd pl ++ wRa cJ ra an ax fn fx pp qq st ch er ++ wOr cI cJ od o1 o2 q1 q2 qs ++ wGr cI gr b1 b2 b3 f1 f2 f3 n sz wh)) hZ hD hS hA [0, 1, 2, 3, 4, 5, 6, 7, 8, 9, 10, 11, 12, 13, 14, 15] rfl) 0 rfl rfl) rfl rfl hl.1 rfl (lv_room (Nat.le_of_ble_eq_true rfl)) dL_rank_4 ⟨Nat.le_of_ble_eq_true rfl, Nat.le_of_ble_eq_true rfl⟩) hP hD hS hA [0, 1, 2, 3, 4, 5, 6, 7, 8, 9, 10, 11, 12, 13, 14, 15] [16] rfl rfl (by decide) (by decide) (fun ce q9 H locs hpx hP hD hS hce hcv hcl => ?_) (fun r_1 u_3 H locs hr_2 hP hD hS => ?_)
  · have hP := hP.sub (ws' := (wHo h ta ou de ra od gr ++ wBR 2000 cI ta tb tF tL ++ wBR 3502 cI ou ob oF oL ++ wDe de nx nd sz1 kd pl ++ wRa cJ ra an ax fn fx pp qq st ch er ++ wOr cI cJ od o1 o2 q1 q2 qs ++ wGr cI gr b1 b2 b3 f1 f2 f3 n sz wh ++ [(o, .inl (cJ, 1, .inr (.inl (aL g0))))])) [1, 2, 3, 4, 5, 6, 7, 8, 9, 10, 11, 12, 13, 14, 15, 16, 0] rfl
    have hD := hD.sub (ws' := (wHo h ta ou de ra od gr ++ wBR 2000 cI ta tb tF tL ++ wBR 3502 cI ou ob oF oL ++ wDe de nx nd sz1 kd pl ++ wRa cJ ra an ax fn fx pp qq st ch er ++ wOr cI cJ od o1 o2 q1 q2 qs ++ wGr cI gr b1 b2 b3 f1 f2 f3 n sz wh ++ [(o, .inl (cJ, 1, .inr (.inl (aL g0))))])) [1, 2, 3, 4, 5, 6, 7, 8, 9, 10, 11, 12, 13, 14, 15, 16, 0] (by decide) rfl
    refine vx_catch (name := "java/util/NoSuchElementException") hown [] ⟨0, 8, 11, 13⟩ [] htab (fun z hz => absurd hz List.not_mem_nil) (by decide) (by decide) hw_1 (va_Nw.use rfl hZ.2.2.1) hce hcv hcl ?_
    refine W.eq (g2 := F0 m 11 ls [.ref q9]) rfl ?_
    refine lv_astore_n (lv' := [(3, .ref q9), (0, .ref h), (1, .int (iZ a)), (2, .ref o)]) hx hb dL_rank_11 rfl hl (by decide) rfl (fun ls hl => ?_)
    refine z_iconst hx hb dL_rank_12 ?_
    refine vx_ret (W.widen (k := 1) (n := 6) (Nat.le_of_ble_eq_true rfl) (Nat.le_of_ble_eq_true rfl) ?_)
    exact rw_iret (z := 1) g0 hx hb hr hlocks hP hD hS (Or.inl ⟨rfl, hpx⟩) dL_rank_13
  have hP := hP.sub (ws' := (wHo h ta ou de ra od gr ++ wBR 2000 cI ta tb tF tL ++ wBR 3502 cI ou ob oF oL ++ wDe de nx nd sz1 kd pl ++ wRa cJ ra an ax fn fx pp qq st ch er ++ wOr cI cJ od o1 o2 q1 q2 qs ++ wGr cI gr b1 b2 b3 f1 f2 f3 n sz wh ++ [(o, .inl (cJ, 1, .inr (.inl (aL g0))))])) [1, 2, 3, 4, 5, 6, 7, 8, 9, 10, 11, 12, 13, 14, 15, 16, 0] rfl
  have hD := hD.sub (ws' := (wHo h ta ou de ra od gr ++ wBR 2000 cI ta tb tF tL ++ wBR 3502 cI ou ob oF oL ++ wDe de nx nd sz1 kd pl ++ wRa cJ ra an ax fn fx pp qq st ch er ++ wOr cI cJ od o1 o2 q1 q2 qs ++ wGr cI gr b1 b2 b3 f1 f2 f3 n sz wh ++ [(o, .inl (cJ, 1, .inr (.inl (aL g0))))])) [1, 2, 3, 4, 5, 6, 7, 8, 9, 10, 11, 12, 13, 14, 15, 16, 0] (by decide) rfl
  obtain ⟨e1, e2⟩ := hr_2
  refine z_last hx hb hK hP hD hS 16 1 rfl rfl 0 (by omega) (by omega) (by omega) dL_rank_7 (fun H locs hP hD hS => ?_)
  have hP : va_P D vwCl (wHo h ta ou de ra od gr ++ wBR 2000 cI ta tb tF tL ++ wBR 3502 cI ou ob oF oL ++ wDe de nx nd sz1 kd pl ++ wRa cJ ra an ax fn fx pp qq st ch er ++ wOr cI cJ od o1 o2 q1 q2 qs ++ wGr cI gr b1 b2 b3 f1 f2 f3 n sz wh ++ [(o, .inl (cJ, 1, .inr (.inl (aL (uZ g0 0 r_1)))))]) H := hP
  have hD : va_D A (wHo h ta ou de ra od gr ++ wBR 2000 cI ta tb tF tL ++ wBR 3502 cI ou ob oF oL ++ wDe de nx nd sz1 kd pl ++ wRa cJ ra an ax fn fx pp qq st ch er ++ wOr cI cJ od o1 o2 q1 q2 qs ++ wGr cI gr b1 b2 b3 f1 f2 f3 n sz wh ++ [(o, .inl (cJ, 1, .inr (.inl (aL (uZ g0 0 r_1)))))]) := hD
  refine lv_goto (tgt := 14) hx hb dL_rank_8 (by decide) ?_
  refine z_iconst hx hb dL_rank_14 ?_
  refine vx_ret (W.widen (k := 1) (n := 6) (Nat.le_of_ble_eq_true rfl) (Nat.le_of_ble_eq_true rfl) ?_)
  exact rw_iret (z := 0) (uZ g0 0 r_1) hx hb hr hlocks hP hD hS (Or.inr ⟨rfl, e1, (by rw [uZ_s]; exact e2)⟩) dL_rank_15
set_option maxHeartbeats 4000000 in
set_option maxRecDepth 100000 in
theorem c_L_octet (l : Launch) (hst : l.stackTraces = false) (D : va_G) (cI cJ cB cZ : ClassId) (h ta ou de ra od gr tb ob an ax o1 o2 b1 b2 b3 : Nat) (tF : Nat → Int) (tL : Int) (oF : Nat → Int) (oL : Int) (nx nd sz1 kd pl : Int) (fn fx : Nat → Int) (pp qq st ch er : Int) (q1 q2 : Nat → Int) (qs : Int) (f1 f2 f3 : Nat → Int) (n sz wh : Int) (o : Nat) (g0 : Nat → Int) (N : Nat) (E : Ed) (w : Nat → Nat) (P Q : Nat) (x : Nat → Nat) (ks kc ke tl : Nat) (tf : Nat → Int) (ol : Nat) (of_ : Nat → Int) (fk : Int) (hH : HR N E w P Q x ks kc ke tl tf ol of_ fk ((tF, tL), (oF, oL), (nx, nd, sz1, kd, pl), ((an, ax), fn, fx, pp, qq, st, ch, er), (q1, q2, qs), f1, f2, f3, n, sz, wh)) (a : Int) (ha : -2147483648 ≤ a ∧ a < 2147483648)  (sz0 : Nat) : vx_Met l yL_octet wsL_octet ({ frames := 7, cells := 1, slots := 6, locals := 102 } : Room) (PreX "java/util/NoSuchElementException" D cI cJ cB cZ [.ref h, .int (iZ a), .ref o] (wHo h ta ou de ra od gr ++ wBR 2000 cI ta tb tF tL ++ wBR 3502 cI ou ob oF oL ++ wDe de nx nd sz1 kd pl ++ wRa cJ ra an ax fn fx pp qq st ch er ++ wOr cI cJ od o1 o2 q1 q2 qs ++ wGr cI gr b1 b2 b3 f1 f2 f3 n sz wh ++ [(o, .inl (cJ, 1, .inr (.inl (aL g0))))]) sz0) (rwI (S := Nat → Int) D (fun z U => (z = 1 ∧ ¬ (0 ≤ a ∧ a < (ol : Int))) ∨ (z = 0 ∧ (0 ≤ a ∧ a < (ol : Int)) ∧ U 0 = of_ a.toNat)) (fun u => wHo h ta ou de ra od gr ++ wBR 2000 cI ta tb tF tL ++ wBR 3502 cI ou ob oF oL ++ wDe de nx nd sz1 kd pl ++ wRa cJ ra an ax fn fx pp qq st ch er ++ wOr cI cJ od o1 o2 q1 q2 qs ++ wGr cI gr b1 b2 b3 f1 f2 f3 n sz wh ++ [(o, .inl (cJ, 1, .inr (.inl (aL u))))]) (va_A (wHo h ta ou de ra od gr ++ wBR 2000 cI ta tb tF tL ++ wBR 3502 cI ou ob oF oL ++ wDe de nx nd sz1 kd pl ++ wRa cJ ra an ax fn fx pp qq st ch er ++ wOr cI cJ od o1 o2 q1 q2 qs ++ wGr cI gr b1 b2 b3 f1 f2 f3 n sz wh ++ [(o, .inl (cJ, 1, .inr (.inl (aL g0))))]) sz0)) XN 1 6 (va_A (wHo h ta ou de ra od gr ++ wBR 2000 cI ta tb tF tL ++ wBR 3502 cI ou ob oF oL ++ wDe de nx nd sz1 kd pl ++ wRa cJ ra an ax fn fx pp qq st ch er ++ wOr cI cJ od o1 o2 q1 q2 qs ++ wGr cI gr b1 b2 b3 f1 f2 f3 n sz wh ++ [(o, .inl (cJ, 1, .inr (.inl (aL g0))))]) sz0) := by
  refine vx_ofWH (cc := cL_octet) (maxL := 4) (ret := (some .int)) (hh := [(0, 9, 12, 13)]) (by decide) rfl ?_
  intro p e s m args below meth c s₁ B hml hv
  obtain ⟨rfl, hsz, hP, hE, hD0, hZ⟩ := hv
  have hx := B.exec
  have hb := B.bytes
  have hr := B.returns
  have hts := atoms_spec (ws := wsL_octet) B.pre
  have hown : s.vm.findClass RL = some m.cls := findClass_of_methodNamed B.named
  have hlocks := B.notSynchronized
  have hK := hE.1
  have htab := vx_table (x := yL_octet) B (hts _ List.mem_cons_self)
  subst hsz
  have hD := hD0.self (sz := s.heap.size)
  generalize hAe : va_A (wHo h ta ou de ra od gr ++ wBR 2000 cI ta tb tF tL ++ wBR 3502 cI ou ob oF oL ++ wDe de nx nd sz1 kd pl ++ wRa cJ ra an ax fn fx pp qq st ch er ++ wOr cI cJ od o1 o2 q1 q2 qs ++ wGr cI gr b1 b2 b3 f1 f2 f3 n sz wh ++ [(o, .inl (cJ, 1, .inr (.inl (aL g0))))]) s.heap.size = A at hD hZ ⊢
  have hA : ∀ q : Nat, s.heap.size ≤ q → A q := fun q h => by rw [← hAe]; exact Or.inr h
  have hS : va_S A s.heap s.heap [] := va_S.rf
  have hP : va_P D vwCl (wHo h ta ou de ra od gr ++ wBR 2000 cI ta tb tF tL ++ wBR 3502 cI ou ob oF oL ++ wDe de nx nd sz1 kd pl ++ wRa cJ ra an ax fn fx pp qq st ch er ++ wOr cI cJ od o1 o2 q1 q2 qs ++ wGr cI gr b1 b2 b3 f1 f2 f3 n sz wh ++ [(o, .inl (cJ, 1, .inr (.inl (aL g0))))]) s.heap := hP
  have hw_1 := hts (.classLink RL 13 "java/util/NoSuchElementException") (by decide +kernel)
  have hl := lv_entry ([.ref h, .int (iZ a), .ref o]) (n := 4) (Nat.le_of_ble_eq_true rfl)
  rw [lg_entry_eq]
  generalize (lg_sl ([.ref h, .int (iZ a), .ref o]) ++ List.replicate (4 - (lg_sl ([.ref h, .int (iZ a), .ref o])).length) Slot.unset).toArray = ls at hl ⊢
  have hl : lv_has ls 4 [(0, .ref h), (1, .int (iZ a)), (2, .ref o)] := hl
  obtain ⟨hG, hR, s1, s2, s3, s5, s6, t1, t1b, t2, t3, y1, y1b, y2, y3, d1⟩ := id hH
  dsimp only at hG hR s1 s2 s3 t1 t1b y1 y1b d1
  have hG : GR N E w f1 f2 f3 n sz wh := hG
  obtain ⟨g1, g2, g3, g4, g5, g6, g7, g8, g9, g10, g11⟩ := id hG
  obtain ⟨k1, k2, k3, k4, k5, k6⟩ := id hR
  refine lv_aload_n hx hb dL_octet_0 rfl (lv_at hl 2 rfl) ?_
  refine z_iconst hx hb dL_octet_1 ?_
  refine lv_aload_n hx hb dL_octet_2 rfl (lv_at hl 0 rfl) ?_
  refine lv_iload_n hx hb dL_octet_3 rfl (lv_at hl 1 rfl) ?_
  refine rwx_i (wr := [(o, .inl (cJ, 1, .inr (.inl (aL g0))))]) (vx_runV (As := [.int (iZ a)]) (rest := [.int (iZ 0), .ref o]) ⟨hx, hb, hml, hown, hts⟩ (c_X5_octet l hst D cI cJ cB cZ h ta ou de ra od gr tb ob an ax o1 o2 b1 b2 b3 tF tL oF oL nx nd sz1 kd pl fn fx pp qq st ch er q1 q2 qs f1 f2 f3 n sz wh N E w P Q x ks kc ke tl tf ol of_ fk hH a ha _) (cwV 1 hts gL_octet_X5_octet rfl rfl rfl (by decide +kernel) ⟨Nat.le_of_ble_eq_true rfl, Nat.le_of_ble_eq_true rfl⟩) (preXV hE (hP.sub (ws' := (wHo h ta ou de ra od gr ++ wBR 2000 cI ta tb tF tL ++ wBR 3502 cI ou ob oF oL ++ wDe de nx nd sz1 kd pl ++ wRa cJ ra an ax fn fx pp qq st ch er ++ wOr cI cJ od o1 o2 q1 q2 qs ++ wGr cI gr b1 b2 b3 f1 f2 f3 n sz wh)) [0, 1, 2, 3, 4, 5, 6, 7, 8, 9, 10, 11, 12, 13, 14, 15] rfl) (hD.sub (ws' := (wHo h ta ou de ra od gr ++ wBR 2000 cI ta tb tF tL ++ wBR 3502 cI ou ob oF oL ++ wDe de nx nd sz1 kd pl ++ wRa cJ ra an ax fn fx pp qq st ch er ++ wOr cI cJ od o1 o2 q1 q2 qs ++ wGr cI gr b1 b2 b3 f1 f2 f3 n sz wh)) [0, 1, 2, 3, 4, 5, 6, 7, 8, 9, 10, 11, 12, 13, 14, 15] (by decide) rfl) (SXZ.sub (wc := (wHo h ta ou de ra od gr ++ wBR 2000 cI ta tb tF tL ++ wBR 3502 cI ou ob oF oL ++ wDe de nx nd sz1 kd pl ++ wRa cJ ra an ax fn fx pp qq st ch er ++ wOr cI cJ od o1 o2 q1 q2 qs ++ wGr cI gr b1 b2 b3 f1 f2 f3 n sz wh)) hZ hD hS hA [0, 1, 2, 3, 4, 5, 6, 7, 8, 9, 10, 11, 12, 13, 14, 15] rfl) 0 rfl rfl) rfl rfl hl.1 rfl (lv_room (Nat.le_of_ble_eq_true rfl)) dL_octet_4 ⟨Nat.le_of_ble_eq_true rfl, Nat.le_of_ble_eq_true rfl⟩) hP hD hS hA [0, 1, 2, 3, 4, 5, 6, 7, 8, 9, 10, 11, 12, 13, 14, 15] [16] rfl rfl (by decide) (by decide) (fun ce q9 H locs hpx hP hD hS hce hcv hcl => ?_) (fun r_1 u_3 H locs hr_2 hP hD hS => ?_)
  · have hP := hP.sub (ws' := (wHo h ta ou de ra od gr ++ wBR 2000 cI ta tb tF tL ++ wBR 3502 cI ou ob oF oL ++ wDe de nx nd sz1 kd pl ++ wRa cJ ra an ax fn fx pp qq st ch er ++ wOr cI cJ od o1 o2 q1 q2 qs ++ wGr cI gr b1 b2 b3 f1 f2 f3 n sz wh ++ [(o, .inl (cJ, 1, .inr (.inl (aL g0))))])) [1, 2, 3, 4, 5, 6, 7, 8, 9, 10, 11, 12, 13, 14, 15, 16, 0] rfl
    have hD := hD.sub (ws' := (wHo h ta ou de ra od gr ++ wBR 2000 cI ta tb tF tL ++ wBR 3502 cI ou ob oF oL ++ wDe de nx nd sz1 kd pl ++ wRa cJ ra an ax fn fx pp qq st ch er ++ wOr cI cJ od o1 o2 q1 q2 qs ++ wGr cI gr b1 b2 b3 f1 f2 f3 n sz wh ++ [(o, .inl (cJ, 1, .inr (.inl (aL g0))))])) [1, 2, 3, 4, 5, 6, 7, 8, 9, 10, 11, 12, 13, 14, 15, 16, 0] (by decide) rfl
    refine vx_catch (name := "java/util/NoSuchElementException") hown [] ⟨0, 9, 12, 13⟩ [] htab (fun z hz => absurd hz List.not_mem_nil) (by decide) (by decide) hw_1 (va_Nw.use rfl hZ.2.2.1) hce hcv hcl ?_
    refine W.eq (g2 := F0 m 12 ls [.ref q9]) rfl ?_
    refine lv_astore_n (lv' := [(3, .ref q9), (0, .ref h), (1, .int (iZ a)), (2, .ref o)]) hx hb dL_octet_12 rfl hl (by decide) rfl (fun ls hl => ?_)
    refine z_iconst hx hb dL_octet_13 ?_
    refine vx_ret (W.widen (k := 1) (n := 6) (Nat.le_of_ble_eq_true rfl) (Nat.le_of_ble_eq_true rfl) ?_)
    exact rw_iret (z := 1) g0 hx hb hr hlocks hP hD hS (Or.inl ⟨rfl, hpx⟩) dL_octet_14
  have hP := hP.sub (ws' := (wHo h ta ou de ra od gr ++ wBR 2000 cI ta tb tF tL ++ wBR 3502 cI ou ob oF oL ++ wDe de nx nd sz1 kd pl ++ wRa cJ ra an ax fn fx pp qq st ch er ++ wOr cI cJ od o1 o2 q1 q2 qs ++ wGr cI gr b1 b2 b3 f1 f2 f3 n sz wh ++ [(o, .inl (cJ, 1, .inr (.inl (aL g0))))])) [1, 2, 3, 4, 5, 6, 7, 8, 9, 10, 11, 12, 13, 14, 15, 16, 0] rfl
  have hD := hD.sub (ws' := (wHo h ta ou de ra od gr ++ wBR 2000 cI ta tb tF tL ++ wBR 3502 cI ou ob oF oL ++ wDe de nx nd sz1 kd pl ++ wRa cJ ra an ax fn fx pp qq st ch er ++ wOr cI cJ od o1 o2 q1 q2 qs ++ wGr cI gr b1 b2 b3 f1 f2 f3 n sz wh ++ [(o, .inl (cJ, 1, .inr (.inl (aL g0))))])) [1, 2, 3, 4, 5, 6, 7, 8, 9, 10, 11, 12, 13, 14, 15, 16, 0] (by decide) rfl
  obtain ⟨e1, e2⟩ := hr_2
  have e3 := y3 a.toNat (by omega)
  refine z_i2l hx hb dL_octet_7 (by omega) ?_
  refine z_last hx hb hK hP hD hS 16 1 rfl rfl 0 (by omega) (by omega) (by omega) dL_octet_8 (fun H locs hP hD hS => ?_)
  have hP : va_P D vwCl (wHo h ta ou de ra od gr ++ wBR 2000 cI ta tb tF tL ++ wBR 3502 cI ou ob oF oL ++ wDe de nx nd sz1 kd pl ++ wRa cJ ra an ax fn fx pp qq st ch er ++ wOr cI cJ od o1 o2 q1 q2 qs ++ wGr cI gr b1 b2 b3 f1 f2 f3 n sz wh ++ [(o, .inl (cJ, 1, .inr (.inl (aL (uZ g0 0 r_1)))))]) H := hP
  have hD : va_D A (wHo h ta ou de ra od gr ++ wBR 2000 cI ta tb tF tL ++ wBR 3502 cI ou ob oF oL ++ wDe de nx nd sz1 kd pl ++ wRa cJ ra an ax fn fx pp qq st ch er ++ wOr cI cJ od o1 o2 q1 q2 qs ++ wGr cI gr b1 b2 b3 f1 f2 f3 n sz wh ++ [(o, .inl (cJ, 1, .inr (.inl (aL (uZ g0 0 r_1)))))]) := hD
  refine lv_goto (tgt := 15) hx hb dL_octet_9 (by decide) ?_
  refine z_iconst hx hb dL_octet_15 ?_
  refine vx_ret (W.widen (k := 1) (n := 6) (Nat.le_of_ble_eq_true rfl) (Nat.le_of_ble_eq_true rfl) ?_)
  exact rw_iret (z := 0) (uZ g0 0 r_1) hx hb hr hlocks hP hD hS (Or.inr ⟨rfl, e1, (by rw [uZ_s]; exact e2)⟩) dL_octet_16
set_option maxHeartbeats 4000000 in
set_option maxRecDepth 100000 in
theorem c_L_run (l : Launch) (hst : l.stackTraces = false) (D : va_G) (cI cJ cB cZ : ClassId) (h ta ou de ra od gr tb ob an ax o1 o2 b1 b2 b3 : Nat) (tF : Nat → Int) (tL : Int) (oF : Nat → Int) (oL : Int) (nx nd sz1 kd pl : Int) (fn fx : Nat → Int) (pp qq st ch er : Int) (q1 q2 : Nat → Int) (qs : Int) (f1 f2 f3 : Nat → Int) (n sz wh : Int) (o : Nat) (g0 : Nat → Int) (N : Nat) (E : Ed) (w : Nat → Nat) (P Q : Nat) (x : Nat → Nat) (ks kc ke tl : Nat) (tf : Nat → Int) (ol : Nat) (of_ : Nat → Int) (fk : Int) (hH : HR N E w P Q x ks kc ke tl tf ol of_ fk ((tF, tL), (oF, oL), (nx, nd, sz1, kd, pl), ((an, ax), fn, fx, pp, qq, st, ch, er), (q1, q2, qs), f1, f2, f3, n, sz, wh)) (a : Int) (ha : -2147483648 ≤ a ∧ a < 2147483648) (b : Int) (hb0 : -9223372036854775808 ≤ b ∧ b < 9223372036854775808) (hks : ks ≤ 1000000000)  (sz0 : Nat) : vx_Met l yL_run wsL_run ({ frames := 7, cells := 1, slots := 6, locals := 138 } : Room) (PreX "java/lang/IllegalArgumentException" D cI cJ cB cZ [.ref h, .int (iZ a), .long (lZ b), .ref o] (wHo h ta ou de ra od gr ++ wBR 2000 cI ta tb tF tL ++ wBR 3502 cI ou ob oF oL ++ wDe de nx nd sz1 kd pl ++ wRa cJ ra an ax fn fx pp qq st ch er ++ wOr cI cJ od o1 o2 q1 q2 qs ++ wGr cI gr b1 b2 b3 f1 f2 f3 n sz wh ++ [(o, .inl (cJ, 1, .inr (.inl (aL g0))))]) sz0) (rwI (S := HT × (Nat → Int)) D (fun z U => (z = 1 ∧ ¬ (0 ≤ a ∧ a ≤ 100 ∧ 0 ≤ b) ∧ HR N E w P Q x ks kc ke tl tf ol of_ fk U.1) ∨ (z = 0 ∧ (0 ≤ a ∧ a ≤ 100 ∧ 0 ≤ b) ∧ ∃ k9 : Nat, U.2 0 = (k9 : Int) ∧ RNK E N w P Q b a ((x, ks, kc, ke) : RT) k9 ∧ HR N E w P Q ((rnK E N w P Q k9 ((x, ks, kc, ke) : RT)).1) ((rnK E N w P Q k9 ((x, ks, kc, ke) : RT)).2.1) ((rnK E N w P Q k9 ((x, ks, kc, ke) : RT)).2.2.1) ((rnK E N w P Q k9 ((x, ks, kc, ke) : RT)).2.2.2) tl tf ol of_ fk U.1)) (fun u => wHT cI cJ h ta ou de ra od gr tb ob o1 o2 b1 b2 b3 u.1 ++ [(o, .inl (cJ, 1, .inr (.inl (aL u.2))))]) (va_A (wHo h ta ou de ra od gr ++ wBR 2000 cI ta tb tF tL ++ wBR 3502 cI ou ob oF oL ++ wDe de nx nd sz1 kd pl ++ wRa cJ ra an ax fn fx pp qq st ch er ++ wOr cI cJ od o1 o2 q1 q2 qs ++ wGr cI gr b1 b2 b3 f1 f2 f3 n sz wh ++ [(o, .inl (cJ, 1, .inr (.inl (aL g0))))]) sz0)) XN 1 6 (va_A (wHo h ta ou de ra od gr ++ wBR 2000 cI ta tb tF tL ++ wBR 3502 cI ou ob oF oL ++ wDe de nx nd sz1 kd pl ++ wRa cJ ra an ax fn fx pp qq st ch er ++ wOr cI cJ od o1 o2 q1 q2 qs ++ wGr cI gr b1 b2 b3 f1 f2 f3 n sz wh ++ [(o, .inl (cJ, 1, .inr (.inl (aL g0))))]) sz0) := by
  refine vx_ofWH (cc := cL_run) (maxL := 6) (ret := (some .int)) (hh := [(0, 11, 14, 19)]) (by decide) rfl ?_
  intro p e s m args below meth c s₁ B hml hv
  obtain ⟨rfl, hsz, hP, hE, hD0, hZ⟩ := hv
  have hx := B.exec
  have hb := B.bytes
  have hr := B.returns
  have hts := atoms_spec (ws := wsL_run) B.pre
  have hown : s.vm.findClass RL = some m.cls := findClass_of_methodNamed B.named
  have hlocks := B.notSynchronized
  have hK := hE.1
  have htab := vx_table (x := yL_run) B (hts _ List.mem_cons_self)
  subst hsz
  have hD := hD0.self (sz := s.heap.size)
  generalize hAe : va_A (wHo h ta ou de ra od gr ++ wBR 2000 cI ta tb tF tL ++ wBR 3502 cI ou ob oF oL ++ wDe de nx nd sz1 kd pl ++ wRa cJ ra an ax fn fx pp qq st ch er ++ wOr cI cJ od o1 o2 q1 q2 qs ++ wGr cI gr b1 b2 b3 f1 f2 f3 n sz wh ++ [(o, .inl (cJ, 1, .inr (.inl (aL g0))))]) s.heap.size = A at hD hZ ⊢
  have hA : ∀ q : Nat, s.heap.size ≤ q → A q := fun q h => by rw [← hAe]; exact Or.inr h
  have hS : va_S A s.heap s.heap [] := va_S.rf
  have hP : va_P D vwCl (wHo h ta ou de ra od gr ++ wBR 2000 cI ta tb tF tL ++ wBR 3502 cI ou ob oF oL ++ wDe de nx nd sz1 kd pl ++ wRa cJ ra an ax fn fx pp qq st ch er ++ wOr cI cJ od o1 o2 q1 q2 qs ++ wGr cI gr b1 b2 b3 f1 f2 f3 n sz wh ++ [(o, .inl (cJ, 1, .inr (.inl (aL g0))))]) s.heap := hP
  have hw_1 := hts (.classLink RL 19 "java/lang/IllegalArgumentException") (by decide +kernel)
  have hl := lv_entry ([.ref h, .int (iZ a), .long (lZ b), .ref o]) (n := 6) (Nat.le_of_ble_eq_true rfl)
  rw [lg_entry_eq]
  generalize (lg_sl ([.ref h, .int (iZ a), .long (lZ b), .ref o]) ++ List.replicate (6 - (lg_sl ([.ref h, .int (iZ a), .long (lZ b), .ref o])).length) Slot.unset).toArray = ls at hl ⊢
  have hl : lv_has ls 6 [(0, .ref h), (1, .int (iZ a)), (2, .long (lZ b)), (4, .ref o)] := hl
  obtain ⟨hG, hR, s1, s2, s3, s5, s6, t1, t1b, t2, t3, y1, y1b, y2, y3, d1⟩ := id hH
  dsimp only at hG hR s1 s2 s3 t1 t1b y1 y1b d1
  have hG : GR N E w f1 f2 f3 n sz wh := hG
  obtain ⟨g1, g2, g3, g4, g5, g6, g7, g8, g9, g10, g11⟩ := id hG
  obtain ⟨k1, k2, k3, k4, k5, k6⟩ := id hR
  refine lv_aload hx hb dL_run_0 (lv_at hl 3 rfl) ?_
  refine z_iconst hx hb dL_run_2 ?_
  refine lv_aload_n hx hb dL_run_3 rfl (lv_at hl 0 rfl) ?_
  refine lv_iload_n hx hb dL_run_4 rfl (lv_at hl 1 rfl) ?_
  refine lv_lload_n hx hb dL_run_5 rfl (lv_at hl 2 rfl) ?_
  refine rwx_i (wr := [(o, .inl (cJ, 1, .inr (.inl (aL g0))))]) (vx_runV (As := [.int (iZ a), .long (lZ b)]) (rest := [.int (iZ 0), .ref o]) ⟨hx, hb, hml, hown, hts⟩ (c_X5_run l hst D cI cJ cB cZ h ta ou de ra od gr tb ob an ax o1 o2 b1 b2 b3 tF tL oF oL nx nd sz1 kd pl fn fx pp qq st ch er q1 q2 qs f1 f2 f3 n sz wh N E w P Q x ks kc ke tl tf ol of_ fk hH a ha b hb0 hks _) (cwV 2 hts gL_run_X5_run rfl rfl rfl (by decide +kernel) ⟨Nat.le_of_ble_eq_true rfl, Nat.le_of_ble_eq_true rfl⟩) (preXV hE (hP.sub (ws' := (wHo h ta ou de ra od gr ++ wBR 2000 cI ta tb tF tL ++ wBR 3502 cI ou ob oF oL ++ wDe de nx nd sz1 kd pl ++ wRa cJ ra an ax fn fx pp qq st ch er ++ wOr cI cJ od o1 o2 q1 q2 qs ++ wGr cI gr b1 b2 b3 f1 f2 f3 n sz wh)) [0, 1, 2, 3, 4, 5, 6, 7, 8, 9, 10, 11, 12, 13, 14, 15] rfl) (hD.sub (ws' := (wHo h ta ou de ra od gr ++ wBR 2000 cI ta tb tF tL ++ wBR 3502 cI ou ob oF oL ++ wDe de nx nd sz1 kd pl ++ wRa cJ ra an ax fn fx pp qq st ch er ++ wOr cI cJ od o1 o2 q1 q2 qs ++ wGr cI gr b1 b2 b3 f1 f2 f3 n sz wh)) [0, 1, 2, 3, 4, 5, 6, 7, 8, 9, 10, 11, 12, 13, 14, 15] (by decide) rfl) (SXZ.sub (wc := (wHo h ta ou de ra od gr ++ wBR 2000 cI ta tb tF tL ++ wBR 3502 cI ou ob oF oL ++ wDe de nx nd sz1 kd pl ++ wRa cJ ra an ax fn fx pp qq st ch er ++ wOr cI cJ od o1 o2 q1 q2 qs ++ wGr cI gr b1 b2 b3 f1 f2 f3 n sz wh)) hZ hD hS hA [0, 1, 2, 3, 4, 5, 6, 7, 8, 9, 10, 11, 12, 13, 14, 15] rfl) 0 rfl rfl) rfl rfl hl.1 rfl (lv_room (Nat.le_of_ble_eq_true rfl)) dL_run_6 ⟨Nat.le_of_ble_eq_true rfl, Nat.le_of_ble_eq_true rfl⟩) hP hD hS hA [0, 1, 2, 3, 4, 5, 6, 7, 8, 9, 10, 11, 12, 13, 14, 15] [16] rfl rfl (by decide) (by decide) (fun ce q9 H locs hpx hP hD hS hce hcv hcl => ?_) (fun r_1 u_3 H locs hr_2 hP hD hS => ?_)
  · have hP := hP.sub (ws' := (wHo h ta ou de ra od gr ++ wBR 2000 cI ta tb tF tL ++ wBR 3502 cI ou ob oF oL ++ wDe de nx nd sz1 kd pl ++ wRa cJ ra an ax fn fx pp qq st ch er ++ wOr cI cJ od o1 o2 q1 q2 qs ++ wGr cI gr b1 b2 b3 f1 f2 f3 n sz wh ++ [(o, .inl (cJ, 1, .inr (.inl (aL g0))))])) [1, 2, 3, 4, 5, 6, 7, 8, 9, 10, 11, 12, 13, 14, 15, 16, 0] rfl
    have hD := hD.sub (ws' := (wHo h ta ou de ra od gr ++ wBR 2000 cI ta tb tF tL ++ wBR 3502 cI ou ob oF oL ++ wDe de nx nd sz1 kd pl ++ wRa cJ ra an ax fn fx pp qq st ch er ++ wOr cI cJ od o1 o2 q1 q2 qs ++ wGr cI gr b1 b2 b3 f1 f2 f3 n sz wh ++ [(o, .inl (cJ, 1, .inr (.inl (aL g0))))])) [1, 2, 3, 4, 5, 6, 7, 8, 9, 10, 11, 12, 13, 14, 15, 16, 0] (by decide) rfl
    refine vx_catch (name := "java/lang/IllegalArgumentException") hown [] ⟨0, 11, 14, 19⟩ [] htab (fun z hz => absurd hz List.not_mem_nil) (by decide) (by decide) hw_1 (va_Nw.use rfl hZ.2.2.1) hce hcv hcl ?_
    refine W.eq (g2 := F0 m 14 ls [.ref q9]) rfl ?_
    refine lv_astore (lv' := [(5, .ref q9), (0, .ref h), (1, .int (iZ a)), (2, .long (lZ b)), (4, .ref o)]) hx hb dL_run_14 hl (by decide) rfl (fun ls hl => ?_)
    refine z_iconst hx hb dL_run_16 ?_
    refine vx_ret (W.widen (k := 1) (n := 6) (Nat.le_of_ble_eq_true rfl) (Nat.le_of_ble_eq_true rfl) ?_)
    exact rw_iret (z := 1) (((tF, tL), (oF, oL), (nx, nd, sz1, kd, pl), ((an, ax), fn, fx, pp, qq, st, ch, er), (q1, q2, qs), f1, f2, f3, n, sz, wh), g0) hx hb hr hlocks hP hD hS (Or.inl ⟨rfl, hpx, hH⟩) dL_run_17
  have hP := hP.sub (ws' := (wHo h ta ou de ra od gr ++ wBR 2000 cI ta tb u_3.1.1 u_3.1.2 ++ wBR 3502 cI ou ob u_3.2.1.1 u_3.2.1.2 ++ wDe de u_3.2.2.1.1 u_3.2.2.1.2.1 u_3.2.2.1.2.2.1 u_3.2.2.1.2.2.2.1 u_3.2.2.1.2.2.2.2 ++ wRa cJ ra u_3.2.2.2.1.1.1 u_3.2.2.2.1.1.2 u_3.2.2.2.1.2.1 u_3.2.2.2.1.2.2.1 u_3.2.2.2.1.2.2.2.1 u_3.2.2.2.1.2.2.2.2.1 u_3.2.2.2.1.2.2.2.2.2.1 u_3.2.2.2.1.2.2.2.2.2.2.1 u_3.2.2.2.1.2.2.2.2.2.2.2 ++ wOr cI cJ od o1 o2 u_3.2.2.2.2.1.1 u_3.2.2.2.2.1.2.1 u_3.2.2.2.2.1.2.2 ++ wGr cI gr b1 b2 b3 u_3.2.2.2.2.2.1 u_3.2.2.2.2.2.2.1 u_3.2.2.2.2.2.2.2.1 u_3.2.2.2.2.2.2.2.2.1 u_3.2.2.2.2.2.2.2.2.2.1 u_3.2.2.2.2.2.2.2.2.2.2 ++ [(o, .inl (cJ, 1, .inr (.inl (aL g0))))])) [1, 2, 3, 4, 5, 6, 7, 8, 9, 10, 11, 12, 13, 14, 15, 16, 0] rfl
  have hD := hD.sub (ws' := (wHo h ta ou de ra od gr ++ wBR 2000 cI ta tb u_3.1.1 u_3.1.2 ++ wBR 3502 cI ou ob u_3.2.1.1 u_3.2.1.2 ++ wDe de u_3.2.2.1.1 u_3.2.2.1.2.1 u_3.2.2.1.2.2.1 u_3.2.2.1.2.2.2.1 u_3.2.2.1.2.2.2.2 ++ wRa cJ ra u_3.2.2.2.1.1.1 u_3.2.2.2.1.1.2 u_3.2.2.2.1.2.1 u_3.2.2.2.1.2.2.1 u_3.2.2.2.1.2.2.2.1 u_3.2.2.2.1.2.2.2.2.1 u_3.2.2.2.1.2.2.2.2.2.1 u_3.2.2.2.1.2.2.2.2.2.2.1 u_3.2.2.2.1.2.2.2.2.2.2.2 ++ wOr cI cJ od o1 o2 u_3.2.2.2.2.1.1 u_3.2.2.2.2.1.2.1 u_3.2.2.2.2.1.2.2 ++ wGr cI gr b1 b2 b3 u_3.2.2.2.2.2.1 u_3.2.2.2.2.2.2.1 u_3.2.2.2.2.2.2.2.1 u_3.2.2.2.2.2.2.2.2.1 u_3.2.2.2.2.2.2.2.2.2.1 u_3.2.2.2.2.2.2.2.2.2.2 ++ [(o, .inl (cJ, 1, .inr (.inl (aL g0))))])) [1, 2, 3, 4, 5, 6, 7, 8, 9, 10, 11, 12, 13, 14, 15, 16, 0] (by decide) rfl
  obtain ⟨e1, k9, e2, e3, e4⟩ := hr_2
  have e5 := e3.1
  refine z_i2l hx hb dL_run_9 (by omega) ?_
  refine z_last hx hb hK hP hD hS 16 1 rfl rfl 0 (by omega) (by omega) (by omega) dL_run_10 (fun H locs hP hD hS => ?_)
  have hP : va_P D vwCl (wHo h ta ou de ra od gr ++ wBR 2000 cI ta tb u_3.1.1 u_3.1.2 ++ wBR 3502 cI ou ob u_3.2.1.1 u_3.2.1.2 ++ wDe de u_3.2.2.1.1 u_3.2.2.1.2.1 u_3.2.2.1.2.2.1 u_3.2.2.1.2.2.2.1 u_3.2.2.1.2.2.2.2 ++ wRa cJ ra u_3.2.2.2.1.1.1 u_3.2.2.2.1.1.2 u_3.2.2.2.1.2.1 u_3.2.2.2.1.2.2.1 u_3.2.2.2.1.2.2.2.1 u_3.2.2.2.1.2.2.2.2.1 u_3.2.2.2.1.2.2.2.2.2.1 u_3.2.2.2.1.2.2.2.2.2.2.1 u_3.2.2.2.1.2.2.2.2.2.2.2 ++ wOr cI cJ od o1 o2 u_3.2.2.2.2.1.1 u_3.2.2.2.2.1.2.1 u_3.2.2.2.2.1.2.2 ++ wGr cI gr b1 b2 b3 u_3.2.2.2.2.2.1 u_3.2.2.2.2.2.2.1 u_3.2.2.2.2.2.2.2.1 u_3.2.2.2.2.2.2.2.2.1 u_3.2.2.2.2.2.2.2.2.2.1 u_3.2.2.2.2.2.2.2.2.2.2 ++ [(o, .inl (cJ, 1, .inr (.inl (aL (uZ g0 0 r_1)))))]) H := hP
  have hD : va_D A (wHo h ta ou de ra od gr ++ wBR 2000 cI ta tb u_3.1.1 u_3.1.2 ++ wBR 3502 cI ou ob u_3.2.1.1 u_3.2.1.2 ++ wDe de u_3.2.2.1.1 u_3.2.2.1.2.1 u_3.2.2.1.2.2.1 u_3.2.2.1.2.2.2.1 u_3.2.2.1.2.2.2.2 ++ wRa cJ ra u_3.2.2.2.1.1.1 u_3.2.2.2.1.1.2 u_3.2.2.2.1.2.1 u_3.2.2.2.1.2.2.1 u_3.2.2.2.1.2.2.2.1 u_3.2.2.2.1.2.2.2.2.1 u_3.2.2.2.1.2.2.2.2.2.1 u_3.2.2.2.1.2.2.2.2.2.2.1 u_3.2.2.2.1.2.2.2.2.2.2.2 ++ wOr cI cJ od o1 o2 u_3.2.2.2.2.1.1 u_3.2.2.2.2.1.2.1 u_3.2.2.2.2.1.2.2 ++ wGr cI gr b1 b2 b3 u_3.2.2.2.2.2.1 u_3.2.2.2.2.2.2.1 u_3.2.2.2.2.2.2.2.1 u_3.2.2.2.2.2.2.2.2.1 u_3.2.2.2.2.2.2.2.2.2.1 u_3.2.2.2.2.2.2.2.2.2.2 ++ [(o, .inl (cJ, 1, .inr (.inl (aL (uZ g0 0 r_1)))))]) := hD
  refine lv_goto (tgt := 18) hx hb dL_run_11 (by decide) ?_
  refine z_iconst hx hb dL_run_18 ?_
  refine vx_ret (W.widen (k := 1) (n := 6) (Nat.le_of_ble_eq_true rfl) (Nat.le_of_ble_eq_true rfl) ?_)
  exact rw_iret (z := 0) (((u_3.1.1, u_3.1.2), (u_3.2.1.1, u_3.2.1.2), (u_3.2.2.1.1, u_3.2.2.1.2.1, u_3.2.2.1.2.2.1, u_3.2.2.1.2.2.2.1, u_3.2.2.1.2.2.2.2), ((u_3.2.2.2.1.1.1, u_3.2.2.2.1.1.2), u_3.2.2.2.1.2.1, u_3.2.2.2.1.2.2.1, u_3.2.2.2.1.2.2.2.1, u_3.2.2.2.1.2.2.2.2.1, u_3.2.2.2.1.2.2.2.2.2.1, u_3.2.2.2.1.2.2.2.2.2.2.1, u_3.2.2.2.1.2.2.2.2.2.2.2), (u_3.2.2.2.2.1.1, u_3.2.2.2.2.1.2.1, u_3.2.2.2.2.1.2.2), u_3.2.2.2.2.2.1, u_3.2.2.2.2.2.2.1, u_3.2.2.2.2.2.2.2.1, u_3.2.2.2.2.2.2.2.2.1, u_3.2.2.2.2.2.2.2.2.2.1, u_3.2.2.2.2.2.2.2.2.2.2), uZ g0 0 r_1) hx hb hr hlocks hP hD hS (Or.inr ⟨rfl, e1, k9, ((uZ_s g0 0 _).trans e2), e3, e4⟩) dL_run_19
