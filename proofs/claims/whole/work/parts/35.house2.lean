set_option maxHeartbeats 4000000 in
set_option maxRecDepth 100000 in
theorem c_X5_beginIf (l : Launch) (D : va_G) (cI cJ cB cZ : ClassId) (h ta ou de ra od gr an ax b1 b2 b3 : Nat) (fn fx : Nat → Int) (pp qq st ch er : Int) (f1 f2 f3 : Nat → Int) (n sz wh : Int) (b N : Nat) (hb0 : b ≤ 1) (hN : 1 ≤ N ∧ N ≤ 250) (hn : n = (N : Int))  (sz0 : Nat) : Met l yX5_beginIf wsX5_beginIf ({ frames := 2, cells := 0, slots := 0, locals := 49 } : Room) (Pre1 D cI cJ cB cZ [.ref h, .int (iZ ((b : Nat) : Int))] (wHo h ta ou de ra od gr ++ wRa cJ ra an ax fn fx pp qq st ch er ++ wGr cI gr b1 b2 b3 f1 f2 f3 n sz wh) sz0) (rwI (S := (Nat → Int) × Int × Int × Int) D (fun z U => z = (b : Int) ∧ (b = 1 → (∀ v, v < N → U.1 v = ((beg N v : Nat) : Int)) ∧ U.2 = (0, 8589934592, 8589934592)) ∧ (b = 0 → U = (fn, st, ch, er))) (fun u => wHo h ta ou de ra od gr ++ wRa cJ ra an ax u.1 fx pp qq u.2.1 u.2.2.1 u.2.2.2 ++ wGr cI gr b1 b2 b3 f1 f2 f3 n sz wh) (va_A (wHo h ta ou de ra od gr ++ wRa cJ ra an ax fn fx pp qq st ch er ++ wGr cI gr b1 b2 b3 f1 f2 f3 n sz wh) sz0)) 0 0 (va_A (wHo h ta ou de ra od gr ++ wRa cJ ra an ax fn fx pp qq st ch er ++ wGr cI gr b1 b2 b3 f1 f2 f3 n sz wh) sz0) := by
  refine Met.ofW (cc := cX5_beginIf) (maxL := 2) (ret := (some .boolean)) (by decide) rfl ?_
  intro p e s m args below meth c s₁ B hml hv
  obtain ⟨rfl, hsz, hP, hE, hD0⟩ := hv
  have hx := B.exec
  have hb := B.bytes
  have hr := B.returns
  have hts := atoms_spec (ws := wsX5_beginIf) B.pre
  have hown : s.vm.findClass RX5 = some m.cls := findClass_of_methodNamed B.named
  have hlocks := B.notSynchronized
  have hK := hE.1
  subst hsz
  have hD := hD0.self (sz := s.heap.size)
  generalize hAe : va_A (wHo h ta ou de ra od gr ++ wRa cJ ra an ax fn fx pp qq st ch er ++ wGr cI gr b1 b2 b3 f1 f2 f3 n sz wh) s.heap.size = A at hD ⊢
  have hA : ∀ q : Nat, s.heap.size ≤ q → A q := fun q h => by rw [← hAe]; exact Or.inr h
  have hS : va_S A s.heap s.heap [] := va_S.rf
  have hP : va_P D vwCl (wHo h ta ou de ra od gr ++ wRa cJ ra an ax fn fx pp qq st ch er ++ wGr cI gr b1 b2 b3 f1 f2 f3 n sz wh) s.heap := hP
  have hi_2 : ∀ w ∈ wsX20, w ∈ wsX5_beginIf := by decide +kernel
  have hi_5 : ∀ w ∈ wsX50, w ∈ wsX5_beginIf := by decide +kernel
  have hw_1 := hts (.fieldLink RX5 31 "RankHouse" "ranks" "LRankHouse$Ranks;") (by decide +kernel)
  have hw_2 := hts (.fieldLink RX5 45 "RankHouse" "graph" "LRankHouse$Graph;") (by decide +kernel)
  have hw_3 := hE.nl (w := .fieldLinkNest RX5 49 "RankHouse$Graph" "nodes" "I" "RankHouse") (by decide +kernel) ([.ref h, .int (iZ ((b : Nat) : Int))] : List Value).toArray
  have hl := lv_entry ([.ref h, .int (iZ ((b : Nat) : Int))]) (n := 2) (Nat.le_of_ble_eq_true rfl)
  rw [lg_entry_eq]
  generalize (lg_sl ([.ref h, .int (iZ ((b : Nat) : Int))]) ++ List.replicate (2 - (lg_sl ([.ref h, .int (iZ ((b : Nat) : Int))])).length) Slot.unset).toArray = ls at hl ⊢
  have hl : lv_has ls 2 [(0, .ref h), (1, .int (iZ ((b : Nat) : Int)))] := hl
  refine lv_iload_n hx hb dX5_beginIf_0 rfl (lv_at hl 1 rfl) ?_
  refine z_if_eq (tgt := 18) hx hb dX5_beginIf_1 (by decide) (by omega) (fun c_1 => ?_) (fun c_1 => ?_)
  · refine lv_iload_n hx hb dX5_beginIf_18 rfl (lv_at hl 1 rfl) ?_
    exact rw_zret (z := ((b : Nat) : Int)) (fn, st, ch, er) hx hb hr hlocks (by omega) hP hD hS ⟨rfl, fun q => by omega, fun _ => rfl⟩ dX5_beginIf_19
  · refine lv_aload_n hx hb dX5_beginIf_4 rfl (lv_at hl 0 rfl) ?_
    refine va_get (v := .ref ra) (C := RX5) (T := TX5) (N := 6) (ci := 5) hx hb hts hi_5 hown hK hP 0 rfl rfl 3 (by decide) hw_1 (fun _ h9 => h9) rfl dX5_beginIf_5 ?_
    refine lv_aload_n hx hb dX5_beginIf_8 rfl (lv_at hl 0 rfl) ?_
    refine va_get (v := .ref gr) (C := RX5) (T := TX5) (N := 6) (ci := 5) hx hb hts hi_5 hown hK hP 0 rfl rfl 5 (by decide) hw_2 (fun _ h9 => h9) rfl dX5_beginIf_9 ?_
    refine va_getN (v := .int (iZ n)) (C := RX2) (T := TX2) (N := 6) (ci := 2) hx hb hts hi_2 hown hK hP 4 rfl rfl 3 (by decide) hw_3 (fun _ h9 => h9) rfl dX5_beginIf_12 ?_
    refine rw_v (wr := [(h, .inr (5, [.ref ta, .ref ou, .ref de, .ref ra, .ref od, .ref gr])), (gr, .inr (2, [.ref b1, .ref b2, .ref b3, .int (iZ n), .int (iZ sz), .int (iZ wh)])), (b1, .inl (cI, 251, .inl (aI f1))), (b2, .inl (cI, 2500, .inl (aI f2))), (b3, .inl (cI, 250, .inl (aI f3)))]) (va_runV (As := [.int (iZ n)]) (rest := []) ⟨hx, hb, hml, hown, hts⟩ (c_X4_begin l D cI cJ cB cZ ra an ax fn fx pp qq st ch er n N hN hn _) (cwV 1 hts gX5_beginIf_X4_begin rfl rfl rfl (by decide +kernel) ⟨Nat.le_of_ble_eq_true rfl, Nat.le_of_ble_eq_true rfl⟩) (pre1V hE (hP.sub (ws' := (wRa cJ ra an ax fn fx pp qq st ch er)) [1, 2, 3] rfl) (hD.sub (ws' := (wRa cJ ra an ax fn fx pp qq st ch er)) [1, 2, 3] (by decide) rfl) 0 rfl rfl) rfl rfl hl.1 rfl (lv_room (Nat.le_of_ble_eq_true rfl)) dX5_beginIf_15 ⟨Nat.le_of_ble_eq_true rfl, Nat.le_of_ble_eq_true rfl⟩) hP hD hS hA [1, 2, 3] [0, 4, 5, 6, 7] rfl rfl (by decide) (by decide) (fun u_4 H locs hr_3 hP hD hS => ?_)
    have hP := hP.sub (ws' := (wHo h ta ou de ra od gr ++ wRa cJ ra an ax u_4 fx pp qq 0 8589934592 8589934592 ++ wGr cI gr b1 b2 b3 f1 f2 f3 n sz wh)) [0, 5, 6, 7, 1, 2, 3, 4] rfl
    have hD := hD.sub (ws' := (wHo h ta ou de ra od gr ++ wRa cJ ra an ax u_4 fx pp qq 0 8589934592 8589934592 ++ wGr cI gr b1 b2 b3 f1 f2 f3 n sz wh)) [0, 5, 6, 7, 1, 2, 3, 4] (by decide) rfl
    have hq9 := hr_3
    refine lv_iload_n hx hb dX5_beginIf_18 rfl (lv_at hl 1 rfl) ?_
    exact rw_zret (z := ((b : Nat) : Int)) (u_4, 0, 8589934592, 8589934592) hx hb hr hlocks (by omega) hP hD hS ⟨rfl, fun _ => ⟨hq9, rfl⟩, fun q => by omega⟩ dX5_beginIf_19
set_option maxHeartbeats 4000000 in
set_option maxRecDepth 100000 in
theorem c_X5_again (l : Launch) (D : va_G) (cI cJ cB cZ : ClassId) (h ta ou de ra od gr tb ob an ax o1 o2 b1 b2 b3 : Nat) (tF : Nat → Int) (tL : Int) (oF : Nat → Int) (oL : Int) (nx nd sz1 kd pl : Int) (fn fx : Nat → Int) (pp qq st ch er : Int) (q1 q2 : Nat → Int) (qs : Int) (f1 f2 f3 : Nat → Int) (n sz wh : Int) (N : Nat) (E : Ed) (w : Nat → Nat) (P Q : Nat) (x : Nat → Nat) (ks kc ke tl : Nat) (tf : Nat → Int) (ol : Nat) (of_ : Nat → Int) (fk : Int) (hH : HR N E w P Q x ks kc ke tl tf ol of_ fk ((tF, tL), (oF, oL), (nx, nd, sz1, kd, pl), ((an, ax), fn, fx, pp, qq, st, ch, er), (q1, q2, qs), f1, f2, f3, n, sz, wh))  (sz0 : Nat) : Met l yX5_again wsX5_again ({ frames := 2, cells := 0, slots := 0, locals := 49 } : Room) (Pre1 D cI cJ cB cZ [.ref h] (wHo h ta ou de ra od gr ++ wBR 2000 cI ta tb tF tL ++ wBR 3502 cI ou ob oF oL ++ wDe de nx nd sz1 kd pl ++ wRa cJ ra an ax fn fx pp qq st ch er ++ wOr cI cJ od o1 o2 q1 q2 qs ++ wGr cI gr b1 b2 b3 f1 f2 f3 n sz wh) sz0) (rwV (S := HT) D (fun U => HR N E w P Q (beg N) 0 8589934592 8589934592 tl tf ol of_ fk U) (fun u => wHT cI cJ h ta ou de ra od gr tb ob o1 o2 b1 b2 b3 u) (va_A (wHo h ta ou de ra od gr ++ wBR 2000 cI ta tb tF tL ++ wBR 3502 cI ou ob oF oL ++ wDe de nx nd sz1 kd pl ++ wRa cJ ra an ax fn fx pp qq st ch er ++ wOr cI cJ od o1 o2 q1 q2 qs ++ wGr cI gr b1 b2 b3 f1 f2 f3 n sz wh) sz0)) 0 0 (va_A (wHo h ta ou de ra od gr ++ wBR 2000 cI ta tb tF tL ++ wBR 3502 cI ou ob oF oL ++ wDe de nx nd sz1 kd pl ++ wRa cJ ra an ax fn fx pp qq st ch er ++ wOr cI cJ od o1 o2 q1 q2 qs ++ wGr cI gr b1 b2 b3 f1 f2 f3 n sz wh) sz0) := by
  refine Met.ofW (cc := cX5_again) (maxL := 1) (ret := none) (by decide) rfl ?_
  intro p e s m args below meth c s₁ B hml hv
  obtain ⟨rfl, hsz, hP, hE, hD0⟩ := hv
  have hx := B.exec
  have hb := B.bytes
  have hr := B.returns
  have hts := atoms_spec (ws := wsX5_again) B.pre
  have hown : s.vm.findClass RX5 = some m.cls := findClass_of_methodNamed B.named
  have hlocks := B.notSynchronized
  have hK := hE.1
  subst hsz
  have hD := hD0.self (sz := s.heap.size)
  generalize hAe : va_A (wHo h ta ou de ra od gr ++ wBR 2000 cI ta tb tF tL ++ wBR 3502 cI ou ob oF oL ++ wDe de nx nd sz1 kd pl ++ wRa cJ ra an ax fn fx pp qq st ch er ++ wOr cI cJ od o1 o2 q1 q2 qs ++ wGr cI gr b1 b2 b3 f1 f2 f3 n sz wh) s.heap.size = A at hD ⊢
  have hA : ∀ q : Nat, s.heap.size ≤ q → A q := fun q h => by rw [← hAe]; exact Or.inr h
  have hS : va_S A s.heap s.heap [] := va_S.rf
  have hP : va_P D vwCl (wHo h ta ou de ra od gr ++ wBR 2000 cI ta tb tF tL ++ wBR 3502 cI ou ob oF oL ++ wDe de nx nd sz1 kd pl ++ wRa cJ ra an ax fn fx pp qq st ch er ++ wOr cI cJ od o1 o2 q1 q2 qs ++ wGr cI gr b1 b2 b3 f1 f2 f3 n sz wh) s.heap := hP
  have hi_2 : ∀ w ∈ wsX20, w ∈ wsX5_again := by decide +kernel
  have hi_5 : ∀ w ∈ wsX50, w ∈ wsX5_again := by decide +kernel
  have hw_1 := hts (.fieldLink RX5 31 "RankHouse" "ranks" "LRankHouse$Ranks;") (by decide +kernel)
  have hw_2 := hts (.fieldLink RX5 45 "RankHouse" "graph" "LRankHouse$Graph;") (by decide +kernel)
  have hw_3 := hE.nl (w := .fieldLinkNest RX5 49 "RankHouse$Graph" "nodes" "I" "RankHouse") (by decide +kernel) ([.ref h] : List Value).toArray
  have hl := lv_entry ([.ref h]) (n := 1) (Nat.le_of_ble_eq_true rfl)
  rw [lg_entry_eq]
  generalize (lg_sl ([.ref h]) ++ List.replicate (1 - (lg_sl ([.ref h])).length) Slot.unset).toArray = ls at hl ⊢
  have hl : lv_has ls 1 [(0, .ref h)] := hl
  obtain ⟨hG, hR, s1, s2, s3, s5, s6, t1, t1b, t2, t3, y1, y1b, y2, y3, d1⟩ := id hH
  dsimp only at hG hR s1 s2 s3 t1 t1b y1 y1b d1
  subst t1
  subst y1
  have hG : GR N E w f1 f2 f3 n sz wh := hG
  obtain ⟨g1, g2, g3, g4, g5, g6, g7, g8, g9, g10, g11⟩ := id hG
  obtain ⟨k1, k2, k3, k4, k5, k6⟩ := id hR
  refine lv_aload_n hx hb dX5_again_0 rfl (lv_at hl 0 rfl) ?_
  refine va_get (v := .ref ra) (C := RX5) (T := TX5) (N := 6) (ci := 5) hx hb hts hi_5 hown hK hP 0 rfl rfl 3 (by decide) hw_1 (fun _ h9 => h9) rfl dX5_again_1 ?_
  refine lv_aload_n hx hb dX5_again_4 rfl (lv_at hl 0 rfl) ?_
  refine va_get (v := .ref gr) (C := RX5) (T := TX5) (N := 6) (ci := 5) hx hb hts hi_5 hown hK hP 0 rfl rfl 5 (by decide) hw_2 (fun _ h9 => h9) rfl dX5_again_5 ?_
  refine va_getN (v := .int (iZ n)) (C := RX2) (T := TX2) (N := 6) (ci := 2) hx hb hts hi_2 hown hK hP 12 rfl rfl 3 (by decide) hw_3 (fun _ h9 => h9) rfl dX5_again_8 ?_
  refine rw_v (wr := [(h, .inr (5, [.ref ta, .ref ou, .ref de, .ref ra, .ref od, .ref gr])), (ta, .inr (0, [.ref tb, .int (iZ tL)])), (tb, .inl (cI, 2000, .inl (aI tF))), (ou, .inr (0, [.ref ob, .int (iZ oL)])), (ob, .inl (cI, 3502, .inl (aI oF))), (de, .inr (1, [.int (iZ nx), .int (iZ nd), .int (iZ sz1), .int (iZ kd), .int (iZ pl)])), (od, .inr (3, [.ref o1, .ref o2, .int (iZ qs)])), (o1, .inl (cI, 250, .inl (aI q1))), (o2, .inl (cJ, 250, .inr (.inl (aL q2)))), (gr, .inr (2, [.ref b1, .ref b2, .ref b3, .int (iZ n), .int (iZ sz), .int (iZ wh)])), (b1, .inl (cI, 251, .inl (aI f1))), (b2, .inl (cI, 2500, .inl (aI f2))), (b3, .inl (cI, 250, .inl (aI f3)))]) (va_runV (As := [.int (iZ n)]) (rest := []) ⟨hx, hb, hml, hown, hts⟩ (c_X4_begin l D cI cJ cB cZ ra an ax fn fx pp qq st ch er n N (by omega) g3 _) (cwV 1 hts gX5_again_X4_begin rfl rfl rfl (by decide +kernel) ⟨Nat.le_of_ble_eq_true rfl, Nat.le_of_ble_eq_true rfl⟩) (pre1V hE (hP.sub (ws' := (wRa cJ ra an ax fn fx pp qq st ch er)) [6, 7, 8] rfl) (hD.sub (ws' := (wRa cJ ra an ax fn fx pp qq st ch er)) [6, 7, 8] (by decide) rfl) 0 rfl rfl) rfl rfl hl.1 rfl (lv_room (Nat.le_of_ble_eq_true rfl)) dX5_again_11 ⟨Nat.le_of_ble_eq_true rfl, Nat.le_of_ble_eq_true rfl⟩) hP hD hS hA [6, 7, 8] [0, 1, 2, 3, 4, 5, 9, 10, 11, 12, 13, 14, 15] rfl rfl (by decide) (by decide) (fun u_3 H locs hr_2 hP hD hS => ?_)
  have hP := hP.sub (ws' := (wHo h ta ou de ra od gr ++ wBR 2000 cI ta tb tF tL ++ wBR 3502 cI ou ob oF oL ++ wDe de nx nd sz1 kd pl ++ wRa cJ ra an ax u_3 fx pp qq 0 8589934592 8589934592 ++ wOr cI cJ od o1 o2 q1 q2 qs ++ wGr cI gr b1 b2 b3 f1 f2 f3 n sz wh)) [0, 1, 2, 3, 4, 5, 13, 14, 15, 6, 7, 8, 9, 10, 11, 12] rfl
  have hD := hD.sub (ws' := (wHo h ta ou de ra od gr ++ wBR 2000 cI ta tb tF tL ++ wBR 3502 cI ou ob oF oL ++ wDe de nx nd sz1 kd pl ++ wRa cJ ra an ax u_3 fx pp qq 0 8589934592 8589934592 ++ wOr cI cJ od o1 o2 q1 q2 qs ++ wGr cI gr b1 b2 b3 f1 f2 f3 n sz wh)) [0, 1, 2, 3, 4, 5, 13, 14, 15, 6, 7, 8, 9, 10, 11, 12] (by decide) rfl
  have hq9 := hr_2
  exact rw_vret ((tF, tL), (oF, oL), (nx, nd, sz1, kd, pl), ((an, ax), u_3, fx, pp, qq, 0, 8589934592, 8589934592), (q1, q2, qs), f1, f2, f3, n, sz, wh) hx hb hr hlocks hP hD hS ⟨hG, (RK_beg (by omega) hR hq9), rfl, rfl, rfl, (Nat.le_refl _), (Nat.le_refl _), rfl, t1b, t2, t3, rfl, y1b, y2, y3, d1⟩ dX5_again_14
set_option maxHeartbeats 4000000 in
set_option maxRecDepth 100000 in
theorem c_X5_end (l : Launch) (D : va_G) (cI cJ cB cZ : ClassId) (h ta ou de ra od gr tb ob an ax o1 o2 b1 b2 b3 : Nat) (tF : Nat → Int) (tL : Int) (oF : Nat → Int) (oL : Int) (nx nd sz1 kd pl : Int) (fn fx : Nat → Int) (pp qq st ch er : Int) (q1 q2 : Nat → Int) (qs : Int) (f1 f2 f3 : Nat → Int) (n sz wh : Int) (N : Nat) (E : Ed) (w : Nat → Nat) (P Q : Nat) (x : Nat → Nat) (ks kc ke tl : Nat) (tf : Nat → Int) (ol : Nat) (of_ : Nat → Int) (fk : Int) (hH : HR N E w P Q x ks kc ke tl tf ol of_ fk ((tF, tL), (oF, oL), (nx, nd, sz1, kd, pl), ((an, ax), fn, fx, pp, qq, st, ch, er), (q1, q2, qs), f1, f2, f3, n, sz, wh)) (a : Int) (ha : -2147483648 ≤ a ∧ a < 2147483648)  (sz0 : Nat) : Met l yX5_end wsX5_end ({ frames := 0, cells := 0, slots := 0, locals := 0 } : Room) (Pre1 D cI cJ cB cZ [.ref h, .int (iZ a)] (wHo h ta ou de ra od gr ++ wBR 2000 cI ta tb tF tL ++ wBR 3502 cI ou ob oF oL ++ wDe de nx nd sz1 kd pl ++ wRa cJ ra an ax fn fx pp qq st ch er ++ wOr cI cJ od o1 o2 q1 q2 qs ++ wGr cI gr b1 b2 b3 f1 f2 f3 n sz wh) sz0) (rwI (S := HT) D (fun z U => (z = 1 ∧ (0 ≤ a ∧ a ≤ (tl : Int)) ∧ HR N E w P Q x ks kc ke a.toNat tf ol of_ fk U) ∨ (z = 0 ∧ ¬ (0 ≤ a ∧ a ≤ (tl : Int)) ∧ U = ((tF, tL), (oF, oL), (nx, nd, sz1, kd, pl), ((an, ax), fn, fx, pp, qq, st, ch, er), (q1, q2, qs), f1, f2, f3, n, sz, wh))) (fun u => wHT cI cJ h ta ou de ra od gr tb ob o1 o2 b1 b2 b3 u) (va_A (wHo h ta ou de ra od gr ++ wBR 2000 cI ta tb tF tL ++ wBR 3502 cI ou ob oF oL ++ wDe de nx nd sz1 kd pl ++ wRa cJ ra an ax fn fx pp qq st ch er ++ wOr cI cJ od o1 o2 q1 q2 qs ++ wGr cI gr b1 b2 b3 f1 f2 f3 n sz wh) sz0)) 0 0 (va_A (wHo h ta ou de ra od gr ++ wBR 2000 cI ta tb tF tL ++ wBR 3502 cI ou ob oF oL ++ wDe de nx nd sz1 kd pl ++ wRa cJ ra an ax fn fx pp qq st ch er ++ wOr cI cJ od o1 o2 q1 q2 qs ++ wGr cI gr b1 b2 b3 f1 f2 f3 n sz wh) sz0) := by
  refine Met.ofW (cc := cX5_end) (maxL := 2) (ret := (some .boolean)) (by decide) rfl ?_
  intro p e s m args below meth c s₁ B hml hv
  obtain ⟨rfl, hsz, hP, hE, hD0⟩ := hv
  have hx := B.exec
  have hb := B.bytes
  have hr := B.returns
  have hts := atoms_spec (ws := wsX5_end) B.pre
  have hown : s.vm.findClass RX5 = some m.cls := findClass_of_methodNamed B.named
  have hlocks := B.notSynchronized
  have hK := hE.1
  subst hsz
  have hD := hD0.self (sz := s.heap.size)
  generalize hAe : va_A (wHo h ta ou de ra od gr ++ wBR 2000 cI ta tb tF tL ++ wBR 3502 cI ou ob oF oL ++ wDe de nx nd sz1 kd pl ++ wRa cJ ra an ax fn fx pp qq st ch er ++ wOr cI cJ od o1 o2 q1 q2 qs ++ wGr cI gr b1 b2 b3 f1 f2 f3 n sz wh) s.heap.size = A at hD ⊢
  have hA : ∀ q : Nat, s.heap.size ≤ q → A q := fun q h => by rw [← hAe]; exact Or.inr h
  have hS : va_S A s.heap s.heap [] := va_S.rf
  have hP : va_P D vwCl (wHo h ta ou de ra od gr ++ wBR 2000 cI ta tb tF tL ++ wBR 3502 cI ou ob oF oL ++ wDe de nx nd sz1 kd pl ++ wRa cJ ra an ax fn fx pp qq st ch er ++ wOr cI cJ od o1 o2 q1 q2 qs ++ wGr cI gr b1 b2 b3 f1 f2 f3 n sz wh) s.heap := hP
  have hi_0 : ∀ w ∈ wsX00, w ∈ wsX5_end := by decide +kernel
  have hi_5 : ∀ w ∈ wsX50, w ∈ wsX5_end := by decide +kernel
  have hw_1 := hts (.fieldLink RX5 14 "RankHouse" "tape" "LRankHouse$ByteRow;") (by decide +kernel)
  have hw_2 := hE.nl (w := .fieldLinkNest RX5 56 "RankHouse$ByteRow" "length" "I" "RankHouse") (by decide +kernel) ([.ref h, .int (iZ a)] : List Value).toArray
  have hl := lv_entry ([.ref h, .int (iZ a)]) (n := 2) (Nat.le_of_ble_eq_true rfl)
  rw [lg_entry_eq]
  generalize (lg_sl ([.ref h, .int (iZ a)]) ++ List.replicate (2 - (lg_sl ([.ref h, .int (iZ a)])).length) Slot.unset).toArray = ls at hl ⊢
  have hl : lv_has ls 2 [(0, .ref h), (1, .int (iZ a))] := hl
  obtain ⟨hG, hR, s1, s2, s3, s5, s6, t1, t1b, t2, t3, y1, y1b, y2, y3, d1⟩ := id hH
  dsimp only at hG hR s1 s2 s3 t1 t1b y1 y1b d1
  subst t1
  subst y1
  have hG : GR N E w f1 f2 f3 n sz wh := hG
  obtain ⟨g1, g2, g3, g4, g5, g6, g7, g8, g9, g10, g11⟩ := id hG
  obtain ⟨k1, k2, k3, k4, k5, k6⟩ := id hR
  refine lv_iload_n hx hb dX5_end_0 rfl (lv_at hl 1 rfl) ?_
  refine z_if_lt (tgt := 15) hx hb dX5_end_1 (by decide) (by omega) (fun c_1 => ?_) (fun c_1 => ?_)
  · refine z_iconst hx hb dX5_end_15 ?_
    exact rw_zret (z := 0) ((tF, tL), (oF, oL), (nx, nd, sz1, kd, pl), ((an, ax), fn, fx, pp, qq, st, ch, er), (q1, q2, qs), f1, f2, f3, n, sz, wh) hx hb hr hlocks (Or.inl rfl) hP hD hS (Or.inr ⟨rfl, by omega, rfl⟩) dX5_end_16
  · refine lv_iload_n hx hb dX5_end_4 rfl (lv_at hl 1 rfl) ?_
    refine lv_aload_n hx hb dX5_end_5 rfl (lv_at hl 0 rfl) ?_
    refine va_get (v := .ref ta) (C := RX5) (T := TX5) (N := 6) (ci := 5) hx hb hts hi_5 hown hK hP 0 rfl rfl 0 (by decide) hw_1 (fun _ h9 => h9) rfl dX5_end_6 ?_
    refine va_getN (v := .int (iZ tL)) (C := RX0) (T := TX0) (N := 2) (ci := 0) hx hb hts hi_0 hown hK hP 1 rfl rfl 1 (by decide) hw_2 (fun _ h9 => h9) rfl dX5_end_9 ?_
    refine z_icmp_le (tgt := 17) hx hb dX5_end_12 (by decide) (by omega) (by omega) (fun c_2 => ?_) (fun c_2 => ?_)
    · refine lv_aload_n hx hb dX5_end_17 rfl (lv_at hl 0 rfl) ?_
      refine va_get (v := .ref ta) (C := RX5) (T := TX5) (N := 6) (ci := 5) hx hb hts hi_5 hown hK hP 0 rfl rfl 0 (by decide) hw_1 (fun _ h9 => h9) rfl dX5_end_18 ?_
      refine lv_iload_n hx hb dX5_end_21 rfl (lv_at hl 1 rfl) ?_
      refine va_putN (v := .int (iZ a)) (ty := .int) (C := RX0) (T := TX0) (N := 2) (ci := 0) hx hb hts hi_0 tyX0 tyX0_ok nmX0 hown hK hP hD hS 1 rfl rfl 1 (by decide) hw_2 (fun _ h9 => h9) rfl (by decide +kernel) rfl rfl (Nat.le_of_ble_eq_true rfl) dX5_end_22 (fun H locs hP hD hS => ?_)
      have hP : va_P D vwCl (wHo h ta ou de ra od gr ++ wBR 2000 cI ta tb tF a ++ wBR 3502 cI ou ob oF oL ++ wDe de nx nd sz1 kd pl ++ wRa cJ ra an ax fn fx pp qq st ch er ++ wOr cI cJ od o1 o2 q1 q2 qs ++ wGr cI gr b1 b2 b3 f1 f2 f3 n sz wh) H := hP
      have hD : va_D A (wHo h ta ou de ra od gr ++ wBR 2000 cI ta tb tF a ++ wBR 3502 cI ou ob oF oL ++ wDe de nx nd sz1 kd pl ++ wRa cJ ra an ax fn fx pp qq st ch er ++ wOr cI cJ od o1 o2 q1 q2 qs ++ wGr cI gr b1 b2 b3 f1 f2 f3 n sz wh) := hD
      refine z_iconst hx hb dX5_end_25 ?_
      exact rw_zret (z := 1) ((tF, a), (oF, oL), (nx, nd, sz1, kd, pl), ((an, ax), fn, fx, pp, qq, st, ch, er), (q1, q2, qs), f1, f2, f3, n, sz, wh) hx hb hr hlocks (Or.inr rfl) hP hD hS (Or.inl ⟨rfl, by omega, ⟨hG, hR, s1, s2, s3, s5, s6, rfl, (by first | omega | (dsimp only; omega)), (by omega), (fun j hj => t3 j (by omega)), rfl, y1b, y2, y3, d1⟩⟩) dX5_end_26
    · refine z_iconst hx hb dX5_end_15 ?_
      exact rw_zret (z := 0) ((tF, tL), (oF, oL), (nx, nd, sz1, kd, pl), ((an, ax), fn, fx, pp, qq, st, ch, er), (q1, q2, qs), f1, f2, f3, n, sz, wh) hx hb hr hlocks (Or.inl rfl) hP hD hS (Or.inr ⟨rfl, by omega, rfl⟩) dX5_end_16
set_option maxHeartbeats 4000000 in
set_option maxRecDepth 100000 in
theorem c_X5_feed (l : Launch) (D : va_G) (cI cJ cB cZ : ClassId) (h ta ou de ra od gr tb ob an ax o1 o2 b1 b2 b3 : Nat) (tF : Nat → Int) (tL : Int) (oF : Nat → Int) (oL : Int) (nx nd sz1 kd pl : Int) (fn fx : Nat → Int) (pp qq st ch er : Int) (q1 q2 : Nat → Int) (qs : Int) (f1 f2 f3 : Nat → Int) (n sz wh : Int) (N : Nat) (E : Ed) (w : Nat → Nat) (P Q : Nat) (x : Nat → Nat) (ks kc ke tl : Nat) (tf : Nat → Int) (ol : Nat) (of_ : Nat → Int) (fk : Int) (hH : HR N E w P Q x ks kc ke tl tf ol of_ fk ((tF, tL), (oF, oL), (nx, nd, sz1, kd, pl), ((an, ax), fn, fx, pp, qq, st, ch, er), (q1, q2, qs), f1, f2, f3, n, sz, wh)) (a b c0 d0 e0 : Int)  (sz0 : Nat) : Met l yX5_feed wsX5_feed ({ frames := 2, cells := 0, slots := 0, locals := 42 } : Room) (Pre1 D cI cJ cB cZ [.ref h, .int (iZ a), .int (iZ b), .int (iZ c0), .int (iZ d0), .int (iZ e0)] (wHo h ta ou de ra od gr ++ wBR 2000 cI ta tb tF tL ++ wBR 3502 cI ou ob oF oL ++ wDe de nx nd sz1 kd pl ++ wRa cJ ra an ax fn fx pp qq st ch er ++ wOr cI cJ od o1 o2 q1 q2 qs ++ wGr cI gr b1 b2 b3 f1 f2 f3 n sz wh) sz0) (rwI (S := HT) D (fun z U => ((tl : Int) ≤ 1980 ∧ z = (tl : Int) + 20 ∧ HR N E w P Q x ks kc ke (tl + 20) (p4 (p4 (p4 (p4 (p4 tf tl a) (tl + 4) b) (tl + 8) c0) (tl + 12) d0) (tl + 16) e0) ol of_ fk U) ∨ (¬ (tl : Int) ≤ 1980 ∧ z = -1 ∧ U = ((tF, tL), (oF, oL), (nx, nd, sz1, kd, pl), ((an, ax), fn, fx, pp, qq, st, ch, er), (q1, q2, qs), f1, f2, f3, n, sz, wh))) (fun u => wHT cI cJ h ta ou de ra od gr tb ob o1 o2 b1 b2 b3 u) (va_A (wHo h ta ou de ra od gr ++ wBR 2000 cI ta tb tF tL ++ wBR 3502 cI ou ob oF oL ++ wDe de nx nd sz1 kd pl ++ wRa cJ ra an ax fn fx pp qq st ch er ++ wOr cI cJ od o1 o2 q1 q2 qs ++ wGr cI gr b1 b2 b3 f1 f2 f3 n sz wh) sz0)) 0 0 (va_A (wHo h ta ou de ra od gr ++ wBR 2000 cI ta tb tF tL ++ wBR 3502 cI ou ob oF oL ++ wDe de nx nd sz1 kd pl ++ wRa cJ ra an ax fn fx pp qq st ch er ++ wOr cI cJ od o1 o2 q1 q2 qs ++ wGr cI gr b1 b2 b3 f1 f2 f3 n sz wh) sz0) := by
  refine Met.ofW (cc := cX5_feed) (maxL := 6) (ret := (some .int)) (by decide) rfl ?_
  intro p e s m args below meth c s₁ B hml hv
  obtain ⟨rfl, hsz, hP, hE, hD0⟩ := hv
  have hx := B.exec
  have hb := B.bytes
  have hr := B.returns
  have hts := atoms_spec (ws := wsX5_feed) B.pre
  have hown : s.vm.findClass RX5 = some m.cls := findClass_of_methodNamed B.named
  have hlocks := B.notSynchronized
  have hK := hE.1
  subst hsz
  have hD := hD0.self (sz := s.heap.size)
  generalize hAe : va_A (wHo h ta ou de ra od gr ++ wBR 2000 cI ta tb tF tL ++ wBR 3502 cI ou ob oF oL ++ wDe de nx nd sz1 kd pl ++ wRa cJ ra an ax fn fx pp qq st ch er ++ wOr cI cJ od o1 o2 q1 q2 qs ++ wGr cI gr b1 b2 b3 f1 f2 f3 n sz wh) s.heap.size = A at hD ⊢
  have hA : ∀ q : Nat, s.heap.size ≤ q → A q := fun q h => by rw [← hAe]; exact Or.inr h
  have hS : va_S A s.heap s.heap [] := va_S.rf
  have hP : va_P D vwCl (wHo h ta ou de ra od gr ++ wBR 2000 cI ta tb tF tL ++ wBR 3502 cI ou ob oF oL ++ wDe de nx nd sz1 kd pl ++ wRa cJ ra an ax fn fx pp qq st ch er ++ wOr cI cJ od o1 o2 q1 q2 qs ++ wGr cI gr b1 b2 b3 f1 f2 f3 n sz wh) s.heap := hP
  have hi_0 : ∀ w ∈ wsX00, w ∈ wsX5_feed := by decide +kernel
  have hi_5 : ∀ w ∈ wsX50, w ∈ wsX5_feed := by decide +kernel
  have hw_1 := hts (.fieldLink RX5 14 "RankHouse" "tape" "LRankHouse$ByteRow;") (by decide +kernel)
  have hw_2 := hE.nl (w := .fieldLinkNest RX5 56 "RankHouse$ByteRow" "length" "I" "RankHouse") (by decide +kernel) ([.ref h, .int (iZ a), .int (iZ b), .int (iZ c0), .int (iZ d0), .int (iZ e0)] : List Value).toArray
  have hl := lv_entry ([.ref h, .int (iZ a), .int (iZ b), .int (iZ c0), .int (iZ d0), .int (iZ e0)]) (n := 6) (Nat.le_of_ble_eq_true rfl)
  rw [lg_entry_eq]
  generalize (lg_sl ([.ref h, .int (iZ a), .int (iZ b), .int (iZ c0), .int (iZ d0), .int (iZ e0)]) ++ List.replicate (6 - (lg_sl ([.ref h, .int (iZ a), .int (iZ b), .int (iZ c0), .int (iZ d0), .int (iZ e0)])).length) Slot.unset).toArray = ls at hl ⊢
  have hl : lv_has ls 6 [(0, .ref h), (1, .int (iZ a)), (2, .int (iZ b)), (3, .int (iZ c0)), (4, .int (iZ d0)), (5, .int (iZ e0))] := hl
  obtain ⟨hG, hR, s1, s2, s3, s5, s6, t1, t1b, t2, t3, y1, y1b, y2, y3, d1⟩ := id hH
  dsimp only at hG hR s1 s2 s3 t1 t1b y1 y1b d1
  subst t1
  subst y1
  have hG : GR N E w f1 f2 f3 n sz wh := hG
  obtain ⟨g1, g2, g3, g4, g5, g6, g7, g8, g9, g10, g11⟩ := id hG
  obtain ⟨k1, k2, k3, k4, k5, k6⟩ := id hR
  refine lv_aload_n hx hb dX5_feed_0 rfl (lv_at hl 0 rfl) ?_
  refine va_get (v := .ref ta) (C := RX5) (T := TX5) (N := 6) (ci := 5) hx hb hts hi_5 hown hK hP 0 rfl rfl 0 (by decide) hw_1 (fun _ h9 => h9) rfl dX5_feed_1 ?_
  refine va_getN (v := .int (iZ tL)) (C := RX0) (T := TX0) (N := 2) (ci := 0) hx hb hts hi_0 hown hK hP 1 rfl rfl 1 (by decide) hw_2 (fun _ h9 => h9) rfl dX5_feed_4 ?_
  refine z_sipush hx hb dX5_feed_7 (by decide) ?_
  refine z_icmp_le (tgt := 15) hx hb dX5_feed_10 (by decide) (by omega) (by omega) (fun c_1 => ?_) (fun c_1 => ?_)
  · refine lv_aload_n hx hb dX5_feed_15 rfl (lv_at hl 0 rfl) ?_
    refine va_get (v := .ref ta) (C := RX5) (T := TX5) (N := 6) (ci := 5) hx hb hts hi_5 hown hK hP 0 rfl rfl 0 (by decide) hw_1 (fun _ h9 => h9) rfl dX5_feed_16 ?_
    refine lv_iload_n hx hb dX5_feed_19 rfl (lv_at hl 1 rfl) ?_
    refine rw_v (wr := [(h, .inr (5, [.ref ta, .ref ou, .ref de, .ref ra, .ref od, .ref gr])), (ou, .inr (0, [.ref ob, .int (iZ oL)])), (ob, .inl (cI, 3502, .inl (aI oF))), (de, .inr (1, [.int (iZ nx), .int (iZ nd), .int (iZ sz1), .int (iZ kd), .int (iZ pl)])), (ra, .inr (4, [.ref an, .ref ax, .int (iZ pp), .int (iZ qq), .int (iZ st), .long (lZ ch), .long (lZ er)])), (an, .inl (cJ, 250, .inr (.inl (aL fn)))), (ax, .inl (cJ, 250, .inr (.inl (aL fx)))), (od, .inr (3, [.ref o1, .ref o2, .int (iZ qs)])), (o1, .inl (cI, 250, .inl (aI q1))), (o2, .inl (cJ, 250, .inr (.inl (aL q2)))), (gr, .inr (2, [.ref b1, .ref b2, .ref b3, .int (iZ n), .int (iZ sz), .int (iZ wh)])), (b1, .inl (cI, 251, .inl (aI f1))), (b2, .inl (cI, 2500, .inl (aI f2))), (b3, .inl (cI, 250, .inl (aI f3)))]) (va_runV (As := [.int (iZ a)]) (rest := []) ⟨hx, hb, hml, hown, hts⟩ (c_X0_putFour l D cI cJ cB cZ 2000 ta tb tF tL a (by omega) (by omega) _) (cwV 1 hts gX5_feed_X0_putFour rfl rfl rfl (by decide +kernel) ⟨Nat.le_of_ble_eq_true rfl, Nat.le_of_ble_eq_true rfl⟩) (pre1V hE (hP.sub (ws' := (wBR 2000 cI ta tb tF tL)) [1, 2] rfl) (hD.sub (ws' := (wBR 2000 cI ta tb tF tL)) [1, 2] (by decide) rfl) 0 rfl rfl) rfl rfl hl.1 rfl (lv_room (Nat.le_of_ble_eq_true rfl)) dX5_feed_20 ⟨Nat.le_of_ble_eq_true rfl, Nat.le_of_ble_eq_true rfl⟩) hP hD hS hA [1, 2] [0, 3, 4, 5, 6, 7, 8, 9, 10, 11, 12, 13, 14, 15] rfl rfl (by decide) (by decide) (fun u_4 H locs hr_3 hP hD hS => ?_)
    subst hr_3
    have hP := hP.sub (ws' := (wHo h ta ou de ra od gr ++ wBR 2000 cI ta tb (p4 tF tL.toNat a) (tL + 4) ++ wBR 3502 cI ou ob oF oL ++ wDe de nx nd sz1 kd pl ++ wRa cJ ra an ax fn fx pp qq st ch er ++ wOr cI cJ od o1 o2 q1 q2 qs ++ wGr cI gr b1 b2 b3 f1 f2 f3 n sz wh)) [0, 14, 15, 1, 2, 3, 4, 5, 6, 7, 8, 9, 10, 11, 12, 13] rfl
    have hD := hD.sub (ws' := (wHo h ta ou de ra od gr ++ wBR 2000 cI ta tb (p4 tF tL.toNat a) (tL + 4) ++ wBR 3502 cI ou ob oF oL ++ wDe de nx nd sz1 kd pl ++ wRa cJ ra an ax fn fx pp qq st ch er ++ wOr cI cJ od o1 o2 q1 q2 qs ++ wGr cI gr b1 b2 b3 f1 f2 f3 n sz wh)) [0, 14, 15, 1, 2, 3, 4, 5, 6, 7, 8, 9, 10, 11, 12, 13] (by decide) rfl
    refine lv_aload_n hx hb dX5_feed_23 rfl (lv_at hl 0 rfl) ?_
    refine va_get (v := .ref ta) (C := RX5) (T := TX5) (N := 6) (ci := 5) hx hb hts hi_5 hown hK hP 0 rfl rfl 0 (by decide) hw_1 (fun _ h9 => h9) rfl dX5_feed_24 ?_
    refine lv_iload_n hx hb dX5_feed_27 rfl (lv_at hl 2 rfl) ?_
    refine rw_v (wr := [(h, .inr (5, [.ref ta, .ref ou, .ref de, .ref ra, .ref od, .ref gr])), (ou, .inr (0, [.ref ob, .int (iZ oL)])), (ob, .inl (cI, 3502, .inl (aI oF))), (de, .inr (1, [.int (iZ nx), .int (iZ nd), .int (iZ sz1), .int (iZ kd), .int (iZ pl)])), (ra, .inr (4, [.ref an, .ref ax, .int (iZ pp), .int (iZ qq), .int (iZ st), .long (lZ ch), .long (lZ er)])), (an, .inl (cJ, 250, .inr (.inl (aL fn)))), (ax, .inl (cJ, 250, .inr (.inl (aL fx)))), (od, .inr (3, [.ref o1, .ref o2, .int (iZ qs)])), (o1, .inl (cI, 250, .inl (aI q1))), (o2, .inl (cJ, 250, .inr (.inl (aL q2)))), (gr, .inr (2, [.ref b1, .ref b2, .ref b3, .int (iZ n), .int (iZ sz), .int (iZ wh)])), (b1, .inl (cI, 251, .inl (aI f1))), (b2, .inl (cI, 2500, .inl (aI f2))), (b3, .inl (cI, 250, .inl (aI f3)))]) (va_runV (As := [.int (iZ b)]) (rest := []) ⟨hx, hb, hml, hown, hts⟩ (c_X0_putFour l D cI cJ cB cZ 2000 ta tb (p4 tF tL.toNat a) (tL + 4) b (by omega) (by omega) _) (cwV 1 hts gX5_feed_X0_putFour rfl rfl rfl (by decide +kernel) ⟨Nat.le_of_ble_eq_true rfl, Nat.le_of_ble_eq_true rfl⟩) (pre1V hE (hP.sub (ws' := (wBR 2000 cI ta tb (p4 tF tL.toNat a) (tL + 4))) [1, 2] rfl) (hD.sub (ws' := (wBR 2000 cI ta tb (p4 tF tL.toNat a) (tL + 4))) [1, 2] (by decide) rfl) 0 rfl rfl) rfl rfl hl.1 rfl (lv_room (Nat.le_of_ble_eq_true rfl)) dX5_feed_28 ⟨Nat.le_of_ble_eq_true rfl, Nat.le_of_ble_eq_true rfl⟩) hP hD hS hA [1, 2] [0, 3, 4, 5, 6, 7, 8, 9, 10, 11, 12, 13, 14, 15] rfl rfl (by decide) (by decide) (fun u_7 H locs hr_6 hP hD hS => ?_)
    subst hr_6
    have hP := hP.sub (ws' := (wHo h ta ou de ra od gr ++ wBR 2000 cI ta tb (p4 (p4 tF tL.toNat a) (tL + 4).toNat b) (tL + 4 + 4) ++ wBR 3502 cI ou ob oF oL ++ wDe de nx nd sz1 kd pl ++ wRa cJ ra an ax fn fx pp qq st ch er ++ wOr cI cJ od o1 o2 q1 q2 qs ++ wGr cI gr b1 b2 b3 f1 f2 f3 n sz wh)) [0, 14, 15, 1, 2, 3, 4, 5, 6, 7, 8, 9, 10, 11, 12, 13] rfl
    have hD := hD.sub (ws' := (wHo h ta ou de ra od gr ++ wBR 2000 cI ta tb (p4 (p4 tF tL.toNat a) (tL + 4).toNat b) (tL + 4 + 4) ++ wBR 3502 cI ou ob oF oL ++ wDe de nx nd sz1 kd pl ++ wRa cJ ra an ax fn fx pp qq st ch er ++ wOr cI cJ od o1 o2 q1 q2 qs ++ wGr cI gr b1 b2 b3 f1 f2 f3 n sz wh)) [0, 14, 15, 1, 2, 3, 4, 5, 6, 7, 8, 9, 10, 11, 12, 13] (by decide) rfl
    refine lv_aload_n hx hb dX5_feed_31 rfl (lv_at hl 0 rfl) ?_
    refine va_get (v := .ref ta) (C := RX5) (T := TX5) (N := 6) (ci := 5) hx hb hts hi_5 hown hK hP 0 rfl rfl 0 (by decide) hw_1 (fun _ h9 => h9) rfl dX5_feed_32 ?_
    refine lv_iload_n hx hb dX5_feed_35 rfl (lv_at hl 3 rfl) ?_
    refine rw_v (wr := [(h, .inr (5, [.ref ta, .ref ou, .ref de, .ref ra, .ref od, .ref gr])), (ou, .inr (0, [.ref ob, .int (iZ oL)])), (ob, .inl (cI, 3502, .inl (aI oF))), (de, .inr (1, [.int (iZ nx), .int (iZ nd), .int (iZ sz1), .int (iZ kd), .int (iZ pl)])), (ra, .inr (4, [.ref an, .ref ax, .int (iZ pp), .int (iZ qq), .int (iZ st), .long (lZ ch), .long (lZ er)])), (an, .inl (cJ, 250, .inr (.inl (aL fn)))), (ax, .inl (cJ, 250, .inr (.inl (aL fx)))), (od, .inr (3, [.ref o1, .ref o2, .int (iZ qs)])), (o1, .inl (cI, 250, .inl (aI q1))), (o2, .inl (cJ, 250, .inr (.inl (aL q2)))), (gr, .inr (2, [.ref b1, .ref b2, .ref b3, .int (iZ n), .int (iZ sz), .int (iZ wh)])), (b1, .inl (cI, 251, .inl (aI f1))), (b2, .inl (cI, 2500, .inl (aI f2))), (b3, .inl (cI, 250, .inl (aI f3)))]) (va_runV (As := [.int (iZ c0)]) (rest := []) ⟨hx, hb, hml, hown, hts⟩ (c_X0_putFour l D cI cJ cB cZ 2000 ta tb (p4 (p4 tF tL.toNat a) (tL + 4).toNat b) (tL + 4 + 4) c0 (by omega) (by omega) _) (cwV 1 hts gX5_feed_X0_putFour rfl rfl rfl (by decide +kernel) ⟨Nat.le_of_ble_eq_true rfl, Nat.le_of_ble_eq_true rfl⟩) (pre1V hE (hP.sub (ws' := (wBR 2000 cI ta tb (p4 (p4 tF tL.toNat a) (tL + 4).toNat b) (tL + 4 + 4))) [1, 2] rfl) (hD.sub (ws' := (wBR 2000 cI ta tb (p4 (p4 tF tL.toNat a) (tL + 4).toNat b) (tL + 4 + 4))) [1, 2] (by decide) rfl) 0 rfl rfl) rfl rfl hl.1 rfl (lv_room (Nat.le_of_ble_eq_true rfl)) dX5_feed_36 ⟨Nat.le_of_ble_eq_true rfl, Nat.le_of_ble_eq_true rfl⟩) hP hD hS hA [1, 2] [0, 3, 4, 5, 6, 7, 8, 9, 10, 11, 12, 13, 14, 15] rfl rfl (by decide) (by decide) (fun u_10 H locs hr_9 hP hD hS => ?_)
    subst hr_9
    have hP := hP.sub (ws' := (wHo h ta ou de ra od gr ++ wBR 2000 cI ta tb (p4 (p4 (p4 tF tL.toNat a) (tL + 4).toNat b) (tL + 4 + 4).toNat c0) (tL + 4 + 4 + 4) ++ wBR 3502 cI ou ob oF oL ++ wDe de nx nd sz1 kd pl ++ wRa cJ ra an ax fn fx pp qq st ch er ++ wOr cI cJ od o1 o2 q1 q2 qs ++ wGr cI gr b1 b2 b3 f1 f2 f3 n sz wh)) [0, 14, 15, 1, 2, 3, 4, 5, 6, 7, 8, 9, 10, 11, 12, 13] rfl
    have hD := hD.sub (ws' := (wHo h ta ou de ra od gr ++ wBR 2000 cI ta tb (p4 (p4 (p4 tF tL.toNat a) (tL + 4).toNat b) (tL + 4 + 4).toNat c0) (tL + 4 + 4 + 4) ++ wBR 3502 cI ou ob oF oL ++ wDe de nx nd sz1 kd pl ++ wRa cJ ra an ax fn fx pp qq st ch er ++ wOr cI cJ od o1 o2 q1 q2 qs ++ wGr cI gr b1 b2 b3 f1 f2 f3 n sz wh)) [0, 14, 15, 1, 2, 3, 4, 5, 6, 7, 8, 9, 10, 11, 12, 13] (by decide) rfl
    refine lv_aload_n hx hb dX5_feed_39 rfl (lv_at hl 0 rfl) ?_
    refine va_get (v := .ref ta) (C := RX5) (T := TX5) (N := 6) (ci := 5) hx hb hts hi_5 hown hK hP 0 rfl rfl 0 (by decide) hw_1 (fun _ h9 => h9) rfl dX5_feed_40 ?_
    refine lv_iload hx hb dX5_feed_43 (lv_at hl 4 rfl) ?_
    refine rw_v (wr := [(h, .inr (5, [.ref ta, .ref ou, .ref de, .ref ra, .ref od, .ref gr])), (ou, .inr (0, [.ref ob, .int (iZ oL)])), (ob, .inl (cI, 3502, .inl (aI oF))), (de, .inr (1, [.int (iZ nx), .int (iZ nd), .int (iZ sz1), .int (iZ kd), .int (iZ pl)])), (ra, .inr (4, [.ref an, .ref ax, .int (iZ pp), .int (iZ qq), .int (iZ st), .long (lZ ch), .long (lZ er)])), (an, .inl (cJ, 250, .inr (.inl (aL fn)))), (ax, .inl (cJ, 250, .inr (.inl (aL fx)))), (od, .inr (3, [.ref o1, .ref o2, .int (iZ qs)])), (o1, .inl (cI, 250, .inl (aI q1))), (o2, .inl (cJ, 250, .inr (.inl (aL q2)))), (gr, .inr (2, [.ref b1, .ref b2, .ref b3, .int (iZ n), .int (iZ sz), .int (iZ wh)])), (b1, .inl (cI, 251, .inl (aI f1))), (b2, .inl (cI, 2500, .inl (aI f2))), (b3, .inl (cI, 250, .inl (aI f3)))]) (va_runV (As := [.int (iZ d0)]) (rest := []) ⟨hx, hb, hml, hown, hts⟩ (c_X0_putFour l D cI cJ cB cZ 2000 ta tb (p4 (p4 (p4 tF tL.toNat a) (tL + 4).toNat b) (tL + 4 + 4).toNat c0) (tL + 4 + 4 + 4) d0 (by omega) (by omega) _) (cwV 1 hts gX5_feed_X0_putFour rfl rfl rfl (by decide +kernel) ⟨Nat.le_of_ble_eq_true rfl, Nat.le_of_ble_eq_true rfl⟩) (pre1V hE (hP.sub (ws' := (wBR 2000 cI ta tb (p4 (p4 (p4 tF tL.toNat a) (tL + 4).toNat b) (tL + 4 + 4).toNat c0) (tL + 4 + 4 + 4))) [1, 2] rfl) (hD.sub (ws' := (wBR 2000 cI ta tb (p4 (p4 (p4 tF tL.toNat a) (tL + 4).toNat b) (tL + 4 + 4).toNat c0) (tL + 4 + 4 + 4))) [1, 2] (by decide) rfl) 0 rfl rfl) rfl rfl hl.1 rfl (lv_room (Nat.le_of_ble_eq_true rfl)) dX5_feed_45 ⟨Nat.le_of_ble_eq_true rfl, Nat.le_of_ble_eq_true rfl⟩) hP hD hS hA [1, 2] [0, 3, 4, 5, 6, 7, 8, 9, 10, 11, 12, 13, 14, 15] rfl rfl (by decide) (by decide) (fun u_13 H locs hr_12 hP hD hS => ?_)
    subst hr_12
    have hP := hP.sub (ws' := (wHo h ta ou de ra od gr ++ wBR 2000 cI ta tb (p4 (p4 (p4 (p4 tF tL.toNat a) (tL + 4).toNat b) (tL + 4 + 4).toNat c0) (tL + 4 + 4 + 4).toNat d0) (tL + 4 + 4 + 4 + 4) ++ wBR 3502 cI ou ob oF oL ++ wDe de nx nd sz1 kd pl ++ wRa cJ ra an ax fn fx pp qq st ch er ++ wOr cI cJ od o1 o2 q1 q2 qs ++ wGr cI gr b1 b2 b3 f1 f2 f3 n sz wh)) [0, 14, 15, 1, 2, 3, 4, 5, 6, 7, 8, 9, 10, 11, 12, 13] rfl
    have hD := hD.sub (ws' := (wHo h ta ou de ra od gr ++ wBR 2000 cI ta tb (p4 (p4 (p4 (p4 tF tL.toNat a) (tL + 4).toNat b) (tL + 4 + 4).toNat c0) (tL + 4 + 4 + 4).toNat d0) (tL + 4 + 4 + 4 + 4) ++ wBR 3502 cI ou ob oF oL ++ wDe de nx nd sz1 kd pl ++ wRa cJ ra an ax fn fx pp qq st ch er ++ wOr cI cJ od o1 o2 q1 q2 qs ++ wGr cI gr b1 b2 b3 f1 f2 f3 n sz wh)) [0, 14, 15, 1, 2, 3, 4, 5, 6, 7, 8, 9, 10, 11, 12, 13] (by decide) rfl
    refine lv_aload_n hx hb dX5_feed_48 rfl (lv_at hl 0 rfl) ?_
    refine va_get (v := .ref ta) (C := RX5) (T := TX5) (N := 6) (ci := 5) hx hb hts hi_5 hown hK hP 0 rfl rfl 0 (by decide) hw_1 (fun _ h9 => h9) rfl dX5_feed_49 ?_
    refine lv_iload hx hb dX5_feed_52 (lv_at hl 5 rfl) ?_
    refine rw_v (wr := [(h, .inr (5, [.ref ta, .ref ou, .ref de, .ref ra, .ref od, .ref gr])), (ou, .inr (0, [.ref ob, .int (iZ oL)])), (ob, .inl (cI, 3502, .inl (aI oF))), (de, .inr (1, [.int (iZ nx), .int (iZ nd), .int (iZ sz1), .int (iZ kd), .int (iZ pl)])), (ra, .inr (4, [.ref an, .ref ax, .int (iZ pp), .int (iZ qq), .int (iZ st), .long (lZ ch), .long (lZ er)])), (an, .inl (cJ, 250, .inr (.inl (aL fn)))), (ax, .inl (cJ, 250, .inr (.inl (aL fx)))), (od, .inr (3, [.ref o1, .ref o2, .int (iZ qs)])), (o1, .inl (cI, 250, .inl (aI q1))), (o2, .inl (cJ, 250, .inr (.inl (aL q2)))), (gr, .inr (2, [.ref b1, .ref b2, .ref b3, .int (iZ n), .int (iZ sz), .int (iZ wh)])), (b1, .inl (cI, 251, .inl (aI f1))), (b2, .inl (cI, 2500, .inl (aI f2))), (b3, .inl (cI, 250, .inl (aI f3)))]) (va_runV (As := [.int (iZ e0)]) (rest := []) ⟨hx, hb, hml, hown, hts⟩ (c_X0_putFour l D cI cJ cB cZ 2000 ta tb (p4 (p4 (p4 (p4 tF tL.toNat a) (tL + 4).toNat b) (tL + 4 + 4).toNat c0) (tL + 4 + 4 + 4).toNat d0) (tL + 4 + 4 + 4 + 4) e0 (by omega) (by omega) _) (cwV 1 hts gX5_feed_X0_putFour rfl rfl rfl (by decide +kernel) ⟨Nat.le_of_ble_eq_true rfl, Nat.le_of_ble_eq_true rfl⟩) (pre1V hE (hP.sub (ws' := (wBR 2000 cI ta tb (p4 (p4 (p4 (p4 tF tL.toNat a) (tL + 4).toNat b) (tL + 4 + 4).toNat c0) (tL + 4 + 4 + 4).toNat d0) (tL + 4 + 4 + 4 + 4))) [1, 2] rfl) (hD.sub (ws' := (wBR 2000 cI ta tb (p4 (p4 (p4 (p4 tF tL.toNat a) (tL + 4).toNat b) (tL + 4 + 4).toNat c0) (tL + 4 + 4 + 4).toNat d0) (tL + 4 + 4 + 4 + 4))) [1, 2] (by decide) rfl) 0 rfl rfl) rfl rfl hl.1 rfl (lv_room (Nat.le_of_ble_eq_true rfl)) dX5_feed_54 ⟨Nat.le_of_ble_eq_true rfl, Nat.le_of_ble_eq_true rfl⟩) hP hD hS hA [1, 2] [0, 3, 4, 5, 6, 7, 8, 9, 10, 11, 12, 13, 14, 15] rfl rfl (by decide) (by decide) (fun u_16 H locs hr_15 hP hD hS => ?_)
    subst hr_15
    have hP := hP.sub (ws' := (wHo h ta ou de ra od gr ++ wBR 2000 cI ta tb (p4 (p4 (p4 (p4 (p4 tF tL.toNat a) (tL + 4).toNat b) (tL + 4 + 4).toNat c0) (tL + 4 + 4 + 4).toNat d0) (tL + 4 + 4 + 4 + 4).toNat e0) (tL + 4 + 4 + 4 + 4 + 4) ++ wBR 3502 cI ou ob oF oL ++ wDe de nx nd sz1 kd pl ++ wRa cJ ra an ax fn fx pp qq st ch er ++ wOr cI cJ od o1 o2 q1 q2 qs ++ wGr cI gr b1 b2 b3 f1 f2 f3 n sz wh)) [0, 14, 15, 1, 2, 3, 4, 5, 6, 7, 8, 9, 10, 11, 12, 13] rfl
    have hD := hD.sub (ws' := (wHo h ta ou de ra od gr ++ wBR 2000 cI ta tb (p4 (p4 (p4 (p4 (p4 tF tL.toNat a) (tL + 4).toNat b) (tL + 4 + 4).toNat c0) (tL + 4 + 4 + 4).toNat d0) (tL + 4 + 4 + 4 + 4).toNat e0) (tL + 4 + 4 + 4 + 4 + 4) ++ wBR 3502 cI ou ob oF oL ++ wDe de nx nd sz1 kd pl ++ wRa cJ ra an ax fn fx pp qq st ch er ++ wOr cI cJ od o1 o2 q1 q2 qs ++ wGr cI gr b1 b2 b3 f1 f2 f3 n sz wh)) [0, 14, 15, 1, 2, 3, 4, 5, 6, 7, 8, 9, 10, 11, 12, 13] (by decide) rfl
    refine lv_aload_n hx hb dX5_feed_57 rfl (lv_at hl 0 rfl) ?_
    refine va_get (v := .ref ta) (C := RX5) (T := TX5) (N := 6) (ci := 5) hx hb hts hi_5 hown hK hP 0 rfl rfl 0 (by decide) hw_1 (fun _ h9 => h9) rfl dX5_feed_58 ?_
    refine va_getN (v := .int (iZ (tL + 4 + 4 + 4 + 4 + 4))) (C := RX0) (T := TX0) (N := 2) (ci := 0) hx hb hts hi_0 hown hK hP 1 rfl rfl 1 (by decide) hw_2 (fun _ h9 => h9) rfl dX5_feed_61 ?_
    exact rw_iret (z := tL + 4 + 4 + 4 + 4 + 4) ((p4 (p4 (p4 (p4 (p4 tF tL.toNat a) (tL + 4).toNat b) (tL + 4 + 4).toNat c0) (tL + 4 + 4 + 4).toNat d0) (tL + 4 + 4 + 4 + 4).toNat e0, tL + 4 + 4 + 4 + 4 + 4), (oF, oL), (nx, nd, sz1, kd, pl), ((an, ax), fn, fx, pp, qq, st, ch, er), (q1, q2, qs), f1, f2, f3, n, sz, wh) hx hb hr hlocks hP hD hS (Or.inl ⟨by omega, by omega, ⟨hG, hR, s1, s2, s3, s5, s6, (by dsimp only; rw [t1b]; rfl), (by first | omega | (dsimp only; omega)), (by omega), (p4_r (p4_r (p4_r (p4_r (p4_r t3))))), rfl, y1b, y2, y3, d1⟩⟩) dX5_feed_64
  · refine z_iconst hx hb dX5_feed_13 ?_
    exact rw_iret (z := (-1)) ((tF, tL), (oF, oL), (nx, nd, sz1, kd, pl), ((an, ax), fn, fx, pp, qq, st, ch, er), (q1, q2, qs), f1, f2, f3, n, sz, wh) hx hb hr hlocks hP hD hS (Or.inr ⟨by omega, rfl, rfl⟩) dX5_feed_14
set_option maxHeartbeats 4000000 in
set_option maxRecDepth 100000 in
theorem c_X5_clear (l : Launch) (D : va_G) (cI cJ cB cZ : ClassId) (h ta ou de ra od gr tb ob an ax o1 o2 b1 b2 b3 : Nat) (tF : Nat → Int) (tL : Int) (oF : Nat → Int) (oL : Int) (nx nd sz1 kd pl : Int) (fn fx : Nat → Int) (pp qq st ch er : Int) (q1 q2 : Nat → Int) (qs : Int) (f1 f2 f3 : Nat → Int) (n sz wh : Int) (N : Nat) (E : Ed) (w : Nat → Nat) (P Q : Nat) (x : Nat → Nat) (ks kc ke tl : Nat) (tf : Nat → Int) (ol : Nat) (of_ : Nat → Int) (fk : Int) (hH : HR N E w P Q x ks kc ke tl tf ol of_ fk ((tF, tL), (oF, oL), (nx, nd, sz1, kd, pl), ((an, ax), fn, fx, pp, qq, st, ch, er), (q1, q2, qs), f1, f2, f3, n, sz, wh)) (a : Int) (ha : -2147483648 ≤ a ∧ a < 2147483648)  (sz0 : Nat) : Met l yX5_clear wsX5_clear ({ frames := 2, cells := 0, slots := 0, locals := 49 } : Room) (Pre1 D cI cJ cB cZ [.ref h, .int (iZ a)] (wHo h ta ou de ra od gr ++ wBR 2000 cI ta tb tF tL ++ wBR 3502 cI ou ob oF oL ++ wDe de nx nd sz1 kd pl ++ wRa cJ ra an ax fn fx pp qq st ch er ++ wOr cI cJ od o1 o2 q1 q2 qs ++ wGr cI gr b1 b2 b3 f1 f2 f3 n sz wh) sz0) (rwI (S := HT) D (fun z U => (z = 1 ∧ (1 ≤ a ∧ a ≤ 250) ∧ HR a.toNat (fun _ _ => false) (fun _ => 1) P Q (beg a.toNat) 0 8589934592 8589934592 tl tf ol of_ fk U) ∨ (z = 0 ∧ ¬ (1 ≤ a ∧ a ≤ 250) ∧ U = ((tF, tL), (oF, oL), (nx, nd, sz1, kd, pl), ((an, ax), fn, fx, pp, qq, st, ch, er), (q1, q2, qs), f1, f2, f3, n, sz, wh))) (fun u => wHT cI cJ h ta ou de ra od gr tb ob o1 o2 b1 b2 b3 u) (va_A (wHo h ta ou de ra od gr ++ wBR 2000 cI ta tb tF tL ++ wBR 3502 cI ou ob oF oL ++ wDe de nx nd sz1 kd pl ++ wRa cJ ra an ax fn fx pp qq st ch er ++ wOr cI cJ od o1 o2 q1 q2 qs ++ wGr cI gr b1 b2 b3 f1 f2 f3 n sz wh) sz0)) 0 0 (va_A (wHo h ta ou de ra od gr ++ wBR 2000 cI ta tb tF tL ++ wBR 3502 cI ou ob oF oL ++ wDe de nx nd sz1 kd pl ++ wRa cJ ra an ax fn fx pp qq st ch er ++ wOr cI cJ od o1 o2 q1 q2 qs ++ wGr cI gr b1 b2 b3 f1 f2 f3 n sz wh) sz0) := by
  refine Met.ofW (cc := cX5_clear) (maxL := 2) (ret := (some .boolean)) (by decide) rfl ?_
  intro p e s m args below meth c s₁ B hml hv
  obtain ⟨rfl, hsz, hP, hE, hD0⟩ := hv
  have hx := B.exec
  have hb := B.bytes
  have hr := B.returns
  have hts := atoms_spec (ws := wsX5_clear) B.pre
  have hown : s.vm.findClass RX5 = some m.cls := findClass_of_methodNamed B.named
  have hlocks := B.notSynchronized
  have hK := hE.1
  subst hsz
  have hD := hD0.self (sz := s.heap.size)
  generalize hAe : va_A (wHo h ta ou de ra od gr ++ wBR 2000 cI ta tb tF tL ++ wBR 3502 cI ou ob oF oL ++ wDe de nx nd sz1 kd pl ++ wRa cJ ra an ax fn fx pp qq st ch er ++ wOr cI cJ od o1 o2 q1 q2 qs ++ wGr cI gr b1 b2 b3 f1 f2 f3 n sz wh) s.heap.size = A at hD ⊢
  have hA : ∀ q : Nat, s.heap.size ≤ q → A q := fun q h => by rw [← hAe]; exact Or.inr h
  have hS : va_S A s.heap s.heap [] := va_S.rf
  have hP : va_P D vwCl (wHo h ta ou de ra od gr ++ wBR 2000 cI ta tb tF tL ++ wBR 3502 cI ou ob oF oL ++ wDe de nx nd sz1 kd pl ++ wRa cJ ra an ax fn fx pp qq st ch er ++ wOr cI cJ od o1 o2 q1 q2 qs ++ wGr cI gr b1 b2 b3 f1 f2 f3 n sz wh) s.heap := hP
  have hi_2 : ∀ w ∈ wsX20, w ∈ wsX5_clear := by decide +kernel
  have hi_5 : ∀ w ∈ wsX50, w ∈ wsX5_clear := by decide +kernel
  have hw_1 := hts (.fieldLink RX5 45 "RankHouse" "graph" "LRankHouse$Graph;") (by decide +kernel)
  have hw_2 := hts (.fieldLink RX5 31 "RankHouse" "ranks" "LRankHouse$Ranks;") (by decide +kernel)
  have hw_3 := hE.nl (w := .fieldLinkNest RX5 49 "RankHouse$Graph" "nodes" "I" "RankHouse") (by decide +kernel) ([.ref h, .int (iZ a)] : List Value).toArray
  have hl := lv_entry ([.ref h, .int (iZ a)]) (n := 2) (Nat.le_of_ble_eq_true rfl)
  rw [lg_entry_eq]
  generalize (lg_sl ([.ref h, .int (iZ a)]) ++ List.replicate (2 - (lg_sl ([.ref h, .int (iZ a)])).length) Slot.unset).toArray = ls at hl ⊢
  have hl : lv_has ls 2 [(0, .ref h), (1, .int (iZ a))] := hl
  obtain ⟨hG, hR, s1, s2, s3, s5, s6, t1, t1b, t2, t3, y1, y1b, y2, y3, d1⟩ := id hH
  dsimp only at hG hR s1 s2 s3 t1 t1b y1 y1b d1
  subst t1
  subst y1
  have hG : GR N E w f1 f2 f3 n sz wh := hG
  obtain ⟨g1, g2, g3, g4, g5, g6, g7, g8, g9, g10, g11⟩ := id hG
  obtain ⟨k1, k2, k3, k4, k5, k6⟩ := id hR
  refine lv_iload_n hx hb dX5_clear_0 rfl (lv_at hl 1 rfl) ?_
  refine ro_i (va_runS (As := [.int (iZ a)]) (rest := []) ⟨hx, hb, hml, hown, hts⟩ (c_X2_canHave l D cI cJ cB cZ a ha) (va_cwS 1 hts gX5_clear_X2_canHave rfl rfl rfl (by decide +kernel) ⟨Nat.le_of_ble_eq_true rfl, Nat.le_of_ble_eq_true rfl⟩) (pre0S hE (hP.sub (ws' := []) [] rfl)) rfl rfl hl.1 rfl (lv_room (Nat.le_of_ble_eq_true rfl)) dX5_clear_1 ⟨Nat.le_of_ble_eq_true rfl, Nat.le_of_ble_eq_true rfl⟩) (fun r_1 hr_2 => ?_)
  rcases hr_2 with ⟨rfl, hq_3⟩ | ⟨rfl, hq_3⟩
  · have hq8 := hq_3
    refine z_if_ne (tgt := 9) hx hb dX5_clear_4 (by decide) (by omega) (fun _ => ?_) (fun c9 => absurd c9 (by decide))
    refine lv_aload_n hx hb dX5_clear_9 rfl (lv_at hl 0 rfl) ?_
    refine va_get (v := .ref gr) (C := RX5) (T := TX5) (N := 6) (ci := 5) hx hb hts hi_5 hown hK hP 0 rfl rfl 5 (by decide) hw_1 (fun _ h9 => h9) rfl dX5_clear_10 ?_
    refine lv_iload_n hx hb dX5_clear_13 rfl (lv_at hl 1 rfl) ?_
    refine rw_v (wr := [(h, .inr (5, [.ref ta, .ref ou, .ref de, .ref ra, .ref od, .ref gr])), (ta, .inr (0, [.ref tb, .int (iZ tL)])), (tb, .inl (cI, 2000, .inl (aI tF))), (ou, .inr (0, [.ref ob, .int (iZ oL)])), (ob, .inl (cI, 3502, .inl (aI oF))), (de, .inr (1, [.int (iZ nx), .int (iZ nd), .int (iZ sz1), .int (iZ kd), .int (iZ pl)])), (ra, .inr (4, [.ref an, .ref ax, .int (iZ pp), .int (iZ qq), .int (iZ st), .long (lZ ch), .long (lZ er)])), (an, .inl (cJ, 250, .inr (.inl (aL fn)))), (ax, .inl (cJ, 250, .inr (.inl (aL fx)))), (od, .inr (3, [.ref o1, .ref o2, .int (iZ qs)])), (o1, .inl (cI, 250, .inl (aI q1))), (o2, .inl (cJ, 250, .inr (.inl (aL q2))))]) (va_runV (As := [.int (iZ a)]) (rest := []) ⟨hx, hb, hml, hown, hts⟩ (c_X2_reset l D cI cJ cB cZ gr b1 b2 b3 f1 f2 f3 n sz wh a (by omega) _) (cwV 1 hts gX5_clear_X2_reset rfl rfl rfl (by decide +kernel) ⟨Nat.le_of_ble_eq_true rfl, Nat.le_of_ble_eq_true rfl⟩) (pre1V hE (hP.sub (ws' := (wGr cI gr b1 b2 b3 f1 f2 f3 n sz wh)) [12, 13, 14, 15] rfl) (hD.sub (ws' := (wGr cI gr b1 b2 b3 f1 f2 f3 n sz wh)) [12, 13, 14, 15] (by decide) rfl) 0 rfl rfl) rfl rfl hl.1 rfl (lv_room (Nat.le_of_ble_eq_true rfl)) dX5_clear_14 ⟨Nat.le_of_ble_eq_true rfl, Nat.le_of_ble_eq_true rfl⟩) hP hD hS hA [12, 13, 14, 15] [0, 1, 2, 3, 4, 5, 6, 7, 8, 9, 10, 11] rfl rfl (by decide) (by decide) (fun u_6 H locs hr_5 hP hD hS => ?_)
    have hP := hP.sub (ws' := (wHo h ta ou de ra od gr ++ wBR 2000 cI ta tb tF tL ++ wBR 3502 cI ou ob oF oL ++ wDe de nx nd sz1 kd pl ++ wRa cJ ra an ax fn fx pp qq st ch er ++ wOr cI cJ od o1 o2 q1 q2 qs ++ wGr cI gr b1 b2 b3 u_6.1 u_6.2.1 u_6.2.2.1 u_6.2.2.2.1 u_6.2.2.2.2.1 u_6.2.2.2.2.2)) [0, 1, 2, 3, 4, 5, 6, 7, 8, 9, 10, 11, 12, 13, 14, 15] rfl
    have hD := hD.sub (ws' := (wHo h ta ou de ra od gr ++ wBR 2000 cI ta tb tF tL ++ wBR 3502 cI ou ob oF oL ++ wDe de nx nd sz1 kd pl ++ wRa cJ ra an ax fn fx pp qq st ch er ++ wOr cI cJ od o1 o2 q1 q2 qs ++ wGr cI gr b1 b2 b3 u_6.1 u_6.2.1 u_6.2.2.1 u_6.2.2.2.1 u_6.2.2.2.2.1 u_6.2.2.2.2.2)) [0, 1, 2, 3, 4, 5, 6, 7, 8, 9, 10, 11, 12, 13, 14, 15] (by decide) rfl
    have hG2 := hr_5
    refine lv_aload_n hx hb dX5_clear_17 rfl (lv_at hl 0 rfl) ?_
    refine va_get (v := .ref ra) (C := RX5) (T := TX5) (N := 6) (ci := 5) hx hb hts hi_5 hown hK hP 0 rfl rfl 3 (by decide) hw_2 (fun _ h9 => h9) rfl dX5_clear_18 ?_
    refine lv_aload_n hx hb dX5_clear_21 rfl (lv_at hl 0 rfl) ?_
    refine va_get (v := .ref gr) (C := RX5) (T := TX5) (N := 6) (ci := 5) hx hb hts hi_5 hown hK hP 0 rfl rfl 5 (by decide) hw_1 (fun _ h9 => h9) rfl dX5_clear_22 ?_
    refine va_getN (v := .int (iZ u_6.2.2.2.1)) (C := RX2) (T := TX2) (N := 6) (ci := 2) hx hb hts hi_2 hown hK hP 12 rfl rfl 3 (by decide) hw_3 (fun _ h9 => h9) rfl dX5_clear_25 ?_
    refine rw_v (wr := [(h, .inr (5, [.ref ta, .ref ou, .ref de, .ref ra, .ref od, .ref gr])), (ta, .inr (0, [.ref tb, .int (iZ tL)])), (tb, .inl (cI, 2000, .inl (aI tF))), (ou, .inr (0, [.ref ob, .int (iZ oL)])), (ob, .inl (cI, 3502, .inl (aI oF))), (de, .inr (1, [.int (iZ nx), .int (iZ nd), .int (iZ sz1), .int (iZ kd), .int (iZ pl)])), (od, .inr (3, [.ref o1, .ref o2, .int (iZ qs)])), (o1, .inl (cI, 250, .inl (aI q1))), (o2, .inl (cJ, 250, .inr (.inl (aL q2)))), (gr, .inr (2, [.ref b1, .ref b2, .ref b3, .int (iZ u_6.2.2.2.1), .int (iZ u_6.2.2.2.2.1), .int (iZ u_6.2.2.2.2.2)])), (b1, .inl (cI, 251, .inl (aI u_6.1))), (b2, .inl (cI, 2500, .inl (aI u_6.2.1))), (b3, .inl (cI, 250, .inl (aI u_6.2.2.1)))]) (va_runV (As := [.int (iZ u_6.2.2.2.1)]) (rest := []) ⟨hx, hb, hml, hown, hts⟩ (c_X4_begin l D cI cJ cB cZ ra an ax fn fx pp qq st ch er u_6.2.2.2.1 a.toNat (by omega) hG2.2.2.1 _) (cwV 1 hts gX5_clear_X4_begin rfl rfl rfl (by decide +kernel) ⟨Nat.le_of_ble_eq_true rfl, Nat.le_of_ble_eq_true rfl⟩) (pre1V hE (hP.sub (ws' := (wRa cJ ra an ax fn fx pp qq st ch er)) [6, 7, 8] rfl) (hD.sub (ws' := (wRa cJ ra an ax fn fx pp qq st ch er)) [6, 7, 8] (by decide) rfl) 0 rfl rfl) rfl rfl hl.1 rfl (lv_room (Nat.le_of_ble_eq_true rfl)) dX5_clear_28 ⟨Nat.le_of_ble_eq_true rfl, Nat.le_of_ble_eq_true rfl⟩) hP hD hS hA [6, 7, 8] [0, 1, 2, 3, 4, 5, 9, 10, 11, 12, 13, 14, 15] rfl rfl (by decide) (by decide) (fun u_9 H locs hr_8 hP hD hS => ?_)
    have hP := hP.sub (ws' := (wHo h ta ou de ra od gr ++ wBR 2000 cI ta tb tF tL ++ wBR 3502 cI ou ob oF oL ++ wDe de nx nd sz1 kd pl ++ wRa cJ ra an ax u_9 fx pp qq 0 8589934592 8589934592 ++ wOr cI cJ od o1 o2 q1 q2 qs ++ wGr cI gr b1 b2 b3 u_6.1 u_6.2.1 u_6.2.2.1 u_6.2.2.2.1 u_6.2.2.2.2.1 u_6.2.2.2.2.2)) [0, 1, 2, 3, 4, 5, 13, 14, 15, 6, 7, 8, 9, 10, 11, 12] rfl
    have hD := hD.sub (ws' := (wHo h ta ou de ra od gr ++ wBR 2000 cI ta tb tF tL ++ wBR 3502 cI ou ob oF oL ++ wDe de nx nd sz1 kd pl ++ wRa cJ ra an ax u_9 fx pp qq 0 8589934592 8589934592 ++ wOr cI cJ od o1 o2 q1 q2 qs ++ wGr cI gr b1 b2 b3 u_6.1 u_6.2.1 u_6.2.2.1 u_6.2.2.2.1 u_6.2.2.2.2.1 u_6.2.2.2.2.2)) [0, 1, 2, 3, 4, 5, 13, 14, 15, 6, 7, 8, 9, 10, 11, 12] (by decide) rfl
    have hq9 := hr_8
    refine z_iconst hx hb dX5_clear_31 ?_
    exact rw_zret (z := 1) ((tF, tL), (oF, oL), (nx, nd, sz1, kd, pl), ((an, ax), u_9, fx, pp, qq, 0, 8589934592, 8589934592), (q1, q2, qs), u_6.1, u_6.2.1, u_6.2.2.1, u_6.2.2.2.1, u_6.2.2.2.2.1, u_6.2.2.2.2.2) hx hb hr hlocks (Or.inr rfl) hP hD hS (Or.inl ⟨rfl, hq8, ⟨hG2, (RK_beg (by omega) hR hq9), rfl, rfl, rfl, (Nat.le_refl _), (Nat.le_refl _), rfl, t1b, t2, t3, rfl, y1b, y2, y3, d1⟩⟩) dX5_clear_32
  · have hq8 := hq_3
    refine z_if_ne (tgt := 9) hx hb dX5_clear_4 (by decide) (by omega) (fun c9 => absurd c9 (by decide)) (fun _ => ?_)
    refine z_iconst hx hb dX5_clear_7 ?_
    exact rw_zret (z := 0) ((tF, tL), (oF, oL), (nx, nd, sz1, kd, pl), ((an, ax), fn, fx, pp, qq, st, ch, er), (q1, q2, qs), f1, f2, f3, n, sz, wh) hx hb hr hlocks (Or.inl rfl) hP hD hS (Or.inr ⟨rfl, hq8, rfl⟩) dX5_clear_8
set_option maxHeartbeats 4000000 in
set_option maxRecDepth 100000 in
theorem c_X5_add (l : Launch) (D : va_G) (cI cJ cB cZ : ClassId) (h ta ou de ra od gr tb ob an ax o1 o2 b1 b2 b3 : Nat) (tF : Nat → Int) (tL : Int) (oF : Nat → Int) (oL : Int) (nx nd sz1 kd pl : Int) (fn fx : Nat → Int) (pp qq st ch er : Int) (q1 q2 : Nat → Int) (qs : Int) (f1 f2 f3 : Nat → Int) (n sz wh : Int) (N : Nat) (E : Ed) (w : Nat → Nat) (P Q : Nat) (x : Nat → Nat) (ks kc ke tl : Nat) (tf : Nat → Int) (ol : Nat) (of_ : Nat → Int) (fk : Int) (hH : HR N E w P Q x ks kc ke tl tf ol of_ fk ((tF, tL), (oF, oL), (nx, nd, sz1, kd, pl), ((an, ax), fn, fx, pp, qq, st, ch, er), (q1, q2, qs), f1, f2, f3, n, sz, wh)) (a : Int) (ha : -2147483648 ≤ a ∧ a < 2147483648) (b : Int) (hb0 : -2147483648 ≤ b ∧ b < 2147483648)  (sz0 : Nat) : Met l yX5_add wsX5_add ({ frames := 3, cells := 0, slots := 0, locals := 70 } : Room) (Pre1 D cI cJ cB cZ [.ref h, .int (iZ a), .int (iZ b)] (wHo h ta ou de ra od gr ++ wBR 2000 cI ta tb tF tL ++ wBR 3502 cI ou ob oF oL ++ wDe de nx nd sz1 kd pl ++ wRa cJ ra an ax fn fx pp qq st ch er ++ wOr cI cJ od o1 o2 q1 q2 qs ++ wGr cI gr b1 b2 b3 f1 f2 f3 n sz wh) sz0) (rwI (S := HT) D (fun z U => (z = 1 ∧ (0 ≤ a ∧ a < (N : Int) ∧ 0 ≤ b ∧ b < (N : Int) ∧ fst E N N < 2500 ∧ E a.toNat b.toNat = false) ∧ HR N (uE E a.toNat b.toNat true) w P Q (beg N) 0 8589934592 8589934592 tl tf ol of_ fk U) ∨ (z = 0 ∧ ¬ (0 ≤ a ∧ a < (N : Int) ∧ 0 ≤ b ∧ b < (N : Int) ∧ fst E N N < 2500 ∧ E a.toNat b.toNat = false) ∧ HR N E w P Q x ks kc ke tl tf ol of_ fk U)) (fun u => wHT cI cJ h ta ou de ra od gr tb ob o1 o2 b1 b2 b3 u) (va_A (wHo h ta ou de ra od gr ++ wBR 2000 cI ta tb tF tL ++ wBR 3502 cI ou ob oF oL ++ wDe de nx nd sz1 kd pl ++ wRa cJ ra an ax fn fx pp qq st ch er ++ wOr cI cJ od o1 o2 q1 q2 qs ++ wGr cI gr b1 b2 b3 f1 f2 f3 n sz wh) sz0)) 0 0 (va_A (wHo h ta ou de ra od gr ++ wBR 2000 cI ta tb tF tL ++ wBR 3502 cI ou ob oF oL ++ wDe de nx nd sz1 kd pl ++ wRa cJ ra an ax fn fx pp qq st ch er ++ wOr cI cJ od o1 o2 q1 q2 qs ++ wGr cI gr b1 b2 b3 f1 f2 f3 n sz wh) sz0) := by
  refine Met.ofW (cc := cX5_add) (maxL := 3) (ret := (some .boolean)) (by decide) rfl ?_
  intro p e s m args below meth c s₁ B hml hv
  obtain ⟨rfl, hsz, hP, hE, hD0⟩ := hv
  have hx := B.exec
  have hb := B.bytes
  have hr := B.returns
  have hts := atoms_spec (ws := wsX5_add) B.pre
  have hown : s.vm.findClass RX5 = some m.cls := findClass_of_methodNamed B.named
  have hlocks := B.notSynchronized
  have hK := hE.1
  subst hsz
  have hD := hD0.self (sz := s.heap.size)
  generalize hAe : va_A (wHo h ta ou de ra od gr ++ wBR 2000 cI ta tb tF tL ++ wBR 3502 cI ou ob oF oL ++ wDe de nx nd sz1 kd pl ++ wRa cJ ra an ax fn fx pp qq st ch er ++ wOr cI cJ od o1 o2 q1 q2 qs ++ wGr cI gr b1 b2 b3 f1 f2 f3 n sz wh) s.heap.size = A at hD ⊢
  have hA : ∀ q : Nat, s.heap.size ≤ q → A q := fun q h => by rw [← hAe]; exact Or.inr h
  have hS : va_S A s.heap s.heap [] := va_S.rf
  have hP : va_P D vwCl (wHo h ta ou de ra od gr ++ wBR 2000 cI ta tb tF tL ++ wBR 3502 cI ou ob oF oL ++ wDe de nx nd sz1 kd pl ++ wRa cJ ra an ax fn fx pp qq st ch er ++ wOr cI cJ od o1 o2 q1 q2 qs ++ wGr cI gr b1 b2 b3 f1 f2 f3 n sz wh) s.heap := hP
  have hi_5 : ∀ w ∈ wsX50, w ∈ wsX5_add := by decide +kernel
  have hw_1 := hts (.fieldLink RX5 45 "RankHouse" "graph" "LRankHouse$Graph;") (by decide +kernel)
  have hl := lv_entry ([.ref h, .int (iZ a), .int (iZ b)]) (n := 3) (Nat.le_of_ble_eq_true rfl)
  rw [lg_entry_eq]
  generalize (lg_sl ([.ref h, .int (iZ a), .int (iZ b)]) ++ List.replicate (3 - (lg_sl ([.ref h, .int (iZ a), .int (iZ b)])).length) Slot.unset).toArray = ls at hl ⊢
  have hl : lv_has ls 3 [(0, .ref h), (1, .int (iZ a)), (2, .int (iZ b))] := hl
  obtain ⟨hG, hR, s1, s2, s3, s5, s6, t1, t1b, t2, t3, y1, y1b, y2, y3, d1⟩ := id hH
  dsimp only at hG hR s1 s2 s3 t1 t1b y1 y1b d1
  subst t1
  subst y1
  have hG : GR N E w f1 f2 f3 n sz wh := hG
  obtain ⟨g1, g2, g3, g4, g5, g6, g7, g8, g9, g10, g11⟩ := id hG
  obtain ⟨k1, k2, k3, k4, k5, k6⟩ := id hR
  refine lv_aload_n hx hb dX5_add_0 rfl (lv_at hl 0 rfl) ?_
  refine lv_aload_n hx hb dX5_add_1 rfl (lv_at hl 0 rfl) ?_
  refine va_get (v := .ref gr) (C := RX5) (T := TX5) (N := 6) (ci := 5) hx hb hts hi_5 hown hK hP 0 rfl rfl 5 (by decide) hw_1 (fun _ h9 => h9) rfl dX5_add_2 ?_
  refine lv_iload_n hx hb dX5_add_5 rfl (lv_at hl 1 rfl) ?_
  refine lv_iload_n hx hb dX5_add_6 rfl (lv_at hl 2 rfl) ?_
  refine rw_i (wr := [(h, .inr (5, [.ref ta, .ref ou, .ref de, .ref ra, .ref od, .ref gr])), (ta, .inr (0, [.ref tb, .int (iZ tL)])), (tb, .inl (cI, 2000, .inl (aI tF))), (ou, .inr (0, [.ref ob, .int (iZ oL)])), (ob, .inl (cI, 3502, .inl (aI oF))), (de, .inr (1, [.int (iZ nx), .int (iZ nd), .int (iZ sz1), .int (iZ kd), .int (iZ pl)])), (ra, .inr (4, [.ref an, .ref ax, .int (iZ pp), .int (iZ qq), .int (iZ st), .long (lZ ch), .long (lZ er)])), (an, .inl (cJ, 250, .inr (.inl (aL fn)))), (ax, .inl (cJ, 250, .inr (.inl (aL fx)))), (od, .inr (3, [.ref o1, .ref o2, .int (iZ qs)])), (o1, .inl (cI, 250, .inl (aI q1))), (o2, .inl (cJ, 250, .inr (.inl (aL q2))))]) (va_runV (As := [.int (iZ a), .int (iZ b)]) (rest := [.ref h]) ⟨hx, hb, hml, hown, hts⟩ (c_X2_join l D cI cJ cB cZ gr b1 b2 b3 f1 f2 f3 n sz wh N E w hG a b ha hb0 _) (cwV 2 hts gX5_add_X2_join rfl rfl rfl (by decide +kernel) ⟨Nat.le_of_ble_eq_true rfl, Nat.le_of_ble_eq_true rfl⟩) (pre1V hE (hP.sub (ws' := (wGr cI gr b1 b2 b3 f1 f2 f3 n sz wh)) [12, 13, 14, 15] rfl) (hD.sub (ws' := (wGr cI gr b1 b2 b3 f1 f2 f3 n sz wh)) [12, 13, 14, 15] (by decide) rfl) 0 rfl rfl) rfl rfl hl.1 rfl (lv_room (Nat.le_of_ble_eq_true rfl)) dX5_add_7 ⟨Nat.le_of_ble_eq_true rfl, Nat.le_of_ble_eq_true rfl⟩) hP hD hS hA [12, 13, 14, 15] [0, 1, 2, 3, 4, 5, 6, 7, 8, 9, 10, 11] rfl rfl (by decide) (by decide) (fun r_1 u_3 H locs hr_2 hP hD hS => ?_)
  have hP := hP.sub (ws' := (wHo h ta ou de ra od gr ++ wBR 2000 cI ta tb tF tL ++ wBR 3502 cI ou ob oF oL ++ wDe de nx nd sz1 kd pl ++ wRa cJ ra an ax fn fx pp qq st ch er ++ wOr cI cJ od o1 o2 q1 q2 qs ++ wGr cI gr b1 b2 b3 u_3.1 u_3.2.1 u_3.2.2.1 u_3.2.2.2.1 u_3.2.2.2.2.1 u_3.2.2.2.2.2)) [0, 1, 2, 3, 4, 5, 6, 7, 8, 9, 10, 11, 12, 13, 14, 15] rfl
  have hD := hD.sub (ws' := (wHo h ta ou de ra od gr ++ wBR 2000 cI ta tb tF tL ++ wBR 3502 cI ou ob oF oL ++ wDe de nx nd sz1 kd pl ++ wRa cJ ra an ax fn fx pp qq st ch er ++ wOr cI cJ od o1 o2 q1 q2 qs ++ wGr cI gr b1 b2 b3 u_3.1 u_3.2.1 u_3.2.2.1 u_3.2.2.2.1 u_3.2.2.2.2.1 u_3.2.2.2.2.2)) [0, 1, 2, 3, 4, 5, 6, 7, 8, 9, 10, 11, 12, 13, 14, 15] (by decide) rfl
  rcases hr_2 with ⟨rfl, hq_4⟩ | ⟨rfl, hq_4⟩
  · have hc := hq_4.1
    have hG2 := hq_4.2
    refine rw_i (wr := [(ta, .inr (0, [.ref tb, .int (iZ tL)])), (tb, .inl (cI, 2000, .inl (aI tF))), (ou, .inr (0, [.ref ob, .int (iZ oL)])), (ob, .inl (cI, 3502, .inl (aI oF))), (de, .inr (1, [.int (iZ nx), .int (iZ nd), .int (iZ sz1), .int (iZ kd), .int (iZ pl)])), (od, .inr (3, [.ref o1, .ref o2, .int (iZ qs)])), (o1, .inl (cI, 250, .inl (aI q1))), (o2, .inl (cJ, 250, .inr (.inl (aL q2))))]) (va_runV (As := [.int (iZ 1)]) (rest := []) ⟨hx, hb, hml, hown, hts⟩ (c_X5_beginIf l D cI cJ cB cZ h ta ou de ra od gr an ax b1 b2 b3 fn fx pp qq st ch er u_3.1 u_3.2.1 u_3.2.2.1 u_3.2.2.2.1 u_3.2.2.2.2.1 u_3.2.2.2.2.2 1 N (by omega) (by omega) hG2.2.2.1 _) (cwV 1 hts gX5_add_X5_beginIf rfl rfl rfl (by decide +kernel) ⟨Nat.le_of_ble_eq_true rfl, Nat.le_of_ble_eq_true rfl⟩) (pre1V hE (hP.sub (ws' := (wHo h ta ou de ra od gr ++ wRa cJ ra an ax fn fx pp qq st ch er ++ wGr cI gr b1 b2 b3 u_3.1 u_3.2.1 u_3.2.2.1 u_3.2.2.2.1 u_3.2.2.2.2.1 u_3.2.2.2.2.2)) [0, 6, 7, 8, 12, 13, 14, 15] rfl) (hD.sub (ws' := (wHo h ta ou de ra od gr ++ wRa cJ ra an ax fn fx pp qq st ch er ++ wGr cI gr b1 b2 b3 u_3.1 u_3.2.1 u_3.2.2.1 u_3.2.2.2.1 u_3.2.2.2.2.1 u_3.2.2.2.2.2)) [0, 6, 7, 8, 12, 13, 14, 15] (by decide) rfl) 0 rfl rfl) rfl rfl hl.1 rfl (lv_room (Nat.le_of_ble_eq_true rfl)) dX5_add_10 ⟨Nat.le_of_ble_eq_true rfl, Nat.le_of_ble_eq_true rfl⟩) hP hD hS hA [0, 6, 7, 8, 12, 13, 14, 15] [1, 2, 3, 4, 5, 9, 10, 11] rfl rfl (by decide) (by decide) (fun r_5 u_7 H locs hr_6 hP hD hS => ?_)
    have hP := hP.sub (ws' := (wHo h ta ou de ra od gr ++ wBR 2000 cI ta tb tF tL ++ wBR 3502 cI ou ob oF oL ++ wDe de nx nd sz1 kd pl ++ wRa cJ ra an ax u_7.1 fx pp qq u_7.2.1 u_7.2.2.1 u_7.2.2.2 ++ wOr cI cJ od o1 o2 q1 q2 qs ++ wGr cI gr b1 b2 b3 u_3.1 u_3.2.1 u_3.2.2.1 u_3.2.2.2.1 u_3.2.2.2.2.1 u_3.2.2.2.2.2)) [8, 0, 1, 2, 3, 4, 9, 10, 11, 5, 6, 7, 12, 13, 14, 15] rfl
    have hD := hD.sub (ws' := (wHo h ta ou de ra od gr ++ wBR 2000 cI ta tb tF tL ++ wBR 3502 cI ou ob oF oL ++ wDe de nx nd sz1 kd pl ++ wRa cJ ra an ax u_7.1 fx pp qq u_7.2.1 u_7.2.2.1 u_7.2.2.2 ++ wOr cI cJ od o1 o2 q1 q2 qs ++ wGr cI gr b1 b2 b3 u_3.1 u_3.2.1 u_3.2.2.1 u_3.2.2.2.1 u_3.2.2.2.2.1 u_3.2.2.2.2.2)) [8, 0, 1, 2, 3, 4, 9, 10, 11, 5, 6, 7, 12, 13, 14, 15] (by decide) rfl
    obtain ⟨rfl, v1, v2⟩ := hr_6
    exact rw_zret (z := 1) ((tF, tL), (oF, oL), (nx, nd, sz1, kd, pl), ((an, ax), u_7.1, fx, pp, qq, u_7.2.1, u_7.2.2.1, u_7.2.2.2), (q1, q2, qs), u_3.1, u_3.2.1, u_3.2.2.1, u_3.2.2.2.1, u_3.2.2.2.2.1, u_3.2.2.2.2.2) hx hb hr hlocks (Or.inr rfl) hP hD hS (Or.inl ⟨rfl, ⟨by omega, by omega, by omega, by omega, by omega, hc.2.2.2.2.2⟩, ⟨hG2, (RK_beg (by omega) hR (v1 rfl).1), (by rw [(v1 rfl).2]; rfl), (by rw [(v1 rfl).2]; rfl), (by rw [(v1 rfl).2]; rfl), (Nat.le_refl _), (Nat.le_refl _), rfl, t1b, t2, t3, rfl, y1b, y2, y3, d1⟩⟩) dX5_add_13
  · have hc := hq_4.1
    have hG2 : GRu N E w u_3 := by rw [hq_4.2]; exact hG
    refine rw_i (wr := [(ta, .inr (0, [.ref tb, .int (iZ tL)])), (tb, .inl (cI, 2000, .inl (aI tF))), (ou, .inr (0, [.ref ob, .int (iZ oL)])), (ob, .inl (cI, 3502, .inl (aI oF))), (de, .inr (1, [.int (iZ nx), .int (iZ nd), .int (iZ sz1), .int (iZ kd), .int (iZ pl)])), (od, .inr (3, [.ref o1, .ref o2, .int (iZ qs)])), (o1, .inl (cI, 250, .inl (aI q1))), (o2, .inl (cJ, 250, .inr (.inl (aL q2))))]) (va_runV (As := [.int (iZ 0)]) (rest := []) ⟨hx, hb, hml, hown, hts⟩ (c_X5_beginIf l D cI cJ cB cZ h ta ou de ra od gr an ax b1 b2 b3 fn fx pp qq st ch er u_3.1 u_3.2.1 u_3.2.2.1 u_3.2.2.2.1 u_3.2.2.2.2.1 u_3.2.2.2.2.2 0 N (by omega) (by omega) hG2.2.2.1 _) (cwV 1 hts gX5_add_X5_beginIf rfl rfl rfl (by decide +kernel) ⟨Nat.le_of_ble_eq_true rfl, Nat.le_of_ble_eq_true rfl⟩) (pre1V hE (hP.sub (ws' := (wHo h ta ou de ra od gr ++ wRa cJ ra an ax fn fx pp qq st ch er ++ wGr cI gr b1 b2 b3 u_3.1 u_3.2.1 u_3.2.2.1 u_3.2.2.2.1 u_3.2.2.2.2.1 u_3.2.2.2.2.2)) [0, 6, 7, 8, 12, 13, 14, 15] rfl) (hD.sub (ws' := (wHo h ta ou de ra od gr ++ wRa cJ ra an ax fn fx pp qq st ch er ++ wGr cI gr b1 b2 b3 u_3.1 u_3.2.1 u_3.2.2.1 u_3.2.2.2.1 u_3.2.2.2.2.1 u_3.2.2.2.2.2)) [0, 6, 7, 8, 12, 13, 14, 15] (by decide) rfl) 0 rfl rfl) rfl rfl hl.1 rfl (lv_room (Nat.le_of_ble_eq_true rfl)) dX5_add_10 ⟨Nat.le_of_ble_eq_true rfl, Nat.le_of_ble_eq_true rfl⟩) hP hD hS hA [0, 6, 7, 8, 12, 13, 14, 15] [1, 2, 3, 4, 5, 9, 10, 11] rfl rfl (by decide) (by decide) (fun r_8 u_10 H locs hr_9 hP hD hS => ?_)
    have hP := hP.sub (ws' := (wHo h ta ou de ra od gr ++ wBR 2000 cI ta tb tF tL ++ wBR 3502 cI ou ob oF oL ++ wDe de nx nd sz1 kd pl ++ wRa cJ ra an ax u_10.1 fx pp qq u_10.2.1 u_10.2.2.1 u_10.2.2.2 ++ wOr cI cJ od o1 o2 q1 q2 qs ++ wGr cI gr b1 b2 b3 u_3.1 u_3.2.1 u_3.2.2.1 u_3.2.2.2.1 u_3.2.2.2.2.1 u_3.2.2.2.2.2)) [8, 0, 1, 2, 3, 4, 9, 10, 11, 5, 6, 7, 12, 13, 14, 15] rfl
    have hD := hD.sub (ws' := (wHo h ta ou de ra od gr ++ wBR 2000 cI ta tb tF tL ++ wBR 3502 cI ou ob oF oL ++ wDe de nx nd sz1 kd pl ++ wRa cJ ra an ax u_10.1 fx pp qq u_10.2.1 u_10.2.2.1 u_10.2.2.2 ++ wOr cI cJ od o1 o2 q1 q2 qs ++ wGr cI gr b1 b2 b3 u_3.1 u_3.2.1 u_3.2.2.1 u_3.2.2.2.1 u_3.2.2.2.2.1 u_3.2.2.2.2.2)) [8, 0, 1, 2, 3, 4, 9, 10, 11, 5, 6, 7, 12, 13, 14, 15] (by decide) rfl
    obtain ⟨rfl, v1, v2⟩ := hr_9
    exact rw_zret (z := 0) ((tF, tL), (oF, oL), (nx, nd, sz1, kd, pl), ((an, ax), u_10.1, fx, pp, qq, u_10.2.1, u_10.2.2.1, u_10.2.2.2), (q1, q2, qs), u_3.1, u_3.2.1, u_3.2.2.1, u_3.2.2.2.1, u_3.2.2.2.2.1, u_3.2.2.2.2.2) hx hb hr hlocks (Or.inl rfl) hP hD hS (Or.inr ⟨rfl, fun q => hc ⟨by omega, by omega, by omega, by omega, by omega, q.2.2.2.2.2⟩, ⟨hG2, (by rw [v2 rfl]; exact hR), (by rw [v2 rfl]; exact s1), (by rw [v2 rfl]; exact s2), (by rw [v2 rfl]; exact s3), s5, s6, rfl, t1b, t2, t3, rfl, y1b, y2, y3, d1⟩⟩) dX5_add_13
