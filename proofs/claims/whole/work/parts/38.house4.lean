set_option maxHeartbeats 4000000 in
set_option maxRecDepth 100000 in
theorem c_X5_top (l : Launch) (D : va_G) (cI cJ cB cZ : ClassId) (h ta ou de ra od gr tb ob an ax o1 o2 b1 b2 b3 : Nat) (tF : Nat → Int) (tL : Int) (oF : Nat → Int) (oL : Int) (nx nd sz1 kd pl : Int) (fn fx : Nat → Int) (pp qq st ch er : Int) (q1 q2 : Nat → Int) (qs : Int) (f1 f2 f3 : Nat → Int) (n sz wh : Int) (N : Nat) (E : Ed) (w : Nat → Nat) (P Q : Nat) (x : Nat → Nat) (ks kc ke tl : Nat) (tf : Nat → Int) (ol : Nat) (of_ : Nat → Int) (fk : Int) (hH : HR N E w P Q x ks kc ke tl tf ol of_ fk ((tF, tL), (oF, oL), (nx, nd, sz1, kd, pl), ((an, ax), fn, fx, pp, qq, st, ch, er), (q1, q2, qs), f1, f2, f3, n, sz, wh)) (a : Int) (ha : -2147483648 ≤ a ∧ a < 2147483648)  (sz0 : Nat) : Met l yX5_top wsX5_top ({ frames := 1, cells := 0, slots := 0, locals := 24 } : Room) (Pre1 D cI cJ cB cZ [.ref h, .int (iZ a)] (wHo h ta ou de ra od gr ++ wBR 2000 cI ta tb tF tL ++ wBR 3502 cI ou ob oF oL ++ wDe de nx nd sz1 kd pl ++ wRa cJ ra an ax fn fx pp qq st ch er ++ wOr cI cJ od o1 o2 q1 q2 qs ++ wGr cI gr b1 b2 b3 f1 f2 f3 n sz wh) sz0) (rwI (S := HT) D (fun z U => TK (fun _ => true) x N a z ∧ HR N E w P Q x ks kc ke tl tf ol of_ fk U) (fun u => wHT cI cJ h ta ou de ra od gr tb ob o1 o2 b1 b2 b3 u) (va_A (wHo h ta ou de ra od gr ++ wBR 2000 cI ta tb tF tL ++ wBR 3502 cI ou ob oF oL ++ wDe de nx nd sz1 kd pl ++ wRa cJ ra an ax fn fx pp qq st ch er ++ wOr cI cJ od o1 o2 q1 q2 qs ++ wGr cI gr b1 b2 b3 f1 f2 f3 n sz wh) sz0)) 0 0 (va_A (wHo h ta ou de ra od gr ++ wBR 2000 cI ta tb tF tL ++ wBR 3502 cI ou ob oF oL ++ wDe de nx nd sz1 kd pl ++ wRa cJ ra an ax fn fx pp qq st ch er ++ wOr cI cJ od o1 o2 q1 q2 qs ++ wGr cI gr b1 b2 b3 f1 f2 f3 n sz wh) sz0) := by
  refine Met.ofW (cc := cX5_top) (maxL := 3) (ret := (some .int)) (by decide) rfl ?_
  intro p e s m args below meth c s₁ B hml hv
  obtain ⟨rfl, hsz, hP, hE, hD0⟩ := hv
  have hx := B.exec
  have hb := B.bytes
  have hr := B.returns
  have hts := atoms_spec (ws := wsX5_top) B.pre
  have hown : s.vm.findClass RX5 = some m.cls := findClass_of_methodNamed B.named
  have hlocks := B.notSynchronized
  have hK := hE.1
  subst hsz
  have hD := hD0.self (sz := s.heap.size)
  generalize hAe : va_A (wHo h ta ou de ra od gr ++ wBR 2000 cI ta tb tF tL ++ wBR 3502 cI ou ob oF oL ++ wDe de nx nd sz1 kd pl ++ wRa cJ ra an ax fn fx pp qq st ch er ++ wOr cI cJ od o1 o2 q1 q2 qs ++ wGr cI gr b1 b2 b3 f1 f2 f3 n sz wh) s.heap.size = A at hD ⊢
  have hA : ∀ q : Nat, s.heap.size ≤ q → A q := fun q h => by rw [← hAe]; exact Or.inr h
  have hS : va_S A s.heap s.heap [] := va_S.rf
  have hP : va_P D vwCl (wHo h ta ou de ra od gr ++ wBR 2000 cI ta tb tF tL ++ wBR 3502 cI ou ob oF oL ++ wDe de nx nd sz1 kd pl ++ wRa cJ ra an ax fn fx pp qq st ch er ++ wOr cI cJ od o1 o2 q1 q2 qs ++ wGr cI gr b1 b2 b3 f1 f2 f3 n sz wh) s.heap := hP
  have hi_2 : ∀ w ∈ wsX20, w ∈ wsX5_top := by decide +kernel
  have hi_3 : ∀ w ∈ wsX30, w ∈ wsX5_top := by decide +kernel
  have hi_4 : ∀ w ∈ wsX40, w ∈ wsX5_top := by decide +kernel
  have hi_5 : ∀ w ∈ wsX50, w ∈ wsX5_top := by decide +kernel
  have hw_1 := hts (.fieldLink RX5 38 "RankHouse" "order" "LRankHouse$Order;") (by decide +kernel)
  have hw_2 := hE.nl (w := .fieldLinkNest RX5 156 "RankHouse$Order" "size" "I" "RankHouse") (by decide +kernel) ([.ref h, .int (iZ a)] : List Value).toArray
  have hw_3 := hts (.fieldLink RX5 45 "RankHouse" "graph" "LRankHouse$Graph;") (by decide +kernel)
  have hw_4 := hE.nl (w := .fieldLinkNest RX5 49 "RankHouse$Graph" "nodes" "I" "RankHouse") (by decide +kernel) ([.ref h, .int (iZ a)] : List Value).toArray
  have hw_5 := hts (.fieldLink RX5 31 "RankHouse" "ranks" "LRankHouse$Ranks;") (by decide +kernel)
  have hw_6 := hE.nl (w := .fieldLinkNest RX5 133 "RankHouse$Ranks" "now" "[J" "RankHouse") (by decide +kernel) ([.ref h, .int (iZ a)] : List Value).toArray
  have hl := lv_entry ([.ref h, .int (iZ a)]) (n := 3) (Nat.le_of_ble_eq_true rfl)
  rw [lg_entry_eq]
  generalize (lg_sl ([.ref h, .int (iZ a)]) ++ List.replicate (3 - (lg_sl ([.ref h, .int (iZ a)])).length) Slot.unset).toArray = ls at hl ⊢
  have hl : lv_has ls 3 [(0, .ref h), (1, .int (iZ a))] := hl
  obtain ⟨hG, hR, s1, s2, s3, s5, s6, t1, t1b, t2, t3, y1, y1b, y2, y3, d1⟩ := id hH
  dsimp only at hG hR s1 s2 s3 t1 t1b y1 y1b d1
  subst t1
  subst y1
  have hG : GR N E w f1 f2 f3 n sz wh := hG
  obtain ⟨g1, g2, g3, g4, g5, g6, g7, g8, g9, g10, g11⟩ := id hG
  obtain ⟨k1, k2, k3, k4, k5, k6⟩ := id hR
  refine lv_aload_n hx hb dX5_top_0 rfl (lv_at hl 0 rfl) ?_
  refine va_get (v := .ref od) (C := RX5) (T := TX5) (N := 6) (ci := 5) hx hb hts hi_5 hown hK hP 0 rfl rfl 4 (by decide) hw_1 (fun _ h9 => h9) rfl dX5_top_1 ?_
  refine z_iconst hx hb dX5_top_4 ?_
  refine va_putN (v := .int (iZ 0)) (ty := .int) (C := RX3) (T := TX3) (N := 3) (ci := 3) hx hb hts hi_3 tyX3 tyX3_ok nmX3 hown hK hP hD hS 9 rfl rfl 2 (by decide) hw_2 (fun _ h9 => h9) rfl (by decide +kernel) rfl rfl (Nat.le_of_ble_eq_true rfl) dX5_top_5 (fun H locs hP hD hS => ?_)
  have hP : va_P D vwCl (wHo h ta ou de ra od gr ++ wBR 2000 cI ta tb tF tL ++ wBR 3502 cI ou ob oF oL ++ wDe de nx nd sz1 kd pl ++ wRa cJ ra an ax fn fx pp qq st ch er ++ wOr cI cJ od o1 o2 q1 q2 0 ++ wGr cI gr b1 b2 b3 f1 f2 f3 n sz wh) H := hP
  have hD : va_D A (wHo h ta ou de ra od gr ++ wBR 2000 cI ta tb tF tL ++ wBR 3502 cI ou ob oF oL ++ wDe de nx nd sz1 kd pl ++ wRa cJ ra an ax fn fx pp qq st ch er ++ wOr cI cJ od o1 o2 q1 q2 0 ++ wGr cI gr b1 b2 b3 f1 f2 f3 n sz wh) := hD
  refine z_iconst hx hb dX5_top_8 ?_
  refine lv_istore_n (lv' := [(2, .int (iZ 0)), (0, .ref h), (1, .int (iZ a))]) hx hb dX5_top_9 rfl hl (by decide) rfl (fun ls hl => ?_)
  refine w_loop (fun kf H locs ls => ∃ (i s0 : Nat), ∃ (ga gb : Nat → Int), ∃ (gs : Int), kf = N - i ∧ (i ≤ N ∧ OI (fun _ => true) x i s0 ga gb ∧ gs = (s0 : Int)) ∧ va_P D vwCl (wHo h ta ou de ra od gr ++ wBR 2000 cI ta tb tF tL ++ wBR 3502 cI ou ob oF oL ++ wDe de nx nd sz1 kd pl ++ wRa cJ ra an ax fn fx pp qq st ch er ++ wOr cI cJ od o1 o2 ga gb gs ++ wGr cI gr b1 b2 b3 f1 f2 f3 n sz wh) H ∧ va_D A (wHo h ta ou de ra od gr ++ wBR 2000 cI ta tb tF tL ++ wBR 3502 cI ou ob oF oL ++ wDe de nx nd sz1 kd pl ++ wRa cJ ra an ax fn fx pp qq st ch er ++ wOr cI cJ od o1 o2 ga gb gs ++ wGr cI gr b1 b2 b3 f1 f2 f3 n sz wh) ∧ va_S A s.heap H locs ∧ lv_has ls 3 [(0, .ref h), (1, .int (iZ a)), (2, .int (iZ ↑i))]) ?_ _ ⟨0, 0, q1, q2, 0, rfl, ⟨by omega, OI_0, rfl⟩, hP, hD, hS, lv_sub hl [1, 2, 0] rfl⟩
  rintro kf H locs ls ⟨i, s0, ga, gb, gs, hk, ⟨i1, i2, i3⟩, hP, hD, hS, hl⟩ ih
  refine lv_iload_n hx hb dX5_top_10 rfl (lv_at hl 2 rfl) ?_
  refine lv_aload_n hx hb dX5_top_11 rfl (lv_at hl 0 rfl) ?_
  refine va_get (v := .ref gr) (C := RX5) (T := TX5) (N := 6) (ci := 5) hx hb hts hi_5 hown hK hP 0 rfl rfl 5 (by decide) hw_3 (fun _ h9 => h9) rfl dX5_top_12 ?_
  refine va_getN (v := .int (iZ n)) (C := RX2) (T := TX2) (N := 6) (ci := 2) hx hb hts hi_2 hown hK hP 12 rfl rfl 3 (by decide) hw_4 (fun _ h9 => h9) rfl dX5_top_15 ?_
  refine z_icmp_ge (tgt := 44) hx hb dX5_top_18 (by decide) (by omega) (by omega) (fun c_1 => ?_) (fun c_1 => ?_)
  · refine lv_aload_n hx hb dX5_top_44 rfl (lv_at hl 0 rfl) ?_
    refine va_get (v := .ref od) (C := RX5) (T := TX5) (N := 6) (ci := 5) hx hb hts hi_5 hown hK hP 0 rfl rfl 4 (by decide) hw_1 (fun _ h9 => h9) rfl dX5_top_45 ?_
    refine lv_iload_n hx hb dX5_top_48 rfl (lv_at hl 1 rfl) ?_
    refine ro_i (va_runV (As := [.int (iZ a)]) (rest := []) ⟨hx, hb, hml, hown, hts⟩ (c_X3_node l D cI cJ cB cZ od o1 o2 ga gb gs a ha (by have os := OI_s i2; omega)) (cwV 1 hts gX5_top_X3_node rfl rfl rfl (by decide +kernel) ⟨Nat.le_of_ble_eq_true rfl, Nat.le_of_ble_eq_true rfl⟩) (pre0V hE (hP.sub (ws' := (wOr cI cJ od o1 o2 ga gb gs)) [9, 10, 11] rfl) 0 rfl rfl) rfl rfl hl.1 rfl (lv_room (Nat.le_of_ble_eq_true rfl)) dX5_top_49 ⟨Nat.le_of_ble_eq_true rfl, Nat.le_of_ble_eq_true rfl⟩) (fun r_2 hr_3 => ?_)
    have hn9 := hr_3
    exact rw_iret (z := r_2) ((tF, tL), (oF, oL), (nx, nd, sz1, kd, pl), ((an, ax), fn, fx, pp, qq, st, ch, er), (ga, gb, gs), f1, f2, f3, n, sz, wh) hx hb hr hlocks hP hD hS ⟨OI_end (by rw [show i = N by omega] at i2; exact i2) (by rw [← i3]; exact hn9.1) (by rw [← i3]; exact hn9.2), ⟨hG, hR, s1, s2, s3, s5, s6, rfl, t1b, t2, t3, rfl, y1b, y2, y3, d1⟩⟩ dX5_top_52
  · refine lv_aload_n hx hb dX5_top_21 rfl (lv_at hl 0 rfl) ?_
    refine va_get (v := .ref od) (C := RX5) (T := TX5) (N := 6) (ci := 5) hx hb hts hi_5 hown hK hP 0 rfl rfl 4 (by decide) hw_1 (fun _ h9 => h9) rfl dX5_top_22 ?_
    refine lv_iload_n hx hb dX5_top_25 rfl (lv_at hl 2 rfl) ?_
    refine lv_aload_n hx hb dX5_top_26 rfl (lv_at hl 0 rfl) ?_
    refine va_get (v := .ref ra) (C := RX5) (T := TX5) (N := 6) (ci := 5) hx hb hts hi_5 hown hK hP 0 rfl rfl 3 (by decide) hw_5 (fun _ h9 => h9) rfl dX5_top_27 ?_
    refine va_getN (v := .ref an) (C := RX4) (T := TX4) (N := 7) (ci := 4) hx hb hts hi_4 hown hK hP 6 rfl rfl 0 (by decide) hw_6 (fun _ h9 => h9) rfl dX5_top_30 ?_
    refine lv_iload_n hx hb dX5_top_33 rfl (lv_at hl 2 rfl) ?_
    refine z_lald hx hb hK hP 7 1 rfl rfl i (by omega) (by omega) (by omega) dX5_top_34 ?_
    refine z_tol (((x i : Nat) : Int)) (k5 i (by omega)) ?_
    have xb : ∀ u, u < i → x u < 4611686018427387904 := fun u hu => by have q9 := sm_at (x := x) (show u < N by omega); omega
    have xi := sm_at (x := x) (show i < N by omega)
    have os := OI_s i2
    refine rw_v (wr := [(h, .inr (5, [.ref ta, .ref ou, .ref de, .ref ra, .ref od, .ref gr])), (ta, .inr (0, [.ref tb, .int (iZ tL)])), (tb, .inl (cI, 2000, .inl (aI tF))), (ou, .inr (0, [.ref ob, .int (iZ oL)])), (ob, .inl (cI, 3502, .inl (aI oF))), (de, .inr (1, [.int (iZ nx), .int (iZ nd), .int (iZ sz1), .int (iZ kd), .int (iZ pl)])), (ra, .inr (4, [.ref an, .ref ax, .int (iZ pp), .int (iZ qq), .int (iZ st), .long (lZ ch), .long (lZ er)])), (an, .inl (cJ, 250, .inr (.inl (aL fn)))), (ax, .inl (cJ, 250, .inr (.inl (aL fx)))), (gr, .inr (2, [.ref b1, .ref b2, .ref b3, .int (iZ n), .int (iZ sz), .int (iZ wh)])), (b1, .inl (cI, 251, .inl (aI f1))), (b2, .inl (cI, 2500, .inl (aI f2))), (b3, .inl (cI, 250, .inl (aI f3)))]) (va_runV (As := [.int (iZ ↑i), .long (lZ ((x i : Nat) : Int))]) (rest := []) ⟨hx, hb, hml, hown, hts⟩ (c_X3_place l D cI cJ cB cZ od o1 o2 ga gb gs (↑i) ((x i : Nat) : Int) (by omega) (by omega) (by rw [show gs.toNat = s0 by omega]; exact OI_r i2 xb) _) (cwV 2 hts gX5_top_X3_place rfl rfl rfl (by decide +kernel) ⟨Nat.le_of_ble_eq_true rfl, Nat.le_of_ble_eq_true rfl⟩) (pre1V hE (hP.sub (ws' := (wOr cI cJ od o1 o2 ga gb gs)) [9, 10, 11] rfl) (hD.sub (ws' := (wOr cI cJ od o1 o2 ga gb gs)) [9, 10, 11] (by decide) rfl) 0 rfl rfl) rfl rfl hl.1 rfl (lv_room (Nat.le_of_ble_eq_true rfl)) dX5_top_35 ⟨Nat.le_of_ble_eq_true rfl, Nat.le_of_ble_eq_true rfl⟩) hP hD hS hA [9, 10, 11] [0, 1, 2, 3, 4, 5, 6, 7, 8, 12, 13, 14, 15] rfl rfl (by decide) (by decide) (fun u_6 H locs hr_5 hP hD hS => ?_)
    have hP := hP.sub (ws' := (wHo h ta ou de ra od gr ++ wBR 2000 cI ta tb tF tL ++ wBR 3502 cI ou ob oF oL ++ wDe de nx nd sz1 kd pl ++ wRa cJ ra an ax fn fx pp qq st ch er ++ wOr cI cJ od o1 o2 u_6.1 u_6.2.1 u_6.2.2 ++ wGr cI gr b1 b2 b3 f1 f2 f3 n sz wh)) [0, 1, 2, 3, 4, 5, 6, 7, 8, 13, 14, 15, 9, 10, 11, 12] rfl
    have hD := hD.sub (ws' := (wHo h ta ou de ra od gr ++ wBR 2000 cI ta tb tF tL ++ wBR 3502 cI ou ob oF oL ++ wDe de nx nd sz1 kd pl ++ wRa cJ ra an ax fn fx pp qq st ch er ++ wOr cI cJ od o1 o2 u_6.1 u_6.2.1 u_6.2.2 ++ wGr cI gr b1 b2 b3 f1 f2 f3 n sz wh)) [0, 1, 2, 3, 4, 5, 6, 7, 8, 13, 14, 15, 9, 10, 11, 12] (by decide) rfl
    obtain ⟨c1, c2, c3, c4, hu9⟩ := hr_5
    rw [show gs.toNat = s0 by omega] at c2 c3 hu9
    have hoi : OI (fun _ => true) x (i + 1) (s0 + 1) u_6.1 u_6.2.1 := by rw [hu9]; exact OI_step i2 rfl c2 c3 c4
    have hs9 : u_6.2.2 = gs + 1 := by rw [hu9]
    refine lv_iinc (v := iZ (↑i + 1)) (lv' := [(2, .int (iZ (↑i + 1))), (0, .ref h), (1, .int (iZ a))]) hx hb dX5_top_38 hl (k := 2) rfl (show iZ ↑i + iZ 1 = _ from iZ_add _ _) (by decide) rfl (fun ls hl => ?_)
    refine lv_goto (tgt := 10) hx hb dX5_top_41 (by decide) ?_
    exact ih _ _ _ _ (by omega) ⟨(i + 1), (s0 + 1), u_6.1, u_6.2.1, u_6.2.2, rfl, ⟨by omega, hoi, by omega⟩, hP, hD, hS, lv_sub hl [1, 2, 0] rfl⟩
set_option maxHeartbeats 4000000 in
set_option maxRecDepth 100000 in
theorem c_X5_giver (l : Launch) (D : va_G) (cI cJ cB cZ : ClassId) (h ta ou de ra od gr tb ob an ax o1 o2 b1 b2 b3 : Nat) (tF : Nat → Int) (tL : Int) (oF : Nat → Int) (oL : Int) (nx nd sz1 kd pl : Int) (fn fx : Nat → Int) (pp qq st ch er : Int) (q1 q2 : Nat → Int) (qs : Int) (f1 f2 f3 : Nat → Int) (n sz wh : Int) (N : Nat) (E : Ed) (w : Nat → Nat) (P Q : Nat) (x : Nat → Nat) (ks kc ke tl : Nat) (tf : Nat → Int) (ol : Nat) (of_ : Nat → Int) (fk : Int) (hH : HR N E w P Q x ks kc ke tl tf ol of_ fk ((tF, tL), (oF, oL), (nx, nd, sz1, kd, pl), ((an, ax), fn, fx, pp, qq, st, ch, er), (q1, q2, qs), f1, f2, f3, n, sz, wh)) (a : Int) (ha : -2147483648 ≤ a ∧ a < 2147483648) (b : Int) (hb0 : -2147483648 ≤ b ∧ b < 2147483648)  (sz0 : Nat) : Met l yX5_giver wsX5_giver ({ frames := 3, cells := 0, slots := 0, locals := 64 } : Room) (Pre1 D cI cJ cB cZ [.ref h, .int (iZ a), .int (iZ b)] (wHo h ta ou de ra od gr ++ wBR 2000 cI ta tb tF tL ++ wBR 3502 cI ou ob oF oL ++ wDe de nx nd sz1 kd pl ++ wRa cJ ra an ax fn fx pp qq st ch er ++ wOr cI cJ od o1 o2 q1 q2 qs ++ wGr cI gr b1 b2 b3 f1 f2 f3 n sz wh) sz0) (rwI (S := HT) D (fun z U => TK (pin E N a) (shr E N P Q x) N b z ∧ HR N E w P Q x ks kc ke tl tf ol of_ fk U) (fun u => wHT cI cJ h ta ou de ra od gr tb ob o1 o2 b1 b2 b3 u) (va_A (wHo h ta ou de ra od gr ++ wBR 2000 cI ta tb tF tL ++ wBR 3502 cI ou ob oF oL ++ wDe de nx nd sz1 kd pl ++ wRa cJ ra an ax fn fx pp qq st ch er ++ wOr cI cJ od o1 o2 q1 q2 qs ++ wGr cI gr b1 b2 b3 f1 f2 f3 n sz wh) sz0)) 0 0 (va_A (wHo h ta ou de ra od gr ++ wBR 2000 cI ta tb tF tL ++ wBR 3502 cI ou ob oF oL ++ wDe de nx nd sz1 kd pl ++ wRa cJ ra an ax fn fx pp qq st ch er ++ wOr cI cJ od o1 o2 q1 q2 qs ++ wGr cI gr b1 b2 b3 f1 f2 f3 n sz wh) sz0) := by
  refine Met.ofW (cc := cX5_giver) (maxL := 4) (ret := (some .int)) (by decide) rfl ?_
  intro p e s m args below meth c s₁ B hml hv
  obtain ⟨rfl, hsz, hP, hE, hD0⟩ := hv
  have hx := B.exec
  have hb := B.bytes
  have hr := B.returns
  have hts := atoms_spec (ws := wsX5_giver) B.pre
  have hown : s.vm.findClass RX5 = some m.cls := findClass_of_methodNamed B.named
  have hlocks := B.notSynchronized
  have hK := hE.1
  subst hsz
  have hD := hD0.self (sz := s.heap.size)
  generalize hAe : va_A (wHo h ta ou de ra od gr ++ wBR 2000 cI ta tb tF tL ++ wBR 3502 cI ou ob oF oL ++ wDe de nx nd sz1 kd pl ++ wRa cJ ra an ax fn fx pp qq st ch er ++ wOr cI cJ od o1 o2 q1 q2 qs ++ wGr cI gr b1 b2 b3 f1 f2 f3 n sz wh) s.heap.size = A at hD ⊢
  have hA : ∀ q : Nat, s.heap.size ≤ q → A q := fun q h => by rw [← hAe]; exact Or.inr h
  have hS : va_S A s.heap s.heap [] := va_S.rf
  have hP : va_P D vwCl (wHo h ta ou de ra od gr ++ wBR 2000 cI ta tb tF tL ++ wBR 3502 cI ou ob oF oL ++ wDe de nx nd sz1 kd pl ++ wRa cJ ra an ax fn fx pp qq st ch er ++ wOr cI cJ od o1 o2 q1 q2 qs ++ wGr cI gr b1 b2 b3 f1 f2 f3 n sz wh) s.heap := hP
  have hi_2 : ∀ w ∈ wsX20, w ∈ wsX5_giver := by decide +kernel
  have hi_3 : ∀ w ∈ wsX30, w ∈ wsX5_giver := by decide +kernel
  have hi_5 : ∀ w ∈ wsX50, w ∈ wsX5_giver := by decide +kernel
  have hw_1 := hts (.fieldLink RX5 38 "RankHouse" "order" "LRankHouse$Order;") (by decide +kernel)
  have hw_2 := hE.nl (w := .fieldLinkNest RX5 156 "RankHouse$Order" "size" "I" "RankHouse") (by decide +kernel) ([.ref h, .int (iZ a), .int (iZ b)] : List Value).toArray
  have hw_3 := hts (.fieldLink RX5 45 "RankHouse" "graph" "LRankHouse$Graph;") (by decide +kernel)
  have hw_4 := hE.nl (w := .fieldLinkNest RX5 49 "RankHouse$Graph" "nodes" "I" "RankHouse") (by decide +kernel) ([.ref h, .int (iZ a), .int (iZ b)] : List Value).toArray
  have hw_5 := hts (.fieldLink RX5 31 "RankHouse" "ranks" "LRankHouse$Ranks;") (by decide +kernel)
  have hl := lv_entry ([.ref h, .int (iZ a), .int (iZ b)]) (n := 4) (Nat.le_of_ble_eq_true rfl)
  rw [lg_entry_eq]
  generalize (lg_sl ([.ref h, .int (iZ a), .int (iZ b)]) ++ List.replicate (4 - (lg_sl ([.ref h, .int (iZ a), .int (iZ b)])).length) Slot.unset).toArray = ls at hl ⊢
  have hl : lv_has ls 4 [(0, .ref h), (1, .int (iZ a)), (2, .int (iZ b))] := hl
  obtain ⟨hG, hR, s1, s2, s3, s5, s6, t1, t1b, t2, t3, y1, y1b, y2, y3, d1⟩ := id hH
  dsimp only at hG hR s1 s2 s3 t1 t1b y1 y1b d1
  subst t1
  subst y1
  have hG : GR N E w f1 f2 f3 n sz wh := hG
  obtain ⟨g1, g2, g3, g4, g5, g6, g7, g8, g9, g10, g11⟩ := id hG
  obtain ⟨k1, k2, k3, k4, k5, k6⟩ := id hR
  refine lv_aload_n hx hb dX5_giver_0 rfl (lv_at hl 0 rfl) ?_
  refine va_get (v := .ref od) (C := RX5) (T := TX5) (N := 6) (ci := 5) hx hb hts hi_5 hown hK hP 0 rfl rfl 4 (by decide) hw_1 (fun _ h9 => h9) rfl dX5_giver_1 ?_
  refine z_iconst hx hb dX5_giver_4 ?_
  refine va_putN (v := .int (iZ 0)) (ty := .int) (C := RX3) (T := TX3) (N := 3) (ci := 3) hx hb hts hi_3 tyX3 tyX3_ok nmX3 hown hK hP hD hS 9 rfl rfl 2 (by decide) hw_2 (fun _ h9 => h9) rfl (by decide +kernel) rfl rfl (Nat.le_of_ble_eq_true rfl) dX5_giver_5 (fun H locs hP hD hS => ?_)
  have hP : va_P D vwCl (wHo h ta ou de ra od gr ++ wBR 2000 cI ta tb tF tL ++ wBR 3502 cI ou ob oF oL ++ wDe de nx nd sz1 kd pl ++ wRa cJ ra an ax fn fx pp qq st ch er ++ wOr cI cJ od o1 o2 q1 q2 0 ++ wGr cI gr b1 b2 b3 f1 f2 f3 n sz wh) H := hP
  have hD : va_D A (wHo h ta ou de ra od gr ++ wBR 2000 cI ta tb tF tL ++ wBR 3502 cI ou ob oF oL ++ wDe de nx nd sz1 kd pl ++ wRa cJ ra an ax fn fx pp qq st ch er ++ wOr cI cJ od o1 o2 q1 q2 0 ++ wGr cI gr b1 b2 b3 f1 f2 f3 n sz wh) := hD
  refine z_iconst hx hb dX5_giver_8 ?_
  refine lv_istore_n (lv' := [(3, .int (iZ 0)), (0, .ref h), (1, .int (iZ a)), (2, .int (iZ b))]) hx hb dX5_giver_9 rfl hl (by decide) rfl (fun ls hl => ?_)
  refine w_loop (fun kf H locs ls => ∃ (i s0 : Nat), ∃ (ga gb : Nat → Int), ∃ (gs : Int), kf = N - i ∧ (i ≤ N ∧ OI (pin E N a) (shr E N P Q x) i s0 ga gb ∧ gs = (s0 : Int)) ∧ va_P D vwCl (wHo h ta ou de ra od gr ++ wBR 2000 cI ta tb tF tL ++ wBR 3502 cI ou ob oF oL ++ wDe de nx nd sz1 kd pl ++ wRa cJ ra an ax fn fx pp qq st ch er ++ wOr cI cJ od o1 o2 ga gb gs ++ wGr cI gr b1 b2 b3 f1 f2 f3 n sz wh) H ∧ va_D A (wHo h ta ou de ra od gr ++ wBR 2000 cI ta tb tF tL ++ wBR 3502 cI ou ob oF oL ++ wDe de nx nd sz1 kd pl ++ wRa cJ ra an ax fn fx pp qq st ch er ++ wOr cI cJ od o1 o2 ga gb gs ++ wGr cI gr b1 b2 b3 f1 f2 f3 n sz wh) ∧ va_S A s.heap H locs ∧ lv_has ls 4 [(0, .ref h), (1, .int (iZ a)), (2, .int (iZ b)), (3, .int (iZ ↑i))]) ?_ _ ⟨0, 0, q1, q2, 0, rfl, ⟨by omega, OI_0, rfl⟩, hP, hD, hS, lv_sub hl [1, 2, 3, 0] rfl⟩
  rintro kf H locs ls ⟨i, s0, ga, gb, gs, hk, ⟨i1, i2, i3⟩, hP, hD, hS, hl⟩ ih
  refine lv_iload_n hx hb dX5_giver_10 rfl (lv_at hl 3 rfl) ?_
  refine lv_aload_n hx hb dX5_giver_11 rfl (lv_at hl 0 rfl) ?_
  refine va_get (v := .ref gr) (C := RX5) (T := TX5) (N := 6) (ci := 5) hx hb hts hi_5 hown hK hP 0 rfl rfl 5 (by decide) hw_3 (fun _ h9 => h9) rfl dX5_giver_12 ?_
  refine va_getN (v := .int (iZ n)) (C := RX2) (T := TX2) (N := 6) (ci := 2) hx hb hts hi_2 hown hK hP 12 rfl rfl 3 (by decide) hw_4 (fun _ h9 => h9) rfl dX5_giver_15 ?_
  refine z_icmp_ge (tgt := 59) hx hb dX5_giver_18 (by decide) (by omega) (by omega) (fun c_1 => ?_) (fun c_1 => ?_)
  · refine lv_aload_n hx hb dX5_giver_59 rfl (lv_at hl 0 rfl) ?_
    refine va_get (v := .ref od) (C := RX5) (T := TX5) (N := 6) (ci := 5) hx hb hts hi_5 hown hK hP 0 rfl rfl 4 (by decide) hw_1 (fun _ h9 => h9) rfl dX5_giver_60 ?_
    refine lv_iload_n hx hb dX5_giver_63 rfl (lv_at hl 2 rfl) ?_
    refine ro_i (va_runV (As := [.int (iZ b)]) (rest := []) ⟨hx, hb, hml, hown, hts⟩ (c_X3_node l D cI cJ cB cZ od o1 o2 ga gb gs b hb0 (by have os := OI_s i2; omega)) (cwV 1 hts gX5_giver_X3_node rfl rfl rfl (by decide +kernel) ⟨Nat.le_of_ble_eq_true rfl, Nat.le_of_ble_eq_true rfl⟩) (pre0V hE (hP.sub (ws' := (wOr cI cJ od o1 o2 ga gb gs)) [9, 10, 11] rfl) 0 rfl rfl) rfl rfl hl.1 rfl (lv_room (Nat.le_of_ble_eq_true rfl)) dX5_giver_64 ⟨Nat.le_of_ble_eq_true rfl, Nat.le_of_ble_eq_true rfl⟩) (fun r_2 hr_3 => ?_)
    have hn9 := hr_3
    exact rw_iret (z := r_2) ((tF, tL), (oF, oL), (nx, nd, sz1, kd, pl), ((an, ax), fn, fx, pp, qq, st, ch, er), (ga, gb, gs), f1, f2, f3, n, sz, wh) hx hb hr hlocks hP hD hS ⟨OI_end (by rw [show i = N by omega] at i2; exact i2) (by rw [← i3]; exact hn9.1) (by rw [← i3]; exact hn9.2), ⟨hG, hR, s1, s2, s3, s5, s6, rfl, t1b, t2, t3, rfl, y1b, y2, y3, d1⟩⟩ dX5_giver_67
  · refine lv_aload_n hx hb dX5_giver_21 rfl (lv_at hl 0 rfl) ?_
    refine va_get (v := .ref gr) (C := RX5) (T := TX5) (N := 6) (ci := 5) hx hb hts hi_5 hown hK hP 0 rfl rfl 5 (by decide) hw_3 (fun _ h9 => h9) rfl dX5_giver_22 ?_
    refine lv_iload_n hx hb dX5_giver_25 rfl (lv_at hl 3 rfl) ?_
    refine lv_iload_n hx hb dX5_giver_26 rfl (lv_at hl 1 rfl) ?_
    refine ro_i (va_runV (As := [.int (iZ ↑i), .int (iZ a)]) (rest := []) ⟨hx, hb, hml, hown, hts⟩ (c_X2_joins l D cI cJ cB cZ gr b1 b2 b3 f1 f2 f3 n sz wh N E w hG (↑i) a (by omega) ha) (cwV 2 hts gX5_giver_X2_joins rfl rfl rfl (by decide +kernel) ⟨Nat.le_of_ble_eq_true rfl, Nat.le_of_ble_eq_true rfl⟩) (pre0V hE (hP.sub (ws' := (wGr cI gr b1 b2 b3 f1 f2 f3 n sz wh)) [12, 13, 14, 15] rfl) 0 rfl rfl) rfl rfl hl.1 rfl (lv_room (Nat.le_of_ble_eq_true rfl)) dX5_giver_27 ⟨Nat.le_of_ble_eq_true rfl, Nat.le_of_ble_eq_true rfl⟩) (fun r_4 hr_5 => ?_)
    rw [pin_iff g3 (show i < N by omega)] at hr_5
    rcases hr_5 with ⟨rfl, hq_6⟩ | ⟨rfl, hq_6⟩
    · have hj9 := hq_6
      refine z_if_eq (tgt := 53) hx hb dX5_giver_30 (by decide) (by omega) (fun c9 => absurd c9 (by decide)) (fun _ => ?_)
      refine lv_aload_n hx hb dX5_giver_33 rfl (lv_at hl 0 rfl) ?_
      refine va_get (v := .ref od) (C := RX5) (T := TX5) (N := 6) (ci := 5) hx hb hts hi_5 hown hK hP 0 rfl rfl 4 (by decide) hw_1 (fun _ h9 => h9) rfl dX5_giver_34 ?_
      refine lv_iload_n hx hb dX5_giver_37 rfl (lv_at hl 3 rfl) ?_
      refine lv_aload_n hx hb dX5_giver_38 rfl (lv_at hl 0 rfl) ?_
      refine va_get (v := .ref ra) (C := RX5) (T := TX5) (N := 6) (ci := 5) hx hb hts hi_5 hown hK hP 0 rfl rfl 3 (by decide) hw_5 (fun _ h9 => h9) rfl dX5_giver_39 ?_
      refine lv_aload_n hx hb dX5_giver_42 rfl (lv_at hl 0 rfl) ?_
      refine va_get (v := .ref gr) (C := RX5) (T := TX5) (N := 6) (ci := 5) hx hb hts hi_5 hown hK hP 0 rfl rfl 5 (by decide) hw_3 (fun _ h9 => h9) rfl dX5_giver_43 ?_
      refine lv_iload_n hx hb dX5_giver_46 rfl (lv_at hl 3 rfl) ?_
      refine ro_l (va_runV (As := [.ref gr, .int (iZ ↑i)]) (rest := [.int (iZ ↑i), .ref od]) ⟨hx, hb, hml, hown, hts⟩ (c_X4_share l D cI cJ cB cZ ra an ax gr b1 b2 b3 fn fx pp qq st ch er f1 f2 f3 n sz wh N E w hG P Q x hR (↑i) (by omega)) (cwV 2 hts gX5_giver_X4_share rfl rfl rfl (by decide +kernel) ⟨Nat.le_of_ble_eq_true rfl, Nat.le_of_ble_eq_true rfl⟩) (pre0V hE (hP.sub (ws' := (wRa cJ ra an ax fn fx pp qq st ch er ++ wGr cI gr b1 b2 b3 f1 f2 f3 n sz wh)) [6, 7, 8, 12, 13, 14, 15] rfl) 0 rfl rfl) rfl rfl hl.1 rfl (lv_room (Nat.le_of_ble_eq_true rfl)) dX5_giver_47 ⟨Nat.le_of_ble_eq_true rfl, Nat.le_of_ble_eq_true rfl⟩) (fun r_7 hr_8 => ?_)
      subst hr_8
      refine z_tol (((shr E N P Q x i : Nat) : Int)) (by rw [Int.toNat_natCast]) ?_
      have xb : ∀ u, u < i → (shr E N P Q x) u < 4611686018427387904 := fun u hu => by have q9 := sm_at (x := x) (show u < N by omega); have q8 := shr_le E N P Q x u; have q7 := Nat.mul_le_mul_left P (Nat.le_trans q9 k6); omega
      have xi := sm_at (x := x) (show i < N by omega)
      have xj := shr_le E N P Q x i
      have xk := Nat.mul_le_mul_left P (Nat.le_trans xi k6)
      have os := OI_s i2
      refine rw_v (wr := [(h, .inr (5, [.ref ta, .ref ou, .ref de, .ref ra, .ref od, .ref gr])), (ta, .inr (0, [.ref tb, .int (iZ tL)])), (tb, .inl (cI, 2000, .inl (aI tF))), (ou, .inr (0, [.ref ob, .int (iZ oL)])), (ob, .inl (cI, 3502, .inl (aI oF))), (de, .inr (1, [.int (iZ nx), .int (iZ nd), .int (iZ sz1), .int (iZ kd), .int (iZ pl)])), (ra, .inr (4, [.ref an, .ref ax, .int (iZ pp), .int (iZ qq), .int (iZ st), .long (lZ ch), .long (lZ er)])), (an, .inl (cJ, 250, .inr (.inl (aL fn)))), (ax, .inl (cJ, 250, .inr (.inl (aL fx)))), (gr, .inr (2, [.ref b1, .ref b2, .ref b3, .int (iZ n), .int (iZ sz), .int (iZ wh)])), (b1, .inl (cI, 251, .inl (aI f1))), (b2, .inl (cI, 2500, .inl (aI f2))), (b3, .inl (cI, 250, .inl (aI f3)))]) (va_runV (As := [.int (iZ ↑i), .long (lZ ((shr E N P Q x i : Nat) : Int))]) (rest := []) ⟨hx, hb, hml, hown, hts⟩ (c_X3_place l D cI cJ cB cZ od o1 o2 ga gb gs (↑i) ((shr E N P Q x i : Nat) : Int) (by omega) (by omega) (by rw [show gs.toNat = s0 by omega]; exact OI_r i2 xb) _) (cwV 2 hts gX5_giver_X3_place rfl rfl rfl (by decide +kernel) ⟨Nat.le_of_ble_eq_true rfl, Nat.le_of_ble_eq_true rfl⟩) (pre1V hE (hP.sub (ws' := (wOr cI cJ od o1 o2 ga gb gs)) [9, 10, 11] rfl) (hD.sub (ws' := (wOr cI cJ od o1 o2 ga gb gs)) [9, 10, 11] (by decide) rfl) 0 rfl rfl) rfl rfl hl.1 rfl (lv_room (Nat.le_of_ble_eq_true rfl)) dX5_giver_50 ⟨Nat.le_of_ble_eq_true rfl, Nat.le_of_ble_eq_true rfl⟩) hP hD hS hA [9, 10, 11] [0, 1, 2, 3, 4, 5, 6, 7, 8, 12, 13, 14, 15] rfl rfl (by decide) (by decide) (fun u_11 H locs hr_10 hP hD hS => ?_)
      have hP := hP.sub (ws' := (wHo h ta ou de ra od gr ++ wBR 2000 cI ta tb tF tL ++ wBR 3502 cI ou ob oF oL ++ wDe de nx nd sz1 kd pl ++ wRa cJ ra an ax fn fx pp qq st ch er ++ wOr cI cJ od o1 o2 u_11.1 u_11.2.1 u_11.2.2 ++ wGr cI gr b1 b2 b3 f1 f2 f3 n sz wh)) [0, 1, 2, 3, 4, 5, 6, 7, 8, 13, 14, 15, 9, 10, 11, 12] rfl
      have hD := hD.sub (ws' := (wHo h ta ou de ra od gr ++ wBR 2000 cI ta tb tF tL ++ wBR 3502 cI ou ob oF oL ++ wDe de nx nd sz1 kd pl ++ wRa cJ ra an ax fn fx pp qq st ch er ++ wOr cI cJ od o1 o2 u_11.1 u_11.2.1 u_11.2.2 ++ wGr cI gr b1 b2 b3 f1 f2 f3 n sz wh)) [0, 1, 2, 3, 4, 5, 6, 7, 8, 13, 14, 15, 9, 10, 11, 12] (by decide) rfl
      obtain ⟨c1, c2, c3, c4, hu9⟩ := hr_10
      rw [show gs.toNat = s0 by omega] at c2 c3 hu9
      have hoi : OI (pin E N a) (shr E N P Q x) (i + 1) (s0 + 1) u_11.1 u_11.2.1 := by rw [hu9]; exact OI_step i2 hj9 c2 c3 c4
      have hs9 : u_11.2.2 = gs + 1 := by rw [hu9]
      refine lv_iinc (v := iZ (↑i + 1)) (lv' := [(3, .int (iZ (↑i + 1))), (0, .ref h), (1, .int (iZ a)), (2, .int (iZ b))]) hx hb dX5_giver_53 hl (k := 3) rfl (show iZ ↑i + iZ 1 = _ from iZ_add _ _) (by decide) rfl (fun ls hl => ?_)
      refine lv_goto (tgt := 10) hx hb dX5_giver_56 (by decide) ?_
      exact ih _ _ _ _ (by omega) ⟨(i + 1), (s0 + 1), u_11.1, u_11.2.1, u_11.2.2, rfl, ⟨by omega, hoi, by omega⟩, hP, hD, hS, lv_sub hl [1, 2, 3, 0] rfl⟩
    · have hj9 := hq_6
      have hoi := OI_skip i2 (Bool.eq_false_iff.mpr hj9)
      refine z_if_eq (tgt := 53) hx hb dX5_giver_30 (by decide) (by omega) (fun _ => ?_) (fun c9 => absurd c9 (by decide))
      refine lv_iinc (v := iZ (↑i + 1)) (lv' := [(3, .int (iZ (↑i + 1))), (0, .ref h), (1, .int (iZ a)), (2, .int (iZ b))]) hx hb dX5_giver_53 hl (k := 3) rfl (show iZ ↑i + iZ 1 = _ from iZ_add _ _) (by decide) rfl (fun ls hl => ?_)
      refine lv_goto (tgt := 10) hx hb dX5_giver_56 (by decide) ?_
      exact ih _ _ _ _ (by omega) ⟨(i + 1), s0, ga, gb, gs, rfl, ⟨by omega, hoi, by omega⟩, hP, hD, hS, lv_sub hl [1, 2, 3, 0] rfl⟩
