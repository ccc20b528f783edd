set_option maxHeartbeats 4000000 in
set_option maxRecDepth 100000 in
theorem c_X5_write (l : Launch) (D : va_G) (cI cJ cB cZ : ClassId) (h ta ou de ra od gr tb ob an ax o1 o2 b1 b2 b3 : Nat) (tF : Nat → Int) (tL : Int) (oF : Nat → Int) (oL : Int) (nx nd sz1 kd pl : Int) (fn fx : Nat → Int) (pp qq st ch er : Int) (q1 q2 : Nat → Int) (qs : Int) (f1 f2 f3 : Nat → Int) (n sz wh : Int) (N : Nat) (E : Ed) (w : Nat → Nat) (P Q : Nat) (x : Nat → Nat) (ks kc ke tl : Nat) (tf : Nat → Int) (ol : Nat) (of_ : Nat → Int) (fk : Int) (hH : HR N E w P Q x ks kc ke tl tf ol of_ fk ((tF, tL), (oF, oL), (nx, nd, sz1, kd, pl), ((an, ax), fn, fx, pp, qq, st, ch, er), (q1, q2, qs), f1, f2, f3, n, sz, wh))  (sz0 : Nat) : Met l yX5_write wsX5_write ({ frames := 4, cells := 0, slots := 0, locals := 89 } : Room) (Pre1 D cI cJ cB cZ [.ref h] (wHo h ta ou de ra od gr ++ wBR 2000 cI ta tb tF tL ++ wBR 3502 cI ou ob oF oL ++ wDe de nx nd sz1 kd pl ++ wRa cJ ra an ax fn fx pp qq st ch er ++ wOr cI cJ od o1 o2 q1 q2 qs ++ wGr cI gr b1 b2 b3 f1 f2 f3 n sz wh) sz0) (rwI (S := HT) D (fun z U => z = (wA E N N (pU of_ 0 (N : Int), lU (N : Int))).2 ∧ HR N E w P Q x ks kc ke tl tf ((wA E N N (pU of_ 0 (N : Int), lU (N : Int))).2.toNat) ((wA E N N (pU of_ 0 (N : Int), lU (N : Int))).1) fk U) (fun u => wHT cI cJ h ta ou de ra od gr tb ob o1 o2 b1 b2 b3 u) (va_A (wHo h ta ou de ra od gr ++ wBR 2000 cI ta tb tF tL ++ wBR 3502 cI ou ob oF oL ++ wDe de nx nd sz1 kd pl ++ wRa cJ ra an ax fn fx pp qq st ch er ++ wOr cI cJ od o1 o2 q1 q2 qs ++ wGr cI gr b1 b2 b3 f1 f2 f3 n sz wh) sz0)) 0 0 (va_A (wHo h ta ou de ra od gr ++ wBR 2000 cI ta tb tF tL ++ wBR 3502 cI ou ob oF oL ++ wDe de nx nd sz1 kd pl ++ wRa cJ ra an ax fn fx pp qq st ch er ++ wOr cI cJ od o1 o2 q1 q2 qs ++ wGr cI gr b1 b2 b3 f1 f2 f3 n sz wh) sz0) := by
  refine Met.ofW (cc := cX5_write) (maxL := 2) (ret := (some .int)) (by decide) rfl ?_
  intro p e s m args below meth c s₁ B hml hv
  obtain ⟨rfl, hsz, hP, hE, hD0⟩ := hv
  have hx := B.exec
  have hb := B.bytes
  have hr := B.returns
  have hts := atoms_spec (ws := wsX5_write) B.pre
  have hown : s.vm.findClass RX5 = some m.cls := findClass_of_methodNamed B.named
  have hlocks := B.notSynchronized
  have hK := hE.1
  subst hsz
  have hD := hD0.self (sz := s.heap.size)
  generalize hAe : va_A (wHo h ta ou de ra od gr ++ wBR 2000 cI ta tb tF tL ++ wBR 3502 cI ou ob oF oL ++ wDe de nx nd sz1 kd pl ++ wRa cJ ra an ax fn fx pp qq st ch er ++ wOr cI cJ od o1 o2 q1 q2 qs ++ wGr cI gr b1 b2 b3 f1 f2 f3 n sz wh) s.heap.size = A at hD ⊢
  have hA : ∀ q : Nat, s.heap.size ≤ q → A q := fun q h => by rw [← hAe]; exact Or.inr h
  have hS : va_S A s.heap s.heap [] := va_S.rf
  have hP : va_P D vwCl (wHo h ta ou de ra od gr ++ wBR 2000 cI ta tb tF tL ++ wBR 3502 cI ou ob oF oL ++ wDe de nx nd sz1 kd pl ++ wRa cJ ra an ax fn fx pp qq st ch er ++ wOr cI cJ od o1 o2 q1 q2 qs ++ wGr cI gr b1 b2 b3 f1 f2 f3 n sz wh) s.heap := hP
  have hi_0 : ∀ w ∈ wsX00, w ∈ wsX5_write := by decide +kernel
  have hi_2 : ∀ w ∈ wsX20, w ∈ wsX5_write := by decide +kernel
  have hi_5 : ∀ w ∈ wsX50, w ∈ wsX5_write := by decide +kernel
  have hw_1 := hts (.fieldLink RX5 18 "RankHouse" "out" "LRankHouse$ByteRow;") (by decide +kernel)
  have hw_2 := hE.nl (w := .fieldLinkNest RX5 56 "RankHouse$ByteRow" "length" "I" "RankHouse") (by decide +kernel) ([.ref h] : List Value).toArray
  have hw_3 := hts (.fieldLink RX5 45 "RankHouse" "graph" "LRankHouse$Graph;") (by decide +kernel)
  have hw_4 := hE.nl (w := .fieldLinkNest RX5 49 "RankHouse$Graph" "nodes" "I" "RankHouse") (by decide +kernel) ([.ref h] : List Value).toArray
  have hl := lv_entry ([.ref h]) (n := 2) (Nat.le_of_ble_eq_true rfl)
  rw [lg_entry_eq]
  generalize (lg_sl ([.ref h]) ++ List.replicate (2 - (lg_sl ([.ref h])).length) Slot.unset).toArray = ls at hl ⊢
  have hl : lv_has ls 2 [(0, .ref h)] := hl
  obtain ⟨hG, hR, s1, s2, s3, s5, s6, t1, t1b, t2, t3, y1, y1b, y2, y3, d1⟩ := id hH
  dsimp only at hG hR s1 s2 s3 t1 t1b y1 y1b d1
  subst t1
  subst y1
  have hG : GR N E w f1 f2 f3 n sz wh := hG
  obtain ⟨g1, g2, g3, g4, g5, g6, g7, g8, g9, g10, g11⟩ := id hG
  obtain ⟨k1, k2, k3, k4, k5, k6⟩ := id hR
  have l1 := lU_r (N : Int)
  have b0 : bR (pU oF 0 (N : Int)) (0 + lU (N : Int)) := pU_r (len := 0) (by omega) (by omega) (fun j hj => by omega)
  rw [Int.zero_add] at b0
  refine lv_aload_n hx hb dX5_write_0 rfl (lv_at hl 0 rfl) ?_
  refine va_get (v := .ref ou) (C := RX5) (T := TX5) (N := 6) (ci := 5) hx hb hts hi_5 hown hK hP 0 rfl rfl 1 (by decide) hw_1 (fun _ h9 => h9) rfl dX5_write_1 ?_
  refine z_iconst hx hb dX5_write_4 ?_
  refine va_putN (v := .int (iZ 0)) (ty := .int) (C := RX0) (T := TX0) (N := 2) (ci := 0) hx hb hts hi_0 tyX0 tyX0_ok nmX0 hown hK hP hD hS 3 rfl rfl 1 (by decide) hw_2 (fun _ h9 => h9) rfl (by decide +kernel) rfl rfl (Nat.le_of_ble_eq_true rfl) dX5_write_5 (fun H locs hP hD hS => ?_)
  have hP : va_P D vwCl (wHo h ta ou de ra od gr ++ wBR 2000 cI ta tb tF tL ++ wBR 3502 cI ou ob oF 0 ++ wDe de nx nd sz1 kd pl ++ wRa cJ ra an ax fn fx pp qq st ch er ++ wOr cI cJ od o1 o2 q1 q2 qs ++ wGr cI gr b1 b2 b3 f1 f2 f3 n sz wh) H := hP
  have hD : va_D A (wHo h ta ou de ra od gr ++ wBR 2000 cI ta tb tF tL ++ wBR 3502 cI ou ob oF 0 ++ wDe de nx nd sz1 kd pl ++ wRa cJ ra an ax fn fx pp qq st ch er ++ wOr cI cJ od o1 o2 q1 q2 qs ++ wGr cI gr b1 b2 b3 f1 f2 f3 n sz wh) := hD
  refine lv_aload_n hx hb dX5_write_8 rfl (lv_at hl 0 rfl) ?_
  refine va_get (v := .ref ou) (C := RX5) (T := TX5) (N := 6) (ci := 5) hx hb hts hi_5 hown hK hP 0 rfl rfl 1 (by decide) hw_1 (fun _ h9 => h9) rfl dX5_write_9 ?_
  refine lv_aload_n hx hb dX5_write_12 rfl (lv_at hl 0 rfl) ?_
  refine va_get (v := .ref gr) (C := RX5) (T := TX5) (N := 6) (ci := 5) hx hb hts hi_5 hown hK hP 0 rfl rfl 5 (by decide) hw_3 (fun _ h9 => h9) rfl dX5_write_13 ?_
  refine va_getN (v := .int (iZ n)) (C := RX2) (T := TX2) (N := 6) (ci := 2) hx hb hts hi_2 hown hK hP 12 rfl rfl 3 (by decide) hw_4 (fun _ h9 => h9) rfl dX5_write_16 ?_
  refine rw_v (wr := [(h, .inr (5, [.ref ta, .ref ou, .ref de, .ref ra, .ref od, .ref gr])), (ta, .inr (0, [.ref tb, .int (iZ tL)])), (tb, .inl (cI, 2000, .inl (aI tF))), (de, .inr (1, [.int (iZ nx), .int (iZ nd), .int (iZ sz1), .int (iZ kd), .int (iZ pl)])), (ra, .inr (4, [.ref an, .ref ax, .int (iZ pp), .int (iZ qq), .int (iZ st), .long (lZ ch), .long (lZ er)])), (an, .inl (cJ, 250, .inr (.inl (aL fn)))), (ax, .inl (cJ, 250, .inr (.inl (aL fx)))), (od, .inr (3, [.ref o1, .ref o2, .int (iZ qs)])), (o1, .inl (cI, 250, .inl (aI q1))), (o2, .inl (cJ, 250, .inr (.inl (aL q2)))), (gr, .inr (2, [.ref b1, .ref b2, .ref b3, .int (iZ n), .int (iZ sz), .int (iZ wh)])), (b1, .inl (cI, 251, .inl (aI f1))), (b2, .inl (cI, 2500, .inl (aI f2))), (b3, .inl (cI, 250, .inl (aI f3)))]) (va_runV (As := [.int (iZ n)]) (rest := []) ⟨hx, hb, hml, hown, hts⟩ (c_X0_putUnsigned l D cI cJ cB cZ 3502 ou ob oF 0 n (by omega) (by omega) (by rw [g3]; omega) _) (cwV 1 hts gX5_write_X0_putUnsigned rfl rfl rfl (by decide +kernel) ⟨Nat.le_of_ble_eq_true rfl, Nat.le_of_ble_eq_true rfl⟩) (pre1V hE (hP.sub (ws' := (wBR 3502 cI ou ob oF 0)) [3, 4] rfl) (hD.sub (ws' := (wBR 3502 cI ou ob oF 0)) [3, 4] (by decide) rfl) 0 rfl rfl) rfl rfl hl.1 rfl (lv_room (Nat.le_of_ble_eq_true rfl)) dX5_write_19 ⟨Nat.le_of_ble_eq_true rfl, Nat.le_of_ble_eq_true rfl⟩) hP hD hS hA [3, 4] [0, 1, 2, 5, 6, 7, 8, 9, 10, 11, 12, 13, 14, 15] rfl rfl (by decide) (by decide) (fun u_3 H locs hr_2 hP hD hS => ?_)
  subst hr_2
  have hP := hP.sub (ws' := (wHo h ta ou de ra od gr ++ wBR 2000 cI ta tb tF tL ++ wBR 3502 cI ou ob (pU oF (0 : Int).toNat n) (0 + lU n) ++ wDe de nx nd sz1 kd pl ++ wRa cJ ra an ax fn fx pp qq st ch er ++ wOr cI cJ od o1 o2 q1 q2 qs ++ wGr cI gr b1 b2 b3 f1 f2 f3 n sz wh)) [0, 1, 2, 14, 15, 3, 4, 5, 6, 7, 8, 9, 10, 11, 12, 13] rfl
  have hD := hD.sub (ws' := (wHo h ta ou de ra od gr ++ wBR 2000 cI ta tb tF tL ++ wBR 3502 cI ou ob (pU oF (0 : Int).toNat n) (0 + lU n) ++ wDe de nx nd sz1 kd pl ++ wRa cJ ra an ax fn fx pp qq st ch er ++ wOr cI cJ od o1 o2 q1 q2 qs ++ wGr cI gr b1 b2 b3 f1 f2 f3 n sz wh)) [0, 1, 2, 14, 15, 3, 4, 5, 6, 7, 8, 9, 10, 11, 12, 13] (by decide) rfl
  refine z_iconst hx hb dX5_write_22 ?_
  refine lv_istore_n (lv' := [(1, .int (iZ 0)), (0, .ref h)]) hx hb dX5_write_23 rfl hl (by decide) rfl (fun ls hl => ?_)
  refine w_loop (fun kf H locs ls => ∃ (i : Nat), ∃ (gf : Nat → Int), ∃ (gl : Int), kf = N - i ∧ (i ≤ N ∧ wA E N i (pU oF 0 (N : Int), lU (N : Int)) = (gf, gl)) ∧ va_P D vwCl (wHo h ta ou de ra od gr ++ wBR 2000 cI ta tb tF tL ++ wBR 3502 cI ou ob gf gl ++ wDe de nx nd sz1 kd pl ++ wRa cJ ra an ax fn fx pp qq st ch er ++ wOr cI cJ od o1 o2 q1 q2 qs ++ wGr cI gr b1 b2 b3 f1 f2 f3 n sz wh) H ∧ va_D A (wHo h ta ou de ra od gr ++ wBR 2000 cI ta tb tF tL ++ wBR 3502 cI ou ob gf gl ++ wDe de nx nd sz1 kd pl ++ wRa cJ ra an ax fn fx pp qq st ch er ++ wOr cI cJ od o1 o2 q1 q2 qs ++ wGr cI gr b1 b2 b3 f1 f2 f3 n sz wh) ∧ va_S A s.heap H locs ∧ lv_has ls 2 [(0, .ref h), (1, .int (iZ ↑i))]) ?_ _ ⟨0, (pU oF (0 : Int).toNat n), (0 + lU n), rfl, ⟨by omega, (by rw [g3, Int.zero_add]; rfl)⟩, hP, hD, hS, lv_sub hl [1, 0] rfl⟩
  rintro kf H locs ls ⟨i, gf, gl, hk, ⟨i1, i2⟩, hP, hD, hS, hl⟩ ih
  refine lv_iload_n hx hb dX5_write_24 rfl (lv_at hl 1 rfl) ?_
  refine lv_aload_n hx hb dX5_write_25 rfl (lv_at hl 0 rfl) ?_
  refine va_get (v := .ref gr) (C := RX5) (T := TX5) (N := 6) (ci := 5) hx hb hts hi_5 hown hK hP 0 rfl rfl 5 (by decide) hw_3 (fun _ h9 => h9) rfl dX5_write_26 ?_
  refine va_getN (v := .int (iZ n)) (C := RX2) (T := TX2) (N := 6) (ci := 2) hx hb hts hi_2 hown hK hP 12 rfl rfl 3 (by decide) hw_4 (fun _ h9 => h9) rfl dX5_write_29 ?_
  refine z_icmp_ge (tgt := 46) hx hb dX5_write_32 (by decide) (by omega) (by omega) (fun c_4 => ?_) (fun c_4 => ?_)
  · have ok1 := wA_ok (E := E) g2 (s := (pU oF 0 (N : Int), lU (N : Int))) (by dsimp only; omega) b0 N (Nat.le_refl N)
    rw [show i = N by omega] at i2
    rw [i2] at ok1
    dsimp only at ok1
    refine lv_aload_n hx hb dX5_write_46 rfl (lv_at hl 0 rfl) ?_
    refine va_get (v := .ref ou) (C := RX5) (T := TX5) (N := 6) (ci := 5) hx hb hts hi_5 hown hK hP 0 rfl rfl 1 (by decide) hw_1 (fun _ h9 => h9) rfl dX5_write_47 ?_
    refine va_getN (v := .int (iZ gl)) (C := RX0) (T := TX0) (N := 2) (ci := 0) hx hb hts hi_0 hown hK hP 3 rfl rfl 1 (by decide) hw_2 (fun _ h9 => h9) rfl dX5_write_50 ?_
    exact rw_iret (z := gl) ((tF, tL), (gf, gl), (nx, nd, sz1, kd, pl), ((an, ax), fn, fx, pp, qq, st, ch, er), (q1, q2, qs), f1, f2, f3, n, sz, wh) hx hb hr hlocks hP hD hS ⟨by rw [i2], ⟨hG, hR, s1, s2, s3, s5, s6, rfl, t1b, t2, t3, (by rw [i2]), (by rw [i2]; dsimp only; omega), (by rw [i2]; dsimp only; omega), (fun j hj => by rw [i2] at hj ⊢; dsimp only at hj ⊢; exact ok1.2.2 j (by omega)), d1⟩⟩ dX5_write_53
  · have ok1 := wA_ok (E := E) g2 (s := (pU oF 0 (N : Int), lU (N : Int))) (by dsimp only; omega) b0 i (by omega)
    rw [i2] at ok1
    dsimp only at ok1
    have f1_ := fst_le E (show i < N by omega)
    refine lv_aload_n hx hb dX5_write_35 rfl (lv_at hl 0 rfl) ?_
    refine lv_iload_n hx hb dX5_write_36 rfl (lv_at hl 1 rfl) ?_
    refine rw_v (wr := [(ta, .inr (0, [.ref tb, .int (iZ tL)])), (tb, .inl (cI, 2000, .inl (aI tF))), (de, .inr (1, [.int (iZ nx), .int (iZ nd), .int (iZ sz1), .int (iZ kd), .int (iZ pl)])), (ra, .inr (4, [.ref an, .ref ax, .int (iZ pp), .int (iZ qq), .int (iZ st), .long (lZ ch), .long (lZ er)])), (an, .inl (cJ, 250, .inr (.inl (aL fn)))), (ax, .inl (cJ, 250, .inr (.inl (aL fx)))), (od, .inr (3, [.ref o1, .ref o2, .int (iZ qs)])), (o1, .inl (cI, 250, .inl (aI q1))), (o2, .inl (cJ, 250, .inr (.inl (aL q2))))]) (va_runV (As := [.int (iZ ↑i)]) (rest := []) ⟨hx, hb, hml, hown, hts⟩ (c_X5_putNode l D cI cJ cB cZ h ta ou de ra od gr ob b1 b2 b3 gf gl f1 f2 f3 n sz wh N E w hG i (by omega) (by omega) ok1.2.2 _) (cwV 1 hts gX5_write_X5_putNode rfl rfl rfl (by decide +kernel) ⟨Nat.le_of_ble_eq_true rfl, Nat.le_of_ble_eq_true rfl⟩) (pre1V hE (hP.sub (ws' := (wHo h ta ou de ra od gr ++ wBR 3502 cI ou ob gf gl ++ wGr cI gr b1 b2 b3 f1 f2 f3 n sz wh)) [0, 3, 4, 12, 13, 14, 15] rfl) (hD.sub (ws' := (wHo h ta ou de ra od gr ++ wBR 3502 cI ou ob gf gl ++ wGr cI gr b1 b2 b3 f1 f2 f3 n sz wh)) [0, 3, 4, 12, 13, 14, 15] (by decide) rfl) 0 rfl rfl) rfl rfl hl.1 rfl (lv_room (Nat.le_of_ble_eq_true rfl)) dX5_write_37 ⟨Nat.le_of_ble_eq_true rfl, Nat.le_of_ble_eq_true rfl⟩) hP hD hS hA [0, 3, 4, 12, 13, 14, 15] [1, 2, 5, 6, 7, 8, 9, 10, 11] rfl rfl (by decide) (by decide) (fun u_7 H locs hr_6 hP hD hS => ?_)
    have hP := hP.sub (ws' := (wHo h ta ou de ra od gr ++ wBR 2000 cI ta tb tF tL ++ wBR 3502 cI ou ob u_7.1 u_7.2 ++ wDe de nx nd sz1 kd pl ++ wRa cJ ra an ax fn fx pp qq st ch er ++ wOr cI cJ od o1 o2 q1 q2 qs ++ wGr cI gr b1 b2 b3 f1 f2 f3 n sz wh)) [9, 0, 1, 10, 11, 2, 3, 4, 5, 6, 7, 8, 12, 13, 14, 15] rfl
    have hD := hD.sub (ws' := (wHo h ta ou de ra od gr ++ wBR 2000 cI ta tb tF tL ++ wBR 3502 cI ou ob u_7.1 u_7.2 ++ wDe de nx nd sz1 kd pl ++ wRa cJ ra an ax fn fx pp qq st ch er ++ wOr cI cJ od o1 o2 q1 q2 qs ++ wGr cI gr b1 b2 b3 f1 f2 f3 n sz wh)) [9, 0, 1, 10, 11, 2, 3, 4, 5, 6, 7, 8, 12, 13, 14, 15] (by decide) rfl
    have hw9 := hr_6
    refine lv_iinc (v := iZ (↑i + 1)) (lv' := [(1, .int (iZ (↑i + 1))), (0, .ref h)]) hx hb dX5_write_40 hl (k := 1) rfl (show iZ ↑i + iZ 1 = _ from iZ_add _ _) (by decide) rfl (fun ls hl => ?_)
    refine lv_goto (tgt := 24) hx hb dX5_write_43 (by decide) ?_
    exact ih _ _ _ _ (by omega) ⟨(i + 1), u_7.1, u_7.2, rfl, ⟨by omega, (by rw [wA, i2, ← hw9])⟩, hP, hD, hS, lv_sub hl [1, 0] rfl⟩
