/-! steps of the ranks, again and again -/
abbrev RT : Type := (Nat → Nat) × Nat × Nat × Nat
def rn1 (E : Ed) (N : Nat) (w : Nat → Nat) (P Q : Nat) (t : RT) : RT := (stp E N w P Q t.1, t.2.1 + 1, chg N t.1 (stp E N w P Q t.1), t.2.2.2 * P / Q + 1)
def rnK (E : Ed) (N : Nat) (w : Nat → Nat) (P Q : Nat) : Nat → RT → RT
  | 0, t => t
  | k + 1, t => rn1 E N w P Q (rnK E N w P Q k t)
def stl (sm : Int) (t : RT) : Prop := 0 < t.2.1 ∧ (t.2.2.1 : Int) ≤ sm
def RNK (E : Ed) (N : Nat) (w : Nat → Nat) (P Q : Nat) (sm n : Int) (t : RT) (k : Nat) : Prop := (k : Int) ≤ n ∧ (∀ j, j < k → ¬ stl sm (rnK E N w P Q j t)) ∧ ((k : Int) < n → stl sm (rnK E N w P Q k t))
theorem RNK_one {E : Ed} {N : Nat} {w : Nat → Nat} {P Q : Nat} {sm n : Int} {t : RT} {k j : Nat} (h : RNK E N w P Q sm n t k) (h2 : RNK E N w P Q sm n t j) : k = j := by
  rcases Nat.lt_trichotomy k j with q | q | q
  · exact absurd (h.2.2 (by have := h2.1; omega)) (h2.2.1 k q)
  · exact q
  · exact absurd (h2.2.2 (by have := h.1; omega)) (h.2.1 j q)
theorem rnK_s {E : Ed} {N : Nat} {w : Nat → Nat} {P Q : Nat} {k : Nat} {t : RT} : rnK E N w P Q (k + 1) t = rn1 E N w P Q (rnK E N w P Q k t) := rfl
theorem ke_ok {a P Q : Nat} (h : P < Q) (ha : a ≤ 8589934592) : a * P / Q + 1 ≤ 8589934592 := by
  rcases Nat.eq_zero_or_pos a with q | q
  · subst q
    rw [Nat.zero_mul, Nat.zero_div]
    omega
  · have : a * P / Q < a := by
      rw [Nat.div_lt_iff_lt_mul (by omega)]
      exact Nat.mul_lt_mul_of_pos_left h q
    omega
set_option maxHeartbeats 4000000 in
set_option maxRecDepth 100000 in
theorem c_X5_edges (l : Launch) (hst : l.stackTraces = false) (D : va_G) (cI cJ cB cZ : ClassId) (h ta ou de ra od gr tb ob an ax o1 o2 b1 b2 b3 : Nat) (tF : Nat → Int) (tL : Int) (oF : Nat → Int) (oL : Int) (nx nd sz1 kd pl : Int) (fn fx : Nat → Int) (pp qq st ch er : Int) (q1 q2 : Nat → Int) (qs : Int) (f1 f2 f3 : Nat → Int) (n sz wh : Int) (N : Nat) (E : Ed) (w : Nat → Nat) (P Q : Nat) (x : Nat → Nat) (ks kc ke tl : Nat) (tf : Nat → Int) (ol : Nat) (of_ : Nat → Int) (fk : Int) (hH : HR N E w P Q x ks kc ke tl tf ol of_ fk ((tF, tL), (oF, oL), (nx, nd, sz1, kd, pl), ((an, ax), fn, fx, pp, qq, st, ch, er), (q1, q2, qs), f1, f2, f3, n, sz, wh)) (a : Int) (ha : -2147483648 ≤ a ∧ a < 2147483648) (b : Int) (hb0 : -2147483648 ≤ b ∧ b < 2147483648)  (sz0 : Nat) : vx_Met l yX5_edges wsX5_edges ({ frames := 6, cells := 1, slots := 6, locals := 81 } : Room) (PreX "java/util/NoSuchElementException" D cI cJ cB cZ [.ref h, .int (iZ a), .int (iZ b)] (wHo h ta ou de ra od gr ++ wBR 2000 cI ta tb tF tL ++ wBR 3502 cI ou ob oF oL ++ wDe de nx nd sz1 kd pl ++ wRa cJ ra an ax fn fx pp qq st ch er ++ wOr cI cJ od o1 o2 q1 q2 qs ++ wGr cI gr b1 b2 b3 f1 f2 f3 n sz wh) sz0) (rwI (S := Unit) D (fun z U => ((b = 0 ∨ b = 1) ∧ 0 ≤ a ∧ a < (N : Int)) ∧ (b = 0 → z = (dgr E N a.toNat : Int)) ∧ (b = 1 → z = (fb_ct (fun c9 => E c9 a.toNat) N : Int))) (fun u => wHo h ta ou de ra od gr ++ wBR 2000 cI ta tb tF tL ++ wBR 3502 cI ou ob oF oL ++ wDe de nx nd sz1 kd pl ++ wRa cJ ra an ax fn fx pp qq st ch er ++ wOr cI cJ od o1 o2 q1 q2 qs ++ wGr cI gr b1 b2 b3 f1 f2 f3 n sz wh) (va_A (wHo h ta ou de ra od gr ++ wBR 2000 cI ta tb tF tL ++ wBR 3502 cI ou ob oF oL ++ wDe de nx nd sz1 kd pl ++ wRa cJ ra an ax fn fx pp qq st ch er ++ wOr cI cJ od o1 o2 q1 q2 qs ++ wGr cI gr b1 b2 b3 f1 f2 f3 n sz wh) sz0)) (XB "java/util/NoSuchElementException" (¬ ((b = 0 ∨ b = 1) ∧ 0 ≤ a ∧ a < (N : Int))) D (wHo h ta ou de ra od gr ++ wBR 2000 cI ta tb tF tL ++ wBR 3502 cI ou ob oF oL ++ wDe de nx nd sz1 kd pl ++ wRa cJ ra an ax fn fx pp qq st ch er ++ wOr cI cJ od o1 o2 q1 q2 qs ++ wGr cI gr b1 b2 b3 f1 f2 f3 n sz wh) (va_A (wHo h ta ou de ra od gr ++ wBR 2000 cI ta tb tF tL ++ wBR 3502 cI ou ob oF oL ++ wDe de nx nd sz1 kd pl ++ wRa cJ ra an ax fn fx pp qq st ch er ++ wOr cI cJ od o1 o2 q1 q2 qs ++ wGr cI gr b1 b2 b3 f1 f2 f3 n sz wh) sz0)) 1 6 (va_A (wHo h ta ou de ra od gr ++ wBR 2000 cI ta tb tF tL ++ wBR 3502 cI ou ob oF oL ++ wDe de nx nd sz1 kd pl ++ wRa cJ ra an ax fn fx pp qq st ch er ++ wOr cI cJ od o1 o2 q1 q2 qs ++ wGr cI gr b1 b2 b3 f1 f2 f3 n sz wh) sz0) := by
  refine vx_ofW (cc := cX5_edges) (maxL := 3) (ret := (some .int)) (by decide) rfl ?_
  intro p e s m args below meth c s₁ B hml hexc hv
  obtain ⟨rfl, hsz, hP, hE, hD0, hZ⟩ := hv
  have hx := B.exec
  have hb := B.bytes
  have hr := B.returns
  have hts := atoms_spec (ws := wsX5_edges) B.pre
  have hown : s.vm.findClass RX5 = some m.cls := findClass_of_methodNamed B.named
  have hlocks := B.notSynchronized
  have hK := hE.1
  subst hsz
  have hD := hD0.self (sz := s.heap.size)
  generalize hAe : va_A (wHo h ta ou de ra od gr ++ wBR 2000 cI ta tb tF tL ++ wBR 3502 cI ou ob oF oL ++ wDe de nx nd sz1 kd pl ++ wRa cJ ra an ax fn fx pp qq st ch er ++ wOr cI cJ od o1 o2 q1 q2 qs ++ wGr cI gr b1 b2 b3 f1 f2 f3 n sz wh) s.heap.size = A at hD hZ ⊢
  have hA : ∀ q : Nat, s.heap.size ≤ q → A q := fun q h => by rw [← hAe]; exact Or.inr h
  have hS : va_S A s.heap s.heap [] := va_S.rf
  have hP : va_P D vwCl (wHo h ta ou de ra od gr ++ wBR 2000 cI ta tb tF tL ++ wBR 3502 cI ou ob oF oL ++ wDe de nx nd sz1 kd pl ++ wRa cJ ra an ax fn fx pp qq st ch er ++ wOr cI cJ od o1 o2 q1 q2 qs ++ wGr cI gr b1 b2 b3 f1 f2 f3 n sz wh) s.heap := hP
  have hi_5 : ∀ w ∈ wsX50, w ∈ wsX5_edges := by decide +kernel
  have hw_1 := hts (.fieldLink RX5 45 "RankHouse" "graph" "LRankHouse$Graph;") (by decide +kernel)
  have hw_2 := hts (.classLink RX5 99 "java/util/NoSuchElementException") (by decide +kernel)
  have hw_3 := hts (.initialized "java/util/NoSuchElementException") (by decide +kernel)
  have hl := lv_entry ([.ref h, .int (iZ a), .int (iZ b)]) (n := 3) (Nat.le_of_ble_eq_true rfl)
  rw [lg_entry_eq]
  generalize (lg_sl ([.ref h, .int (iZ a), .int (iZ b)]) ++ List.replicate (3 - (lg_sl ([.ref h, .int (iZ a), .int (iZ b)])).length) Slot.unset).toArray = ls at hl ⊢
  have hl : lv_has ls 3 [(0, .ref h), (1, .int (iZ a)), (2, .int (iZ b))] := hl
  obtain ⟨hG, hR, s1, s2, s3, s5, s6, t1, t1b, t2, t3, y1, y1b, y2, y3, d1⟩ := id hH
  dsimp only at hG hR s1 s2 s3 t1 t1b y1 y1b d1
  subst t1
  subst y1
  have hG : GR N E w f1 f2 f3 n sz wh := hG
  obtain ⟨g1, g2, g3, g4, g5, g6, g7, g8, g9, g10, g11⟩ := id hG
  obtain ⟨k1, k2, k3, k4, k5, k6⟩ := id hR
  refine lv_aload_n hx hb dX5_edges_0 rfl (lv_at hl 0 rfl) ?_
  refine va_get (v := .ref gr) (C := RX5) (T := TX5) (N := 6) (ci := 5) hx hb hts hi_5 hown hK hP 0 rfl rfl 5 (by decide) hw_1 (fun _ h9 => h9) rfl dX5_edges_1 ?_
  refine lv_iload_n hx hb dX5_edges_4 rfl (lv_at hl 1 rfl) ?_
  refine ro_i (va_runV (As := [.int (iZ a)]) (rest := []) ⟨hx, hb, hml, hown, hts⟩ (c_X2_isNode l D cI cJ cB cZ gr b1 b2 b3 f1 f2 f3 n sz wh a (by omega) ha) (cwV 1 hts gX5_edges_X2_isNode rfl rfl rfl (by decide +kernel) ⟨Nat.le_of_ble_eq_true rfl, Nat.le_of_ble_eq_true rfl⟩) (pre0V hE (hP.sub (ws' := (wGr cI gr b1 b2 b3 f1 f2 f3 n sz wh)) [12, 13, 14, 15] rfl) 0 rfl rfl) rfl rfl hl.1 rfl (lv_room (Nat.le_of_ble_eq_true rfl)) dX5_edges_5 ⟨Nat.le_of_ble_eq_true rfl, Nat.le_of_ble_eq_true rfl⟩) (fun r_1 hr_2 => ?_)
  rcases hr_2 with ⟨rfl, hq_3⟩ | ⟨rfl, hq_3⟩
  · refine z_if_eq (tgt := 20) hx hb dX5_edges_8 (by decide) (by omega) (fun c9 => absurd c9 (by decide)) (fun _ => ?_)
    refine lv_iload_n hx hb dX5_edges_11 rfl (lv_at hl 2 rfl) ?_
    refine z_if_eq (tgt := 28) hx hb dX5_edges_12 (by decide) (by omega) (fun c_4 => ?_) (fun c_4 => ?_)
    · refine lv_iload_n hx hb dX5_edges_28 rfl (lv_at hl 2 rfl) ?_
      refine z_if_ne (tgt := 43) hx hb dX5_edges_29 (by decide) (by omega) (fun c_5 => ?_) (fun c_5 => ?_)
      · refine lv_aload_n hx hb dX5_edges_43 rfl (lv_at hl 0 rfl) ?_
        refine va_get (v := .ref gr) (C := RX5) (T := TX5) (N := 6) (ci := 5) hx hb hts hi_5 hown hK hP 0 rfl rfl 5 (by decide) hw_1 (fun _ h9 => h9) rfl dX5_edges_44 ?_
        refine lv_iload_n hx hb dX5_edges_47 rfl (lv_at hl 1 rfl) ?_
        refine ro_i (va_runV (As := [.int (iZ a)]) (rest := []) ⟨hx, hb, hml, hown, hts⟩ (c_X2_into l D cI cJ cB cZ gr b1 b2 b3 f1 f2 f3 n sz wh N E w hG a (by omega)) (cwV 1 hts gX5_edges_X2_into rfl rfl rfl (by decide +kernel) ⟨Nat.le_of_ble_eq_true rfl, Nat.le_of_ble_eq_true rfl⟩) (pre0V hE (hP.sub (ws' := (wGr cI gr b1 b2 b3 f1 f2 f3 n sz wh)) [12, 13, 14, 15] rfl) 0 rfl rfl) rfl rfl hl.1 rfl (lv_room (Nat.le_of_ble_eq_true rfl)) dX5_edges_48 ⟨Nat.le_of_ble_eq_true rfl, Nat.le_of_ble_eq_true rfl⟩) (fun r_6 hr_7 => ?_)
        have q4 := hr_7
        refine vx_ret (W.widen (k := 1) (n := 6) (Nat.le_of_ble_eq_true rfl) (Nat.le_of_ble_eq_true rfl) ?_)
        exact rw_iret (z := r_6) () hx hb hr hlocks hP hD hS ⟨by omega, fun q => by omega, fun q => by omega⟩ dX5_edges_51
      · refine lv_aload_n hx hb dX5_edges_32 rfl (lv_at hl 0 rfl) ?_
        refine va_get (v := .ref gr) (C := RX5) (T := TX5) (N := 6) (ci := 5) hx hb hts hi_5 hown hK hP 0 rfl rfl 5 (by decide) hw_1 (fun _ h9 => h9) rfl dX5_edges_33 ?_
        refine lv_iload_n hx hb dX5_edges_36 rfl (lv_at hl 1 rfl) ?_
        refine ro_i (va_runV (As := [.int (iZ a)]) (rest := []) ⟨hx, hb, hml, hown, hts⟩ (c_X2_outOf l D cI cJ cB cZ gr b1 b2 b3 f1 f2 f3 n sz wh N E w hG a ha) (cwV 1 hts gX5_edges_X2_outOf rfl rfl rfl (by decide +kernel) ⟨Nat.le_of_ble_eq_true rfl, Nat.le_of_ble_eq_true rfl⟩) (pre0V hE (hP.sub (ws' := (wGr cI gr b1 b2 b3 f1 f2 f3 n sz wh)) [12, 13, 14, 15] rfl) 0 rfl rfl) rfl rfl hl.1 rfl (lv_room (Nat.le_of_ble_eq_true rfl)) dX5_edges_37 ⟨Nat.le_of_ble_eq_true rfl, Nat.le_of_ble_eq_true rfl⟩) (fun r_8 hr_9 => ?_)
        have q4 := hr_9.1 (by omega)
        refine lv_goto (tgt := 51) hx hb dX5_edges_40 (by decide) ?_
        refine vx_ret (W.widen (k := 1) (n := 6) (Nat.le_of_ble_eq_true rfl) (Nat.le_of_ble_eq_true rfl) ?_)
        exact rw_iret (z := r_8) () hx hb hr hlocks hP hD hS ⟨by omega, fun q => by omega, fun q => by omega⟩ dX5_edges_51
    · refine lv_iload_n hx hb dX5_edges_15 rfl (lv_at hl 2 rfl) ?_
      refine z_iconst hx hb dX5_edges_16 ?_
      refine z_icmp_eq (tgt := 28) hx hb dX5_edges_17 (by decide) (by omega) (by omega) (fun c_10 => ?_) (fun c_10 => ?_)
      · refine lv_iload_n hx hb dX5_edges_28 rfl (lv_at hl 2 rfl) ?_
        refine z_if_ne (tgt := 43) hx hb dX5_edges_29 (by decide) (by omega) (fun c_11 => ?_) (fun c_11 => ?_)
        · refine lv_aload_n hx hb dX5_edges_43 rfl (lv_at hl 0 rfl) ?_
          refine va_get (v := .ref gr) (C := RX5) (T := TX5) (N := 6) (ci := 5) hx hb hts hi_5 hown hK hP 0 rfl rfl 5 (by decide) hw_1 (fun _ h9 => h9) rfl dX5_edges_44 ?_
          refine lv_iload_n hx hb dX5_edges_47 rfl (lv_at hl 1 rfl) ?_
          refine ro_i (va_runV (As := [.int (iZ a)]) (rest := []) ⟨hx, hb, hml, hown, hts⟩ (c_X2_into l D cI cJ cB cZ gr b1 b2 b3 f1 f2 f3 n sz wh N E w hG a (by omega)) (cwV 1 hts gX5_edges_X2_into rfl rfl rfl (by decide +kernel) ⟨Nat.le_of_ble_eq_true rfl, Nat.le_of_ble_eq_true rfl⟩) (pre0V hE (hP.sub (ws' := (wGr cI gr b1 b2 b3 f1 f2 f3 n sz wh)) [12, 13, 14, 15] rfl) 0 rfl rfl) rfl rfl hl.1 rfl (lv_room (Nat.le_of_ble_eq_true rfl)) dX5_edges_48 ⟨Nat.le_of_ble_eq_true rfl, Nat.le_of_ble_eq_true rfl⟩) (fun r_12 hr_13 => ?_)
          have q4 := hr_13
          refine vx_ret (W.widen (k := 1) (n := 6) (Nat.le_of_ble_eq_true rfl) (Nat.le_of_ble_eq_true rfl) ?_)
          exact rw_iret (z := r_12) () hx hb hr hlocks hP hD hS ⟨by omega, fun q => by omega, fun q => by omega⟩ dX5_edges_51
        · refine lv_aload_n hx hb dX5_edges_32 rfl (lv_at hl 0 rfl) ?_
          refine va_get (v := .ref gr) (C := RX5) (T := TX5) (N := 6) (ci := 5) hx hb hts hi_5 hown hK hP 0 rfl rfl 5 (by decide) hw_1 (fun _ h9 => h9) rfl dX5_edges_33 ?_
          refine lv_iload_n hx hb dX5_edges_36 rfl (lv_at hl 1 rfl) ?_
          refine ro_i (va_runV (As := [.int (iZ a)]) (rest := []) ⟨hx, hb, hml, hown, hts⟩ (c_X2_outOf l D cI cJ cB cZ gr b1 b2 b3 f1 f2 f3 n sz wh N E w hG a ha) (cwV 1 hts gX5_edges_X2_outOf rfl rfl rfl (by decide +kernel) ⟨Nat.le_of_ble_eq_true rfl, Nat.le_of_ble_eq_true rfl⟩) (pre0V hE (hP.sub (ws' := (wGr cI gr b1 b2 b3 f1 f2 f3 n sz wh)) [12, 13, 14, 15] rfl) 0 rfl rfl) rfl rfl hl.1 rfl (lv_room (Nat.le_of_ble_eq_true rfl)) dX5_edges_37 ⟨Nat.le_of_ble_eq_true rfl, Nat.le_of_ble_eq_true rfl⟩) (fun r_14 hr_15 => ?_)
          have q4 := hr_15.1 (by omega)
          refine lv_goto (tgt := 51) hx hb dX5_edges_40 (by decide) ?_
          refine vx_ret (W.widen (k := 1) (n := 6) (Nat.le_of_ble_eq_true rfl) (Nat.le_of_ble_eq_true rfl) ?_)
          exact rw_iret (z := r_14) () hx hb hr hlocks hP hD hS ⟨by omega, fun q => by omega, fun q => by omega⟩ dX5_edges_51
      · exact vx_throw0 hx hb hst (own := RX5) (cls := "java/util/NoSuchElementException") (names := ["java/lang/RuntimeException", "java/lang/Exception"]) (ik := 99) (ic := 101) hown (by decide) (by decide) hw_2 hw_3 (vx_hat (B := [.castable "java/util/NoSuchElementException" "java/util/NoSuchElementException", .declares (Bundle.init0 "java/lang/RuntimeException"), .declares (Bundle.init0 "java/lang/Exception"), .declares (Bundle.init0 Bundle.tN)]) (fun w h9 => hts w (List.mem_cons_of_mem _ (List.mem_append_right _ h9))) (by decide +kernel) (vx_c (va_Nw.use rfl hZ.2.2.1) (vx_c (va_Nw.use rfl hZ.2.2.2.1) (vx_c (va_Nw.use rfl hZ.2.2.2.2.1) (vx_c (va_Nw.use rfl hZ.2.2.2.2.2) vx_n))))) (by decide +kernel) hZ.1 hZ.2.1 hS (by rw [hml]; exact hl.1) dX5_edges_20 dX5_edges_23 dX5_edges_24 dX5_edges_27 (fun x h9 => (hexc x h9).elim) (Nat.le_of_ble_eq_true rfl) (Nat.le_of_ble_eq_true rfl) (Nat.le_of_ble_eq_true rfl) (Nat.le_of_ble_eq_true rfl) hlocks (thr_x hP hD hS (fun q9 => by omega)) hS.2.2 (Nat.le_of_ble_eq_true rfl) (Nat.le_of_ble_eq_true rfl)
  · refine z_if_eq (tgt := 20) hx hb dX5_edges_8 (by decide) (by omega) (fun _ => ?_) (fun c9 => absurd c9 (by decide))
    exact vx_throw0 hx hb hst (own := RX5) (cls := "java/util/NoSuchElementException") (names := ["java/lang/RuntimeException", "java/lang/Exception"]) (ik := 99) (ic := 101) hown (by decide) (by decide) hw_2 hw_3 (vx_hat (B := [.castable "java/util/NoSuchElementException" "java/util/NoSuchElementException", .declares (Bundle.init0 "java/lang/RuntimeException"), .declares (Bundle.init0 "java/lang/Exception"), .declares (Bundle.init0 Bundle.tN)]) (fun w h9 => hts w (List.mem_cons_of_mem _ (List.mem_append_right _ h9))) (by decide +kernel) (vx_c (va_Nw.use rfl hZ.2.2.1) (vx_c (va_Nw.use rfl hZ.2.2.2.1) (vx_c (va_Nw.use rfl hZ.2.2.2.2.1) (vx_c (va_Nw.use rfl hZ.2.2.2.2.2) vx_n))))) (by decide +kernel) hZ.1 hZ.2.1 hS (by rw [hml]; exact hl.1) dX5_edges_20 dX5_edges_23 dX5_edges_24 dX5_edges_27 (fun x h9 => (hexc x h9).elim) (Nat.le_of_ble_eq_true rfl) (Nat.le_of_ble_eq_true rfl) (Nat.le_of_ble_eq_true rfl) (Nat.le_of_ble_eq_true rfl) hlocks (thr_x hP hD hS (fun q9 => by omega)) hS.2.2 (Nat.le_of_ble_eq_true rfl) (Nat.le_of_ble_eq_true rfl)
set_option maxHeartbeats 4000000 in
set_option maxRecDepth 100000 in
theorem c_X5_rank (l : Launch) (hst : l.stackTraces = false) (D : va_G) (cI cJ cB cZ : ClassId) (h ta ou de ra od gr tb ob an ax o1 o2 b1 b2 b3 : Nat) (tF : Nat → Int) (tL : Int) (oF : Nat → Int) (oL : Int) (nx nd sz1 kd pl : Int) (fn fx : Nat → Int) (pp qq st ch er : Int) (q1 q2 : Nat → Int) (qs : Int) (f1 f2 f3 : Nat → Int) (n sz wh : Int) (N : Nat) (E : Ed) (w : Nat → Nat) (P Q : Nat) (x : Nat → Nat) (ks kc ke tl : Nat) (tf : Nat → Int) (ol : Nat) (of_ : Nat → Int) (fk : Int) (hH : HR N E w P Q x ks kc ke tl tf ol of_ fk ((tF, tL), (oF, oL), (nx, nd, sz1, kd, pl), ((an, ax), fn, fx, pp, qq, st, ch, er), (q1, q2, qs), f1, f2, f3, n, sz, wh)) (a : Int) (ha : -2147483648 ≤ a ∧ a < 2147483648)  (sz0 : Nat) : vx_Met l yX5_rank wsX5_rank ({ frames := 6, cells := 1, slots := 6, locals := 81 } : Room) (PreX "java/util/NoSuchElementException" D cI cJ cB cZ [.ref h, .int (iZ a)] (wHo h ta ou de ra od gr ++ wBR 2000 cI ta tb tF tL ++ wBR 3502 cI ou ob oF oL ++ wDe de nx nd sz1 kd pl ++ wRa cJ ra an ax fn fx pp qq st ch er ++ wOr cI cJ od o1 o2 q1 q2 qs ++ wGr cI gr b1 b2 b3 f1 f2 f3 n sz wh) sz0) (rwL (S := Unit) D (fun z U => (0 ≤ a ∧ a < (N : Int)) ∧ z = ((x a.toNat : Nat) : Int)) (fun u => wHo h ta ou de ra od gr ++ wBR 2000 cI ta tb tF tL ++ wBR 3502 cI ou ob oF oL ++ wDe de nx nd sz1 kd pl ++ wRa cJ ra an ax fn fx pp qq st ch er ++ wOr cI cJ od o1 o2 q1 q2 qs ++ wGr cI gr b1 b2 b3 f1 f2 f3 n sz wh) (va_A (wHo h ta ou de ra od gr ++ wBR 2000 cI ta tb tF tL ++ wBR 3502 cI ou ob oF oL ++ wDe de nx nd sz1 kd pl ++ wRa cJ ra an ax fn fx pp qq st ch er ++ wOr cI cJ od o1 o2 q1 q2 qs ++ wGr cI gr b1 b2 b3 f1 f2 f3 n sz wh) sz0)) (XB "java/util/NoSuchElementException" (¬ (0 ≤ a ∧ a < (N : Int))) D (wHo h ta ou de ra od gr ++ wBR 2000 cI ta tb tF tL ++ wBR 3502 cI ou ob oF oL ++ wDe de nx nd sz1 kd pl ++ wRa cJ ra an ax fn fx pp qq st ch er ++ wOr cI cJ od o1 o2 q1 q2 qs ++ wGr cI gr b1 b2 b3 f1 f2 f3 n sz wh) (va_A (wHo h ta ou de ra od gr ++ wBR 2000 cI ta tb tF tL ++ wBR 3502 cI ou ob oF oL ++ wDe de nx nd sz1 kd pl ++ wRa cJ ra an ax fn fx pp qq st ch er ++ wOr cI cJ od o1 o2 q1 q2 qs ++ wGr cI gr b1 b2 b3 f1 f2 f3 n sz wh) sz0)) 1 6 (va_A (wHo h ta ou de ra od gr ++ wBR 2000 cI ta tb tF tL ++ wBR 3502 cI ou ob oF oL ++ wDe de nx nd sz1 kd pl ++ wRa cJ ra an ax fn fx pp qq st ch er ++ wOr cI cJ od o1 o2 q1 q2 qs ++ wGr cI gr b1 b2 b3 f1 f2 f3 n sz wh) sz0) := by
  refine vx_ofW (cc := cX5_rank) (maxL := 2) (ret := (some .long)) (by decide) rfl ?_
  intro p e s m args below meth c s₁ B hml hexc hv
  obtain ⟨rfl, hsz, hP, hE, hD0, hZ⟩ := hv
  have hx := B.exec
  have hb := B.bytes
  have hr := B.returns
  have hts := atoms_spec (ws := wsX5_rank) B.pre
  have hown : s.vm.findClass RX5 = some m.cls := findClass_of_methodNamed B.named
  have hlocks := B.notSynchronized
  have hK := hE.1
  subst hsz
  have hD := hD0.self (sz := s.heap.size)
  generalize hAe : va_A (wHo h ta ou de ra od gr ++ wBR 2000 cI ta tb tF tL ++ wBR 3502 cI ou ob oF oL ++ wDe de nx nd sz1 kd pl ++ wRa cJ ra an ax fn fx pp qq st ch er ++ wOr cI cJ od o1 o2 q1 q2 qs ++ wGr cI gr b1 b2 b3 f1 f2 f3 n sz wh) s.heap.size = A at hD hZ ⊢
  have hA : ∀ q : Nat, s.heap.size ≤ q → A q := fun q h => by rw [← hAe]; exact Or.inr h
  have hS : va_S A s.heap s.heap [] := va_S.rf
  have hP : va_P D vwCl (wHo h ta ou de ra od gr ++ wBR 2000 cI ta tb tF tL ++ wBR 3502 cI ou ob oF oL ++ wDe de nx nd sz1 kd pl ++ wRa cJ ra an ax fn fx pp qq st ch er ++ wOr cI cJ od o1 o2 q1 q2 qs ++ wGr cI gr b1 b2 b3 f1 f2 f3 n sz wh) s.heap := hP
  have hi_4 : ∀ w ∈ wsX40, w ∈ wsX5_rank := by decide +kernel
  have hi_5 : ∀ w ∈ wsX50, w ∈ wsX5_rank := by decide +kernel
  have hw_1 := hts (.fieldLink RX5 45 "RankHouse" "graph" "LRankHouse$Graph;") (by decide +kernel)
  have hw_2 := hts (.fieldLink RX5 31 "RankHouse" "ranks" "LRankHouse$Ranks;") (by decide +kernel)
  have hw_3 := hE.nl (w := .fieldLinkNest RX5 133 "RankHouse$Ranks" "now" "[J" "RankHouse") (by decide +kernel) ([.ref h, .int (iZ a)] : List Value).toArray
  have hw_4 := hts (.classLink RX5 99 "java/util/NoSuchElementException") (by decide +kernel)
  have hw_5 := hts (.initialized "java/util/NoSuchElementException") (by decide +kernel)
  have hl := lv_entry ([.ref h, .int (iZ a)]) (n := 2) (Nat.le_of_ble_eq_true rfl)
  rw [lg_entry_eq]
  generalize (lg_sl ([.ref h, .int (iZ a)]) ++ List.replicate (2 - (lg_sl ([.ref h, .int (iZ a)])).length) Slot.unset).toArray = ls at hl ⊢
  have hl : lv_has ls 2 [(0, .ref h), (1, .int (iZ a))] := hl
  obtain ⟨hG, hR, s1, s2, s3, s5, s6, t1, t1b, t2, t3, y1, y1b, y2, y3, d1⟩ := id hH
  dsimp only at hG hR s1 s2 s3 t1 t1b y1 y1b d1
  subst t1
  subst y1
  have hG : GR N E w f1 f2 f3 n sz wh := hG
  obtain ⟨g1, g2, g3, g4, g5, g6, g7, g8, g9, g10, g11⟩ := id hG
  obtain ⟨k1, k2, k3, k4, k5, k6⟩ := id hR
  refine lv_aload_n hx hb dX5_rank_0 rfl (lv_at hl 0 rfl) ?_
  refine va_get (v := .ref gr) (C := RX5) (T := TX5) (N := 6) (ci := 5) hx hb hts hi_5 hown hK hP 0 rfl rfl 5 (by decide) hw_1 (fun _ h9 => h9) rfl dX5_rank_1 ?_
  refine lv_iload_n hx hb dX5_rank_4 rfl (lv_at hl 1 rfl) ?_
  refine ro_i (va_runV (As := [.int (iZ a)]) (rest := []) ⟨hx, hb, hml, hown, hts⟩ (c_X2_isNode l D cI cJ cB cZ gr b1 b2 b3 f1 f2 f3 n sz wh a (by omega) ha) (cwV 1 hts gX5_rank_X2_isNode rfl rfl rfl (by decide +kernel) ⟨Nat.le_of_ble_eq_true rfl, Nat.le_of_ble_eq_true rfl⟩) (pre0V hE (hP.sub (ws' := (wGr cI gr b1 b2 b3 f1 f2 f3 n sz wh)) [12, 13, 14, 15] rfl) 0 rfl rfl) rfl rfl hl.1 rfl (lv_room (Nat.le_of_ble_eq_true rfl)) dX5_rank_5 ⟨Nat.le_of_ble_eq_true rfl, Nat.le_of_ble_eq_true rfl⟩) (fun r_1 hr_2 => ?_)
  rcases hr_2 with ⟨rfl, hq_3⟩ | ⟨rfl, hq_3⟩
  · refine z_if_ne (tgt := 19) hx hb dX5_rank_8 (by decide) (by omega) (fun _ => ?_) (fun c9 => absurd c9 (by decide))
    refine lv_aload_n hx hb dX5_rank_19 rfl (lv_at hl 0 rfl) ?_
    refine va_get (v := .ref ra) (C := RX5) (T := TX5) (N := 6) (ci := 5) hx hb hts hi_5 hown hK hP 0 rfl rfl 3 (by decide) hw_2 (fun _ h9 => h9) rfl dX5_rank_20 ?_
    refine va_getN (v := .ref an) (C := RX4) (T := TX4) (N := 7) (ci := 4) hx hb hts hi_4 hown hK hP 6 rfl rfl 0 (by decide) hw_3 (fun _ h9 => h9) rfl dX5_rank_23 ?_
    refine lv_iload_n hx hb dX5_rank_26 rfl (lv_at hl 1 rfl) ?_
    refine z_lald hx hb hK hP 7 1 rfl rfl a.toNat (by omega) (by omega) (by omega) dX5_rank_27 ?_
    refine vx_ret (W.widen (k := 1) (n := 6) (Nat.le_of_ble_eq_true rfl) (Nat.le_of_ble_eq_true rfl) ?_)
    exact rw_lret (z := fn a.toNat) () hx hb hr hlocks hP hD hS ⟨by omega, k5 a.toNat (by omega)⟩ dX5_rank_28
  · refine z_if_ne (tgt := 19) hx hb dX5_rank_8 (by decide) (by omega) (fun c9 => absurd c9 (by decide)) (fun _ => ?_)
    exact vx_throw0 hx hb hst (own := RX5) (cls := "java/util/NoSuchElementException") (names := ["java/lang/RuntimeException", "java/lang/Exception"]) (ik := 99) (ic := 101) hown (by decide) (by decide) hw_4 hw_5 (vx_hat (B := [.castable "java/util/NoSuchElementException" "java/util/NoSuchElementException", .declares (Bundle.init0 "java/lang/RuntimeException"), .declares (Bundle.init0 "java/lang/Exception"), .declares (Bundle.init0 Bundle.tN)]) (fun w h9 => hts w (List.mem_cons_of_mem _ (List.mem_append_right _ h9))) (by decide +kernel) (vx_c (va_Nw.use rfl hZ.2.2.1) (vx_c (va_Nw.use rfl hZ.2.2.2.1) (vx_c (va_Nw.use rfl hZ.2.2.2.2.1) (vx_c (va_Nw.use rfl hZ.2.2.2.2.2) vx_n))))) (by decide +kernel) hZ.1 hZ.2.1 hS (by rw [hml]; exact hl.1) dX5_rank_11 dX5_rank_14 dX5_rank_15 dX5_rank_18 (fun x h9 => (hexc x h9).elim) (Nat.le_of_ble_eq_true rfl) (Nat.le_of_ble_eq_true rfl) (Nat.le_of_ble_eq_true rfl) (Nat.le_of_ble_eq_true rfl) hlocks (thr_x hP hD hS (fun q9 => by omega)) hS.2.2 (Nat.le_of_ble_eq_true rfl) (Nat.le_of_ble_eq_true rfl)
set_option maxHeartbeats 4000000 in
set_option maxRecDepth 100000 in
theorem c_X5_octet (l : Launch) (hst : l.stackTraces = false) (D : va_G) (cI cJ cB cZ : ClassId) (h ta ou de ra od gr tb ob an ax o1 o2 b1 b2 b3 : Nat) (tF : Nat → Int) (tL : Int) (oF : Nat → Int) (oL : Int) (nx nd sz1 kd pl : Int) (fn fx : Nat → Int) (pp qq st ch er : Int) (q1 q2 : Nat → Int) (qs : Int) (f1 f2 f3 : Nat → Int) (n sz wh : Int) (N : Nat) (E : Ed) (w : Nat → Nat) (P Q : Nat) (x : Nat → Nat) (ks kc ke tl : Nat) (tf : Nat → Int) (ol : Nat) (of_ : Nat → Int) (fk : Int) (hH : HR N E w P Q x ks kc ke tl tf ol of_ fk ((tF, tL), (oF, oL), (nx, nd, sz1, kd, pl), ((an, ax), fn, fx, pp, qq, st, ch, er), (q1, q2, qs), f1, f2, f3, n, sz, wh)) (a : Int) (ha : -2147483648 ≤ a ∧ a < 2147483648)  (sz0 : Nat) : vx_Met l yX5_octet wsX5_octet ({ frames := 6, cells := 1, slots := 6, locals := 81 } : Room) (PreX "java/util/NoSuchElementException" D cI cJ cB cZ [.ref h, .int (iZ a)] (wHo h ta ou de ra od gr ++ wBR 2000 cI ta tb tF tL ++ wBR 3502 cI ou ob oF oL ++ wDe de nx nd sz1 kd pl ++ wRa cJ ra an ax fn fx pp qq st ch er ++ wOr cI cJ od o1 o2 q1 q2 qs ++ wGr cI gr b1 b2 b3 f1 f2 f3 n sz wh) sz0) (rwI (S := Unit) D (fun z U => (0 ≤ a ∧ a < (ol : Int)) ∧ z = of_ a.toNat) (fun u => wHo h ta ou de ra od gr ++ wBR 2000 cI ta tb tF tL ++ wBR 3502 cI ou ob oF oL ++ wDe de nx nd sz1 kd pl ++ wRa cJ ra an ax fn fx pp qq st ch er ++ wOr cI cJ od o1 o2 q1 q2 qs ++ wGr cI gr b1 b2 b3 f1 f2 f3 n sz wh) (va_A (wHo h ta ou de ra od gr ++ wBR 2000 cI ta tb tF tL ++ wBR 3502 cI ou ob oF oL ++ wDe de nx nd sz1 kd pl ++ wRa cJ ra an ax fn fx pp qq st ch er ++ wOr cI cJ od o1 o2 q1 q2 qs ++ wGr cI gr b1 b2 b3 f1 f2 f3 n sz wh) sz0)) (XB "java/util/NoSuchElementException" (¬ (0 ≤ a ∧ a < (ol : Int))) D (wHo h ta ou de ra od gr ++ wBR 2000 cI ta tb tF tL ++ wBR 3502 cI ou ob oF oL ++ wDe de nx nd sz1 kd pl ++ wRa cJ ra an ax fn fx pp qq st ch er ++ wOr cI cJ od o1 o2 q1 q2 qs ++ wGr cI gr b1 b2 b3 f1 f2 f3 n sz wh) (va_A (wHo h ta ou de ra od gr ++ wBR 2000 cI ta tb tF tL ++ wBR 3502 cI ou ob oF oL ++ wDe de nx nd sz1 kd pl ++ wRa cJ ra an ax fn fx pp qq st ch er ++ wOr cI cJ od o1 o2 q1 q2 qs ++ wGr cI gr b1 b2 b3 f1 f2 f3 n sz wh) sz0)) 1 6 (va_A (wHo h ta ou de ra od gr ++ wBR 2000 cI ta tb tF tL ++ wBR 3502 cI ou ob oF oL ++ wDe de nx nd sz1 kd pl ++ wRa cJ ra an ax fn fx pp qq st ch er ++ wOr cI cJ od o1 o2 q1 q2 qs ++ wGr cI gr b1 b2 b3 f1 f2 f3 n sz wh) sz0) := by
  refine vx_ofW (cc := cX5_octet) (maxL := 2) (ret := (some .int)) (by decide) rfl ?_
  intro p e s m args below meth c s₁ B hml hexc hv
  obtain ⟨rfl, hsz, hP, hE, hD0, hZ⟩ := hv
  have hx := B.exec
  have hb := B.bytes
  have hr := B.returns
  have hts := atoms_spec (ws := wsX5_octet) B.pre
  have hown : s.vm.findClass RX5 = some m.cls := findClass_of_methodNamed B.named
  have hlocks := B.notSynchronized
  have hK := hE.1
  subst hsz
  have hD := hD0.self (sz := s.heap.size)
  generalize hAe : va_A (wHo h ta ou de ra od gr ++ wBR 2000 cI ta tb tF tL ++ wBR 3502 cI ou ob oF oL ++ wDe de nx nd sz1 kd pl ++ wRa cJ ra an ax fn fx pp qq st ch er ++ wOr cI cJ od o1 o2 q1 q2 qs ++ wGr cI gr b1 b2 b3 f1 f2 f3 n sz wh) s.heap.size = A at hD hZ ⊢
  have hA : ∀ q : Nat, s.heap.size ≤ q → A q := fun q h => by rw [← hAe]; exact Or.inr h
  have hS : va_S A s.heap s.heap [] := va_S.rf
  have hP : va_P D vwCl (wHo h ta ou de ra od gr ++ wBR 2000 cI ta tb tF tL ++ wBR 3502 cI ou ob oF oL ++ wDe de nx nd sz1 kd pl ++ wRa cJ ra an ax fn fx pp qq st ch er ++ wOr cI cJ od o1 o2 q1 q2 qs ++ wGr cI gr b1 b2 b3 f1 f2 f3 n sz wh) s.heap := hP
  have hi_0 : ∀ w ∈ wsX00, w ∈ wsX5_octet := by decide +kernel
  have hi_5 : ∀ w ∈ wsX50, w ∈ wsX5_octet := by decide +kernel
  have hw_1 := hts (.classLink RX5 99 "java/util/NoSuchElementException") (by decide +kernel)
  have hw_2 := hts (.initialized "java/util/NoSuchElementException") (by decide +kernel)
  have hw_3 := hts (.fieldLink RX5 18 "RankHouse" "out" "LRankHouse$ByteRow;") (by decide +kernel)
  have hw_4 := hE.nl (w := .fieldLinkNest RX5 56 "RankHouse$ByteRow" "length" "I" "RankHouse") (by decide +kernel) ([.ref h, .int (iZ a)] : List Value).toArray
  have hw_5 := hE.nl (w := .fieldLinkNest RX5 173 "RankHouse$ByteRow" "bytes" "[I" "RankHouse") (by decide +kernel) ([.ref h, .int (iZ a)] : List Value).toArray
  have hl := lv_entry ([.ref h, .int (iZ a)]) (n := 2) (Nat.le_of_ble_eq_true rfl)
  rw [lg_entry_eq]
  generalize (lg_sl ([.ref h, .int (iZ a)]) ++ List.replicate (2 - (lg_sl ([.ref h, .int (iZ a)])).length) Slot.unset).toArray = ls at hl ⊢
  have hl : lv_has ls 2 [(0, .ref h), (1, .int (iZ a))] := hl
  obtain ⟨hG, hR, s1, s2, s3, s5, s6, t1, t1b, t2, t3, y1, y1b, y2, y3, d1⟩ := id hH
  dsimp only at hG hR s1 s2 s3 t1 t1b y1 y1b d1
  subst t1
  subst y1
  have hG : GR N E w f1 f2 f3 n sz wh := hG
  obtain ⟨g1, g2, g3, g4, g5, g6, g7, g8, g9, g10, g11⟩ := id hG
  obtain ⟨k1, k2, k3, k4, k5, k6⟩ := id hR
  refine lv_iload_n hx hb dX5_octet_0 rfl (lv_at hl 1 rfl) ?_
  refine z_if_lt (tgt := 15) hx hb dX5_octet_1 (by decide) (by omega) (fun c_1 => ?_) (fun c_1 => ?_)
  · exact vx_throw0 hx hb hst (own := RX5) (cls := "java/util/NoSuchElementException") (names := ["java/lang/RuntimeException", "java/lang/Exception"]) (ik := 99) (ic := 101) hown (by decide) (by decide) hw_1 hw_2 (vx_hat (B := [.castable "java/util/NoSuchElementException" "java/util/NoSuchElementException", .declares (Bundle.init0 "java/lang/RuntimeException"), .declares (Bundle.init0 "java/lang/Exception"), .declares (Bundle.init0 Bundle.tN)]) (fun w h9 => hts w (List.mem_cons_of_mem _ (List.mem_append_right _ h9))) (by decide +kernel) (vx_c (va_Nw.use rfl hZ.2.2.1) (vx_c (va_Nw.use rfl hZ.2.2.2.1) (vx_c (va_Nw.use rfl hZ.2.2.2.2.1) (vx_c (va_Nw.use rfl hZ.2.2.2.2.2) vx_n))))) (by decide +kernel) hZ.1 hZ.2.1 hS (by rw [hml]; exact hl.1) dX5_octet_15 dX5_octet_18 dX5_octet_19 dX5_octet_22 (fun x h9 => (hexc x h9).elim) (Nat.le_of_ble_eq_true rfl) (Nat.le_of_ble_eq_true rfl) (Nat.le_of_ble_eq_true rfl) (Nat.le_of_ble_eq_true rfl) hlocks (thr_x hP hD hS (fun q9 => by omega)) hS.2.2 (Nat.le_of_ble_eq_true rfl) (Nat.le_of_ble_eq_true rfl)
  · refine lv_iload_n hx hb dX5_octet_4 rfl (lv_at hl 1 rfl) ?_
    refine lv_aload_n hx hb dX5_octet_5 rfl (lv_at hl 0 rfl) ?_
    refine va_get (v := .ref ou) (C := RX5) (T := TX5) (N := 6) (ci := 5) hx hb hts hi_5 hown hK hP 0 rfl rfl 1 (by decide) hw_3 (fun _ h9 => h9) rfl dX5_octet_6 ?_
    refine va_getN (v := .int (iZ oL)) (C := RX0) (T := TX0) (N := 2) (ci := 0) hx hb hts hi_0 hown hK hP 3 rfl rfl 1 (by decide) hw_4 (fun _ h9 => h9) rfl dX5_octet_9 ?_
    refine z_icmp_lt (tgt := 23) hx hb dX5_octet_12 (by decide) (by omega) (by omega) (fun c_2 => ?_) (fun c_2 => ?_)
    · refine lv_aload_n hx hb dX5_octet_23 rfl (lv_at hl 0 rfl) ?_
      refine va_get (v := .ref ou) (C := RX5) (T := TX5) (N := 6) (ci := 5) hx hb hts hi_5 hown hK hP 0 rfl rfl 1 (by decide) hw_3 (fun _ h9 => h9) rfl dX5_octet_24 ?_
      refine va_getN (v := .ref ob) (C := RX0) (T := TX0) (N := 2) (ci := 0) hx hb hts hi_0 hown hK hP 3 rfl rfl 0 (by decide) hw_5 (fun _ h9 => h9) rfl dX5_octet_27 ?_
      refine lv_iload_n hx hb dX5_octet_30 rfl (lv_at hl 1 rfl) ?_
      refine z_iald hx hb hK hP 4 0 rfl rfl a.toNat (by omega) (by omega) (by omega) dX5_octet_31 ?_
      refine vx_ret (W.widen (k := 1) (n := 6) (Nat.le_of_ble_eq_true rfl) (Nat.le_of_ble_eq_true rfl) ?_)
      exact rw_iret (z := oF a.toNat) () hx hb hr hlocks hP hD hS ⟨by omega, rfl⟩ dX5_octet_32
    · exact vx_throw0 hx hb hst (own := RX5) (cls := "java/util/NoSuchElementException") (names := ["java/lang/RuntimeException", "java/lang/Exception"]) (ik := 99) (ic := 101) hown (by decide) (by decide) hw_1 hw_2 (vx_hat (B := [.castable "java/util/NoSuchElementException" "java/util/NoSuchElementException", .declares (Bundle.init0 "java/lang/RuntimeException"), .declares (Bundle.init0 "java/lang/Exception"), .declares (Bundle.init0 Bundle.tN)]) (fun w h9 => hts w (List.mem_cons_of_mem _ (List.mem_append_right _ h9))) (by decide +kernel) (vx_c (va_Nw.use rfl hZ.2.2.1) (vx_c (va_Nw.use rfl hZ.2.2.2.1) (vx_c (va_Nw.use rfl hZ.2.2.2.2.1) (vx_c (va_Nw.use rfl hZ.2.2.2.2.2) vx_n))))) (by decide +kernel) hZ.1 hZ.2.1 hS (by rw [hml]; exact hl.1) dX5_octet_15 dX5_octet_18 dX5_octet_19 dX5_octet_22 (fun x h9 => (hexc x h9).elim) (Nat.le_of_ble_eq_true rfl) (Nat.le_of_ble_eq_true rfl) (Nat.le_of_ble_eq_true rfl) (Nat.le_of_ble_eq_true rfl) hlocks (thr_x hP hD hS (fun q9 => by omega)) hS.2.2 (Nat.le_of_ble_eq_true rfl) (Nat.le_of_ble_eq_true rfl)
