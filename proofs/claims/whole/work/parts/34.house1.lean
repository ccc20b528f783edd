set_option maxHeartbeats 4000000 in
set_option maxRecDepth 100000 in
theorem c_X5_fault (l : Launch) (D : va_G) (cI cJ cB cZ : ClassId) (h ta ou de ra od gr tb ob an ax o1 o2 b1 b2 b3 : Nat) (tF : Nat → Int) (tL : Int) (oF : Nat → Int) (oL : Int) (nx nd sz1 kd pl : Int) (fn fx : Nat → Int) (pp qq st ch er : Int) (q1 q2 : Nat → Int) (qs : Int) (f1 f2 f3 : Nat → Int) (n sz wh : Int) (N : Nat) (E : Ed) (w : Nat → Nat) (P Q : Nat) (x : Nat → Nat) (ks kc ke tl : Nat) (tf : Nat → Int) (ol : Nat) (of_ : Nat → Int) (fk : Int) (hH : HR N E w P Q x ks kc ke tl tf ol of_ fk ((tF, tL), (oF, oL), (nx, nd, sz1, kd, pl), ((an, ax), fn, fx, pp, qq, st, ch, er), (q1, q2, qs), f1, f2, f3, n, sz, wh))  : Met l yX5_fault wsX5_fault ({ frames := 0, cells := 0, slots := 0, locals := 0 } : Room) (Pre0 D cI cJ cB cZ [.ref h] (wHo h ta ou de ra od gr ++ wBR 2000 cI ta tb tF tL ++ wBR 3502 cI ou ob oF oL ++ wDe de nx nd sz1 kd pl ++ wRa cJ ra an ax fn fx pp qq st ch er ++ wOr cI cJ od o1 o2 q1 q2 qs ++ wGr cI gr b1 b2 b3 f1 f2 f3 n sz wh)) (roI (fun z => z = fk)) 0 0 (fun _ => False) := by
  refine Met.ofW (cc := cX5_fault) (maxL := 1) (ret := (some .int)) (by decide) rfl ?_
  intro p e s m args below meth c s₁ B hml hv
  obtain ⟨rfl, hP, hE⟩ := hv
  have hx := B.exec
  have hb := B.bytes
  have hr := B.returns
  have hts := atoms_spec (ws := wsX5_fault) B.pre
  have hown : s.vm.findClass RX5 = some m.cls := findClass_of_methodNamed B.named
  have hlocks := B.notSynchronized
  have hK := hE.1
  have hi_1 : ∀ w ∈ wsX10, w ∈ wsX5_fault := by decide +kernel
  have hi_5 : ∀ w ∈ wsX50, w ∈ wsX5_fault := by decide +kernel
  have hw_1 := hts (.fieldLink RX5 24 "RankHouse" "decoder" "LRankHouse$Decoder;") (by decide +kernel)
  have hw_2 := hE.nl (w := .fieldLinkNest RX5 76 "RankHouse$Decoder" "kind" "I" "RankHouse") (by decide +kernel) ([.ref h] : List Value).toArray
  have hl := lv_entry ([.ref h]) (n := 1) (Nat.le_of_ble_eq_true rfl)
  rw [lg_entry_eq]
  generalize (lg_sl ([.ref h]) ++ List.replicate (1 - (lg_sl ([.ref h])).length) Slot.unset).toArray = ls at hl ⊢
  have hl : lv_has ls 1 [(0, .ref h)] := hl
  obtain ⟨hG, hR, s1, s2, s3, s5, s6, t1, t1b, t2, t3, y1, y1b, y2, y3, d1⟩ := id hH
  dsimp only at hG hR s1 s2 s3 t1 t1b y1 y1b d1
  subst t1
  subst y1
  have hG : GR N E w f1 f2 f3 n sz wh := hG
  obtain ⟨g1, g2, g3, g4, g5, g6, g7, g8, g9, g10, g11⟩ := id hG
  obtain ⟨k1, k2, k3, k4, k5, k6⟩ := id hR
  refine lv_aload_n hx hb dX5_fault_0 rfl (lv_at hl 0 rfl) ?_
  refine va_get (v := .ref de) (C := RX5) (T := TX5) (N := 6) (ci := 5) hx hb hts hi_5 hown hK hP 0 rfl rfl 2 (by decide) hw_1 (fun _ h9 => h9) rfl dX5_fault_1 ?_
  refine va_getN (v := .int (iZ kd)) (C := RX1) (T := TX1) (N := 5) (ci := 1) hx hb hts hi_1 hown hK hP 5 rfl rfl 3 (by decide) hw_2 (fun _ h9 => h9) rfl dX5_fault_4 ?_
  exact ro_iret (z := kd) hx hb hr hlocks d1 dX5_fault_7
set_option maxHeartbeats 4000000 in
set_option maxRecDepth 100000 in
theorem c_X5_has (l : Launch) (D : va_G) (cI cJ cB cZ : ClassId) (h ta ou de ra od gr tb ob an ax o1 o2 b1 b2 b3 : Nat) (tF : Nat → Int) (tL : Int) (oF : Nat → Int) (oL : Int) (nx nd sz1 kd pl : Int) (fn fx : Nat → Int) (pp qq st ch er : Int) (q1 q2 : Nat → Int) (qs : Int) (f1 f2 f3 : Nat → Int) (n sz wh : Int) (N : Nat) (E : Ed) (w : Nat → Nat) (P Q : Nat) (x : Nat → Nat) (ks kc ke tl : Nat) (tf : Nat → Int) (ol : Nat) (of_ : Nat → Int) (fk : Int) (hH : HR N E w P Q x ks kc ke tl tf ol of_ fk ((tF, tL), (oF, oL), (nx, nd, sz1, kd, pl), ((an, ax), fn, fx, pp, qq, st, ch, er), (q1, q2, qs), f1, f2, f3, n, sz, wh)) (a : Int) (ha : -2147483648 ≤ a ∧ a < 2147483648) (b : Int) (hb0 : -2147483648 ≤ b ∧ b < 2147483648)  : Met l yX5_has wsX5_has ({ frames := 2, cells := 0, slots := 0, locals := 46 } : Room) (Pre0 D cI cJ cB cZ [.ref h, .int (iZ a), .int (iZ b)] (wHo h ta ou de ra od gr ++ wBR 2000 cI ta tb tF tL ++ wBR 3502 cI ou ob oF oL ++ wDe de nx nd sz1 kd pl ++ wRa cJ ra an ax fn fx pp qq st ch er ++ wOr cI cJ od o1 o2 q1 q2 qs ++ wGr cI gr b1 b2 b3 f1 f2 f3 n sz wh)) (roI (fun z => (z = 1 ∧ (0 ≤ a ∧ a < (N : Int) ∧ 0 ≤ b ∧ b < (N : Int) ∧ E a.toNat b.toNat = true)) ∨ (z = 0 ∧ ¬ (0 ≤ a ∧ a < (N : Int) ∧ 0 ≤ b ∧ b < (N : Int) ∧ E a.toNat b.toNat = true)))) 0 0 (fun _ => False) := by
  refine Met.ofW (cc := cX5_has) (maxL := 3) (ret := (some .boolean)) (by decide) rfl ?_
  intro p e s m args below meth c s₁ B hml hv
  obtain ⟨rfl, hP, hE⟩ := hv
  have hx := B.exec
  have hb := B.bytes
  have hr := B.returns
  have hts := atoms_spec (ws := wsX5_has) B.pre
  have hown : s.vm.findClass RX5 = some m.cls := findClass_of_methodNamed B.named
  have hlocks := B.notSynchronized
  have hK := hE.1
  have hi_5 : ∀ w ∈ wsX50, w ∈ wsX5_has := by decide +kernel
  have hw_1 := hts (.fieldLink RX5 45 "RankHouse" "graph" "LRankHouse$Graph;") (by decide +kernel)
  have hl := lv_entry ([.ref h, .int (iZ a), .int (iZ b)]) (n := 3) (Nat.le_of_ble_eq_true rfl)
  rw [lg_entry_eq]
  generalize (lg_sl ([.ref h, .int (iZ a), .int (iZ b)]) ++ List.replicate (3 - (lg_sl ([.ref h, .int (iZ a), .int (iZ b)])).length) Slot.unset).toArray = ls at hl ⊢
  have hl : lv_has ls 3 [(0, .ref h), (1, .int (iZ a)), (2, .int (iZ b))] := hl
  obtain ⟨hG, hR, s1, s2, s3, s5, s6, t1, t1b, t2, t3, y1, y1b, y2, y3, d1⟩ := id hH
  dsimp only at hG hR s1 s2 s3 t1 t1b y1 y1b d1
  subst t1
  subst y1
  have hG : GR N E w f1 f2 f3 n sz wh := hG
  obtain ⟨g1, g2, g3, g4, g5, g6, g7, g8, g9, g10, g11⟩ := id hG
  obtain ⟨k1, k2, k3, k4, k5, k6⟩ := id hR
  refine lv_aload_n hx hb dX5_has_0 rfl (lv_at hl 0 rfl) ?_
  refine va_get (v := .ref gr) (C := RX5) (T := TX5) (N := 6) (ci := 5) hx hb hts hi_5 hown hK hP 0 rfl rfl 5 (by decide) hw_1 (fun _ h9 => h9) rfl dX5_has_1 ?_
  refine lv_iload_n hx hb dX5_has_4 rfl (lv_at hl 1 rfl) ?_
  refine lv_iload_n hx hb dX5_has_5 rfl (lv_at hl 2 rfl) ?_
  refine ro_i (va_runV (As := [.int (iZ a), .int (iZ b)]) (rest := []) ⟨hx, hb, hml, hown, hts⟩ (c_X2_joins l D cI cJ cB cZ gr b1 b2 b3 f1 f2 f3 n sz wh N E w hG a b ha hb0) (cwV 2 hts gX5_has_X2_joins rfl rfl rfl (by decide +kernel) ⟨Nat.le_of_ble_eq_true rfl, Nat.le_of_ble_eq_true rfl⟩) (pre0V hE (hP.sub (ws' := (wGr cI gr b1 b2 b3 f1 f2 f3 n sz wh)) [12, 13, 14, 15] rfl) 0 rfl rfl) rfl rfl hl.1 rfl (lv_room (Nat.le_of_ble_eq_true rfl)) dX5_has_6 ⟨Nat.le_of_ble_eq_true rfl, Nat.le_of_ble_eq_true rfl⟩) (fun r_1 hr_2 => ?_)
  rw [g3] at hr_2
  rcases hr_2 with ⟨rfl, hq_3⟩ | ⟨rfl, hq_3⟩
  · have hq9 := hq_3
    exact ro_zret (z := 1) hx hb hr hlocks (Or.inr rfl) (Or.inl ⟨rfl, hq9⟩) dX5_has_9
  · have hq9 := hq_3
    exact ro_zret (z := 0) hx hb hr hlocks (Or.inl rfl) (Or.inr ⟨rfl, hq9⟩) dX5_has_9
set_option maxHeartbeats 4000000 in
set_option maxRecDepth 100000 in
theorem c_X5_other (l : Launch) (D : va_G) (cI cJ cB cZ : ClassId) (h ta ou de ra od gr tb ob an ax o1 o2 b1 b2 b3 : Nat) (tF : Nat → Int) (tL : Int) (oF : Nat → Int) (oL : Int) (nx nd sz1 kd pl : Int) (fn fx : Nat → Int) (pp qq st ch er : Int) (q1 q2 : Nat → Int) (qs : Int) (f1 f2 f3 : Nat → Int) (n sz wh : Int) (N : Nat) (E : Ed) (w : Nat → Nat) (P Q : Nat) (x : Nat → Nat) (ks kc ke tl : Nat) (tf : Nat → Int) (ol : Nat) (of_ : Nat → Int) (fk : Int) (hH : HR N E w P Q x ks kc ke tl tf ol of_ fk ((tF, tL), (oF, oL), (nx, nd, sz1, kd, pl), ((an, ax), fn, fx, pp, qq, st, ch, er), (q1, q2, qs), f1, f2, f3, n, sz, wh)) (a : Int) (ha : -2147483648 ≤ a ∧ a < 2147483648) (b : Int) (hb0 : -2147483648 ≤ b ∧ b < 2147483648) (k0 : Int) (hk0 : -2147483648 ≤ k0 ∧ k0 < 2147483648)  : Met l yX5_other wsX5_other ({ frames := 3, cells := 0, slots := 0, locals := 70 } : Room) (Pre0 D cI cJ cB cZ [.ref h, .int (iZ a), .int (iZ b), .int (iZ k0)] (wHo h ta ou de ra od gr ++ wBR 2000 cI ta tb tF tL ++ wBR 3502 cI ou ob oF oL ++ wDe de nx nd sz1 kd pl ++ wRa cJ ra an ax fn fx pp qq st ch er ++ wOr cI cJ od o1 o2 q1 q2 qs ++ wGr cI gr b1 b2 b3 f1 f2 f3 n sz wh)) (roI (fun z => (b = 0 → TG (pout E N a) N k0 z) ∧ (b = 1 → TG (pin E N a) N k0 z) ∧ (¬ b = 0 → ¬ b = 1 → z = -1))) 0 0 (fun _ => False) := by
  refine Met.ofW (cc := cX5_other) (maxL := 4) (ret := (some .int)) (by decide) rfl ?_
  intro p e s m args below meth c s₁ B hml hv
  obtain ⟨rfl, hP, hE⟩ := hv
  have hx := B.exec
  have hb := B.bytes
  have hr := B.returns
  have hts := atoms_spec (ws := wsX5_other) B.pre
  have hown : s.vm.findClass RX5 = some m.cls := findClass_of_methodNamed B.named
  have hlocks := B.notSynchronized
  have hK := hE.1
  have hi_5 : ∀ w ∈ wsX50, w ∈ wsX5_other := by decide +kernel
  have hw_1 := hts (.fieldLink RX5 45 "RankHouse" "graph" "LRankHouse$Graph;") (by decide +kernel)
  have hl := lv_entry ([.ref h, .int (iZ a), .int (iZ b), .int (iZ k0)]) (n := 4) (Nat.le_of_ble_eq_true rfl)
  rw [lg_entry_eq]
  generalize (lg_sl ([.ref h, .int (iZ a), .int (iZ b), .int (iZ k0)]) ++ List.replicate (4 - (lg_sl ([.ref h, .int (iZ a), .int (iZ b), .int (iZ k0)])).length) Slot.unset).toArray = ls at hl ⊢
  have hl : lv_has ls 4 [(0, .ref h), (1, .int (iZ a)), (2, .int (iZ b)), (3, .int (iZ k0))] := hl
  obtain ⟨hG, hR, s1, s2, s3, s5, s6, t1, t1b, t2, t3, y1, y1b, y2, y3, d1⟩ := id hH
  dsimp only at hG hR s1 s2 s3 t1 t1b y1 y1b d1
  subst t1
  subst y1
  have hG : GR N E w f1 f2 f3 n sz wh := hG
  obtain ⟨g1, g2, g3, g4, g5, g6, g7, g8, g9, g10, g11⟩ := id hG
  obtain ⟨k1, k2, k3, k4, k5, k6⟩ := id hR
  refine lv_iload_n hx hb dX5_other_0 rfl (lv_at hl 2 rfl) ?_
  refine z_if_ne (tgt := 14) hx hb dX5_other_1 (by decide) (by omega) (fun c_1 => ?_) (fun c_1 => ?_)
  · refine lv_iload_n hx hb dX5_other_14 rfl (lv_at hl 2 rfl) ?_
    refine z_iconst hx hb dX5_other_15 ?_
    refine z_icmp_ne (tgt := 31) hx hb dX5_other_16 (by decide) (by omega) (by omega) (fun c_2 => ?_) (fun c_2 => ?_)
    · refine z_iconst hx hb dX5_other_31 ?_
      exact ro_iret (z := (-1)) hx hb hr hlocks ⟨fun q => by omega, fun q => by omega, fun _ _ => rfl⟩ dX5_other_32
    · refine lv_aload_n hx hb dX5_other_19 rfl (lv_at hl 0 rfl) ?_
      refine va_get (v := .ref gr) (C := RX5) (T := TX5) (N := 6) (ci := 5) hx hb hts hi_5 hown hK hP 0 rfl rfl 5 (by decide) hw_1 (fun _ h9 => h9) rfl dX5_other_20 ?_
      refine lv_iload_n hx hb dX5_other_23 rfl (lv_at hl 1 rfl) ?_
      refine lv_iload_n hx hb dX5_other_24 rfl (lv_at hl 3 rfl) ?_
      refine ro_i (va_runV (As := [.int (iZ a), .int (iZ k0)]) (rest := []) ⟨hx, hb, hml, hown, hts⟩ (c_X2_source l D cI cJ cB cZ gr b1 b2 b3 f1 f2 f3 n sz wh N E w hG a k0 ha hk0) (cwV 2 hts gX5_other_X2_source rfl rfl rfl (by decide +kernel) ⟨Nat.le_of_ble_eq_true rfl, Nat.le_of_ble_eq_true rfl⟩) (pre0V hE (hP.sub (ws' := (wGr cI gr b1 b2 b3 f1 f2 f3 n sz wh)) [12, 13, 14, 15] rfl) 0 rfl rfl) rfl rfl hl.1 rfl (lv_room (Nat.le_of_ble_eq_true rfl)) dX5_other_25 ⟨Nat.le_of_ble_eq_true rfl, Nat.le_of_ble_eq_true rfl⟩) (fun r_3 hr_4 => ?_)
      have hq9 := hr_4
      refine lv_goto (tgt := 32) hx hb dX5_other_28 (by decide) ?_
      exact ro_iret (z := r_3) hx hb hr hlocks ⟨fun q => by omega, fun _ => hq9, fun _ q => by omega⟩ dX5_other_32
  · refine lv_aload_n hx hb dX5_other_4 rfl (lv_at hl 0 rfl) ?_
    refine va_get (v := .ref gr) (C := RX5) (T := TX5) (N := 6) (ci := 5) hx hb hts hi_5 hown hK hP 0 rfl rfl 5 (by decide) hw_1 (fun _ h9 => h9) rfl dX5_other_5 ?_
    refine lv_iload_n hx hb dX5_other_8 rfl (lv_at hl 1 rfl) ?_
    refine lv_iload_n hx hb dX5_other_9 rfl (lv_at hl 3 rfl) ?_
    refine ro_i (va_runV (As := [.int (iZ a), .int (iZ k0)]) (rest := []) ⟨hx, hb, hml, hown, hts⟩ (c_X2_target l D cI cJ cB cZ gr b1 b2 b3 f1 f2 f3 n sz wh N E w hG a k0 ha hk0) (cwV 2 hts gX5_other_X2_target rfl rfl rfl (by decide +kernel) ⟨Nat.le_of_ble_eq_true rfl, Nat.le_of_ble_eq_true rfl⟩) (pre0V hE (hP.sub (ws' := (wGr cI gr b1 b2 b3 f1 f2 f3 n sz wh)) [12, 13, 14, 15] rfl) 0 rfl rfl) rfl rfl hl.1 rfl (lv_room (Nat.le_of_ble_eq_true rfl)) dX5_other_10 ⟨Nat.le_of_ble_eq_true rfl, Nat.le_of_ble_eq_true rfl⟩) (fun r_5 hr_6 => ?_)
    have hq9 := hr_6
    exact ro_iret (z := r_5) hx hb hr hlocks ⟨fun _ => hq9, fun q => by omega, fun q => by omega⟩ dX5_other_13
set_option maxHeartbeats 4000000 in
set_option maxRecDepth 100000 in
theorem c_X5_gives (l : Launch) (D : va_G) (cI cJ cB cZ : ClassId) (h ta ou de ra od gr tb ob an ax o1 o2 b1 b2 b3 : Nat) (tF : Nat → Int) (tL : Int) (oF : Nat → Int) (oL : Int) (nx nd sz1 kd pl : Int) (fn fx : Nat → Int) (pp qq st ch er : Int) (q1 q2 : Nat → Int) (qs : Int) (f1 f2 f3 : Nat → Int) (n sz wh : Int) (N : Nat) (E : Ed) (w : Nat → Nat) (P Q : Nat) (x : Nat → Nat) (ks kc ke tl : Nat) (tf : Nat → Int) (ol : Nat) (of_ : Nat → Int) (fk : Int) (hH : HR N E w P Q x ks kc ke tl tf ol of_ fk ((tF, tL), (oF, oL), (nx, nd, sz1, kd, pl), ((an, ax), fn, fx, pp, qq, st, ch, er), (q1, q2, qs), f1, f2, f3, n, sz, wh)) (a : Int) (ha : -2147483648 ≤ a ∧ a < 2147483648) (b : Int) (hb0 : -2147483648 ≤ b ∧ b < 2147483648)  : Met l yX5_gives wsX5_gives ({ frames := 3, cells := 0, slots := 0, locals := 64 } : Room) (Pre0 D cI cJ cB cZ [.ref h, .int (iZ a), .int (iZ b)] (wHo h ta ou de ra od gr ++ wBR 2000 cI ta tb tF tL ++ wBR 3502 cI ou ob oF oL ++ wDe de nx nd sz1 kd pl ++ wRa cJ ra an ax fn fx pp qq st ch er ++ wOr cI cJ od o1 o2 q1 q2 qs ++ wGr cI gr b1 b2 b3 f1 f2 f3 n sz wh)) (roL (fun z => ((0 ≤ a ∧ a < (N : Int) ∧ 0 ≤ b ∧ b < (N : Int) ∧ E a.toNat b.toNat = true) → z = ((shr E N P Q x a.toNat : Nat) : Int)) ∧ (¬ (0 ≤ a ∧ a < (N : Int) ∧ 0 ≤ b ∧ b < (N : Int) ∧ E a.toNat b.toNat = true) → z = -1))) 0 0 (fun _ => False) := by
  refine Met.ofW (cc := cX5_gives) (maxL := 3) (ret := (some .long)) (by decide) rfl ?_
  intro p e s m args below meth c s₁ B hml hv
  obtain ⟨rfl, hP, hE⟩ := hv
  have hx := B.exec
  have hb := B.bytes
  have hr := B.returns
  have hts := atoms_spec (ws := wsX5_gives) B.pre
  have hown : s.vm.findClass RX5 = some m.cls := findClass_of_methodNamed B.named
  have hlocks := B.notSynchronized
  have hK := hE.1
  have hi_5 : ∀ w ∈ wsX50, w ∈ wsX5_gives := by decide +kernel
  have hw_1 := hts (.fieldLink RX5 45 "RankHouse" "graph" "LRankHouse$Graph;") (by decide +kernel)
  have hw_2 := hts (.fieldLink RX5 31 "RankHouse" "ranks" "LRankHouse$Ranks;") (by decide +kernel)
  have hw_3 := hts (.constantLong RX5 154 (-1)) (by decide +kernel)
  have hl := lv_entry ([.ref h, .int (iZ a), .int (iZ b)]) (n := 3) (Nat.le_of_ble_eq_true rfl)
  rw [lg_entry_eq]
  generalize (lg_sl ([.ref h, .int (iZ a), .int (iZ b)]) ++ List.replicate (3 - (lg_sl ([.ref h, .int (iZ a), .int (iZ b)])).length) Slot.unset).toArray = ls at hl ⊢
  have hl : lv_has ls 3 [(0, .ref h), (1, .int (iZ a)), (2, .int (iZ b))] := hl
  obtain ⟨hG, hR, s1, s2, s3, s5, s6, t1, t1b, t2, t3, y1, y1b, y2, y3, d1⟩ := id hH
  dsimp only at hG hR s1 s2 s3 t1 t1b y1 y1b d1
  subst t1
  subst y1
  have hG : GR N E w f1 f2 f3 n sz wh := hG
  obtain ⟨g1, g2, g3, g4, g5, g6, g7, g8, g9, g10, g11⟩ := id hG
  obtain ⟨k1, k2, k3, k4, k5, k6⟩ := id hR
  refine lv_aload_n hx hb dX5_gives_0 rfl (lv_at hl 0 rfl) ?_
  refine va_get (v := .ref gr) (C := RX5) (T := TX5) (N := 6) (ci := 5) hx hb hts hi_5 hown hK hP 0 rfl rfl 5 (by decide) hw_1 (fun _ h9 => h9) rfl dX5_gives_1 ?_
  refine lv_iload_n hx hb dX5_gives_4 rfl (lv_at hl 1 rfl) ?_
  refine lv_iload_n hx hb dX5_gives_5 rfl (lv_at hl 2 rfl) ?_
  refine ro_i (va_runV (As := [.int (iZ a), .int (iZ b)]) (rest := []) ⟨hx, hb, hml, hown, hts⟩ (c_X2_joins l D cI cJ cB cZ gr b1 b2 b3 f1 f2 f3 n sz wh N E w hG a b ha hb0) (cwV 2 hts gX5_gives_X2_joins rfl rfl rfl (by decide +kernel) ⟨Nat.le_of_ble_eq_true rfl, Nat.le_of_ble_eq_true rfl⟩) (pre0V hE (hP.sub (ws' := (wGr cI gr b1 b2 b3 f1 f2 f3 n sz wh)) [12, 13, 14, 15] rfl) 0 rfl rfl) rfl rfl hl.1 rfl (lv_room (Nat.le_of_ble_eq_true rfl)) dX5_gives_6 ⟨Nat.le_of_ble_eq_true rfl, Nat.le_of_ble_eq_true rfl⟩) (fun r_1 hr_2 => ?_)
  rw [g3] at hr_2
  rcases hr_2 with ⟨rfl, hq_3⟩ | ⟨rfl, hq_3⟩
  · have hq9 := hq_3
    refine z_if_eq (tgt := 27) hx hb dX5_gives_9 (by decide) (by omega) (fun c9 => absurd c9 (by decide)) (fun _ => ?_)
    refine lv_aload_n hx hb dX5_gives_12 rfl (lv_at hl 0 rfl) ?_
    refine va_get (v := .ref ra) (C := RX5) (T := TX5) (N := 6) (ci := 5) hx hb hts hi_5 hown hK hP 0 rfl rfl 3 (by decide) hw_2 (fun _ h9 => h9) rfl dX5_gives_13 ?_
    refine lv_aload_n hx hb dX5_gives_16 rfl (lv_at hl 0 rfl) ?_
    refine va_get (v := .ref gr) (C := RX5) (T := TX5) (N := 6) (ci := 5) hx hb hts hi_5 hown hK hP 0 rfl rfl 5 (by decide) hw_1 (fun _ h9 => h9) rfl dX5_gives_17 ?_
    refine lv_iload_n hx hb dX5_gives_20 rfl (lv_at hl 1 rfl) ?_
    refine ro_l (va_runV (As := [.ref gr, .int (iZ a)]) (rest := []) ⟨hx, hb, hml, hown, hts⟩ (c_X4_share l D cI cJ cB cZ ra an ax gr b1 b2 b3 fn fx pp qq st ch er f1 f2 f3 n sz wh N E w hG P Q x hR a (by omega)) (cwV 2 hts gX5_gives_X4_share rfl rfl rfl (by decide +kernel) ⟨Nat.le_of_ble_eq_true rfl, Nat.le_of_ble_eq_true rfl⟩) (pre0V hE (hP.sub (ws' := (wRa cJ ra an ax fn fx pp qq st ch er ++ wGr cI gr b1 b2 b3 f1 f2 f3 n sz wh)) [6, 7, 8, 12, 13, 14, 15] rfl) 0 rfl rfl) rfl rfl hl.1 rfl (lv_room (Nat.le_of_ble_eq_true rfl)) dX5_gives_21 ⟨Nat.le_of_ble_eq_true rfl, Nat.le_of_ble_eq_true rfl⟩) (fun r_4 hr_5 => ?_)
    subst hr_5
    refine lv_goto (tgt := 30) hx hb dX5_gives_24 (by decide) ?_
    exact ro_lret (z := ((shr E N P Q x a.toNat : Nat) : Int)) hx hb hr hlocks ⟨fun _ => rfl, fun q => absurd hq9 q⟩ dX5_gives_30
  · have hq9 := hq_3
    refine z_if_eq (tgt := 27) hx hb dX5_gives_9 (by decide) (by omega) (fun _ => ?_) (fun c9 => absurd c9 (by decide))
    refine z_ldc2 hx hb (-1) hown hw_3 (by decide) dX5_gives_27 ?_
    exact ro_lret (z := (-1)) hx hb hr hlocks ⟨fun q => absurd q hq9, fun _ => rfl⟩ dX5_gives_30
set_option maxHeartbeats 4000000 in
set_option maxRecDepth 100000 in
theorem c_X5_look (l : Launch) (D : va_G) (cI cJ cB cZ : ClassId) (h ta ou de ra od gr tb ob an ax o1 o2 b1 b2 b3 : Nat) (tF : Nat → Int) (tL : Int) (oF : Nat → Int) (oL : Int) (nx nd sz1 kd pl : Int) (fn fx : Nat → Int) (pp qq st ch er : Int) (q1 q2 : Nat → Int) (qs : Int) (f1 f2 f3 : Nat → Int) (n sz wh : Int) (N : Nat) (E : Ed) (w : Nat → Nat) (P Q : Nat) (x : Nat → Nat) (ks kc ke tl : Nat) (tf : Nat → Int) (ol : Nat) (of_ : Nat → Int) (fk : Int) (hH : HR N E w P Q x ks kc ke tl tf ol of_ fk ((tF, tL), (oF, oL), (nx, nd, sz1, kd, pl), ((an, ax), fn, fx, pp, qq, st, ch, er), (q1, q2, qs), f1, f2, f3, n, sz, wh)) (a : Int) (ha : -2147483648 ≤ a ∧ a < 2147483648) (hks : ks ≤ 60000)  : Met l yX5_look wsX5_look ({ frames := 3, cells := 0, slots := 0, locals := 66 } : Room) (Pre0 D cI cJ cB cZ [.ref h, .int (iZ a)] (wHo h ta ou de ra od gr ++ wBR 2000 cI ta tb tF tL ++ wBR 3502 cI ou ob oF oL ++ wDe de nx nd sz1 kd pl ++ wRa cJ ra an ax fn fx pp qq st ch er ++ wOr cI cJ od o1 o2 q1 q2 qs ++ wGr cI gr b1 b2 b3 f1 f2 f3 n sz wh)) (roL (fun z => (a = 0 → z = ((fb_sm x N : Nat) : Int)) ∧ (a = 1 → z = (kc : Int)) ∧ (a = 2 → z = (ke : Int) + (((fst E N N + 2 * N) * Q / (Q - P) : Nat) : Int) + 1) ∧ (a = 3 → z = (ks : Int)) ∧ (a = 4 → z = ((bar E N x : Nat) : Int)) ∧ (¬ (0 ≤ a ∧ a ≤ 4) → z = -1))) 0 0 (fun _ => False) := by
  refine Met.ofW (cc := cX5_look) (maxL := 2) (ret := (some .long)) (by decide) rfl ?_
  intro p e s m args below meth c s₁ B hml hv
  obtain ⟨rfl, hP, hE⟩ := hv
  have hx := B.exec
  have hb := B.bytes
  have hr := B.returns
  have hts := atoms_spec (ws := wsX5_look) B.pre
  have hown : s.vm.findClass RX5 = some m.cls := findClass_of_methodNamed B.named
  have hlocks := B.notSynchronized
  have hK := hE.1
  have hi_4 : ∀ w ∈ wsX40, w ∈ wsX5_look := by decide +kernel
  have hi_5 : ∀ w ∈ wsX50, w ∈ wsX5_look := by decide +kernel
  have hw_1 := hts (.fieldLink RX5 31 "RankHouse" "ranks" "LRankHouse$Ranks;") (by decide +kernel)
  have hw_2 := hts (.fieldLink RX5 45 "RankHouse" "graph" "LRankHouse$Graph;") (by decide +kernel)
  have hw_3 := hE.nl (w := .fieldLinkNest RX5 141 "RankHouse$Ranks" "change" "J" "RankHouse") (by decide +kernel) ([.ref h, .int (iZ a)] : List Value).toArray
  have hw_4 := hE.nl (w := .fieldLinkNest RX5 148 "RankHouse$Ranks" "steps" "I" "RankHouse") (by decide +kernel) ([.ref h, .int (iZ a)] : List Value).toArray
  have hw_5 := hts (.constantLong RX5 154 (-1)) (by decide +kernel)
  have hl := lv_entry ([.ref h, .int (iZ a)]) (n := 2) (Nat.le_of_ble_eq_true rfl)
  rw [lg_entry_eq]
  generalize (lg_sl ([.ref h, .int (iZ a)]) ++ List.replicate (2 - (lg_sl ([.ref h, .int (iZ a)])).length) Slot.unset).toArray = ls at hl ⊢
  have hl : lv_has ls 2 [(0, .ref h), (1, .int (iZ a))] := hl
  obtain ⟨hG, hR, s1, s2, s3, s5, s6, t1, t1b, t2, t3, y1, y1b, y2, y3, d1⟩ := id hH
  dsimp only at hG hR s1 s2 s3 t1 t1b y1 y1b d1
  subst t1
  subst y1
  have hG : GR N E w f1 f2 f3 n sz wh := hG
  obtain ⟨g1, g2, g3, g4, g5, g6, g7, g8, g9, g10, g11⟩ := id hG
  obtain ⟨k1, k2, k3, k4, k5, k6⟩ := id hR
  refine lv_iload_n hx hb dX5_look_0 rfl (lv_at hl 1 rfl) ?_
  have ht_1 := iZ_t (z := a) (by omega)
  by_cases c_2 : a = 0
  · refine lv_tableIn (off := 35) (tgt := 36) hx hb dX5_look_1 (by rw [ht_1]; omega) (by rw [ht_1]; omega) (by rw [ht_1, c_2]; rfl) (by decide) ?_
    refine lv_aload_n hx hb dX5_look_36 rfl (lv_at hl 0 rfl) ?_
    refine va_get (v := .ref ra) (C := RX5) (T := TX5) (N := 6) (ci := 5) hx hb hts hi_5 hown hK hP 0 rfl rfl 3 (by decide) hw_1 (fun _ h9 => h9) rfl dX5_look_37 ?_
    refine lv_aload_n hx hb dX5_look_40 rfl (lv_at hl 0 rfl) ?_
    refine va_get (v := .ref gr) (C := RX5) (T := TX5) (N := 6) (ci := 5) hx hb hts hi_5 hown hK hP 0 rfl rfl 5 (by decide) hw_2 (fun _ h9 => h9) rfl dX5_look_41 ?_
    refine ro_l (va_runV (As := [.ref gr]) (rest := []) ⟨hx, hb, hml, hown, hts⟩ (c_X4_sum l D cI cJ cB cZ ra an ax gr b1 b2 b3 fn fx pp qq st ch er f1 f2 f3 n sz wh N E w hG P Q x hR) (cwV 1 hts gX5_look_X4_sum rfl rfl rfl (by decide +kernel) ⟨Nat.le_of_ble_eq_true rfl, Nat.le_of_ble_eq_true rfl⟩) (pre0V hE (hP.sub (ws' := (wRa cJ ra an ax fn fx pp qq st ch er ++ wGr cI gr b1 b2 b3 f1 f2 f3 n sz wh)) [6, 7, 8, 12, 13, 14, 15] rfl) 0 rfl rfl) rfl rfl hl.1 rfl (lv_room (Nat.le_of_ble_eq_true rfl)) dX5_look_44 ⟨Nat.le_of_ble_eq_true rfl, Nat.le_of_ble_eq_true rfl⟩) (fun r_3 hr_4 => ?_)
    subst hr_4
    exact ro_lret (z := ((fb_sm x N : Nat) : Int)) hx hb hr hlocks (by refine ⟨fun q => ?_, fun q => ?_, fun q => ?_, fun q => ?_, fun q => ?_, fun q => ?_⟩ <;> omega) dX5_look_47
  by_cases c_5 : a = 1
  · refine lv_tableIn (off := 47) (tgt := 48) hx hb dX5_look_1 (by rw [ht_1]; omega) (by rw [ht_1]; omega) (by rw [ht_1, c_5]; rfl) (by decide) ?_
    refine lv_aload_n hx hb dX5_look_48 rfl (lv_at hl 0 rfl) ?_
    refine va_get (v := .ref ra) (C := RX5) (T := TX5) (N := 6) (ci := 5) hx hb hts hi_5 hown hK hP 0 rfl rfl 3 (by decide) hw_1 (fun _ h9 => h9) rfl dX5_look_49 ?_
    refine va_getN (v := .long (lZ ch)) (C := RX4) (T := TX4) (N := 7) (ci := 4) hx hb hts hi_4 hown hK hP 6 rfl rfl 5 (by decide) hw_3 (fun _ h9 => h9) rfl dX5_look_52 ?_
    exact ro_lret (z := ch) hx hb hr hlocks (by refine ⟨fun q => ?_, fun q => ?_, fun q => ?_, fun q => ?_, fun q => ?_, fun q => ?_⟩ <;> omega) dX5_look_55
  by_cases c_6 : a = 2
  · refine lv_tableIn (off := 55) (tgt := 56) hx hb dX5_look_1 (by rw [ht_1]; omega) (by rw [ht_1]; omega) (by rw [ht_1, c_6]; rfl) (by decide) ?_
    refine lv_aload_n hx hb dX5_look_56 rfl (lv_at hl 0 rfl) ?_
    refine va_get (v := .ref ra) (C := RX5) (T := TX5) (N := 6) (ci := 5) hx hb hts hi_5 hown hK hP 0 rfl rfl 3 (by decide) hw_1 (fun _ h9 => h9) rfl dX5_look_57 ?_
    refine lv_aload_n hx hb dX5_look_60 rfl (lv_at hl 0 rfl) ?_
    refine va_get (v := .ref gr) (C := RX5) (T := TX5) (N := 6) (ci := 5) hx hb hts hi_5 hown hK hP 0 rfl rfl 5 (by decide) hw_2 (fun _ h9 => h9) rfl dX5_look_61 ?_
    refine ro_l (va_runV (As := [.ref gr]) (rest := []) ⟨hx, hb, hml, hown, hts⟩ (c_X4_bound l D cI cJ cB cZ ra an ax gr b1 b2 b3 fn fx pp qq st ch er f1 f2 f3 n sz wh N E w hG P Q x hR) (cwV 1 hts gX5_look_X4_bound rfl rfl rfl (by decide +kernel) ⟨Nat.le_of_ble_eq_true rfl, Nat.le_of_ble_eq_true rfl⟩) (pre0V hE (hP.sub (ws' := (wRa cJ ra an ax fn fx pp qq st ch er ++ wGr cI gr b1 b2 b3 f1 f2 f3 n sz wh)) [6, 7, 8, 12, 13, 14, 15] rfl) 0 rfl rfl) rfl rfl hl.1 rfl (lv_room (Nat.le_of_ble_eq_true rfl)) dX5_look_64 ⟨Nat.le_of_ble_eq_true rfl, Nat.le_of_ble_eq_true rfl⟩) (fun r_7 hr_8 => ?_)
    subst hr_8
    exact ro_lret (z := er + (((fst E N N + 2 * N) * Q / (Q - P) : Nat) : Int) + 1) hx hb hr hlocks (by refine ⟨fun q => ?_, fun q => ?_, fun q => ?_, fun q => ?_, fun q => ?_, fun q => ?_⟩ <;> omega) dX5_look_67
  by_cases c_9 : a = 3
  · refine lv_tableIn (off := 67) (tgt := 68) hx hb dX5_look_1 (by rw [ht_1]; omega) (by rw [ht_1]; omega) (by rw [ht_1, c_9]; rfl) (by decide) ?_
    refine lv_aload_n hx hb dX5_look_68 rfl (lv_at hl 0 rfl) ?_
    refine va_get (v := .ref ra) (C := RX5) (T := TX5) (N := 6) (ci := 5) hx hb hts hi_5 hown hK hP 0 rfl rfl 3 (by decide) hw_1 (fun _ h9 => h9) rfl dX5_look_69 ?_
    refine va_getN (v := .int (iZ st)) (C := RX4) (T := TX4) (N := 7) (ci := 4) hx hb hts hi_4 hown hK hP 6 rfl rfl 4 (by decide) hw_4 (fun _ h9 => h9) rfl dX5_look_72 ?_
    refine z_i2l hx hb dX5_look_75 (by omega) ?_
    exact ro_lret (z := st) hx hb hr hlocks (by refine ⟨fun q => ?_, fun q => ?_, fun q => ?_, fun q => ?_, fun q => ?_, fun q => ?_⟩ <;> omega) dX5_look_76
  by_cases c_10 : a = 4
  · refine lv_tableIn (off := 76) (tgt := 77) hx hb dX5_look_1 (by rw [ht_1]; omega) (by rw [ht_1]; omega) (by rw [ht_1, c_10]; rfl) (by decide) ?_
    refine lv_aload_n hx hb dX5_look_77 rfl (lv_at hl 0 rfl) ?_
    refine va_get (v := .ref ra) (C := RX5) (T := TX5) (N := 6) (ci := 5) hx hb hts hi_5 hown hK hP 0 rfl rfl 3 (by decide) hw_1 (fun _ h9 => h9) rfl dX5_look_78 ?_
    refine lv_aload_n hx hb dX5_look_81 rfl (lv_at hl 0 rfl) ?_
    refine va_get (v := .ref gr) (C := RX5) (T := TX5) (N := 6) (ci := 5) hx hb hts hi_5 hown hK hP 0 rfl rfl 5 (by decide) hw_2 (fun _ h9 => h9) rfl dX5_look_82 ?_
    refine ro_l (va_runV (As := [.ref gr]) (rest := []) ⟨hx, hb, hml, hown, hts⟩ (c_X4_bareSum l D cI cJ cB cZ ra an ax gr b1 b2 b3 fn fx pp qq st ch er f1 f2 f3 n sz wh N E w hG P Q x hR) (cwV 1 hts gX5_look_X4_bareSum rfl rfl rfl (by decide +kernel) ⟨Nat.le_of_ble_eq_true rfl, Nat.le_of_ble_eq_true rfl⟩) (pre0V hE (hP.sub (ws' := (wRa cJ ra an ax fn fx pp qq st ch er ++ wGr cI gr b1 b2 b3 f1 f2 f3 n sz wh)) [6, 7, 8, 12, 13, 14, 15] rfl) 0 rfl rfl) rfl rfl hl.1 rfl (lv_room (Nat.le_of_ble_eq_true rfl)) dX5_look_85 ⟨Nat.le_of_ble_eq_true rfl, Nat.le_of_ble_eq_true rfl⟩) (fun r_11 hr_12 => ?_)
    subst hr_12
    exact ro_lret (z := ((bar E N x : Nat) : Int)) hx hb hr hlocks (by refine ⟨fun q => ?_, fun q => ?_, fun q => ?_, fun q => ?_, fun q => ?_, fun q => ?_⟩ <;> omega) dX5_look_88
  refine lv_tableOut (tgt := 89) hx hb dX5_look_1 (by rw [ht_1]; omega) (by decide) ?_
  refine z_ldc2 hx hb (-1) hown hw_5 (by decide) dX5_look_89 ?_
  exact ro_lret (z := (-1)) hx hb hr hlocks (by refine ⟨fun q => ?_, fun q => ?_, fun q => ?_, fun q => ?_, fun q => ?_, fun q => ?_⟩ <;> omega) dX5_look_92
set_option maxHeartbeats 4000000 in
set_option maxRecDepth 100000 in
theorem c_X5_count (l : Launch) (D : va_G) (cI cJ cB cZ : ClassId) (h ta ou de ra od gr tb ob an ax o1 o2 b1 b2 b3 : Nat) (tF : Nat → Int) (tL : Int) (oF : Nat → Int) (oL : Int) (nx nd sz1 kd pl : Int) (fn fx : Nat → Int) (pp qq st ch er : Int) (q1 q2 : Nat → Int) (qs : Int) (f1 f2 f3 : Nat → Int) (n sz wh : Int) (N : Nat) (E : Ed) (w : Nat → Nat) (P Q : Nat) (x : Nat → Nat) (ks kc ke tl : Nat) (tf : Nat → Int) (ol : Nat) (of_ : Nat → Int) (fk : Int) (hH : HR N E w P Q x ks kc ke tl tf ol of_ fk ((tF, tL), (oF, oL), (nx, nd, sz1, kd, pl), ((an, ax), fn, fx, pp, qq, st, ch, er), (q1, q2, qs), f1, f2, f3, n, sz, wh)) (a : Int) (ha : -2147483648 ≤ a ∧ a < 2147483648)  : Met l yX5_count wsX5_count ({ frames := 3, cells := 0, slots := 0, locals := 64 } : Room) (Pre0 D cI cJ cB cZ [.ref h, .int (iZ a)] (wHo h ta ou de ra od gr ++ wBR 2000 cI ta tb tF tL ++ wBR 3502 cI ou ob oF oL ++ wDe de nx nd sz1 kd pl ++ wRa cJ ra an ax fn fx pp qq st ch er ++ wOr cI cJ od o1 o2 q1 q2 qs ++ wGr cI gr b1 b2 b3 f1 f2 f3 n sz wh)) (roI (fun z => (a = 0 → z = (N : Int)) ∧ (a = 1 → z = ((fst E N N : Nat) : Int)) ∧ (a = 2 → z = (fb_ct (fun a => decide (dgr E N a = 0)) N : Int)) ∧ (a = 3 → z = ((fb_sm w N : Nat) : Int)) ∧ (a = 4 → z = (tl : Int)) ∧ (a = 5 → z = (ol : Int)) ∧ (a = 6 → z = (P : Int)) ∧ (a = 7 → z = (Q : Int)) ∧ (¬ (0 ≤ a ∧ a ≤ 7) → z = -1))) 0 0 (fun _ => False) := by
  refine Met.ofW (cc := cX5_count) (maxL := 2) (ret := (some .int)) (by decide) rfl ?_
  intro p e s m args below meth c s₁ B hml hv
  obtain ⟨rfl, hP, hE⟩ := hv
  have hx := B.exec
  have hb := B.bytes
  have hr := B.returns
  have hts := atoms_spec (ws := wsX5_count) B.pre
  have hown : s.vm.findClass RX5 = some m.cls := findClass_of_methodNamed B.named
  have hlocks := B.notSynchronized
  have hK := hE.1
  have hi_0 : ∀ w ∈ wsX00, w ∈ wsX5_count := by decide +kernel
  have hi_2 : ∀ w ∈ wsX20, w ∈ wsX5_count := by decide +kernel
  have hi_4 : ∀ w ∈ wsX40, w ∈ wsX5_count := by decide +kernel
  have hi_5 : ∀ w ∈ wsX50, w ∈ wsX5_count := by decide +kernel
  have hw_1 := hts (.fieldLink RX5 45 "RankHouse" "graph" "LRankHouse$Graph;") (by decide +kernel)
  have hw_2 := hE.nl (w := .fieldLinkNest RX5 49 "RankHouse$Graph" "nodes" "I" "RankHouse") (by decide +kernel) ([.ref h, .int (iZ a)] : List Value).toArray
  have hw_3 := hE.nl (w := .fieldLinkNest RX5 70 "RankHouse$Graph" "size" "I" "RankHouse") (by decide +kernel) ([.ref h, .int (iZ a)] : List Value).toArray
  have hw_4 := hE.nl (w := .fieldLinkNest RX5 181 "RankHouse$Graph" "whole" "I" "RankHouse") (by decide +kernel) ([.ref h, .int (iZ a)] : List Value).toArray
  have hw_5 := hts (.fieldLink RX5 14 "RankHouse" "tape" "LRankHouse$ByteRow;") (by decide +kernel)
  have hw_6 := hE.nl (w := .fieldLinkNest RX5 56 "RankHouse$ByteRow" "length" "I" "RankHouse") (by decide +kernel) ([.ref h, .int (iZ a)] : List Value).toArray
  have hw_7 := hts (.fieldLink RX5 18 "RankHouse" "out" "LRankHouse$ByteRow;") (by decide +kernel)
  have hw_8 := hts (.fieldLink RX5 31 "RankHouse" "ranks" "LRankHouse$Ranks;") (by decide +kernel)
  have hw_9 := hE.nl (w := .fieldLinkNest RX5 184 "RankHouse$Ranks" "p" "I" "RankHouse") (by decide +kernel) ([.ref h, .int (iZ a)] : List Value).toArray
  have hw_10 := hE.nl (w := .fieldLinkNest RX5 187 "RankHouse$Ranks" "q" "I" "RankHouse") (by decide +kernel) ([.ref h, .int (iZ a)] : List Value).toArray
  have hl := lv_entry ([.ref h, .int (iZ a)]) (n := 2) (Nat.le_of_ble_eq_true rfl)
  rw [lg_entry_eq]
  generalize (lg_sl ([.ref h, .int (iZ a)]) ++ List.replicate (2 - (lg_sl ([.ref h, .int (iZ a)])).length) Slot.unset).toArray = ls at hl ⊢
  have hl : lv_has ls 2 [(0, .ref h), (1, .int (iZ a))] := hl
  obtain ⟨hG, hR, s1, s2, s3, s5, s6, t1, t1b, t2, t3, y1, y1b, y2, y3, d1⟩ := id hH
  dsimp only at hG hR s1 s2 s3 t1 t1b y1 y1b d1
  subst t1
  subst y1
  have hG : GR N E w f1 f2 f3 n sz wh := hG
  obtain ⟨g1, g2, g3, g4, g5, g6, g7, g8, g9, g10, g11⟩ := id hG
  obtain ⟨k1, k2, k3, k4, k5, k6⟩ := id hR
  refine lv_iload_n hx hb dX5_count_0 rfl (lv_at hl 1 rfl) ?_
  have ht_1 := iZ_t (z := a) (by omega)
  by_cases c_2 : a = 0
  · refine lv_tableIn (off := 47) (tgt := 48) hx hb dX5_count_1 (by rw [ht_1]; omega) (by rw [ht_1]; omega) (by rw [ht_1, c_2]; rfl) (by decide) ?_
    refine lv_aload_n hx hb dX5_count_48 rfl (lv_at hl 0 rfl) ?_
    refine va_get (v := .ref gr) (C := RX5) (T := TX5) (N := 6) (ci := 5) hx hb hts hi_5 hown hK hP 0 rfl rfl 5 (by decide) hw_1 (fun _ h9 => h9) rfl dX5_count_49 ?_
    refine va_getN (v := .int (iZ n)) (C := RX2) (T := TX2) (N := 6) (ci := 2) hx hb hts hi_2 hown hK hP 12 rfl rfl 3 (by decide) hw_2 (fun _ h9 => h9) rfl dX5_count_52 ?_
    exact ro_iret (z := n) hx hb hr hlocks (by refine ⟨fun q => ?_, fun q => ?_, fun q => ?_, fun q => ?_, fun q => ?_, fun q => ?_, fun q => ?_, fun q => ?_, fun q => ?_⟩ <;> omega) dX5_count_55
  by_cases c_3 : a = 1
  · refine lv_tableIn (off := 55) (tgt := 56) hx hb dX5_count_1 (by rw [ht_1]; omega) (by rw [ht_1]; omega) (by rw [ht_1, c_3]; rfl) (by decide) ?_
    refine lv_aload_n hx hb dX5_count_56 rfl (lv_at hl 0 rfl) ?_
    refine va_get (v := .ref gr) (C := RX5) (T := TX5) (N := 6) (ci := 5) hx hb hts hi_5 hown hK hP 0 rfl rfl 5 (by decide) hw_1 (fun _ h9 => h9) rfl dX5_count_57 ?_
    refine va_getN (v := .int (iZ sz)) (C := RX2) (T := TX2) (N := 6) (ci := 2) hx hb hts hi_2 hown hK hP 12 rfl rfl 4 (by decide) hw_3 (fun _ h9 => h9) rfl dX5_count_60 ?_
    exact ro_iret (z := sz) hx hb hr hlocks (by refine ⟨fun q => ?_, fun q => ?_, fun q => ?_, fun q => ?_, fun q => ?_, fun q => ?_, fun q => ?_, fun q => ?_, fun q => ?_⟩ <;> omega) dX5_count_63
  by_cases c_4 : a = 2
  · refine lv_tableIn (off := 63) (tgt := 64) hx hb dX5_count_1 (by rw [ht_1]; omega) (by rw [ht_1]; omega) (by rw [ht_1, c_4]; rfl) (by decide) ?_
    refine lv_aload_n hx hb dX5_count_64 rfl (lv_at hl 0 rfl) ?_
    refine va_get (v := .ref gr) (C := RX5) (T := TX5) (N := 6) (ci := 5) hx hb hts hi_5 hown hK hP 0 rfl rfl 5 (by decide) hw_1 (fun _ h9 => h9) rfl dX5_count_65 ?_
    refine ro_i (va_runV (As := []) (rest := []) ⟨hx, hb, hml, hown, hts⟩ (c_X2_bareNodes l D cI cJ cB cZ gr b1 b2 b3 f1 f2 f3 n sz wh N E w hG) (cwV 0 hts gX5_count_X2_bareNodes rfl rfl rfl (by decide +kernel) ⟨Nat.le_of_ble_eq_true rfl, Nat.le_of_ble_eq_true rfl⟩) (pre0V hE (hP.sub (ws' := (wGr cI gr b1 b2 b3 f1 f2 f3 n sz wh)) [12, 13, 14, 15] rfl) 0 rfl rfl) rfl rfl hl.1 rfl (lv_room (Nat.le_of_ble_eq_true rfl)) dX5_count_68 ⟨Nat.le_of_ble_eq_true rfl, Nat.le_of_ble_eq_true rfl⟩) (fun r_5 hr_6 => ?_)
    subst hr_6
    exact ro_iret (z := (fb_ct (fun a => decide (dgr E N a = 0)) N : Int)) hx hb hr hlocks (by refine ⟨fun q => ?_, fun q => ?_, fun q => ?_, fun q => ?_, fun q => ?_, fun q => ?_, fun q => ?_, fun q => ?_, fun q => ?_⟩ <;> omega) dX5_count_71
  by_cases c_7 : a = 3
  · refine lv_tableIn (off := 71) (tgt := 72) hx hb dX5_count_1 (by rw [ht_1]; omega) (by rw [ht_1]; omega) (by rw [ht_1, c_7]; rfl) (by decide) ?_
    refine lv_aload_n hx hb dX5_count_72 rfl (lv_at hl 0 rfl) ?_
    refine va_get (v := .ref gr) (C := RX5) (T := TX5) (N := 6) (ci := 5) hx hb hts hi_5 hown hK hP 0 rfl rfl 5 (by decide) hw_1 (fun _ h9 => h9) rfl dX5_count_73 ?_
    refine va_getN (v := .int (iZ wh)) (C := RX2) (T := TX2) (N := 6) (ci := 2) hx hb hts hi_2 hown hK hP 12 rfl rfl 5 (by decide) hw_4 (fun _ h9 => h9) rfl dX5_count_76 ?_
    exact ro_iret (z := wh) hx hb hr hlocks (by refine ⟨fun q => ?_, fun q => ?_, fun q => ?_, fun q => ?_, fun q => ?_, fun q => ?_, fun q => ?_, fun q => ?_, fun q => ?_⟩ <;> omega) dX5_count_79
  by_cases c_8 : a = 4
  · refine lv_tableIn (off := 79) (tgt := 80) hx hb dX5_count_1 (by rw [ht_1]; omega) (by rw [ht_1]; omega) (by rw [ht_1, c_8]; rfl) (by decide) ?_
    refine lv_aload_n hx hb dX5_count_80 rfl (lv_at hl 0 rfl) ?_
    refine va_get (v := .ref ta) (C := RX5) (T := TX5) (N := 6) (ci := 5) hx hb hts hi_5 hown hK hP 0 rfl rfl 0 (by decide) hw_5 (fun _ h9 => h9) rfl dX5_count_81 ?_
    refine va_getN (v := .int (iZ tL)) (C := RX0) (T := TX0) (N := 2) (ci := 0) hx hb hts hi_0 hown hK hP 1 rfl rfl 1 (by decide) hw_6 (fun _ h9 => h9) rfl dX5_count_84 ?_
    exact ro_iret (z := tL) hx hb hr hlocks (by refine ⟨fun q => ?_, fun q => ?_, fun q => ?_, fun q => ?_, fun q => ?_, fun q => ?_, fun q => ?_, fun q => ?_, fun q => ?_⟩ <;> omega) dX5_count_87
  by_cases c_9 : a = 5
  · refine lv_tableIn (off := 87) (tgt := 88) hx hb dX5_count_1 (by rw [ht_1]; omega) (by rw [ht_1]; omega) (by rw [ht_1, c_9]; rfl) (by decide) ?_
    refine lv_aload_n hx hb dX5_count_88 rfl (lv_at hl 0 rfl) ?_
    refine va_get (v := .ref ou) (C := RX5) (T := TX5) (N := 6) (ci := 5) hx hb hts hi_5 hown hK hP 0 rfl rfl 1 (by decide) hw_7 (fun _ h9 => h9) rfl dX5_count_89 ?_
    refine va_getN (v := .int (iZ oL)) (C := RX0) (T := TX0) (N := 2) (ci := 0) hx hb hts hi_0 hown hK hP 3 rfl rfl 1 (by decide) hw_6 (fun _ h9 => h9) rfl dX5_count_92 ?_
    exact ro_iret (z := oL) hx hb hr hlocks (by refine ⟨fun q => ?_, fun q => ?_, fun q => ?_, fun q => ?_, fun q => ?_, fun q => ?_, fun q => ?_, fun q => ?_, fun q => ?_⟩ <;> omega) dX5_count_95
  by_cases c_10 : a = 6
  · refine lv_tableIn (off := 95) (tgt := 96) hx hb dX5_count_1 (by rw [ht_1]; omega) (by rw [ht_1]; omega) (by rw [ht_1, c_10]; rfl) (by decide) ?_
    refine lv_aload_n hx hb dX5_count_96 rfl (lv_at hl 0 rfl) ?_
    refine va_get (v := .ref ra) (C := RX5) (T := TX5) (N := 6) (ci := 5) hx hb hts hi_5 hown hK hP 0 rfl rfl 3 (by decide) hw_8 (fun _ h9 => h9) rfl dX5_count_97 ?_
    refine va_getN (v := .int (iZ pp)) (C := RX4) (T := TX4) (N := 7) (ci := 4) hx hb hts hi_4 hown hK hP 6 rfl rfl 2 (by decide) hw_9 (fun _ h9 => h9) rfl dX5_count_100 ?_
    exact ro_iret (z := pp) hx hb hr hlocks (by refine ⟨fun q => ?_, fun q => ?_, fun q => ?_, fun q => ?_, fun q => ?_, fun q => ?_, fun q => ?_, fun q => ?_, fun q => ?_⟩ <;> omega) dX5_count_103
  by_cases c_11 : a = 7
  · refine lv_tableIn (off := 103) (tgt := 104) hx hb dX5_count_1 (by rw [ht_1]; omega) (by rw [ht_1]; omega) (by rw [ht_1, c_11]; rfl) (by decide) ?_
    refine lv_aload_n hx hb dX5_count_104 rfl (lv_at hl 0 rfl) ?_
    refine va_get (v := .ref ra) (C := RX5) (T := TX5) (N := 6) (ci := 5) hx hb hts hi_5 hown hK hP 0 rfl rfl 3 (by decide) hw_8 (fun _ h9 => h9) rfl dX5_count_105 ?_
    refine va_getN (v := .int (iZ qq)) (C := RX4) (T := TX4) (N := 7) (ci := 4) hx hb hts hi_4 hown hK hP 6 rfl rfl 3 (by decide) hw_10 (fun _ h9 => h9) rfl dX5_count_108 ?_
    exact ro_iret (z := qq) hx hb hr hlocks (by refine ⟨fun q => ?_, fun q => ?_, fun q => ?_, fun q => ?_, fun q => ?_, fun q => ?_, fun q => ?_, fun q => ?_, fun q => ?_⟩ <;> omega) dX5_count_111
  refine lv_tableOut (tgt := 112) hx hb dX5_count_1 (by rw [ht_1]; omega) (by decide) ?_
  refine z_iconst hx hb dX5_count_112 ?_
  exact ro_iret (z := (-1)) hx hb hr hlocks (by refine ⟨fun q => ?_, fun q => ?_, fun q => ?_, fun q => ?_, fun q => ?_, fun q => ?_, fun q => ?_, fun q => ?_, fun q => ?_⟩ <;> omega) dX5_count_113
