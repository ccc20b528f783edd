set_option maxHeartbeats 4000000 in
set_option maxRecDepth 100000 in
theorem c_X4_step (l : Launch) (D : va_G) (cI cJ cB cZ : ClassId) (r0 an ax h a1 a2 a3 : Nat) (fn fx : Nat → Int) (pp qq st ch er : Int) (f1 f2 f3 : Nat → Int) (n sz wh : Int) (N : Nat) (E : Ed) (w : Nat → Nat) (hG : GR N E w f1 f2 f3 n sz wh) (P Q : Nat) (x : Nat → Nat) (hR : RK N P Q x fn pp qq) (Er : Nat) (her : er = (Er : Int)) (hEr : Er ≤ 8589934592) (sz0 : Nat) : Met l yX4_step wsX4_step ({ frames := 4, cells := 0, slots := 0, locals := 90 } : Room) (Pre1 D cI cJ cB cZ [.ref r0, .ref h] (wRa cJ r0 an ax fn fx pp qq st ch er ++ wGr cI h a1 a2 a3 f1 f2 f3 n sz wh) sz0) (rwV (S := (Nat → Int) × (Nat → Int)) D (fun U => ∀ v, v < N → U.1 v = ((stp E N w P Q x v : Nat) : Int)) (fun u => wRa cJ r0 ax an u.1 u.2 pp qq (st + 1) ((chg N x (stp E N w P Q x) : Nat) : Int) ((Er * P / Q + 1 : Nat) : Int) ++ wGr cI h a1 a2 a3 f1 f2 f3 n sz wh) (va_A (wRa cJ r0 an ax fn fx pp qq st ch er ++ wGr cI h a1 a2 a3 f1 f2 f3 n sz wh) sz0)) 0 0 (va_A (wRa cJ r0 an ax fn fx pp qq st ch er ++ wGr cI h a1 a2 a3 f1 f2 f3 n sz wh) sz0) := by
  refine Met.ofW (cc := cX4_step) (maxL := 5) (ret := none) (by decide) rfl ?_
  intro p e s m args below meth c s₁ B hml hv
  obtain ⟨rfl, hsz, hP, hE, hD0⟩ := hv
  have hx := B.exec
  have hb := B.bytes
  have hr := B.returns
  have hts := atoms_spec (ws := wsX4_step) B.pre
  have hown : s.vm.findClass RX4 = some m.cls := findClass_of_methodNamed B.named
  have hlocks := B.notSynchronized
  have hK := hE.1
  subst hsz
  have hD := hD0.self (sz := s.heap.size)
  generalize hAe : va_A (wRa cJ r0 an ax fn fx pp qq st ch er ++ wGr cI h a1 a2 a3 f1 f2 f3 n sz wh) s.heap.size = A at hD ⊢
  have hA : ∀ q : Nat, s.heap.size ≤ q → A q := fun q h => by rw [← hAe]; exact Or.inr h
  have hS : va_S A s.heap s.heap [] := va_S.rf
  have hP : va_P D vwCl (wRa cJ r0 an ax fn fx pp qq st ch er ++ wGr cI h a1 a2 a3 f1 f2 f3 n sz wh) s.heap := hP
  have hi_2 : ∀ w ∈ wsX20, w ∈ wsX4_step := by decide +kernel
  have hi_4 : ∀ w ∈ wsX40, w ∈ wsX4_step := by decide +kernel
  have hw_1 := hts (.fieldLink RX4 22 "RankHouse$Ranks" "q" "I") (by decide +kernel)
  have hw_2 := hts (.fieldLink RX4 18 "RankHouse$Ranks" "p" "I") (by decide +kernel)
  have hw_3 := hts (.constantLong RX4 25 (4294967296)) (by decide +kernel)
  have hw_4 := hts (.initialized RX5) (by decide +kernel)
  have hw_5 := hts (.static yX5_quotient) (by decide +kernel)
  have hw_6 := hE.nl (w := .fieldLinkNest RX4 48 "RankHouse$Graph" "nodes" "I" "RankHouse") (by decide +kernel) ([.ref r0, .ref h] : List Value).toArray
  have hw_7 := hts (.fieldLink RX4 36 "RankHouse$Ranks" "change" "J") (by decide +kernel)
  have hw_8 := hts (.fieldLink RX4 9 "RankHouse$Ranks" "now" "[J") (by decide +kernel)
  have hw_9 := hts (.fieldLink RX4 15 "RankHouse$Ranks" "next" "[J") (by decide +kernel)
  have hw_10 := hts (.fieldLink RX4 31 "RankHouse$Ranks" "steps" "I") (by decide +kernel)
  have hw_11 := hts (.fieldLink RX4 40 "RankHouse$Ranks" "error" "J") (by decide +kernel)
  have hw_12 := hE.nl (w := .fieldLinkNest RX4 53 "RankHouse$Graph" "weights" "[I" "RankHouse") (by decide +kernel) ([.ref r0, .ref h] : List Value).toArray
  have hw_13 := hE.nl (w := .fieldLinkNest RX4 57 "RankHouse$Graph" "whole" "I" "RankHouse") (by decide +kernel) ([.ref r0, .ref h] : List Value).toArray
  have hl := lv_entry ([.ref r0, .ref h]) (n := 5) (Nat.le_of_ble_eq_true rfl)
  rw [lg_entry_eq]
  generalize (lg_sl ([.ref r0, .ref h]) ++ List.replicate (5 - (lg_sl ([.ref r0, .ref h])).length) Slot.unset).toArray = ls at hl ⊢
  have hl : lv_has ls 5 [(0, .ref r0), (1, .ref h)] := hl
  obtain ⟨g1, g2, g3, g4, g5, g6, g7, g8, g9, g10, g11⟩ := id hG
  obtain ⟨k1, k2, k3, k4, k5, k6⟩ := id hR
  have b0 := bar_le E N x
  have b1 := Nat.mul_le_mul_left P (Nat.le_trans b0 k6)
  have t1 := tla_le (E := E) k3 k6
  have wb := GR_wh hG
  have b6 := Nat.mul_le_mul_right P hEr
  refine lv_aload_n hx hb dX4_step_0 rfl (lv_at hl 0 rfl) ?_
  refine va_get (v := .int (iZ qq)) (C := RX4) (T := TX4) (N := 7) (ci := 4) hx hb hts hi_4 hown hK hP 0 rfl rfl 3 (by decide) hw_1 (fun _ h9 => h9) rfl dX4_step_1 ?_
  refine lv_aload_n hx hb dX4_step_4 rfl (lv_at hl 0 rfl) ?_
  refine va_get (v := .int (iZ pp)) (C := RX4) (T := TX4) (N := 7) (ci := 4) hx hb hts hi_4 hown hK hP 0 rfl rfl 2 (by decide) hw_2 (fun _ h9 => h9) rfl dX4_step_5 ?_
  refine z_isub hx hb dX4_step_8 ?_
  refine z_i2l hx hb dX4_step_9 (by omega) ?_
  refine z_ldc2 hx hb (4294967296) hown hw_3 (by decide) dX4_step_10 ?_
  refine z_lmul hx hb dX4_step_13 ?_
  refine lv_aload_n hx hb dX4_step_14 rfl (lv_at hl 0 rfl) ?_
  refine va_get (v := .int (iZ pp)) (C := RX4) (T := TX4) (N := 7) (ci := 4) hx hb hts hi_4 hown hK hP 0 rfl rfl 2 (by decide) hw_2 (fun _ h9 => h9) rfl dX4_step_15 ?_
  refine z_i2l hx hb dX4_step_18 (by omega) ?_
  refine lv_aload_n hx hb dX4_step_19 rfl (lv_at hl 0 rfl) ?_
  refine lv_aload_n hx hb dX4_step_20 rfl (lv_at hl 1 rfl) ?_
  refine ro_l (va_runV (As := [.ref h]) (rest := [.long (lZ pp), .long (lZ ((qq - pp) * 4294967296))]) ⟨hx, hb, hml, hown, hts⟩ (c_X4_bareSum l D cI cJ cB cZ r0 an ax h a1 a2 a3 fn fx pp qq st ch er f1 f2 f3 n sz wh N E w hG P Q x hR) (cwV 1 hts gX4_step_X4_bareSum rfl rfl rfl (by decide +kernel) ⟨Nat.le_of_ble_eq_true rfl, Nat.le_of_ble_eq_true rfl⟩) (pre0V hE hP 0 rfl rfl) rfl rfl hl.1 rfl (lv_room (Nat.le_of_ble_eq_true rfl)) dX4_step_21 ⟨Nat.le_of_ble_eq_true rfl, Nat.le_of_ble_eq_true rfl⟩) (fun r_1 hr_2 => ?_)
  subst hr_2
  refine z_lmul hx hb dX4_step_24 ?_
  refine z_ladd hx hb dX4_step_25 ?_
  refine z_tol ((((Q - P) * 4294967296 + P * bar E N x : Nat) : Int)) (by rw [k1, k2, Int.natCast_add, Int.natCast_mul P]; omega) ?_
  refine lv_aload_n hx hb dX4_step_26 rfl (lv_at hl 0 rfl) ?_
  refine va_get (v := .int (iZ qq)) (C := RX4) (T := TX4) (N := 7) (ci := 4) hx hb hts hi_4 hown hK hP 0 rfl rfl 3 (by decide) hw_1 (fun _ h9 => h9) rfl dX4_step_27 ?_
  refine z_i2l hx hb dX4_step_30 (by omega) ?_
  refine z_tol (((Q : Nat) : Int)) k2 ?_
  refine ro_l (va_runSN (As := [.long (lZ (((Q - P) * 4294967296 + P * bar E N x : Nat) : Int)), .long (lZ ((Q : Nat) : Int))]) (rest := []) ⟨hx, hb, hml, hown, hts⟩ (c_X5_quotient l D cI cJ cB cZ (((Q - P) * 4294967296 + P * bar E N x : Nat) : Int) ((Q : Nat) : Int) (by omega) (by omega)) (⟨va_cnB 2 hts ggX4_step_X5_quotient rfl rfl rfl (hE.2 (.methodLinkNest RX4 27 yX5_quotient "RankHouse") (by decide +kernel)) hw_4 (by decide +kernel) ⟨Nat.le_of_ble_eq_true rfl, Nat.le_of_ble_eq_true rfl⟩, hw_5, trivial⟩) (pre0S hE (hP.sub (ws' := []) [] rfl)) rfl rfl hl.1 rfl (lv_room (Nat.le_of_ble_eq_true rfl)) dX4_step_31 ⟨Nat.le_of_ble_eq_true rfl, Nat.le_of_ble_eq_true rfl⟩) (fun r_3 hr_4 => ?_)
  subst hr_4
  refine z_tol (((tla E N P Q x : Nat) : Int)) (by rw [tla, Int.natCast_ediv]) ?_
  refine lv_lstore_n (lv' := [(2, .long (lZ ((tla E N P Q x : Nat) : Int))), (0, .ref r0), (1, .ref h)]) hx hb dX4_step_34 rfl hl (by decide) rfl (fun ls hl => ?_)
  refine z_iconst hx hb dX4_step_35 ?_
  refine lv_istore (lv' := [(4, .int (iZ 0)), (2, .long (lZ ((tla E N P Q x : Nat) : Int))), (0, .ref r0), (1, .ref h)]) hx hb dX4_step_36 hl (by decide) rfl (fun ls hl => ?_)
  refine w_loop (fun kf H locs ls => ∃ (i : Nat), ∃ (ga : Nat → Int), kf = N - i ∧ (i ≤ N ∧ ∀ v, v < i → ga v = ((tla E N P Q x * w v / fb_sm w N : Nat) : Int)) ∧ va_P D vwCl (wRa cJ r0 an ax fn ga pp qq st ch er ++ wGr cI h a1 a2 a3 f1 f2 f3 n sz wh) H ∧ va_D A (wRa cJ r0 an ax fn ga pp qq st ch er ++ wGr cI h a1 a2 a3 f1 f2 f3 n sz wh) ∧ va_S A s.heap H locs ∧ lv_has ls 5 [(0, .ref r0), (1, .ref h), (2, .long (lZ ((tla E N P Q x : Nat) : Int))), (4, .int (iZ ↑i))]) ?_ _ ⟨0, fx, rfl, ⟨by omega, fun v hv => absurd hv (Nat.not_lt_zero v)⟩, hP, hD, hS, lv_sub hl [2, 3, 1, 0] rfl⟩
  rintro kf H locs ls ⟨i, ga, hk, ⟨i1, i2⟩, hP, hD, hS, hl⟩ ih
  refine lv_iload hx hb dX4_step_38 (lv_at hl 3 rfl) ?_
  refine lv_aload_n hx hb dX4_step_40 rfl (lv_at hl 1 rfl) ?_
  refine va_getN (v := .int (iZ n)) (C := RX2) (T := TX2) (N := 6) (ci := 2) hx hb hts hi_2 hown hK hP 3 rfl rfl 3 (by decide) hw_6 (fun _ h9 => h9) rfl dX4_step_41 ?_
  refine z_icmp_ge (tgt := 78) hx hb dX4_step_44 (by decide) (by omega) (by omega) (fun c_5 => ?_) (fun c_5 => ?_)
  · refine z_iconst hx hb dX4_step_78 ?_
    refine lv_istore (lv' := [(4, .int (iZ 0)), (0, .ref r0), (1, .ref h), (2, .long (lZ ((tla E N P Q x : Nat) : Int)))]) hx hb dX4_step_79 hl (by decide) rfl (fun ls hl => ?_)
    refine w_loop (fun kf H locs ls => ∃ (j : Nat), ∃ (gb : Nat → Int), kf = N - j ∧ (j ≤ N ∧ ∀ v, v < N → gb v = ((tla E N P Q x * w v / fb_sm w N + fb_sm (fun u => if E u v = true then shr E N P Q x u else 0) j : Nat) : Int)) ∧ va_P D vwCl (wRa cJ r0 an ax fn gb pp qq st ch er ++ wGr cI h a1 a2 a3 f1 f2 f3 n sz wh) H ∧ va_D A (wRa cJ r0 an ax fn gb pp qq st ch er ++ wGr cI h a1 a2 a3 f1 f2 f3 n sz wh) ∧ va_S A s.heap H locs ∧ lv_has ls 5 [(0, .ref r0), (1, .ref h), (4, .int (iZ ↑j))]) ?_ _ ⟨0, ga, rfl, ⟨by omega, fun v hv => by rw [i2 v (by omega)]; rfl⟩, hP, hD, hS, lv_sub hl [1, 2, 0] rfl⟩
    rintro kf H locs ls ⟨j, gb, hk, ⟨i3, i4⟩, hP, hD, hS, hl⟩ ih
    refine lv_iload hx hb dX4_step_81 (lv_at hl 2 rfl) ?_
    refine lv_aload_n hx hb dX4_step_83 rfl (lv_at hl 1 rfl) ?_
    refine va_getN (v := .int (iZ n)) (C := RX2) (T := TX2) (N := 6) (ci := 2) hx hb hts hi_2 hown hK hP 3 rfl rfl 3 (by decide) hw_6 (fun _ h9 => h9) rfl dX4_step_84 ?_
    refine z_icmp_ge (tgt := 103) hx hb dX4_step_87 (by decide) (by omega) (by omega) (fun c_6 => ?_) (fun c_6 => ?_)
    · have y1 : ∀ v, v < N → gb v = ((stp E N w P Q x v : Nat) : Int) := fun v hv => by rw [i4 v hv, show j = N by omega]; rfl
      refine lv_aload_n hx hb dX4_step_103 rfl (lv_at hl 0 rfl) ?_
      refine lv_aload_n hx hb dX4_step_104 rfl (lv_at hl 0 rfl) ?_
      refine lv_aload_n hx hb dX4_step_105 rfl (lv_at hl 1 rfl) ?_
      refine va_getN (v := .int (iZ n)) (C := RX2) (T := TX2) (N := 6) (ci := 2) hx hb hts hi_2 hown hK hP 3 rfl rfl 3 (by decide) hw_6 (fun _ h9 => h9) rfl dX4_step_106 ?_
      refine ro_l (va_runV (As := [.int (iZ n)]) (rest := [.ref r0]) ⟨hx, hb, hml, hown, hts⟩ (c_X4_distance l D cI cJ cB cZ r0 an ax fn gb pp qq st ch er N x (stp E N w P Q x) n g2 g3 k5 y1 k6 (stp_sum g10 k3 k6)) (cwV 1 hts gX4_step_X4_distance rfl rfl rfl (by decide +kernel) ⟨Nat.le_of_ble_eq_true rfl, Nat.le_of_ble_eq_true rfl⟩) (pre0V hE (hP.sub (ws' := (wRa cJ r0 an ax fn gb pp qq st ch er)) [0, 1, 2] rfl) 0 rfl rfl) rfl rfl hl.1 rfl (lv_room (Nat.le_of_ble_eq_true rfl)) dX4_step_109 ⟨Nat.le_of_ble_eq_true rfl, Nat.le_of_ble_eq_true rfl⟩) (fun r_7 hr_8 => ?_)
      subst hr_8
      refine va_put (v := .long (lZ ((chg N x (stp E N w P Q x) : Nat) : Int))) (ty := .long) (C := RX4) (T := TX4) (N := 7) (ci := 4) hx hb hts hi_4 tyX4 tyX4_ok nmX4 hown hK hP hD hS 0 rfl rfl 5 (by decide) hw_7 (fun _ h9 => h9) rfl (by decide +kernel) rfl rfl (Nat.le_of_ble_eq_true rfl) dX4_step_112 (fun H locs hP hD hS => ?_)
      have hP : va_P D vwCl (wRa cJ r0 an ax fn gb pp qq st ((chg N x (stp E N w P Q x) : Nat) : Int) er ++ wGr cI h a1 a2 a3 f1 f2 f3 n sz wh) H := hP
      have hD : va_D A (wRa cJ r0 an ax fn gb pp qq st ((chg N x (stp E N w P Q x) : Nat) : Int) er ++ wGr cI h a1 a2 a3 f1 f2 f3 n sz wh) := hD
      have hP : va_P D vwCl ([(r0, .inr (4, [.ref an, .ref ax, .int (iZ pp), .int (iZ qq), .int (iZ st), .long (lZ ((chg N x (stp E N w P Q x) : Nat) : Int)), .long (lZ er)])), (an, .inl (cJ, 250, .inr (.inl (aL fn)))), (ax, .inl (cJ, 250, .inr (.inl (aL gb))))] ++ wGr cI h a1 a2 a3 f1 f2 f3 n sz wh) H := hP
      have hD : va_D A ([(r0, .inr (4, [.ref an, .ref ax, .int (iZ pp), .int (iZ qq), .int (iZ st), .long (lZ ((chg N x (stp E N w P Q x) : Nat) : Int)), .long (lZ er)])), (an, .inl (cJ, 250, .inr (.inl (aL fn)))), (ax, .inl (cJ, 250, .inr (.inl (aL gb))))] ++ wGr cI h a1 a2 a3 f1 f2 f3 n sz wh) := hD
      refine lv_aload_n hx hb dX4_step_115 rfl (lv_at hl 0 rfl) ?_
      refine va_get (v := .ref an) (C := RX4) (T := TX4) (N := 7) (ci := 4) hx hb hts hi_4 hown hK hP 0 rfl rfl 0 (by decide) hw_8 (fun _ h9 => h9) rfl dX4_step_116 ?_
      refine lv_astore (lv' := [(4, .ref an), (0, .ref r0), (1, .ref h)]) hx hb dX4_step_119 hl (by decide) rfl (fun ls hl => ?_)
      refine lv_aload_n hx hb dX4_step_121 rfl (lv_at hl 1 rfl) ?_
      refine lv_aload_n hx hb dX4_step_122 rfl (lv_at hl 1 rfl) ?_
      refine va_get (v := .ref ax) (C := RX4) (T := TX4) (N := 7) (ci := 4) hx hb hts hi_4 hown hK hP 0 rfl rfl 1 (by decide) hw_9 (fun _ h9 => h9) rfl dX4_step_123 ?_
      refine va_put (v := .ref ax) (ty := .array .long) (C := RX4) (T := TX4) (N := 7) (ci := 4) hx hb hts hi_4 tyX4 tyX4_ok nmX4 hown hK hP hD hS 0 rfl rfl 0 (by decide) hw_8 (fun _ h9 => h9) rfl (by decide +kernel) rfl rfl (Nat.le_of_ble_eq_true rfl) dX4_step_126 (fun H locs hP hD hS => ?_)
      have hP : va_P D vwCl ([(r0, .inr (4, [.ref ax, .ref ax, .int (iZ pp), .int (iZ qq), .int (iZ st), .long (lZ ((chg N x (stp E N w P Q x) : Nat) : Int)), .long (lZ er)])), (an, .inl (cJ, 250, .inr (.inl (aL fn)))), (ax, .inl (cJ, 250, .inr (.inl (aL gb))))] ++ wGr cI h a1 a2 a3 f1 f2 f3 n sz wh) H := hP
      have hD : va_D A ([(r0, .inr (4, [.ref ax, .ref ax, .int (iZ pp), .int (iZ qq), .int (iZ st), .long (lZ ((chg N x (stp E N w P Q x) : Nat) : Int)), .long (lZ er)])), (an, .inl (cJ, 250, .inr (.inl (aL fn)))), (ax, .inl (cJ, 250, .inr (.inl (aL gb))))] ++ wGr cI h a1 a2 a3 f1 f2 f3 n sz wh) := hD
      refine lv_aload_n hx hb dX4_step_129 rfl (lv_at hl 1 rfl) ?_
      refine lv_aload hx hb dX4_step_130 (lv_at hl 0 rfl) ?_
      refine va_put (v := .ref an) (ty := .array .long) (C := RX4) (T := TX4) (N := 7) (ci := 4) hx hb hts hi_4 tyX4 tyX4_ok nmX4 hown hK hP hD hS 0 rfl rfl 1 (by decide) hw_9 (fun _ h9 => h9) rfl (by decide +kernel) rfl rfl (Nat.le_of_ble_eq_true rfl) dX4_step_132 (fun H locs hP hD hS => ?_)
      have hP : va_P D vwCl ([(r0, .inr (4, [.ref ax, .ref an, .int (iZ pp), .int (iZ qq), .int (iZ st), .long (lZ ((chg N x (stp E N w P Q x) : Nat) : Int)), .long (lZ er)])), (an, .inl (cJ, 250, .inr (.inl (aL fn)))), (ax, .inl (cJ, 250, .inr (.inl (aL gb))))] ++ wGr cI h a1 a2 a3 f1 f2 f3 n sz wh) H := hP
      have hD : va_D A ([(r0, .inr (4, [.ref ax, .ref an, .int (iZ pp), .int (iZ qq), .int (iZ st), .long (lZ ((chg N x (stp E N w P Q x) : Nat) : Int)), .long (lZ er)])), (an, .inl (cJ, 250, .inr (.inl (aL fn)))), (ax, .inl (cJ, 250, .inr (.inl (aL gb))))] ++ wGr cI h a1 a2 a3 f1 f2 f3 n sz wh) := hD
      refine lv_aload_n hx hb dX4_step_135 rfl (lv_at hl 1 rfl) ?_
      refine lv_dup hx hb dX4_step_136 rfl ?_
      refine va_get (v := .int (iZ st)) (C := RX4) (T := TX4) (N := 7) (ci := 4) hx hb hts hi_4 hown hK hP 0 rfl rfl 4 (by decide) hw_10 (fun _ h9 => h9) rfl dX4_step_137 ?_
      refine z_iconst hx hb dX4_step_140 ?_
      refine z_iadd hx hb dX4_step_141 ?_
      refine va_put (v := .int (iZ (st + 1))) (ty := .int) (C := RX4) (T := TX4) (N := 7) (ci := 4) hx hb hts hi_4 tyX4 tyX4_ok nmX4 hown hK hP hD hS 0 rfl rfl 4 (by decide) hw_10 (fun _ h9 => h9) rfl (by decide +kernel) rfl rfl (Nat.le_of_ble_eq_true rfl) dX4_step_142 (fun H locs hP hD hS => ?_)
      have hP : va_P D vwCl ([(r0, .inr (4, [.ref ax, .ref an, .int (iZ pp), .int (iZ qq), .int (iZ (st + 1)), .long (lZ ((chg N x (stp E N w P Q x) : Nat) : Int)), .long (lZ er)])), (an, .inl (cJ, 250, .inr (.inl (aL fn)))), (ax, .inl (cJ, 250, .inr (.inl (aL gb))))] ++ wGr cI h a1 a2 a3 f1 f2 f3 n sz wh) H := hP
      have hD : va_D A ([(r0, .inr (4, [.ref ax, .ref an, .int (iZ pp), .int (iZ qq), .int (iZ (st + 1)), .long (lZ ((chg N x (stp E N w P Q x) : Nat) : Int)), .long (lZ er)])), (an, .inl (cJ, 250, .inr (.inl (aL fn)))), (ax, .inl (cJ, 250, .inr (.inl (aL gb))))] ++ wGr cI h a1 a2 a3 f1 f2 f3 n sz wh) := hD
      refine lv_aload_n hx hb dX4_step_145 rfl (lv_at hl 1 rfl) ?_
      refine lv_aload_n hx hb dX4_step_146 rfl (lv_at hl 1 rfl) ?_
      refine va_get (v := .long (lZ er)) (C := RX4) (T := TX4) (N := 7) (ci := 4) hx hb hts hi_4 hown hK hP 0 rfl rfl 6 (by decide) hw_11 (fun _ h9 => h9) rfl dX4_step_147 ?_
      refine lv_aload_n hx hb dX4_step_150 rfl (lv_at hl 1 rfl) ?_
      refine va_get (v := .int (iZ pp)) (C := RX4) (T := TX4) (N := 7) (ci := 4) hx hb hts hi_4 hown hK hP 0 rfl rfl 2 (by decide) hw_2 (fun _ h9 => h9) rfl dX4_step_151 ?_
      refine z_i2l hx hb dX4_step_154 (by omega) ?_
      refine z_lmul hx hb dX4_step_155 ?_
      refine z_tol (((Er * P : Nat) : Int)) (by rw [her, k1, Int.natCast_mul]) ?_
      refine lv_aload_n hx hb dX4_step_156 rfl (lv_at hl 1 rfl) ?_
      refine va_get (v := .int (iZ qq)) (C := RX4) (T := TX4) (N := 7) (ci := 4) hx hb hts hi_4 hown hK hP 0 rfl rfl 3 (by decide) hw_1 (fun _ h9 => h9) rfl dX4_step_157 ?_
      refine z_i2l hx hb dX4_step_160 (by omega) ?_
      refine z_tol (((Q : Nat) : Int)) k2 ?_
      refine ro_l (va_runSN (As := [.long (lZ ((Er * P : Nat) : Int)), .long (lZ ((Q : Nat) : Int))]) (rest := [.ref r0]) ⟨hx, hb, hml, hown, hts⟩ (c_X5_quotient l D cI cJ cB cZ ((Er * P : Nat) : Int) ((Q : Nat) : Int) (by omega) (by omega)) (⟨va_cnB 2 hts ggX4_step_X5_quotient rfl rfl rfl (hE.2 (.methodLinkNest RX4 27 yX5_quotient "RankHouse") (by decide +kernel)) hw_4 (by decide +kernel) ⟨Nat.le_of_ble_eq_true rfl, Nat.le_of_ble_eq_true rfl⟩, hw_5, trivial⟩) (pre0S hE (hP.sub (ws' := []) [] rfl)) rfl rfl hl.1 rfl (lv_room (Nat.le_of_ble_eq_true rfl)) dX4_step_161 ⟨Nat.le_of_ble_eq_true rfl, Nat.le_of_ble_eq_true rfl⟩) (fun r_9 hr_10 => ?_)
      subst hr_10
      refine z_tol (((Er * P / Q : Nat) : Int)) (by rw [Int.natCast_ediv]) ?_
      refine z_lconst hx hb 1  dX4_step_164 rfl ?_
      refine z_ladd hx hb dX4_step_165 ?_
      refine z_tol (((Er * P / Q + 1 : Nat) : Int)) (by omega) ?_
      refine va_put (v := .long (lZ ((Er * P / Q + 1 : Nat) : Int))) (ty := .long) (C := RX4) (T := TX4) (N := 7) (ci := 4) hx hb hts hi_4 tyX4 tyX4_ok nmX4 hown hK hP hD hS 0 rfl rfl 6 (by decide) hw_11 (fun _ h9 => h9) rfl (by decide +kernel) rfl rfl (Nat.le_of_ble_eq_true rfl) dX4_step_166 (fun H locs hP hD hS => ?_)
      have hP : va_P D vwCl ([(r0, .inr (4, [.ref ax, .ref an, .int (iZ pp), .int (iZ qq), .int (iZ (st + 1)), .long (lZ ((chg N x (stp E N w P Q x) : Nat) : Int)), .long (lZ ((Er * P / Q + 1 : Nat) : Int))])), (an, .inl (cJ, 250, .inr (.inl (aL fn)))), (ax, .inl (cJ, 250, .inr (.inl (aL gb))))] ++ wGr cI h a1 a2 a3 f1 f2 f3 n sz wh) H := hP
      have hD : va_D A ([(r0, .inr (4, [.ref ax, .ref an, .int (iZ pp), .int (iZ qq), .int (iZ (st + 1)), .long (lZ ((chg N x (stp E N w P Q x) : Nat) : Int)), .long (lZ ((Er * P / Q + 1 : Nat) : Int))])), (an, .inl (cJ, 250, .inr (.inl (aL fn)))), (ax, .inl (cJ, 250, .inr (.inl (aL gb))))] ++ wGr cI h a1 a2 a3 f1 f2 f3 n sz wh) := hD
      have hP := hP.sub (ws' := wRa cJ r0 ax an gb fn pp qq (st + 1) ((chg N x (stp E N w P Q x) : Nat) : Int) ((Er * P / Q + 1 : Nat) : Int) ++ wGr cI h a1 a2 a3 f1 f2 f3 n sz wh) [0, 2, 1, 3, 4, 5, 6] rfl
      have hD := hD.sub (ws' := wRa cJ r0 ax an gb fn pp qq (st + 1) ((chg N x (stp E N w P Q x) : Nat) : Int) ((Er * P / Q + 1 : Nat) : Int) ++ wGr cI h a1 a2 a3 f1 f2 f3 n sz wh) [0, 2, 1, 3, 4, 5, 6] (by decide) rfl
      exact rw_vret (gb, fn) hx hb hr hlocks hP hD hS y1 dX4_step_169
    · refine lv_aload_n hx hb dX4_step_90 rfl (lv_at hl 0 rfl) ?_
      refine lv_aload_n hx hb dX4_step_91 rfl (lv_at hl 1 rfl) ?_
      refine lv_iload hx hb dX4_step_92 (lv_at hl 2 rfl) ?_
      refine rw_v (wr := []) (va_runV (As := [.ref h, .int (iZ ↑j)]) (rest := []) ⟨hx, hb, hml, hown, hts⟩ (c_X4_shareOut l D cI cJ cB cZ r0 an ax h a1 a2 a3 fn gb pp qq st ch er f1 f2 f3 n sz wh N E w hG P Q x hR (↑j) (by omega) _) (cwV 2 hts gX4_step_X4_shareOut rfl rfl rfl (by decide +kernel) ⟨Nat.le_of_ble_eq_true rfl, Nat.le_of_ble_eq_true rfl⟩) (pre1V hE hP hD 0 rfl rfl) rfl rfl hl.1 rfl (lv_room (Nat.le_of_ble_eq_true rfl)) dX4_step_94 ⟨Nat.le_of_ble_eq_true rfl, Nat.le_of_ble_eq_true rfl⟩) hP hD hS hA [0, 1, 2, 3, 4, 5, 6] [] rfl rfl (by decide) (by decide) (fun u_13 H locs hr_12 hP hD hS => ?_)
      have hP := hP.sub (ws' := (wRa cJ r0 an ax fn u_13 pp qq st ch er ++ wGr cI h a1 a2 a3 f1 f2 f3 n sz wh)) [0, 1, 2, 3, 4, 5, 6] rfl
      have hD := hD.sub (ws' := (wRa cJ r0 an ax fn u_13 pp qq st ch er ++ wGr cI h a1 a2 a3 f1 f2 f3 n sz wh)) [0, 1, 2, 3, 4, 5, 6] (by decide) rfl
      have q9 := hr_12
      simp only [Int.toNat_natCast] at q9
      refine lv_iinc (v := iZ (↑j + 1)) (lv' := [(4, .int (iZ (↑j + 1))), (0, .ref r0), (1, .ref h)]) hx hb dX4_step_97 hl (k := 2) rfl (show iZ ↑j + iZ 1 = _ from iZ_add _ _) (by decide) rfl (fun ls hl => ?_)
      refine lv_goto (tgt := 81) hx hb dX4_step_100 (by decide) ?_
      exact ih _ _ _ _ (by omega) ⟨(j + 1), u_13, rfl, ⟨by omega, fun v hv => by have sS : fb_sm (fun u => if E u v = true then shr E N P Q x u else 0) (j + 1) = fb_sm (fun u => if E u v = true then shr E N P Q x u else 0) j + (if E j v = true then shr E N P Q x j else 0) := fb_sm_succ _ j; rw [q9 v hv, i4 v hv, sS]; split <;> omega⟩, hP, hD, hS, lv_sub hl [1, 2, 0] rfl⟩
  · have q8 := g8 i (by omega)
    have b5 := Nat.mul_le_mul t1 q8.2
    refine lv_aload_n hx hb dX4_step_47 rfl (lv_at hl 0 rfl) ?_
    refine va_get (v := .ref ax) (C := RX4) (T := TX4) (N := 7) (ci := 4) hx hb hts hi_4 hown hK hP 0 rfl rfl 1 (by decide) hw_9 (fun _ h9 => h9) rfl dX4_step_48 ?_
    refine lv_iload hx hb dX4_step_51 (lv_at hl 3 rfl) ?_
    refine lv_lload_n hx hb dX4_step_53 rfl (lv_at hl 2 rfl) ?_
    refine lv_aload_n hx hb dX4_step_54 rfl (lv_at hl 1 rfl) ?_
    refine va_getN (v := .ref a3) (C := RX2) (T := TX2) (N := 6) (ci := 2) hx hb hts hi_2 hown hK hP 3 rfl rfl 2 (by decide) hw_12 (fun _ h9 => h9) rfl dX4_step_55 ?_
    refine lv_iload hx hb dX4_step_58 (lv_at hl 3 rfl) ?_
    refine z_iald hx hb hK hP 6 0 rfl rfl i (by omega) (by omega) (by omega) dX4_step_60 ?_
    refine z_i2l hx hb dX4_step_61 (by omega) ?_
    refine z_lmul hx hb dX4_step_62 ?_
    refine z_tol (((tla E N P Q x * w i : Nat) : Int)) (by rw [q8.1, Int.natCast_mul]) ?_
    refine lv_aload_n hx hb dX4_step_63 rfl (lv_at hl 1 rfl) ?_
    refine va_getN (v := .int (iZ wh)) (C := RX2) (T := TX2) (N := 6) (ci := 2) hx hb hts hi_2 hown hK hP 3 rfl rfl 5 (by decide) hw_13 (fun _ h9 => h9) rfl dX4_step_64 ?_
    refine z_i2l hx hb dX4_step_67 (by omega) ?_
    refine z_tol (((fb_sm w N : Nat) : Int)) g9 ?_
    refine ro_l (va_runSN (As := [.long (lZ ((tla E N P Q x * w i : Nat) : Int)), .long (lZ ((fb_sm w N : Nat) : Int))]) (rest := [.int (iZ ↑i), .ref ax]) ⟨hx, hb, hml, hown, hts⟩ (c_X5_quotient l D cI cJ cB cZ ((tla E N P Q x * w i : Nat) : Int) ((fb_sm w N : Nat) : Int) (by omega) (by omega)) (⟨va_cnB 2 hts ggX4_step_X5_quotient rfl rfl rfl (hE.2 (.methodLinkNest RX4 27 yX5_quotient "RankHouse") (by decide +kernel)) hw_4 (by decide +kernel) ⟨Nat.le_of_ble_eq_true rfl, Nat.le_of_ble_eq_true rfl⟩, hw_5, trivial⟩) (pre0S hE (hP.sub (ws' := []) [] rfl)) rfl rfl hl.1 rfl (lv_room (Nat.le_of_ble_eq_true rfl)) dX4_step_68 ⟨Nat.le_of_ble_eq_true rfl, Nat.le_of_ble_eq_true rfl⟩) (fun r_14 hr_15 => ?_)
    subst hr_15
    refine z_tol (((tla E N P Q x * w i / fb_sm w N : Nat) : Int)) (by rw [Int.natCast_ediv]) ?_
    refine z_last hx hb hK hP hD hS 2 1 rfl rfl i (by omega) (by omega) (by omega) dX4_step_71 (fun H locs hP hD hS => ?_)
    have hP : va_P D vwCl (wRa cJ r0 an ax fn (uZ ga i ((tla E N P Q x * w i / fb_sm w N : Nat) : Int)) pp qq st ch er ++ wGr cI h a1 a2 a3 f1 f2 f3 n sz wh) H := hP
    have hD : va_D A (wRa cJ r0 an ax fn (uZ ga i ((tla E N P Q x * w i / fb_sm w N : Nat) : Int)) pp qq st ch er ++ wGr cI h a1 a2 a3 f1 f2 f3 n sz wh) := hD
    refine lv_iinc (v := iZ (↑i + 1)) (lv' := [(4, .int (iZ (↑i + 1))), (0, .ref r0), (1, .ref h), (2, .long (lZ ((tla E N P Q x : Nat) : Int)))]) hx hb dX4_step_72 hl (k := 3) rfl (show iZ ↑i + iZ 1 = _ from iZ_add _ _) (by decide) rfl (fun ls hl => ?_)
    refine lv_goto (tgt := 38) hx hb dX4_step_75 (by decide) ?_
    exact ih _ _ _ _ (by omega) ⟨(i + 1), (uZ ga i ((tla E N P Q x * w i / fb_sm w N : Nat) : Int)), rfl, ⟨by omega, fun v hv => by by_cases q : v = i; (rw [q, uZ_s]); (rw [uZ_n q]; exact i2 v (by omega))⟩, hP, hD, hS, lv_sub hl [1, 2, 3, 0] rfl⟩
