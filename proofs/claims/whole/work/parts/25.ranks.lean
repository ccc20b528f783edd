set_option maxHeartbeats 4000000 in
set_option maxRecDepth 100000 in
theorem c_X4_share (l : Launch) (D : va_G) (cI cJ cB cZ : ClassId) (r0 an ax h a1 a2 a3 : Nat) (fn fx : Nat → Int) (pp qq st ch er : Int) (f1 f2 f3 : Nat → Int) (n sz wh : Int) (N : Nat) (E : Ed) (w : Nat → Nat) (hG : GR N E w f1 f2 f3 n sz wh) (P Q : Nat) (x : Nat → Nat) (hR : RK N P Q x fn pp qq) (u : Int) (hu : 0 ≤ u ∧ u < n) : Met l yX4_share wsX4_share ({ frames := 2, cells := 0, slots := 0, locals := 42 } : Room) (Pre0 D cI cJ cB cZ [.ref r0, .ref h, .int (iZ u)] (wRa cJ r0 an ax fn fx pp qq st ch er ++ wGr cI h a1 a2 a3 f1 f2 f3 n sz wh)) (roL (fun z => z = ((shr E N P Q x u.toNat : Nat) : Int))) 0 0 (fun _ => False) := by
  refine Met.ofW (cc := cX4_share) (maxL := 3) (ret := (some .long)) (by decide) rfl ?_
  intro p e s m args below meth c s₁ B hml hv
  obtain ⟨rfl, hP, hE⟩ := hv
  have hx := B.exec
  have hb := B.bytes
  have hr := B.returns
  have hts := atoms_spec (ws := wsX4_share) B.pre
  have hown : s.vm.findClass RX4 = some m.cls := findClass_of_methodNamed B.named
  have hlocks := B.notSynchronized
  have hK := hE.1
  have hi_4 : ∀ w ∈ wsX40, w ∈ wsX4_share := by decide +kernel
  have hw_1 := hts (.fieldLink RX4 18 "RankHouse$Ranks" "p" "I") (by decide +kernel)
  have hw_2 := hts (.fieldLink RX4 9 "RankHouse$Ranks" "now" "[J") (by decide +kernel)
  have hw_3 := hts (.fieldLink RX4 22 "RankHouse$Ranks" "q" "I") (by decide +kernel)
  have hw_4 := hts (.initialized RX5) (by decide +kernel)
  have hw_5 := hts (.static yX5_quotient) (by decide +kernel)
  have hl := lv_entry ([.ref r0, .ref h, .int (iZ u)]) (n := 3) (Nat.le_of_ble_eq_true rfl)
  rw [lg_entry_eq]
  generalize (lg_sl ([.ref r0, .ref h, .int (iZ u)]) ++ List.replicate (3 - (lg_sl ([.ref r0, .ref h, .int (iZ u)])).length) Slot.unset).toArray = ls at hl ⊢
  have hl : lv_has ls 3 [(0, .ref r0), (1, .ref h), (2, .int (iZ u))] := hl
  obtain ⟨g1, g2, g3, g4, g5, g6, g7, g8, g9, g10, g11⟩ := id hG
  obtain ⟨k1, k2, k3, k4, k5, k6⟩ := id hR
  have b0 := sm_at (x := x) (show u.toNat < N by omega)
  have b1 := Nat.mul_le_mul_left P (Nat.le_trans b0 k6)
  have b2 := Nat.mul_le_mul_left Q (Nat.le_trans (dgr_le E N u.toNat) g2)
  have b3 := dgr_le E N u.toNat
  refine lv_aload_n hx hb dX4_share_0 rfl (lv_at hl 0 rfl) ?_
  refine va_get (v := .int (iZ pp)) (C := RX4) (T := TX4) (N := 7) (ci := 4) hx hb hts hi_4 hown hK hP 0 rfl rfl 2 (by decide) hw_1 (fun _ h9 => h9) rfl dX4_share_1 ?_
  refine z_i2l hx hb dX4_share_4 (by omega) ?_
  refine lv_aload_n hx hb dX4_share_5 rfl (lv_at hl 0 rfl) ?_
  refine va_get (v := .ref an) (C := RX4) (T := TX4) (N := 7) (ci := 4) hx hb hts hi_4 hown hK hP 0 rfl rfl 0 (by decide) hw_2 (fun _ h9 => h9) rfl dX4_share_6 ?_
  refine lv_iload_n hx hb dX4_share_9 rfl (lv_at hl 2 rfl) ?_
  refine z_lald hx hb hK hP 1 1 rfl rfl u.toNat (by omega) (by omega) (by omega) dX4_share_10 ?_
  refine z_lmul hx hb dX4_share_11 ?_
  refine z_tol (((P * x u.toNat : Nat) : Int)) (by rw [k1, k5 u.toNat (by omega), Int.natCast_mul]) ?_
  refine lv_aload_n hx hb dX4_share_12 rfl (lv_at hl 0 rfl) ?_
  refine va_get (v := .int (iZ qq)) (C := RX4) (T := TX4) (N := 7) (ci := 4) hx hb hts hi_4 hown hK hP 0 rfl rfl 3 (by decide) hw_3 (fun _ h9 => h9) rfl dX4_share_13 ?_
  refine z_i2l hx hb dX4_share_16 (by omega) ?_
  refine lv_aload_n hx hb dX4_share_17 rfl (lv_at hl 1 rfl) ?_
  refine lv_iload_n hx hb dX4_share_18 rfl (lv_at hl 2 rfl) ?_
  refine ro_i (va_runV (As := [.int (iZ u)]) (rest := [.long (lZ qq), .long (lZ ((P * x u.toNat : Nat) : Int))]) ⟨hx, hb, hml, hown, hts⟩ (c_X2_outOf l D cI cJ cB cZ h a1 a2 a3 f1 f2 f3 n sz wh N E w hG u (by omega)) (cwV 1 hts gX4_share_X2_outOf rfl rfl rfl (by decide +kernel) ⟨Nat.le_of_ble_eq_true rfl, Nat.le_of_ble_eq_true rfl⟩) (pre0V hE (hP.sub (ws' := (wGr cI h a1 a2 a3 f1 f2 f3 n sz wh)) [3, 4, 5, 6] rfl) 0 rfl rfl) rfl rfl hl.1 rfl (lv_room (Nat.le_of_ble_eq_true rfl)) dX4_share_19 ⟨Nat.le_of_ble_eq_true rfl, Nat.le_of_ble_eq_true rfl⟩) (fun r_1 hr_2 => ?_)
  have q4 := hr_2.1 (by omega)
  refine z_i2l hx hb dX4_share_22 (by omega) ?_
  refine z_lmul hx hb dX4_share_23 ?_
  refine z_tol (((Q * dgr E N u.toNat : Nat) : Int)) (by rw [k2, q4, Int.natCast_mul]) ?_
  refine ro_l (va_runSN (As := [.long (lZ ((P * x u.toNat : Nat) : Int)), .long (lZ ((Q * dgr E N u.toNat : Nat) : Int))]) (rest := []) ⟨hx, hb, hml, hown, hts⟩ (c_X5_quotient l D cI cJ cB cZ ((P * x u.toNat : Nat) : Int) ((Q * dgr E N u.toNat : Nat) : Int) (by omega) (by omega)) (⟨va_cnB 2 hts ggX4_share_X5_quotient rfl rfl rfl (hE.2 (.methodLinkNest RX4 27 yX5_quotient "RankHouse") (by decide +kernel)) hw_4 (by decide +kernel) ⟨Nat.le_of_ble_eq_true rfl, Nat.le_of_ble_eq_true rfl⟩, hw_5, trivial⟩) (pre0S hE (hP.sub (ws' := []) [] rfl)) rfl rfl hl.1 rfl (lv_room (Nat.le_of_ble_eq_true rfl)) dX4_share_24 ⟨Nat.le_of_ble_eq_true rfl, Nat.le_of_ble_eq_true rfl⟩) (fun r_3 hr_4 => ?_)
  subst hr_4
  exact ro_lret (z := ((P * x u.toNat : Nat) : Int) / ((Q * dgr E N u.toNat : Nat) : Int)) hx hb hr hlocks (by rw [shr, Int.natCast_ediv]) dX4_share_27
set_option maxHeartbeats 4000000 in
set_option maxRecDepth 100000 in
theorem c_X4_sum (l : Launch) (D : va_G) (cI cJ cB cZ : ClassId) (r0 an ax h a1 a2 a3 : Nat) (fn fx : Nat → Int) (pp qq st ch er : Int) (f1 f2 f3 : Nat → Int) (n sz wh : Int) (N : Nat) (E : Ed) (w : Nat → Nat) (hG : GR N E w f1 f2 f3 n sz wh) (P Q : Nat) (x : Nat → Nat) (hR : RK N P Q x fn pp qq)  : Met l yX4_sum wsX4_sum ({ frames := 0, cells := 0, slots := 0, locals := 0 } : Room) (Pre0 D cI cJ cB cZ [.ref r0, .ref h] (wRa cJ r0 an ax fn fx pp qq st ch er ++ wGr cI h a1 a2 a3 f1 f2 f3 n sz wh)) (roL (fun z => z = ((fb_sm x N : Nat) : Int))) 0 0 (fun _ => False) := by
  refine Met.ofW (cc := cX4_sum) (maxL := 5) (ret := (some .long)) (by decide) rfl ?_
  intro p e s m args below meth c s₁ B hml hv
  obtain ⟨rfl, hP, hE⟩ := hv
  have hx := B.exec
  have hb := B.bytes
  have hr := B.returns
  have hts := atoms_spec (ws := wsX4_sum) B.pre
  have hown : s.vm.findClass RX4 = some m.cls := findClass_of_methodNamed B.named
  have hlocks := B.notSynchronized
  have hK := hE.1
  have hi_2 : ∀ w ∈ wsX20, w ∈ wsX4_sum := by decide +kernel
  have hi_4 : ∀ w ∈ wsX40, w ∈ wsX4_sum := by decide +kernel
  have hw_1 := hE.nl (w := .fieldLinkNest RX4 48 "RankHouse$Graph" "nodes" "I" "RankHouse") (by decide +kernel) ([.ref r0, .ref h] : List Value).toArray
  have hw_2 := hts (.fieldLink RX4 9 "RankHouse$Ranks" "now" "[J") (by decide +kernel)
  have hl := lv_entry ([.ref r0, .ref h]) (n := 5) (Nat.le_of_ble_eq_true rfl)
  rw [lg_entry_eq]
  generalize (lg_sl ([.ref r0, .ref h]) ++ List.replicate (5 - (lg_sl ([.ref r0, .ref h])).length) Slot.unset).toArray = ls at hl ⊢
  have hl : lv_has ls 5 [(0, .ref r0), (1, .ref h)] := hl
  obtain ⟨g1, g2, g3, g4, g5, g6, g7, g8, g9, g10, g11⟩ := id hG
  obtain ⟨k1, k2, k3, k4, k5, k6⟩ := id hR
  refine z_lconst hx hb 0  dX4_sum_0 rfl ?_
  refine lv_lstore_n (lv' := [(2, .long (lZ 0)), (0, .ref r0), (1, .ref h)]) hx hb dX4_sum_1 rfl hl (by decide) rfl (fun ls hl => ?_)
  refine z_iconst hx hb dX4_sum_2 ?_
  refine lv_istore (lv' := [(4, .int (iZ 0)), (2, .long (lZ 0)), (0, .ref r0), (1, .ref h)]) hx hb dX4_sum_3 hl (by decide) rfl (fun ls hl => ?_)
  refine w_loop0 (fun kf ls => ∃ (i : Nat), ∃ (y : Int), kf = N - i ∧ (i ≤ N ∧ y = ((fb_sm x i : Nat) : Int)) ∧ lv_has ls 5 [(0, .ref r0), (1, .ref h), (2, .long (lZ y)), (4, .int (iZ ↑i))]) ?_ _ ⟨0, 0, rfl, ⟨by omega, rfl⟩, lv_sub hl [2, 3, 1, 0] rfl⟩
  rintro kf ls ⟨i, y, hk, hinv, hl⟩ ih
  refine lv_iload hx hb dX4_sum_5 (lv_at hl 3 rfl) ?_
  refine lv_aload_n hx hb dX4_sum_7 rfl (lv_at hl 1 rfl) ?_
  refine va_getN (v := .int (iZ n)) (C := RX2) (T := TX2) (N := 6) (ci := 2) hx hb hts hi_2 hown hK hP 3 rfl rfl 3 (by decide) hw_1 (fun _ h9 => h9) rfl dX4_sum_8 ?_
  refine z_icmp_ge (tgt := 30) hx hb dX4_sum_11 (by decide) (by omega) (by omega) (fun c_1 => ?_) (fun c_1 => ?_)
  · refine lv_lload_n hx hb dX4_sum_30 rfl (lv_at hl 2 rfl) ?_
    exact ro_lret (z := y) hx hb hr hlocks (by rw [show i = N by omega] at hinv; exact hinv.2) dX4_sum_31
  · have q8 := k5 i (by omega)
    have sS : fb_sm x (i + 1) = fb_sm x i + x i := fb_sm_succ _ i
    refine lv_lload_n hx hb dX4_sum_14 rfl (lv_at hl 2 rfl) ?_
    refine lv_aload_n hx hb dX4_sum_15 rfl (lv_at hl 0 rfl) ?_
    refine va_get (v := .ref an) (C := RX4) (T := TX4) (N := 7) (ci := 4) hx hb hts hi_4 hown hK hP 0 rfl rfl 0 (by decide) hw_2 (fun _ h9 => h9) rfl dX4_sum_16 ?_
    refine lv_iload hx hb dX4_sum_19 (lv_at hl 3 rfl) ?_
    refine z_lald hx hb hK hP 1 1 rfl rfl i (by omega) (by omega) (by omega) dX4_sum_21 ?_
    refine z_ladd hx hb dX4_sum_22 ?_
    refine lv_lstore_n (lv' := [(2, .long (lZ (y + (fn i)))), (0, .ref r0), (1, .ref h), (4, .int (iZ ↑i))]) hx hb dX4_sum_23 rfl hl (by decide) rfl (fun ls hl => ?_)
    refine lv_iinc (v := iZ (↑i + 1)) (lv' := [(4, .int (iZ (↑i + 1))), (2, .long (lZ (y + (fn i)))), (0, .ref r0), (1, .ref h)]) hx hb dX4_sum_24 hl (k := 3) rfl (show iZ ↑i + iZ 1 = _ from iZ_add _ _) (by decide) rfl (fun ls hl => ?_)
    refine lv_goto (tgt := 5) hx hb dX4_sum_27 (by decide) ?_
    exact ih _ _ (by omega) ⟨(i + 1), (y + (fn i)), rfl, (by omega), lv_sub hl [2, 3, 1, 0] rfl⟩
set_option maxHeartbeats 4000000 in
set_option maxRecDepth 100000 in
theorem c_X4_bareSum (l : Launch) (D : va_G) (cI cJ cB cZ : ClassId) (r0 an ax h a1 a2 a3 : Nat) (fn fx : Nat → Int) (pp qq st ch er : Int) (f1 f2 f3 : Nat → Int) (n sz wh : Int) (N : Nat) (E : Ed) (w : Nat → Nat) (hG : GR N E w f1 f2 f3 n sz wh) (P Q : Nat) (x : Nat → Nat) (hR : RK N P Q x fn pp qq)  : Met l yX4_bareSum wsX4_bareSum ({ frames := 2, cells := 0, slots := 0, locals := 42 } : Room) (Pre0 D cI cJ cB cZ [.ref r0, .ref h] (wRa cJ r0 an ax fn fx pp qq st ch er ++ wGr cI h a1 a2 a3 f1 f2 f3 n sz wh)) (roL (fun z => z = ((bar E N x : Nat) : Int))) 0 0 (fun _ => False) := by
  refine Met.ofW (cc := cX4_bareSum) (maxL := 5) (ret := (some .long)) (by decide) rfl ?_
  intro p e s m args below meth c s₁ B hml hv
  obtain ⟨rfl, hP, hE⟩ := hv
  have hx := B.exec
  have hb := B.bytes
  have hr := B.returns
  have hts := atoms_spec (ws := wsX4_bareSum) B.pre
  have hown : s.vm.findClass RX4 = some m.cls := findClass_of_methodNamed B.named
  have hlocks := B.notSynchronized
  have hK := hE.1
  have hi_2 : ∀ w ∈ wsX20, w ∈ wsX4_bareSum := by decide +kernel
  have hi_4 : ∀ w ∈ wsX40, w ∈ wsX4_bareSum := by decide +kernel
  have hw_1 := hE.nl (w := .fieldLinkNest RX4 48 "RankHouse$Graph" "nodes" "I" "RankHouse") (by decide +kernel) ([.ref r0, .ref h] : List Value).toArray
  have hw_2 := hts (.fieldLink RX4 9 "RankHouse$Ranks" "now" "[J") (by decide +kernel)
  have hl := lv_entry ([.ref r0, .ref h]) (n := 5) (Nat.le_of_ble_eq_true rfl)
  rw [lg_entry_eq]
  generalize (lg_sl ([.ref r0, .ref h]) ++ List.replicate (5 - (lg_sl ([.ref r0, .ref h])).length) Slot.unset).toArray = ls at hl ⊢
  have hl : lv_has ls 5 [(0, .ref r0), (1, .ref h)] := hl
  obtain ⟨g1, g2, g3, g4, g5, g6, g7, g8, g9, g10, g11⟩ := id hG
  obtain ⟨k1, k2, k3, k4, k5, k6⟩ := id hR
  refine z_lconst hx hb 0  dX4_bareSum_0 rfl ?_
  refine lv_lstore_n (lv' := [(2, .long (lZ 0)), (0, .ref r0), (1, .ref h)]) hx hb dX4_bareSum_1 rfl hl (by decide) rfl (fun ls hl => ?_)
  refine z_iconst hx hb dX4_bareSum_2 ?_
  refine lv_istore (lv' := [(4, .int (iZ 0)), (2, .long (lZ 0)), (0, .ref r0), (1, .ref h)]) hx hb dX4_bareSum_3 hl (by decide) rfl (fun ls hl => ?_)
  refine w_loop0 (fun kf ls => ∃ (i : Nat), ∃ (y : Int), kf = N - i ∧ (i ≤ N ∧ y = ((fb_sm (fun u => if dgr E N u = 0 then x u else 0) i : Nat) : Int)) ∧ lv_has ls 5 [(0, .ref r0), (1, .ref h), (2, .long (lZ y)), (4, .int (iZ ↑i))]) ?_ _ ⟨0, 0, rfl, ⟨by omega, rfl⟩, lv_sub hl [2, 3, 1, 0] rfl⟩
  rintro kf ls ⟨i, y, hk, hinv, hl⟩ ih
  refine lv_iload hx hb dX4_bareSum_5 (lv_at hl 3 rfl) ?_
  refine lv_aload_n hx hb dX4_bareSum_7 rfl (lv_at hl 1 rfl) ?_
  refine va_getN (v := .int (iZ n)) (C := RX2) (T := TX2) (N := 6) (ci := 2) hx hb hts hi_2 hown hK hP 3 rfl rfl 3 (by decide) hw_1 (fun _ h9 => h9) rfl dX4_bareSum_8 ?_
  refine z_icmp_ge (tgt := 39) hx hb dX4_bareSum_11 (by decide) (by omega) (by omega) (fun c_1 => ?_) (fun c_1 => ?_)
  · refine lv_lload_n hx hb dX4_bareSum_39 rfl (lv_at hl 2 rfl) ?_
    exact ro_lret (z := y) hx hb hr hlocks (by rw [show i = N by omega] at hinv; exact hinv.2) dX4_bareSum_40
  · have q8 := k5 i (by omega)
    have sS : fb_sm (fun u => if dgr E N u = 0 then x u else 0) (i + 1) = fb_sm (fun u => if dgr E N u = 0 then x u else 0) i + (if dgr E N i = 0 then x i else 0) := fb_sm_succ _ i
    refine lv_aload_n hx hb dX4_bareSum_14 rfl (lv_at hl 1 rfl) ?_
    refine lv_iload hx hb dX4_bareSum_15 (lv_at hl 3 rfl) ?_
    refine ro_i (va_runV (As := [.int (iZ ↑i)]) (rest := []) ⟨hx, hb, hml, hown, hts⟩ (c_X2_outOf l D cI cJ cB cZ h a1 a2 a3 f1 f2 f3 n sz wh N E w hG (↑i) (by omega)) (cwV 1 hts gX4_bareSum_X2_outOf rfl rfl rfl (by decide +kernel) ⟨Nat.le_of_ble_eq_true rfl, Nat.le_of_ble_eq_true rfl⟩) (pre0V hE (hP.sub (ws' := (wGr cI h a1 a2 a3 f1 f2 f3 n sz wh)) [3, 4, 5, 6] rfl) 0 rfl rfl) rfl rfl hl.1 rfl (lv_room (Nat.le_of_ble_eq_true rfl)) dX4_bareSum_17 ⟨Nat.le_of_ble_eq_true rfl, Nat.le_of_ble_eq_true rfl⟩) (fun r_2 hr_3 => ?_)
    have q4 := hr_3.1 (by omega)
    rw [Int.toNat_natCast] at q4
    have q7 := dgr_le E N i
    refine z_if_ne (tgt := 33) hx hb dX4_bareSum_20 (by decide) (by omega) (fun c_4 => ?_) (fun c_4 => ?_)
    · try rw [if_neg (show ¬ dgr E N i = 0 by omega)] at sS
      refine lv_iinc (v := iZ (↑i + 1)) (lv' := [(4, .int (iZ (↑i + 1))), (0, .ref r0), (1, .ref h), (2, .long (lZ y))]) hx hb dX4_bareSum_33 hl (k := 3) rfl (show iZ ↑i + iZ 1 = _ from iZ_add _ _) (by decide) rfl (fun ls hl => ?_)
      refine lv_goto (tgt := 5) hx hb dX4_bareSum_36 (by decide) ?_
      exact ih _ _ (by omega) ⟨(i + 1), y, rfl, (by omega), lv_sub hl [1, 2, 3, 0] rfl⟩
    · rw [if_pos (show dgr E N i = 0 by omega)] at sS
      refine lv_lload_n hx hb dX4_bareSum_23 rfl (lv_at hl 2 rfl) ?_
      refine lv_aload_n hx hb dX4_bareSum_24 rfl (lv_at hl 0 rfl) ?_
      refine va_get (v := .ref an) (C := RX4) (T := TX4) (N := 7) (ci := 4) hx hb hts hi_4 hown hK hP 0 rfl rfl 0 (by decide) hw_2 (fun _ h9 => h9) rfl dX4_bareSum_25 ?_
      refine lv_iload hx hb dX4_bareSum_28 (lv_at hl 3 rfl) ?_
      refine z_lald hx hb hK hP 1 1 rfl rfl i (by omega) (by omega) (by omega) dX4_bareSum_30 ?_
      refine z_ladd hx hb dX4_bareSum_31 ?_
      refine lv_lstore_n (lv' := [(2, .long (lZ (y + (fn i)))), (0, .ref r0), (1, .ref h), (4, .int (iZ ↑i))]) hx hb dX4_bareSum_32 rfl hl (by decide) rfl (fun ls hl => ?_)
      try rw [if_neg (show ¬ dgr E N i = 0 by omega)] at sS
      refine lv_iinc (v := iZ (↑i + 1)) (lv' := [(4, .int (iZ (↑i + 1))), (2, .long (lZ (y + (fn i)))), (0, .ref r0), (1, .ref h)]) hx hb dX4_bareSum_33 hl (k := 3) rfl (show iZ ↑i + iZ 1 = _ from iZ_add _ _) (by decide) rfl (fun ls hl => ?_)
      refine lv_goto (tgt := 5) hx hb dX4_bareSum_36 (by decide) ?_
      exact ih _ _ (by omega) ⟨(i + 1), (y + (fn i)), rfl, (by omega), lv_sub hl [2, 3, 1, 0] rfl⟩
set_option maxHeartbeats 4000000 in
set_option maxRecDepth 100000 in
theorem c_X4_bound (l : Launch) (D : va_G) (cI cJ cB cZ : ClassId) (r0 an ax h a1 a2 a3 : Nat) (fn fx : Nat → Int) (pp qq st ch er : Int) (f1 f2 f3 : Nat → Int) (n sz wh : Int) (N : Nat) (E : Ed) (w : Nat → Nat) (hG : GR N E w f1 f2 f3 n sz wh) (P Q : Nat) (x : Nat → Nat) (hR : RK N P Q x fn pp qq)  : Met l yX4_bound wsX4_bound ({ frames := 1, cells := 0, slots := 0, locals := 23 } : Room) (Pre0 D cI cJ cB cZ [.ref r0, .ref h] (wRa cJ r0 an ax fn fx pp qq st ch er ++ wGr cI h a1 a2 a3 f1 f2 f3 n sz wh)) (roL (fun z => z = er + (((fst E N N + 2 * N) * Q / (Q - P) : Nat) : Int) + 1)) 0 0 (fun _ => False) := by
  refine Met.ofW (cc := cX4_bound) (maxL := 4) (ret := (some .long)) (by decide) rfl ?_
  intro p e s m args below meth c s₁ B hml hv
  obtain ⟨rfl, hP, hE⟩ := hv
  have hx := B.exec
  have hb := B.bytes
  have hr := B.returns
  have hts := atoms_spec (ws := wsX4_bound) B.pre
  have hown : s.vm.findClass RX4 = some m.cls := findClass_of_methodNamed B.named
  have hlocks := B.notSynchronized
  have hK := hE.1
  have hi_2 : ∀ w ∈ wsX20, w ∈ wsX4_bound := by decide +kernel
  have hi_4 : ∀ w ∈ wsX40, w ∈ wsX4_bound := by decide +kernel
  have hw_1 := hE.nl (w := .fieldLinkNest RX4 72 "RankHouse$Graph" "size" "I" "RankHouse") (by decide +kernel) ([.ref r0, .ref h] : List Value).toArray
  have hw_2 := hts (.constantLong RX4 75 (2)) (by decide +kernel)
  have hw_3 := hE.nl (w := .fieldLinkNest RX4 48 "RankHouse$Graph" "nodes" "I" "RankHouse") (by decide +kernel) ([.ref r0, .ref h] : List Value).toArray
  have hw_4 := hts (.fieldLink RX4 40 "RankHouse$Ranks" "error" "J") (by decide +kernel)
  have hw_5 := hts (.fieldLink RX4 22 "RankHouse$Ranks" "q" "I") (by decide +kernel)
  have hw_6 := hts (.fieldLink RX4 18 "RankHouse$Ranks" "p" "I") (by decide +kernel)
  have hw_7 := hts (.initialized RX5) (by decide +kernel)
  have hw_8 := hts (.static yX5_quotient) (by decide +kernel)
  have hl := lv_entry ([.ref r0, .ref h]) (n := 4) (Nat.le_of_ble_eq_true rfl)
  rw [lg_entry_eq]
  generalize (lg_sl ([.ref r0, .ref h]) ++ List.replicate (4 - (lg_sl ([.ref r0, .ref h])).length) Slot.unset).toArray = ls at hl ⊢
  have hl : lv_has ls 4 [(0, .ref r0), (1, .ref h)] := hl
  obtain ⟨g1, g2, g3, g4, g5, g6, g7, g8, g9, g10, g11⟩ := id hG
  obtain ⟨k1, k2, k3, k4, k5, k6⟩ := id hR
  have b1 := Nat.mul_le_mul_right Q (show fst E N N + 2 * N ≤ 3000 by omega)
  refine lv_aload_n hx hb dX4_bound_0 rfl (lv_at hl 1 rfl) ?_
  refine va_getN (v := .int (iZ sz)) (C := RX2) (T := TX2) (N := 6) (ci := 2) hx hb hts hi_2 hown hK hP 3 rfl rfl 4 (by decide) hw_1 (fun _ h9 => h9) rfl dX4_bound_1 ?_
  refine z_i2l hx hb dX4_bound_4 (by omega) ?_
  refine z_ldc2 hx hb (2) hown hw_2 (by decide) dX4_bound_5 ?_
  refine lv_aload_n hx hb dX4_bound_8 rfl (lv_at hl 1 rfl) ?_
  refine va_getN (v := .int (iZ n)) (C := RX2) (T := TX2) (N := 6) (ci := 2) hx hb hts hi_2 hown hK hP 3 rfl rfl 3 (by decide) hw_3 (fun _ h9 => h9) rfl dX4_bound_9 ?_
  refine z_i2l hx hb dX4_bound_12 (by omega) ?_
  refine z_lmul hx hb dX4_bound_13 ?_
  refine z_ladd hx hb dX4_bound_14 ?_
  refine z_tol (((fst E N N + 2 * N : Nat) : Int)) (by omega) ?_
  refine lv_lstore_n (lv' := [(2, .long (lZ ((fst E N N + 2 * N : Nat) : Int))), (0, .ref r0), (1, .ref h)]) hx hb dX4_bound_15 rfl hl (by decide) rfl (fun ls hl => ?_)
  refine lv_aload_n hx hb dX4_bound_16 rfl (lv_at hl 1 rfl) ?_
  refine va_get (v := .long (lZ er)) (C := RX4) (T := TX4) (N := 7) (ci := 4) hx hb hts hi_4 hown hK hP 0 rfl rfl 6 (by decide) hw_4 (fun _ h9 => h9) rfl dX4_bound_17 ?_
  refine lv_lload_n hx hb dX4_bound_20 rfl (lv_at hl 0 rfl) ?_
  refine lv_aload_n hx hb dX4_bound_21 rfl (lv_at hl 1 rfl) ?_
  refine va_get (v := .int (iZ qq)) (C := RX4) (T := TX4) (N := 7) (ci := 4) hx hb hts hi_4 hown hK hP 0 rfl rfl 3 (by decide) hw_5 (fun _ h9 => h9) rfl dX4_bound_22 ?_
  refine z_i2l hx hb dX4_bound_25 (by omega) ?_
  refine z_lmul hx hb dX4_bound_26 ?_
  refine z_tol ((((fst E N N + 2 * N) * Q : Nat) : Int)) (by rw [k2, Int.natCast_mul]) ?_
  refine lv_aload_n hx hb dX4_bound_27 rfl (lv_at hl 1 rfl) ?_
  refine va_get (v := .int (iZ qq)) (C := RX4) (T := TX4) (N := 7) (ci := 4) hx hb hts hi_4 hown hK hP 0 rfl rfl 3 (by decide) hw_5 (fun _ h9 => h9) rfl dX4_bound_28 ?_
  refine lv_aload_n hx hb dX4_bound_31 rfl (lv_at hl 1 rfl) ?_
  refine va_get (v := .int (iZ pp)) (C := RX4) (T := TX4) (N := 7) (ci := 4) hx hb hts hi_4 hown hK hP 0 rfl rfl 2 (by decide) hw_6 (fun _ h9 => h9) rfl dX4_bound_32 ?_
  refine z_isub hx hb dX4_bound_35 ?_
  refine z_i2l hx hb dX4_bound_36 (by omega) ?_
  refine z_tol (((Q - P : Nat) : Int)) (by omega) ?_
  refine ro_l (va_runSN (As := [.long (lZ (((fst E N N + 2 * N) * Q : Nat) : Int)), .long (lZ ((Q - P : Nat) : Int))]) (rest := [.long (lZ er)]) ⟨hx, hb, hml, hown, hts⟩ (c_X5_quotient l D cI cJ cB cZ (((fst E N N + 2 * N) * Q : Nat) : Int) ((Q - P : Nat) : Int) (by omega) (by omega)) (⟨va_cnB 2 hts ggX4_bound_X5_quotient rfl rfl rfl (hE.2 (.methodLinkNest RX4 27 yX5_quotient "RankHouse") (by decide +kernel)) hw_7 (by decide +kernel) ⟨Nat.le_of_ble_eq_true rfl, Nat.le_of_ble_eq_true rfl⟩, hw_8, trivial⟩) (pre0S hE (hP.sub (ws' := []) [] rfl)) rfl rfl hl.1 rfl (lv_room (Nat.le_of_ble_eq_true rfl)) dX4_bound_37 ⟨Nat.le_of_ble_eq_true rfl, Nat.le_of_ble_eq_true rfl⟩) (fun r_1 hr_2 => ?_)
  subst hr_2
  refine z_tol (((((fst E N N + 2 * N) * Q) / (Q - P) : Nat) : Int)) (by rw [Int.natCast_ediv]) ?_
  refine z_ladd hx hb dX4_bound_40 ?_
  refine z_lconst hx hb 1  dX4_bound_41 rfl ?_
  refine z_ladd hx hb dX4_bound_42 ?_
  exact ro_lret (z := (er + ((((fst E N N + 2 * N) * Q) / (Q - P) : Nat) : Int)) + 1) hx hb hr hlocks rfl dX4_bound_43
set_option maxHeartbeats 4000000 in
set_option maxRecDepth 100000 in
theorem c_X4_areStill (l : Launch) (D : va_G) (cI cJ cB cZ : ClassId) (r0 an ax : Nat) (fn fx : Nat → Int) (pp qq st ch er : Int) (sm : Int) (hst : 0 ≤ st ∧ st < 2147483648) (hch : 0 ≤ ch ∧ ch < 9223372036854775808) (hsm : -9223372036854775808 ≤ sm ∧ sm < 9223372036854775808) : Met l yX4_areStill wsX4_areStill ({ frames := 0, cells := 0, slots := 0, locals := 0 } : Room) (Pre0 D cI cJ cB cZ [.ref r0, .long (lZ sm)] (wRa cJ r0 an ax fn fx pp qq st ch er)) (roI (fun z => (z = 1 ∧ (0 < st ∧ ch ≤ sm)) ∨ (z = 0 ∧ ¬ (0 < st ∧ ch ≤ sm)))) 0 0 (fun _ => False) := by
  refine Met.ofW (cc := cX4_areStill) (maxL := 3) (ret := (some .boolean)) (by decide) rfl ?_
  intro p e s m args below meth c s₁ B hml hv
  obtain ⟨rfl, hP, hE⟩ := hv
  have hx := B.exec
  have hb := B.bytes
  have hr := B.returns
  have hts := atoms_spec (ws := wsX4_areStill) B.pre
  have hown : s.vm.findClass RX4 = some m.cls := findClass_of_methodNamed B.named
  have hlocks := B.notSynchronized
  have hK := hE.1
  have hi_4 : ∀ w ∈ wsX40, w ∈ wsX4_areStill := by decide +kernel
  have hw_1 := hts (.fieldLink RX4 31 "RankHouse$Ranks" "steps" "I") (by decide +kernel)
  have hw_2 := hts (.fieldLink RX4 36 "RankHouse$Ranks" "change" "J") (by decide +kernel)
  have hl := lv_entry ([.ref r0, .long (lZ sm)]) (n := 3) (Nat.le_of_ble_eq_true rfl)
  rw [lg_entry_eq]
  generalize (lg_sl ([.ref r0, .long (lZ sm)]) ++ List.replicate (3 - (lg_sl ([.ref r0, .long (lZ sm)])).length) Slot.unset).toArray = ls at hl ⊢
  have hl : lv_has ls 3 [(0, .ref r0), (1, .long (lZ sm))] := hl
  refine lv_aload_n hx hb dX4_areStill_0 rfl (lv_at hl 0 rfl) ?_
  refine va_get (v := .int (iZ st)) (C := RX4) (T := TX4) (N := 7) (ci := 4) hx hb hts hi_4 hown hK hP 0 rfl rfl 4 (by decide) hw_1 (fun _ h9 => h9) rfl dX4_areStill_1 ?_
  refine z_if_le (tgt := 20) hx hb dX4_areStill_4 (by decide) (by omega) (fun c_1 => ?_) (fun c_1 => ?_)
  · refine z_iconst hx hb dX4_areStill_20 ?_
    exact ro_zret (z := 0) hx hb hr hlocks (Or.inl rfl) (by omega) dX4_areStill_21
  · refine lv_aload_n hx hb dX4_areStill_7 rfl (lv_at hl 0 rfl) ?_
    refine va_get (v := .long (lZ ch)) (C := RX4) (T := TX4) (N := 7) (ci := 4) hx hb hts hi_4 hown hK hP 0 rfl rfl 5 (by decide) hw_2 (fun _ h9 => h9) rfl dX4_areStill_8 ?_
    refine lv_lload_n hx hb dX4_areStill_11 rfl (lv_at hl 1 rfl) ?_
    refine z_lc_gt (tgt := 20) hx hb dX4_areStill_12 dX4_areStill_13 (by decide) (by omega) (by omega) (fun c_2 => ?_) (fun c_2 => ?_)
    · refine z_iconst hx hb dX4_areStill_20 ?_
      exact ro_zret (z := 0) hx hb hr hlocks (Or.inl rfl) (by omega) dX4_areStill_21
    · refine z_iconst hx hb dX4_areStill_16 ?_
      refine lv_goto (tgt := 21) hx hb dX4_areStill_17 (by decide) ?_
      exact ro_zret (z := 1) hx hb hr hlocks (Or.inr rfl) (by omega) dX4_areStill_21
set_option maxHeartbeats 4000000 in
set_option maxRecDepth 100000 in
theorem c_X4_damp (l : Launch) (D : va_G) (cI cJ cB cZ : ClassId) (r0 an ax : Nat) (fn fx : Nat → Int) (pp qq st ch er : Int) (a b : Int) (ha : -2147483648 ≤ a ∧ a < 2147483648) (hb0 : -2147483648 ≤ b ∧ b < 2147483648) (sz0 : Nat) : Met l yX4_damp wsX4_damp ({ frames := 0, cells := 0, slots := 0, locals := 0 } : Room) (Pre1 D cI cJ cB cZ [.ref r0, .int (iZ a), .int (iZ b)] (wRa cJ r0 an ax fn fx pp qq st ch er) sz0) (rwI (S := Int × Int) D (fun z U => (z = 1 ∧ (0 ≤ a ∧ a < b ∧ b < 1073741824) ∧ U = (a, b)) ∨ (z = 0 ∧ ¬ (0 ≤ a ∧ a < b ∧ b < 1073741824) ∧ U = (pp, qq))) (fun u => wRa cJ r0 an ax fn fx u.1 u.2 st ch er) (va_A (wRa cJ r0 an ax fn fx pp qq st ch er) sz0)) 0 0 (va_A (wRa cJ r0 an ax fn fx pp qq st ch er) sz0) := by
  refine Met.ofW (cc := cX4_damp) (maxL := 3) (ret := (some .boolean)) (by decide) rfl ?_
  intro p e s m args below meth c s₁ B hml hv
  obtain ⟨rfl, hsz, hP, hE, hD0⟩ := hv
  have hx := B.exec
  have hb := B.bytes
  have hr := B.returns
  have hts := atoms_spec (ws := wsX4_damp) B.pre
  have hown : s.vm.findClass RX4 = some m.cls := findClass_of_methodNamed B.named
  have hlocks := B.notSynchronized
  have hK := hE.1
  subst hsz
  have hD := hD0.self (sz := s.heap.size)
  generalize hAe : va_A (wRa cJ r0 an ax fn fx pp qq st ch er) s.heap.size = A at hD ⊢
  have hA : ∀ q : Nat, s.heap.size ≤ q → A q := fun q h => by rw [← hAe]; exact Or.inr h
  have hS : va_S A s.heap s.heap [] := va_S.rf
  have hP : va_P D vwCl (wRa cJ r0 an ax fn fx pp qq st ch er) s.heap := hP
  have hi_4 : ∀ w ∈ wsX40, w ∈ wsX4_damp := by decide +kernel
  have hw_1 := hts (.constant RX4 43 (1073741824)) (by decide +kernel)
  have hw_2 := hts (.fieldLink RX4 18 "RankHouse$Ranks" "p" "I") (by decide +kernel)
  have hw_3 := hts (.fieldLink RX4 22 "RankHouse$Ranks" "q" "I") (by decide +kernel)
  have hl := lv_entry ([.ref r0, .int (iZ a), .int (iZ b)]) (n := 3) (Nat.le_of_ble_eq_true rfl)
  rw [lg_entry_eq]
  generalize (lg_sl ([.ref r0, .int (iZ a), .int (iZ b)]) ++ List.replicate (3 - (lg_sl ([.ref r0, .int (iZ a), .int (iZ b)])).length) Slot.unset).toArray = ls at hl ⊢
  have hl : lv_has ls 3 [(0, .ref r0), (1, .int (iZ a)), (2, .int (iZ b))] := hl
  refine lv_iload_n hx hb dX4_damp_0 rfl (lv_at hl 1 rfl) ?_
  refine z_if_lt (tgt := 15) hx hb dX4_damp_1 (by decide) (by omega) (fun c_1 => ?_) (fun c_1 => ?_)
  · refine z_iconst hx hb dX4_damp_15 ?_
    exact rw_zret (z := 0) (pp, qq) hx hb hr hlocks (Or.inl rfl) hP hD hS (Or.inr ⟨rfl, by omega, rfl⟩) dX4_damp_16
  · refine lv_iload_n hx hb dX4_damp_4 rfl (lv_at hl 1 rfl) ?_
    refine lv_iload_n hx hb dX4_damp_5 rfl (lv_at hl 2 rfl) ?_
    refine z_icmp_ge (tgt := 15) hx hb dX4_damp_6 (by decide) (by omega) (by omega) (fun c_2 => ?_) (fun c_2 => ?_)
    · refine z_iconst hx hb dX4_damp_15 ?_
      exact rw_zret (z := 0) (pp, qq) hx hb hr hlocks (Or.inl rfl) hP hD hS (Or.inr ⟨rfl, by omega, rfl⟩) dX4_damp_16
    · refine lv_iload_n hx hb dX4_damp_9 rfl (lv_at hl 2 rfl) ?_
      refine z_ldc hx hb (1073741824) hown hw_1 (by decide) dX4_damp_10 ?_
      refine z_icmp_lt (tgt := 17) hx hb dX4_damp_12 (by decide) (by omega) (by omega) (fun c_3 => ?_) (fun c_3 => ?_)
      · refine lv_aload_n hx hb dX4_damp_17 rfl (lv_at hl 0 rfl) ?_
        refine lv_iload_n hx hb dX4_damp_18 rfl (lv_at hl 1 rfl) ?_
        refine va_put (v := .int (iZ a)) (ty := .int) (C := RX4) (T := TX4) (N := 7) (ci := 4) hx hb hts hi_4 tyX4 tyX4_ok nmX4 hown hK hP hD hS 0 rfl rfl 2 (by decide) hw_2 (fun _ h9 => h9) rfl (by decide +kernel) rfl rfl (Nat.le_of_ble_eq_true rfl) dX4_damp_19 (fun H locs hP hD hS => ?_)
        have hP : va_P D vwCl (wRa cJ r0 an ax fn fx a qq st ch er) H := hP
        have hD : va_D A (wRa cJ r0 an ax fn fx a qq st ch er) := hD
        refine lv_aload_n hx hb dX4_damp_22 rfl (lv_at hl 0 rfl) ?_
        refine lv_iload_n hx hb dX4_damp_23 rfl (lv_at hl 2 rfl) ?_
        refine va_put (v := .int (iZ b)) (ty := .int) (C := RX4) (T := TX4) (N := 7) (ci := 4) hx hb hts hi_4 tyX4 tyX4_ok nmX4 hown hK hP hD hS 0 rfl rfl 3 (by decide) hw_3 (fun _ h9 => h9) rfl (by decide +kernel) rfl rfl (Nat.le_of_ble_eq_true rfl) dX4_damp_24 (fun H locs hP hD hS => ?_)
        have hP : va_P D vwCl (wRa cJ r0 an ax fn fx a b st ch er) H := hP
        have hD : va_D A (wRa cJ r0 an ax fn fx a b st ch er) := hD
        refine z_iconst hx hb dX4_damp_27 ?_
        exact rw_zret (z := 1) (a, b) hx hb hr hlocks (Or.inr rfl) hP hD hS (Or.inl ⟨rfl, by omega, rfl⟩) dX4_damp_28
      · refine z_iconst hx hb dX4_damp_15 ?_
        exact rw_zret (z := 0) (pp, qq) hx hb hr hlocks (Or.inl rfl) hP hD hS (Or.inr ⟨rfl, by omega, rfl⟩) dX4_damp_16
set_option maxHeartbeats 4000000 in
set_option maxRecDepth 100000 in
theorem c_X4_distance (l : Launch) (D : va_G) (cI cJ cB cZ : ClassId) (r0 an ax : Nat) (fn fx : Nat → Int) (pp qq st ch er : Int) (N : Nat) (x y : Nat → Nat) (n : Int) (hN : N ≤ 250) (hn : n = (N : Int)) (k5 : ∀ u, u < N → fn u = (x u : Int)) (k6 : ∀ u, u < N → fx u = (y u : Int)) (k7 : fb_sm x N ≤ 4294967296) (k8 : fb_sm y N ≤ 4294967296) : Met l yX4_distance wsX4_distance ({ frames := 1, cells := 0, slots := 0, locals := 15 } : Room) (Pre0 D cI cJ cB cZ [.ref r0, .int (iZ n)] (wRa cJ r0 an ax fn fx pp qq st ch er)) (roL (fun z => z = ((chg N x y : Nat) : Int))) 0 0 (fun _ => False) := by
  refine Met.ofW (cc := cX4_distance) (maxL := 5) (ret := (some .long)) (by decide) rfl ?_
  intro p e s m args below meth c s₁ B hml hv
  obtain ⟨rfl, hP, hE⟩ := hv
  have hx := B.exec
  have hb := B.bytes
  have hr := B.returns
  have hts := atoms_spec (ws := wsX4_distance) B.pre
  have hown : s.vm.findClass RX4 = some m.cls := findClass_of_methodNamed B.named
  have hlocks := B.notSynchronized
  have hK := hE.1
  have hi_4 : ∀ w ∈ wsX40, w ∈ wsX4_distance := by decide +kernel
  have hw_1 := hts (.fieldLink RX4 15 "RankHouse$Ranks" "next" "[J") (by decide +kernel)
  have hw_2 := hts (.fieldLink RX4 9 "RankHouse$Ranks" "now" "[J") (by decide +kernel)
  have hw_3 := hts (.methodLink RX4 87 Lib.MathLoose.abs_long.x) (by decide +kernel)
  have hw_4 := hts (.static Lib.MathLoose.abs_long.x) (by decide +kernel)
  have hw_5 := hts (.initialized "java/lang/Math") (by decide +kernel)
  have hw_6 := hts (.code Lib.MathLoose.abs_long.x Lib.MathLoose.abs_long.code 2 (some .long)) (by decide +kernel)
  have hl := lv_entry ([.ref r0, .int (iZ n)]) (n := 5) (Nat.le_of_ble_eq_true rfl)
  rw [lg_entry_eq]
  generalize (lg_sl ([.ref r0, .int (iZ n)]) ++ List.replicate (5 - (lg_sl ([.ref r0, .int (iZ n)])).length) Slot.unset).toArray = ls at hl ⊢
  have hl : lv_has ls 5 [(0, .ref r0), (1, .int (iZ n))] := hl
  refine z_lconst hx hb 0  dX4_distance_0 rfl ?_
  refine lv_lstore_n (lv' := [(2, .long (lZ 0)), (0, .ref r0), (1, .int (iZ n))]) hx hb dX4_distance_1 rfl hl (by decide) rfl (fun ls hl => ?_)
  refine z_iconst hx hb dX4_distance_2 ?_
  refine lv_istore (lv' := [(4, .int (iZ 0)), (2, .long (lZ 0)), (0, .ref r0), (1, .int (iZ n))]) hx hb dX4_distance_3 hl (by decide) rfl (fun ls hl => ?_)
  refine w_loop0 (fun kf ls => ∃ (i : Nat), ∃ (t : Int), kf = N - i ∧ (i ≤ N ∧ t = ((fb_sm (fun v => dis (x v) (y v)) i : Nat) : Int)) ∧ lv_has ls 5 [(0, .ref r0), (1, .int (iZ n)), (2, .long (lZ t)), (4, .int (iZ ↑i))]) ?_ _ ⟨0, 0, rfl, ⟨by omega, rfl⟩, lv_sub hl [2, 3, 1, 0] rfl⟩
  rintro kf ls ⟨i, t, hk, hinv, hl⟩ ih
  refine lv_iload hx hb dX4_distance_5 (lv_at hl 3 rfl) ?_
  refine lv_iload_n hx hb dX4_distance_7 rfl (lv_at hl 1 rfl) ?_
  refine z_icmp_ge (tgt := 38) hx hb dX4_distance_8 (by decide) (by omega) (by omega) (fun c_1 => ?_) (fun c_1 => ?_)
  · refine lv_lload_n hx hb dX4_distance_38 rfl (lv_at hl 2 rfl) ?_
    exact ro_lret (z := t) hx hb hr hlocks (by rw [show i = N by omega] at hinv; exact hinv.2) dX4_distance_39
  · have q5 := k5 i (by omega)
    have q6 := k6 i (by omega)
    have q7 := sm_at (x := x) (show i < N by omega)
    have q8 := sm_at (x := y) (show i < N by omega)
    have sS : fb_sm (fun v => dis (x v) (y v)) (i + 1) = fb_sm (fun v => dis (x v) (y v)) i + dis (x i) (y i) := fb_sm_succ _ i
    refine lv_lload_n hx hb dX4_distance_11 rfl (lv_at hl 2 rfl) ?_
    refine lv_aload_n hx hb dX4_distance_12 rfl (lv_at hl 0 rfl) ?_
    refine va_get (v := .ref ax) (C := RX4) (T := TX4) (N := 7) (ci := 4) hx hb hts hi_4 hown hK hP 0 rfl rfl 1 (by decide) hw_1 (fun _ h9 => h9) rfl dX4_distance_13 ?_
    refine lv_iload hx hb dX4_distance_16 (lv_at hl 3 rfl) ?_
    refine z_lald hx hb hK hP 2 1 rfl rfl i (by omega) (by omega) (by omega) dX4_distance_18 ?_
    refine lv_aload_n hx hb dX4_distance_19 rfl (lv_at hl 0 rfl) ?_
    refine va_get (v := .ref an) (C := RX4) (T := TX4) (N := 7) (ci := 4) hx hb hts hi_4 hown hK hP 0 rfl rfl 0 (by decide) hw_2 (fun _ h9 => h9) rfl dX4_distance_20 ?_
    refine lv_iload hx hb dX4_distance_23 (lv_at hl 3 rfl) ?_
    refine z_lald hx hb hK hP 1 1 rfl rfl i (by omega) (by omega) (by omega) dX4_distance_25 ?_
    refine z_lsub hx hb dX4_distance_26 ?_
    refine z_labs hx hb (hml.trans hl.1.symm) hown hw_3 hw_4 hw_5 hw_6 (Nat.le_of_ble_eq_true rfl) (Nat.le_of_ble_eq_true rfl) (Nat.zero_le _) (Nat.zero_le _) (by omega) dX4_distance_27 ?_
    refine z_tol (((dis (x i) (y i) : Nat) : Int)) (by rw [q5, q6]; exact dis_eq) ?_
    refine z_ladd hx hb dX4_distance_30 ?_
    refine lv_lstore_n (lv' := [(2, .long (lZ (t + ((dis (x i) (y i) : Nat) : Int)))), (0, .ref r0), (1, .int (iZ n)), (4, .int (iZ ↑i))]) hx hb dX4_distance_31 rfl hl (by decide) rfl (fun ls hl => ?_)
    refine lv_iinc (v := iZ (↑i + 1)) (lv' := [(4, .int (iZ (↑i + 1))), (2, .long (lZ (t + ((dis (x i) (y i) : Nat) : Int)))), (0, .ref r0), (1, .int (iZ n))]) hx hb dX4_distance_32 hl (k := 3) rfl (show iZ ↑i + iZ 1 = _ from iZ_add _ _) (by decide) rfl (fun ls hl => ?_)
    refine lv_goto (tgt := 5) hx hb dX4_distance_35 (by decide) ?_
    exact ih _ _ (by omega) ⟨(i + 1), (t + ((dis (x i) (y i) : Nat) : Int)), rfl, (by omega), lv_sub hl [2, 3, 1, 0] rfl⟩
