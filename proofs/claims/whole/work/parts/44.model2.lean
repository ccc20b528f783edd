set_option maxHeartbeats 4000000 in
set_option maxRecDepth 100000 in
theorem c_X6_bare (l : Launch) (D : va_G) (cI cJ cB cZ : ClassId) (h a1 a2 a3 a4 a5 a6 a7 : Nat) (thr : Int) (eg fr wt rk nx : Nat → Int) (nd es pp qq st ch bo : Int) (tp : Nat → Int) (le sz at_ fa fp nu fm nn : Int) (ou : Nat → Int) (om : Int) (N : Nat) (E : Ed) (w : Nat → Nat) (hM : MG N E w eg wt nd es) (P Q : Nat) (x : Nat → Nat) (hR : RK N P Q x rk pp qq)  : Met l yX6_bare wsX6_bare ({ frames := 2, cells := 0, slots := 0, locals := 46 } : Room) (Pre0 D cI cJ cB cZ [.ref h] (wMo cI cJ cB cZ h a1 a2 a3 a4 a5 a6 a7 thr eg fr wt rk nx nd es pp qq st ch bo tp le sz at_ fa fp nu fm nn ou om)) (roL (fun z => z = ((bar E N x : Nat) : Int))) 0 0 (fun _ => False) := by
  refine Met.ofW (cc := cX6_bare) (maxL := 4) (ret := (some .long)) (by decide) rfl ?_
  intro p e s m args below meth c s₁ B hml hv
  obtain ⟨rfl, hP, hE⟩ := hv
  have hx := B.exec
  have hb := B.bytes
  have hr := B.returns
  have hts := atoms_spec (ws := wsX6_bare) B.pre
  have hown : s.vm.findClass RX6 = some m.cls := findClass_of_methodNamed B.named
  have hlocks := B.notSynchronized
  have hK := hE.1
  have hi_6 : ∀ w ∈ wsX60, w ∈ wsX6_bare := by decide +kernel
  have hw_1 := hts (.fieldLink RX6 32 "RankHouseModel" "nodes" "I") (by decide +kernel)
  have hw_2 := hts (.fieldLink RX6 25 "RankHouseModel" "rank" "[J") (by decide +kernel)
  have hl := lv_entry ([.ref h]) (n := 4) (Nat.le_of_ble_eq_true rfl)
  rw [lg_entry_eq]
  generalize (lg_sl ([.ref h]) ++ List.replicate (4 - (lg_sl ([.ref h])).length) Slot.unset).toArray = ls at hl ⊢
  have hl : lv_has ls 4 [(0, .ref h)] := hl
  obtain ⟨m1, m2, m3, m4, m5, m6, m7, m8, m9⟩ := id hM
  obtain ⟨k1, k2, k3, k4, k5, k6⟩ := id hR
  refine z_lconst hx hb 0  dX6_bare_0 rfl ?_
  refine lv_lstore_n (lv' := [(1, .long (lZ 0)), (0, .ref h)]) hx hb dX6_bare_1 rfl hl (by decide) rfl (fun ls hl => ?_)
  refine z_iconst hx hb dX6_bare_2 ?_
  refine lv_istore_n (lv' := [(3, .int (iZ 0)), (1, .long (lZ 0)), (0, .ref h)]) hx hb dX6_bare_3 rfl hl (by decide) rfl (fun ls hl => ?_)
  refine w_loop0 (fun kf ls => ∃ (i : Nat), ∃ (y : Int), kf = N - i ∧ (i ≤ N ∧ y = ((fb_sm (fun u => if dgr E N u = 0 then x u else 0) i : Nat) : Int)) ∧ lv_has ls 4 [(0, .ref h), (1, .long (lZ y)), (3, .int (iZ ↑i))]) ?_ _ ⟨0, 0, rfl, ⟨by omega, rfl⟩, lv_sub hl [2, 1, 0] rfl⟩
  rintro kf ls ⟨i, y, hk, hinv, hl⟩ ih
  refine lv_iload_n hx hb dX6_bare_4 rfl (lv_at hl 2 rfl) ?_
  refine lv_aload_n hx hb dX6_bare_5 rfl (lv_at hl 0 rfl) ?_
  refine va_get (v := .int (iZ nd)) (C := RX6) (T := TX6) (N := 24) (ci := 6) hx hb hts hi_6 hown hK hP 0 rfl rfl 6 (by decide) hw_1 (fun _ h9 => h9) rfl dX6_bare_6 ?_
  refine z_icmp_ge (tgt := 40) hx hb dX6_bare_9 (by decide) (by omega) (by omega) (fun c_1 => ?_) (fun c_1 => ?_)
  · refine lv_lload_n hx hb dX6_bare_40 rfl (lv_at hl 1 rfl) ?_
    exact ro_lret (z := y) hx hb hr hlocks (by rw [show i = N by omega] at hinv; exact hinv.2) dX6_bare_41
  · have q8 := k5 i (by omega)
    have sS : fb_sm (fun u => if dgr E N u = 0 then x u else 0) (i + 1) = fb_sm (fun u => if dgr E N u = 0 then x u else 0) i + (if dgr E N i = 0 then x i else 0) := fb_sm_succ _ i
    refine lv_lload_n hx hb dX6_bare_12 rfl (lv_at hl 1 rfl) ?_
    refine lv_aload_n hx hb dX6_bare_13 rfl (lv_at hl 0 rfl) ?_
    refine lv_iload_n hx hb dX6_bare_14 rfl (lv_at hl 2 rfl) ?_
    refine z_iconst hx hb dX6_bare_15 ?_
    refine ro_i (va_runV (As := [.int (iZ ↑i), .int (iZ 0)]) (rest := [.long (lZ y)]) ⟨hx, hb, hml, hown, hts⟩ (c_X6_many0 l D cI cJ cB cZ h a1 a2 a3 a4 a5 a6 a7 thr eg fr wt rk nx nd es pp qq st ch bo tp le sz at_ fa fp nu fm nn ou om (↑i) N E w hM (by omega)) (cwV 2 hts gX6_bare_X6_many rfl rfl rfl (by decide +kernel) ⟨Nat.le_of_ble_eq_true rfl, Nat.le_of_ble_eq_true rfl⟩) (pre0V hE hP 0 rfl rfl) rfl rfl hl.1 rfl (lv_room (Nat.le_of_ble_eq_true rfl)) dX6_bare_16 ⟨Nat.le_of_ble_eq_true rfl, Nat.le_of_ble_eq_true rfl⟩) (fun r_2 hr_3 => ?_)
    have q4 : r_2 = ((dgr E N i : Nat) : Int) := by rw [hr_3, Int.toNat_natCast]; rfl
    have q7 := dgr_le E N i
    refine z_if_ne (tgt := 31) hx hb dX6_bare_19 (by decide) (by omega) (fun c_4 => ?_) (fun c_4 => ?_)
    · rw [if_neg (show ¬ dgr E N i = 0 by omega)] at sS
      refine z_lconst hx hb 0  dX6_bare_31 rfl ?_
      refine z_ladd hx hb dX6_bare_32 ?_
      refine lv_lstore_n (lv' := [(1, .long (lZ (y + 0))), (0, .ref h), (3, .int (iZ ↑i))]) hx hb dX6_bare_33 rfl hl (by decide) rfl (fun ls hl => ?_)
      refine lv_iinc (v := iZ (↑i + 1)) (lv' := [(3, .int (iZ (↑i + 1))), (1, .long (lZ (y + 0))), (0, .ref h)]) hx hb dX6_bare_34 hl (k := 2) rfl (show iZ ↑i + iZ 1 = _ from iZ_add _ _) (by decide) rfl (fun ls hl => ?_)
      refine lv_goto (tgt := 4) hx hb dX6_bare_37 (by decide) ?_
      exact ih _ _ (by omega) ⟨(i + 1), (y + 0), rfl, (by omega), lv_sub hl [2, 1, 0] rfl⟩
    · rw [if_pos (show dgr E N i = 0 by omega)] at sS
      refine lv_aload_n hx hb dX6_bare_22 rfl (lv_at hl 0 rfl) ?_
      refine va_get (v := .ref a4) (C := RX6) (T := TX6) (N := 24) (ci := 6) hx hb hts hi_6 hown hK hP 0 rfl rfl 4 (by decide) hw_2 (fun _ h9 => h9) rfl dX6_bare_23 ?_
      refine lv_iload_n hx hb dX6_bare_26 rfl (lv_at hl 2 rfl) ?_
      refine z_lald hx hb hK hP 4 1 rfl rfl i (by omega) (by omega) (by omega) dX6_bare_27 ?_
      refine lv_goto (tgt := 32) hx hb dX6_bare_28 (by decide) ?_
      refine z_ladd hx hb dX6_bare_32 ?_
      refine lv_lstore_n (lv' := [(1, .long (lZ (y + (rk i)))), (0, .ref h), (3, .int (iZ ↑i))]) hx hb dX6_bare_33 rfl hl (by decide) rfl (fun ls hl => ?_)
      refine lv_iinc (v := iZ (↑i + 1)) (lv' := [(3, .int (iZ (↑i + 1))), (1, .long (lZ (y + (rk i)))), (0, .ref h)]) hx hb dX6_bare_34 hl (k := 2) rfl (show iZ ↑i + iZ 1 = _ from iZ_add _ _) (by decide) rfl (fun ls hl => ?_)
      refine lv_goto (tgt := 4) hx hb dX6_bare_37 (by decide) ?_
      exact ih _ _ (by omega) ⟨(i + 1), (y + (rk i)), rfl, (by omega), lv_sub hl [2, 1, 0] rfl⟩
set_option maxHeartbeats 4000000 in
set_option maxRecDepth 100000 in
theorem c_X6_share (l : Launch) (D : va_G) (cI cJ cB cZ : ClassId) (h a1 a2 a3 a4 a5 a6 a7 : Nat) (thr : Int) (eg fr wt rk nx : Nat → Int) (nd es pp qq st ch bo : Int) (tp : Nat → Int) (le sz at_ fa fp nu fm nn : Int) (ou : Nat → Int) (om : Int) (u : Int) (N : Nat) (E : Ed) (w : Nat → Nat) (hM : MG N E w eg wt nd es) (P Q : Nat) (x : Nat → Nat) (hR : RK N P Q x rk pp qq) (hu : 0 ≤ u ∧ u < nd) (hd0 : 0 < dgr E N u.toNat)  : Met l yX6_share wsX6_share ({ frames := 2, cells := 0, slots := 0, locals := 46 } : Room) (Pre0 D cI cJ cB cZ [.ref h, .int (iZ u)] (wMo cI cJ cB cZ h a1 a2 a3 a4 a5 a6 a7 thr eg fr wt rk nx nd es pp qq st ch bo tp le sz at_ fa fp nu fm nn ou om)) (roL (fun z => z = ((shr E N P Q x u.toNat : Nat) : Int))) 0 0 (fun _ => False) := by
  refine Met.ofW (cc := cX6_share) (maxL := 2) (ret := (some .long)) (by decide) rfl ?_
  intro p e s m args below meth c s₁ B hml hv
  obtain ⟨rfl, hP, hE⟩ := hv
  have hx := B.exec
  have hb := B.bytes
  have hr := B.returns
  have hts := atoms_spec (ws := wsX6_share) B.pre
  have hown : s.vm.findClass RX6 = some m.cls := findClass_of_methodNamed B.named
  have hlocks := B.notSynchronized
  have hK := hE.1
  have hi_6 : ∀ w ∈ wsX60, w ∈ wsX6_share := by decide +kernel
  have hw_1 := hts (.fieldLink RX6 35 "RankHouseModel" "p" "I") (by decide +kernel)
  have hw_2 := hts (.fieldLink RX6 25 "RankHouseModel" "rank" "[J") (by decide +kernel)
  have hw_3 := hts (.fieldLink RX6 38 "RankHouseModel" "q" "I") (by decide +kernel)
  have hl := lv_entry ([.ref h, .int (iZ u)]) (n := 2) (Nat.le_of_ble_eq_true rfl)
  rw [lg_entry_eq]
  generalize (lg_sl ([.ref h, .int (iZ u)]) ++ List.replicate (2 - (lg_sl ([.ref h, .int (iZ u)])).length) Slot.unset).toArray = ls at hl ⊢
  have hl : lv_has ls 2 [(0, .ref h), (1, .int (iZ u))] := hl
  obtain ⟨m1, m2, m3, m4, m5, m6, m7, m8, m9⟩ := id hM
  obtain ⟨k1, k2, k3, k4, k5, k6⟩ := id hR
  have b0 := sm_at (x := x) (show u.toNat < N by omega)
  have b1 := Nat.mul_le_mul_left P (Nat.le_trans b0 k6)
  have b2 := Nat.mul_le_mul_left Q (Nat.le_trans (dgr_le E N u.toNat) m4)
  have b3 := dgr_le E N u.toNat
  have b4 : 0 < Q * dgr E N u.toNat := Nat.mul_pos (by omega) hd0
  refine lv_aload_n hx hb dX6_share_0 rfl (lv_at hl 0 rfl) ?_
  refine va_get (v := .int (iZ pp)) (C := RX6) (T := TX6) (N := 24) (ci := 6) hx hb hts hi_6 hown hK hP 0 rfl rfl 8 (by decide) hw_1 (fun _ h9 => h9) rfl dX6_share_1 ?_
  refine z_i2l hx hb dX6_share_4 (by omega) ?_
  refine lv_aload_n hx hb dX6_share_5 rfl (lv_at hl 0 rfl) ?_
  refine va_get (v := .ref a4) (C := RX6) (T := TX6) (N := 24) (ci := 6) hx hb hts hi_6 hown hK hP 0 rfl rfl 4 (by decide) hw_2 (fun _ h9 => h9) rfl dX6_share_6 ?_
  refine lv_iload_n hx hb dX6_share_9 rfl (lv_at hl 1 rfl) ?_
  refine z_lald hx hb hK hP 4 1 rfl rfl u.toNat (by omega) (by omega) (by omega) dX6_share_10 ?_
  refine z_lmul hx hb dX6_share_11 ?_
  refine z_tol (((P * x u.toNat : Nat) : Int)) (by rw [k1, k5 u.toNat (by omega), Int.natCast_mul]) ?_
  refine lv_aload_n hx hb dX6_share_12 rfl (lv_at hl 0 rfl) ?_
  refine va_get (v := .int (iZ qq)) (C := RX6) (T := TX6) (N := 24) (ci := 6) hx hb hts hi_6 hown hK hP 0 rfl rfl 9 (by decide) hw_3 (fun _ h9 => h9) rfl dX6_share_13 ?_
  refine z_i2l hx hb dX6_share_16 (by omega) ?_
  refine lv_aload_n hx hb dX6_share_17 rfl (lv_at hl 0 rfl) ?_
  refine lv_iload_n hx hb dX6_share_18 rfl (lv_at hl 1 rfl) ?_
  refine z_iconst hx hb dX6_share_19 ?_
  refine ro_i (va_runV (As := [.int (iZ u), .int (iZ 0)]) (rest := [.long (lZ qq), .long (lZ ((P * x u.toNat : Nat) : Int))]) ⟨hx, hb, hml, hown, hts⟩ (c_X6_many0 l D cI cJ cB cZ h a1 a2 a3 a4 a5 a6 a7 thr eg fr wt rk nx nd es pp qq st ch bo tp le sz at_ fa fp nu fm nn ou om u N E w hM (by omega)) (cwV 2 hts gX6_share_X6_many rfl rfl rfl (by decide +kernel) ⟨Nat.le_of_ble_eq_true rfl, Nat.le_of_ble_eq_true rfl⟩) (pre0V hE hP 0 rfl rfl) rfl rfl hl.1 rfl (lv_room (Nat.le_of_ble_eq_true rfl)) dX6_share_20 ⟨Nat.le_of_ble_eq_true rfl, Nat.le_of_ble_eq_true rfl⟩) (fun r_1 hr_2 => ?_)
  have q4 : r_1 = ((dgr E N u.toNat : Nat) : Int) := hr_2
  refine z_i2l hx hb dX6_share_23 (by omega) ?_
  refine z_lmul hx hb dX6_share_24 ?_
  refine z_tol (((Q * dgr E N u.toNat : Nat) : Int)) (by rw [k2, q4, Int.natCast_mul]) ?_
  refine z_ldiv hx hb dX6_share_25 (by omega) (by omega) ?_
  exact ro_lret (z := ((P * x u.toNat : Nat) : Int) / ((Q * dgr E N u.toNat : Nat) : Int)) hx hb hr hlocks (by rw [shr, Int.natCast_ediv]) dX6_share_26
set_option maxHeartbeats 4000000 in
set_option maxRecDepth 100000 in
theorem c_X6_begin (l : Launch) (D : va_G) (cI cJ cB cZ : ClassId) (h a1 a2 a3 a4 a5 a6 a7 : Nat) (thr : Int) (eg fr wt rk nx : Nat → Int) (nd es pp qq st ch bo : Int) (tp : Nat → Int) (le sz at_ fa fp nu fm nn : Int) (ou : Nat → Int) (om : Int) (N : Nat) (hN : 1 ≤ N ∧ N ≤ 250) (hn : nd = (N : Int))  (sz0 : Nat) : Met l yX6_begin wsX6_begin ({ frames := 0, cells := 0, slots := 0, locals := 0 } : Room) (Pre1 D cI cJ cB cZ [.ref h] (wMo cI cJ cB cZ h a1 a2 a3 a4 a5 a6 a7 thr eg fr wt rk nx nd es pp qq st ch bo tp le sz at_ fa fp nu fm nn ou om) sz0) (rwV (S := (Nat → Int) × Int × Int × Int) D (fun U => (∀ v, v < N → U.1 v = ((beg N v : Nat) : Int)) ∧ U.2 = (0, 8589934592, 8589934592)) (fun u => wMo cI cJ cB cZ h a1 a2 a3 a4 a5 a6 a7 thr eg fr wt u.1 nx nd es pp qq u.2.1 u.2.2.1 u.2.2.2 tp le sz at_ fa fp nu fm nn ou om) (va_A (wMo cI cJ cB cZ h a1 a2 a3 a4 a5 a6 a7 thr eg fr wt rk nx nd es pp qq st ch bo tp le sz at_ fa fp nu fm nn ou om) sz0)) 0 0 (va_A (wMo cI cJ cB cZ h a1 a2 a3 a4 a5 a6 a7 thr eg fr wt rk nx nd es pp qq st ch bo tp le sz at_ fa fp nu fm nn ou om) sz0) := by
  refine Met.ofW (cc := cX6_begin) (maxL := 2) (ret := none) (by decide) rfl ?_
  intro p e s m args below meth c s₁ B hml hv
  obtain ⟨rfl, hsz, hP, hE, hD0⟩ := hv
  have hx := B.exec
  have hb := B.bytes
  have hr := B.returns
  have hts := atoms_spec (ws := wsX6_begin) B.pre
  have hown : s.vm.findClass RX6 = some m.cls := findClass_of_methodNamed B.named
  have hlocks := B.notSynchronized
  have hK := hE.1
  subst hsz
  have hD := hD0.self (sz := s.heap.size)
  generalize hAe : va_A (wMo cI cJ cB cZ h a1 a2 a3 a4 a5 a6 a7 thr eg fr wt rk nx nd es pp qq st ch bo tp le sz at_ fa fp nu fm nn ou om) s.heap.size = A at hD ⊢
  have hA : ∀ q : Nat, s.heap.size ≤ q → A q := fun q h => by rw [← hAe]; exact Or.inr h
  have hS : va_S A s.heap s.heap [] := va_S.rf
  have hP : va_P D vwCl (wMo cI cJ cB cZ h a1 a2 a3 a4 a5 a6 a7 thr eg fr wt rk nx nd es pp qq st ch bo tp le sz at_ fa fp nu fm nn ou om) s.heap := hP
  have hi_6 : ∀ w ∈ wsX60, w ∈ wsX6_begin := by decide +kernel
  have hw_1 := hts (.fieldLink RX6 32 "RankHouseModel" "nodes" "I") (by decide +kernel)
  have hw_2 := hts (.fieldLink RX6 53 "RankHouseModel" "steps" "I") (by decide +kernel)
  have hw_3 := hts (.constantLong RX6 56 (8589934592)) (by decide +kernel)
  have hw_4 := hts (.fieldLink RX6 58 "RankHouseModel" "change" "J") (by decide +kernel)
  have hw_5 := hts (.fieldLink RX6 62 "RankHouseModel" "bound" "J") (by decide +kernel)
  have hw_6 := hts (.fieldLink RX6 25 "RankHouseModel" "rank" "[J") (by decide +kernel)
  have hw_7 := hts (.constantLong RX6 51 (4294967296)) (by decide +kernel)
  have hl := lv_entry ([.ref h]) (n := 2) (Nat.le_of_ble_eq_true rfl)
  rw [lg_entry_eq]
  generalize (lg_sl ([.ref h]) ++ List.replicate (2 - (lg_sl ([.ref h])).length) Slot.unset).toArray = ls at hl ⊢
  have hl : lv_has ls 2 [(0, .ref h)] := hl
  have mr := mod_r (show 0 < nd by omega)
  refine z_iconst hx hb dX6_begin_0 ?_
  refine lv_istore_n (lv' := [(1, .int (iZ 0)), (0, .ref h)]) hx hb dX6_begin_1 rfl hl (by decide) rfl (fun ls hl => ?_)
  refine w_loop (fun kf H locs ls => ∃ (i : Nat), ∃ (g : Nat → Int), kf = N - i ∧ (i ≤ N ∧ ∀ v, v < i → g v = ((beg N v : Nat) : Int)) ∧ va_P D vwCl (wMo cI cJ cB cZ h a1 a2 a3 a4 a5 a6 a7 thr eg fr wt g nx nd es pp qq st ch bo tp le sz at_ fa fp nu fm nn ou om) H ∧ va_D A (wMo cI cJ cB cZ h a1 a2 a3 a4 a5 a6 a7 thr eg fr wt g nx nd es pp qq st ch bo tp le sz at_ fa fp nu fm nn ou om) ∧ va_S A s.heap H locs ∧ lv_has ls 2 [(0, .ref h), (1, .int (iZ ↑i))]) ?_ _ ⟨0, rk, rfl, ⟨by omega, fun v hv => absurd hv (Nat.not_lt_zero v)⟩, hP, hD, hS, lv_sub hl [1, 0] rfl⟩
  rintro kf H locs ls ⟨i, g, hk, ⟨i1, i2⟩, hP, hD, hS, hl⟩ ih
  refine lv_iload_n hx hb dX6_begin_2 rfl (lv_at hl 1 rfl) ?_
  refine lv_aload_n hx hb dX6_begin_3 rfl (lv_at hl 0 rfl) ?_
  refine va_get (v := .int (iZ nd)) (C := RX6) (T := TX6) (N := 24) (ci := 6) hx hb hts hi_6 hown hK hP 0 rfl rfl 6 (by decide) hw_1 (fun _ h9 => h9) rfl dX6_begin_4 ?_
  refine z_icmp_ge (tgt := 52) hx hb dX6_begin_7 (by decide) (by omega) (by omega) (fun c_1 => ?_) (fun c_1 => ?_)
  · refine lv_aload_n hx hb dX6_begin_52 rfl (lv_at hl 0 rfl) ?_
    refine z_iconst hx hb dX6_begin_53 ?_
    refine va_put (v := .int (iZ 0)) (ty := .int) (C := RX6) (T := TX6) (N := 24) (ci := 6) hx hb hts hi_6 tyX6 tyX6_ok nmX6 hown hK hP hD hS 0 rfl rfl 10 (by decide) hw_2 (fun _ h9 => h9) rfl (by decide +kernel) rfl rfl (Nat.le_of_ble_eq_true rfl) dX6_begin_54 (fun H locs hP hD hS => ?_)
    have hP : va_P D vwCl (wMo cI cJ cB cZ h a1 a2 a3 a4 a5 a6 a7 thr eg fr wt g nx nd es pp qq 0 ch bo tp le sz at_ fa fp nu fm nn ou om) H := hP
    have hD : va_D A (wMo cI cJ cB cZ h a1 a2 a3 a4 a5 a6 a7 thr eg fr wt g nx nd es pp qq 0 ch bo tp le sz at_ fa fp nu fm nn ou om) := hD
    refine lv_aload_n hx hb dX6_begin_57 rfl (lv_at hl 0 rfl) ?_
    refine z_ldc2 hx hb (8589934592) hown hw_3 (by decide) dX6_begin_58 ?_
    refine va_put (v := .long (lZ 8589934592)) (ty := .long) (C := RX6) (T := TX6) (N := 24) (ci := 6) hx hb hts hi_6 tyX6 tyX6_ok nmX6 hown hK hP hD hS 0 rfl rfl 11 (by decide) hw_4 (fun _ h9 => h9) rfl (by decide +kernel) rfl rfl (Nat.le_of_ble_eq_true rfl) dX6_begin_61 (fun H locs hP hD hS => ?_)
    have hP : va_P D vwCl (wMo cI cJ cB cZ h a1 a2 a3 a4 a5 a6 a7 thr eg fr wt g nx nd es pp qq 0 8589934592 bo tp le sz at_ fa fp nu fm nn ou om) H := hP
    have hD : va_D A (wMo cI cJ cB cZ h a1 a2 a3 a4 a5 a6 a7 thr eg fr wt g nx nd es pp qq 0 8589934592 bo tp le sz at_ fa fp nu fm nn ou om) := hD
    refine lv_aload_n hx hb dX6_begin_64 rfl (lv_at hl 0 rfl) ?_
    refine z_ldc2 hx hb (8589934592) hown hw_3 (by decide) dX6_begin_65 ?_
    refine va_put (v := .long (lZ 8589934592)) (ty := .long) (C := RX6) (T := TX6) (N := 24) (ci := 6) hx hb hts hi_6 tyX6 tyX6_ok nmX6 hown hK hP hD hS 0 rfl rfl 12 (by decide) hw_5 (fun _ h9 => h9) rfl (by decide +kernel) rfl rfl (Nat.le_of_ble_eq_true rfl) dX6_begin_68 (fun H locs hP hD hS => ?_)
    have hP : va_P D vwCl (wMo cI cJ cB cZ h a1 a2 a3 a4 a5 a6 a7 thr eg fr wt g nx nd es pp qq 0 8589934592 8589934592 tp le sz at_ fa fp nu fm nn ou om) H := hP
    have hD : va_D A (wMo cI cJ cB cZ h a1 a2 a3 a4 a5 a6 a7 thr eg fr wt g nx nd es pp qq 0 8589934592 8589934592 tp le sz at_ fa fp nu fm nn ou om) := hD
    exact rw_vret (g, 0, 8589934592, 8589934592) hx hb hr hlocks hP hD hS ⟨fun v hv => i2 v (by omega), rfl⟩ dX6_begin_71
  · refine lv_aload_n hx hb dX6_begin_10 rfl (lv_at hl 0 rfl) ?_
    refine va_get (v := .ref a4) (C := RX6) (T := TX6) (N := 24) (ci := 6) hx hb hts hi_6 hown hK hP 0 rfl rfl 4 (by decide) hw_6 (fun _ h9 => h9) rfl dX6_begin_11 ?_
    refine lv_iload_n hx hb dX6_begin_14 rfl (lv_at hl 1 rfl) ?_
    refine z_ldc2 hx hb (4294967296) hown hw_7 (by decide) dX6_begin_15 ?_
    refine lv_aload_n hx hb dX6_begin_18 rfl (lv_at hl 0 rfl) ?_
    refine va_get (v := .int (iZ nd)) (C := RX6) (T := TX6) (N := 24) (ci := 6) hx hb hts hi_6 hown hK hP 0 rfl rfl 6 (by decide) hw_1 (fun _ h9 => h9) rfl dX6_begin_19 ?_
    refine z_i2l hx hb dX6_begin_22 (by omega) ?_
    refine z_ldiv hx hb dX6_begin_23 (by omega) (by omega) ?_
    refine lv_iload_n hx hb dX6_begin_24 rfl (lv_at hl 1 rfl) ?_
    refine z_i2l hx hb dX6_begin_25 (by omega) ?_
    refine z_ldc2 hx hb (4294967296) hown hw_7 (by decide) dX6_begin_26 ?_
    refine lv_aload_n hx hb dX6_begin_29 rfl (lv_at hl 0 rfl) ?_
    refine va_get (v := .int (iZ nd)) (C := RX6) (T := TX6) (N := 24) (ci := 6) hx hb hts hi_6 hown hK hP 0 rfl rfl 6 (by decide) hw_1 (fun _ h9 => h9) rfl dX6_begin_30 ?_
    refine z_i2l hx hb dX6_begin_33 (by omega) ?_
    refine z_lrem hx hb dX6_begin_34 (by omega) (by omega) ?_
    refine z_lc_ge (tgt := 43) hx hb dX6_begin_35 dX6_begin_36 (by decide) (by omega) (by omega) (fun c_2 => ?_) (fun c_2 => ?_)
    · refine z_lconst hx hb 0  dX6_begin_43 rfl ?_
      refine z_ladd hx hb dX6_begin_44 ?_
      refine z_tol (((beg N i : Nat) : Int)) (by first | exact beg_eq hn (by omega) | exact beg_eq0 hn (by omega)) ?_
      refine z_last hx hb hK hP hD hS 4 1 rfl rfl i (by omega) (by omega) (by omega) dX6_begin_45 (fun H locs hP hD hS => ?_)
      have hP : va_P D vwCl (wMo cI cJ cB cZ h a1 a2 a3 a4 a5 a6 a7 thr eg fr wt (uZ g i ((beg N i : Nat) : Int)) nx nd es pp qq st ch bo tp le sz at_ fa fp nu fm nn ou om) H := hP
      have hD : va_D A (wMo cI cJ cB cZ h a1 a2 a3 a4 a5 a6 a7 thr eg fr wt (uZ g i ((beg N i : Nat) : Int)) nx nd es pp qq st ch bo tp le sz at_ fa fp nu fm nn ou om) := hD
      refine lv_iinc (v := iZ (↑i + 1)) (lv' := [(1, .int (iZ (↑i + 1))), (0, .ref h)]) hx hb dX6_begin_46 hl (k := 1) rfl (show iZ ↑i + iZ 1 = _ from iZ_add _ _) (by decide) rfl (fun ls hl => ?_)
      refine lv_goto (tgt := 2) hx hb dX6_begin_49 (by decide) ?_
      exact ih _ _ _ _ (by omega) ⟨(i + 1), (uZ g i ((beg N i : Nat) : Int)), rfl, ⟨by omega, fun v hv => by by_cases q : v = i; (rw [q, uZ_s]); (rw [uZ_n q]; exact i2 v (by omega))⟩, hP, hD, hS, lv_sub hl [1, 0] rfl⟩
    · refine z_lconst hx hb 1  dX6_begin_39 rfl ?_
      refine lv_goto (tgt := 44) hx hb dX6_begin_40 (by decide) ?_
      refine z_ladd hx hb dX6_begin_44 ?_
      refine z_tol (((beg N i : Nat) : Int)) (by first | exact beg_eq hn (by omega) | exact beg_eq0 hn (by omega)) ?_
      refine z_last hx hb hK hP hD hS 4 1 rfl rfl i (by omega) (by omega) (by omega) dX6_begin_45 (fun H locs hP hD hS => ?_)
      have hP : va_P D vwCl (wMo cI cJ cB cZ h a1 a2 a3 a4 a5 a6 a7 thr eg fr wt (uZ g i ((beg N i : Nat) : Int)) nx nd es pp qq st ch bo tp le sz at_ fa fp nu fm nn ou om) H := hP
      have hD : va_D A (wMo cI cJ cB cZ h a1 a2 a3 a4 a5 a6 a7 thr eg fr wt (uZ g i ((beg N i : Nat) : Int)) nx nd es pp qq st ch bo tp le sz at_ fa fp nu fm nn ou om) := hD
      refine lv_iinc (v := iZ (↑i + 1)) (lv' := [(1, .int (iZ (↑i + 1))), (0, .ref h)]) hx hb dX6_begin_46 hl (k := 1) rfl (show iZ ↑i + iZ 1 = _ from iZ_add _ _) (by decide) rfl (fun ls hl => ?_)
      refine lv_goto (tgt := 2) hx hb dX6_begin_49 (by decide) ?_
      exact ih _ _ _ _ (by omega) ⟨(i + 1), (uZ g i ((beg N i : Nat) : Int)), rfl, ⟨by omega, fun v hv => by by_cases q : v = i; (rw [q, uZ_s]); (rw [uZ_n q]; exact i2 v (by omega))⟩, hP, hD, hS, lv_sub hl [1, 0] rfl⟩
set_option maxHeartbeats 4000000 in
set_option maxRecDepth 100000 in
theorem c_X6_four (l : Launch) (D : va_G) (cI cJ cB cZ : ClassId) (h a1 a2 a3 a4 a5 a6 a7 : Nat) (thr : Int) (eg fr wt rk nx : Nat → Int) (nd es pp qq st ch bo : Int) (tp : Nat → Int) (le sz at_ fa fp nu fm nn : Int) (ou : Nat → Int) (om : Int) (v : Int) (rv : -2147483648 ≤ v ∧ v < 2147483648) (hle : 0 ≤ le ∧ le + 4 ≤ 2000)  (sz0 : Nat) : Met l yX6_four wsX6_four ({ frames := 0, cells := 0, slots := 0, locals := 0 } : Room) (Pre1 D cI cJ cB cZ [.ref h, .int (iZ v)] (wMo cI cJ cB cZ h a1 a2 a3 a4 a5 a6 a7 thr eg fr wt rk nx nd es pp qq st ch bo tp le sz at_ fa fp nu fm nn ou om) sz0) (rwV (S := (Nat → Int) × Int) D (fun U => U = (fun j => if le.toNat ≤ j ∧ j < le.toNat + 4 then sb ((v % 4294967296) / 2 ^ (24 - 8 * (j - le.toNat)) % 256) else tp j, le + 4)) (fun u => wMo cI cJ cB cZ h a1 a2 a3 a4 a5 a6 a7 thr eg fr wt rk nx nd es pp qq st ch bo u.1 u.2 sz at_ fa fp nu fm nn ou om) (va_A (wMo cI cJ cB cZ h a1 a2 a3 a4 a5 a6 a7 thr eg fr wt rk nx nd es pp qq st ch bo tp le sz at_ fa fp nu fm nn ou om) sz0)) 0 0 (va_A (wMo cI cJ cB cZ h a1 a2 a3 a4 a5 a6 a7 thr eg fr wt rk nx nd es pp qq st ch bo tp le sz at_ fa fp nu fm nn ou om) sz0) := by
  refine Met.ofW (cc := cX6_four) (maxL := 3) (ret := none) (by decide) rfl ?_
  intro p e s m args below meth c s₁ B hml hv
  obtain ⟨rfl, hsz, hP, hE, hD0⟩ := hv
  have hx := B.exec
  have hb := B.bytes
  have hr := B.returns
  have hts := atoms_spec (ws := wsX6_four) B.pre
  have hown : s.vm.findClass RX6 = some m.cls := findClass_of_methodNamed B.named
  have hlocks := B.notSynchronized
  have hK := hE.1
  subst hsz
  have hD := hD0.self (sz := s.heap.size)
  generalize hAe : va_A (wMo cI cJ cB cZ h a1 a2 a3 a4 a5 a6 a7 thr eg fr wt rk nx nd es pp qq st ch bo tp le sz at_ fa fp nu fm nn ou om) s.heap.size = A at hD ⊢
  have hA : ∀ q : Nat, s.heap.size ≤ q → A q := fun q h => by rw [← hAe]; exact Or.inr h
  have hS : va_S A s.heap s.heap [] := va_S.rf
  have hP : va_P D vwCl (wMo cI cJ cB cZ h a1 a2 a3 a4 a5 a6 a7 thr eg fr wt rk nx nd es pp qq st ch bo tp le sz at_ fa fp nu fm nn ou om) s.heap := hP
  have hi_6 : ∀ w ∈ wsX60, w ∈ wsX6_four := by decide +kernel
  have hw_1 := hts (.fieldLink RX6 41 "RankHouseModel" "tape" "[B") (by decide +kernel)
  have hw_2 := hts (.fieldLink RX6 65 "RankHouseModel" "length" "I") (by decide +kernel)
  have hl := lv_entry ([.ref h, .int (iZ v)]) (n := 3) (Nat.le_of_ble_eq_true rfl)
  rw [lg_entry_eq]
  generalize (lg_sl ([.ref h, .int (iZ v)]) ++ List.replicate (3 - (lg_sl ([.ref h, .int (iZ v)])).length) Slot.unset).toArray = ls at hl ⊢
  have hl : lv_has ls 3 [(0, .ref h), (1, .int (iZ v))] := hl
  refine z_bipush hx hb dX6_four_0 (by decide) ?_
  refine lv_istore_n (lv' := [(2, .int (iZ 24)), (0, .ref h), (1, .int (iZ v))]) hx hb dX6_four_2 rfl hl (by decide) rfl (fun ls hl => ?_)
  refine lv_iload_n hx hb dX6_four_3 rfl (lv_at hl 0 rfl) ?_
  refine z_if_lt (tgt := 36) hx hb dX6_four_4 (by decide) (by omega) (fun c9 => absurd c9 (by decide)) (fun _ => ?_)
  refine lv_aload_n hx hb dX6_four_7 rfl (lv_at hl 1 rfl) ?_
  refine va_get (v := .ref a6) (C := RX6) (T := TX6) (N := 24) (ci := 6) hx hb hts hi_6 hown hK hP 0 rfl rfl 13 (by decide) hw_1 (fun _ h9 => h9) rfl dX6_four_8 ?_
  refine lv_aload_n hx hb dX6_four_11 rfl (lv_at hl 1 rfl) ?_
  refine va_get (v := .int (iZ le)) (C := RX6) (T := TX6) (N := 24) (ci := 6) hx hb hts hi_6 hown hK hP 0 rfl rfl 14 (by decide) hw_2 (fun _ h9 => h9) rfl dX6_four_12 ?_
  refine lv_iload_n hx hb dX6_four_15 rfl (lv_at hl 2 rfl) ?_
  refine lv_iload_n hx hb dX6_four_16 rfl (lv_at hl 0 rfl) ?_
  refine z_ishr (v / 2 ^ 24) hx hb dX6_four_17 (iZ_shr 24 (by omega) rfl) ?_
  refine z_i2b ((v / 2 ^ 24).bmod 256) hx hb dX6_four_18 (iZ_i2b _) ?_
  refine z_bast hx hb hK hP hD hS 6 2 rfl rfl ((v / 2 ^ 24).bmod 256) (nar_byte (bm_r _)) le.toNat (by omega) (by omega) (by omega) dX6_four_19 (fun H locs hP hD hS => ?_)
  have hP : va_P D vwCl (wMo cI cJ cB cZ h a1 a2 a3 a4 a5 a6 a7 thr eg fr wt rk nx nd es pp qq st ch bo (uZ tp le.toNat ((v / 2 ^ 24).bmod 256)) le sz at_ fa fp nu fm nn ou om) H := hP
  have hD : va_D A (wMo cI cJ cB cZ h a1 a2 a3 a4 a5 a6 a7 thr eg fr wt rk nx nd es pp qq st ch bo (uZ tp le.toNat ((v / 2 ^ 24).bmod 256)) le sz at_ fa fp nu fm nn ou om) := hD
  refine lv_aload_n hx hb dX6_four_20 rfl (lv_at hl 1 rfl) ?_
  refine lv_dup hx hb dX6_four_21 rfl ?_
  refine va_get (v := .int (iZ le)) (C := RX6) (T := TX6) (N := 24) (ci := 6) hx hb hts hi_6 hown hK hP 0 rfl rfl 14 (by decide) hw_2 (fun _ h9 => h9) rfl dX6_four_22 ?_
  refine z_iconst hx hb dX6_four_25 ?_
  refine z_iadd hx hb dX6_four_26 ?_
  refine va_put (v := .int (iZ (le + 1))) (ty := .int) (C := RX6) (T := TX6) (N := 24) (ci := 6) hx hb hts hi_6 tyX6 tyX6_ok nmX6 hown hK hP hD hS 0 rfl rfl 14 (by decide) hw_2 (fun _ h9 => h9) rfl (by decide +kernel) rfl rfl (Nat.le_of_ble_eq_true rfl) dX6_four_27 (fun H locs hP hD hS => ?_)
  have hP : va_P D vwCl (wMo cI cJ cB cZ h a1 a2 a3 a4 a5 a6 a7 thr eg fr wt rk nx nd es pp qq st ch bo (uZ tp le.toNat ((v / 2 ^ 24).bmod 256)) (le + 1) sz at_ fa fp nu fm nn ou om) H := hP
  have hD : va_D A (wMo cI cJ cB cZ h a1 a2 a3 a4 a5 a6 a7 thr eg fr wt rk nx nd es pp qq st ch bo (uZ tp le.toNat ((v / 2 ^ 24).bmod 256)) (le + 1) sz at_ fa fp nu fm nn ou om) := hD
  refine lv_iinc (v := iZ (16)) (lv' := [(2, .int (iZ 16)), (0, .ref h), (1, .int (iZ v))]) hx hb dX6_four_30 hl (k := 0) rfl (show iZ 24 + iZ (-8) = _ from iZ_add _ _) (by decide) rfl (fun ls hl => ?_)
  refine lv_goto (tgt := 3) hx hb dX6_four_33 (by decide) ?_
  refine lv_iload_n hx hb dX6_four_3 rfl (lv_at hl 0 rfl) ?_
  refine z_if_lt (tgt := 36) hx hb dX6_four_4 (by decide) (by omega) (fun c9 => absurd c9 (by decide)) (fun _ => ?_)
  refine lv_aload_n hx hb dX6_four_7 rfl (lv_at hl 1 rfl) ?_
  refine va_get (v := .ref a6) (C := RX6) (T := TX6) (N := 24) (ci := 6) hx hb hts hi_6 hown hK hP 0 rfl rfl 13 (by decide) hw_1 (fun _ h9 => h9) rfl dX6_four_8 ?_
  refine lv_aload_n hx hb dX6_four_11 rfl (lv_at hl 1 rfl) ?_
  refine va_get (v := .int (iZ (le + 1))) (C := RX6) (T := TX6) (N := 24) (ci := 6) hx hb hts hi_6 hown hK hP 0 rfl rfl 14 (by decide) hw_2 (fun _ h9 => h9) rfl dX6_four_12 ?_
  refine lv_iload_n hx hb dX6_four_15 rfl (lv_at hl 2 rfl) ?_
  refine lv_iload_n hx hb dX6_four_16 rfl (lv_at hl 0 rfl) ?_
  refine z_ishr (v / 2 ^ 16) hx hb dX6_four_17 (iZ_shr 16 (by omega) rfl) ?_
  refine z_i2b ((v / 2 ^ 16).bmod 256) hx hb dX6_four_18 (iZ_i2b _) ?_
  refine z_bast hx hb hK hP hD hS 6 2 rfl rfl ((v / 2 ^ 16).bmod 256) (nar_byte (bm_r _)) ((le + 1).toNat) (by omega) (by omega) (by omega) dX6_four_19 (fun H locs hP hD hS => ?_)
  have hP : va_P D vwCl (wMo cI cJ cB cZ h a1 a2 a3 a4 a5 a6 a7 thr eg fr wt rk nx nd es pp qq st ch bo (uZ (uZ tp le.toNat ((v / 2 ^ 24).bmod 256)) ((le + 1).toNat) ((v / 2 ^ 16).bmod 256)) (le + 1) sz at_ fa fp nu fm nn ou om) H := hP
  have hD : va_D A (wMo cI cJ cB cZ h a1 a2 a3 a4 a5 a6 a7 thr eg fr wt rk nx nd es pp qq st ch bo (uZ (uZ tp le.toNat ((v / 2 ^ 24).bmod 256)) ((le + 1).toNat) ((v / 2 ^ 16).bmod 256)) (le + 1) sz at_ fa fp nu fm nn ou om) := hD
  refine lv_aload_n hx hb dX6_four_20 rfl (lv_at hl 1 rfl) ?_
  refine lv_dup hx hb dX6_four_21 rfl ?_
  refine va_get (v := .int (iZ (le + 1))) (C := RX6) (T := TX6) (N := 24) (ci := 6) hx hb hts hi_6 hown hK hP 0 rfl rfl 14 (by decide) hw_2 (fun _ h9 => h9) rfl dX6_four_22 ?_
  refine z_iconst hx hb dX6_four_25 ?_
  refine z_iadd hx hb dX6_four_26 ?_
  refine va_put (v := .int (iZ ((le + 1) + 1))) (ty := .int) (C := RX6) (T := TX6) (N := 24) (ci := 6) hx hb hts hi_6 tyX6 tyX6_ok nmX6 hown hK hP hD hS 0 rfl rfl 14 (by decide) hw_2 (fun _ h9 => h9) rfl (by decide +kernel) rfl rfl (Nat.le_of_ble_eq_true rfl) dX6_four_27 (fun H locs hP hD hS => ?_)
  have hP : va_P D vwCl (wMo cI cJ cB cZ h a1 a2 a3 a4 a5 a6 a7 thr eg fr wt rk nx nd es pp qq st ch bo (uZ (uZ tp le.toNat ((v / 2 ^ 24).bmod 256)) ((le + 1).toNat) ((v / 2 ^ 16).bmod 256)) ((le + 1) + 1) sz at_ fa fp nu fm nn ou om) H := hP
  have hD : va_D A (wMo cI cJ cB cZ h a1 a2 a3 a4 a5 a6 a7 thr eg fr wt rk nx nd es pp qq st ch bo (uZ (uZ tp le.toNat ((v / 2 ^ 24).bmod 256)) ((le + 1).toNat) ((v / 2 ^ 16).bmod 256)) ((le + 1) + 1) sz at_ fa fp nu fm nn ou om) := hD
  refine lv_iinc (v := iZ (8)) (lv' := [(2, .int (iZ 8)), (0, .ref h), (1, .int (iZ v))]) hx hb dX6_four_30 hl (k := 0) rfl (show iZ 16 + iZ (-8) = _ from iZ_add _ _) (by decide) rfl (fun ls hl => ?_)
  refine lv_goto (tgt := 3) hx hb dX6_four_33 (by decide) ?_
  refine lv_iload_n hx hb dX6_four_3 rfl (lv_at hl 0 rfl) ?_
  refine z_if_lt (tgt := 36) hx hb dX6_four_4 (by decide) (by omega) (fun c9 => absurd c9 (by decide)) (fun _ => ?_)
  refine lv_aload_n hx hb dX6_four_7 rfl (lv_at hl 1 rfl) ?_
  refine va_get (v := .ref a6) (C := RX6) (T := TX6) (N := 24) (ci := 6) hx hb hts hi_6 hown hK hP 0 rfl rfl 13 (by decide) hw_1 (fun _ h9 => h9) rfl dX6_four_8 ?_
  refine lv_aload_n hx hb dX6_four_11 rfl (lv_at hl 1 rfl) ?_
  refine va_get (v := .int (iZ ((le + 1) + 1))) (C := RX6) (T := TX6) (N := 24) (ci := 6) hx hb hts hi_6 hown hK hP 0 rfl rfl 14 (by decide) hw_2 (fun _ h9 => h9) rfl dX6_four_12 ?_
  refine lv_iload_n hx hb dX6_four_15 rfl (lv_at hl 2 rfl) ?_
  refine lv_iload_n hx hb dX6_four_16 rfl (lv_at hl 0 rfl) ?_
  refine z_ishr (v / 2 ^ 8) hx hb dX6_four_17 (iZ_shr 8 (by omega) rfl) ?_
  refine z_i2b ((v / 2 ^ 8).bmod 256) hx hb dX6_four_18 (iZ_i2b _) ?_
  refine z_bast hx hb hK hP hD hS 6 2 rfl rfl ((v / 2 ^ 8).bmod 256) (nar_byte (bm_r _)) ((le + 1 + 1).toNat) (by omega) (by omega) (by omega) dX6_four_19 (fun H locs hP hD hS => ?_)
  have hP : va_P D vwCl (wMo cI cJ cB cZ h a1 a2 a3 a4 a5 a6 a7 thr eg fr wt rk nx nd es pp qq st ch bo (uZ (uZ (uZ tp le.toNat ((v / 2 ^ 24).bmod 256)) ((le + 1).toNat) ((v / 2 ^ 16).bmod 256)) ((le + 1 + 1).toNat) ((v / 2 ^ 8).bmod 256)) ((le + 1) + 1) sz at_ fa fp nu fm nn ou om) H := hP
  have hD : va_D A (wMo cI cJ cB cZ h a1 a2 a3 a4 a5 a6 a7 thr eg fr wt rk nx nd es pp qq st ch bo (uZ (uZ (uZ tp le.toNat ((v / 2 ^ 24).bmod 256)) ((le + 1).toNat) ((v / 2 ^ 16).bmod 256)) ((le + 1 + 1).toNat) ((v / 2 ^ 8).bmod 256)) ((le + 1) + 1) sz at_ fa fp nu fm nn ou om) := hD
  refine lv_aload_n hx hb dX6_four_20 rfl (lv_at hl 1 rfl) ?_
  refine lv_dup hx hb dX6_four_21 rfl ?_
  refine va_get (v := .int (iZ ((le + 1) + 1))) (C := RX6) (T := TX6) (N := 24) (ci := 6) hx hb hts hi_6 hown hK hP 0 rfl rfl 14 (by decide) hw_2 (fun _ h9 => h9) rfl dX6_four_22 ?_
  refine z_iconst hx hb dX6_four_25 ?_
  refine z_iadd hx hb dX6_four_26 ?_
  refine va_put (v := .int (iZ (((le + 1) + 1) + 1))) (ty := .int) (C := RX6) (T := TX6) (N := 24) (ci := 6) hx hb hts hi_6 tyX6 tyX6_ok nmX6 hown hK hP hD hS 0 rfl rfl 14 (by decide) hw_2 (fun _ h9 => h9) rfl (by decide +kernel) rfl rfl (Nat.le_of_ble_eq_true rfl) dX6_four_27 (fun H locs hP hD hS => ?_)
  have hP : va_P D vwCl (wMo cI cJ cB cZ h a1 a2 a3 a4 a5 a6 a7 thr eg fr wt rk nx nd es pp qq st ch bo (uZ (uZ (uZ tp le.toNat ((v / 2 ^ 24).bmod 256)) ((le + 1).toNat) ((v / 2 ^ 16).bmod 256)) ((le + 1 + 1).toNat) ((v / 2 ^ 8).bmod 256)) (((le + 1) + 1) + 1) sz at_ fa fp nu fm nn ou om) H := hP
  have hD : va_D A (wMo cI cJ cB cZ h a1 a2 a3 a4 a5 a6 a7 thr eg fr wt rk nx nd es pp qq st ch bo (uZ (uZ (uZ tp le.toNat ((v / 2 ^ 24).bmod 256)) ((le + 1).toNat) ((v / 2 ^ 16).bmod 256)) ((le + 1 + 1).toNat) ((v / 2 ^ 8).bmod 256)) (((le + 1) + 1) + 1) sz at_ fa fp nu fm nn ou om) := hD
  refine lv_iinc (v := iZ (0)) (lv' := [(2, .int (iZ 0)), (0, .ref h), (1, .int (iZ v))]) hx hb dX6_four_30 hl (k := 0) rfl (show iZ 8 + iZ (-8) = _ from iZ_add _ _) (by decide) rfl (fun ls hl => ?_)
  refine lv_goto (tgt := 3) hx hb dX6_four_33 (by decide) ?_
  refine lv_iload_n hx hb dX6_four_3 rfl (lv_at hl 0 rfl) ?_
  refine z_if_lt (tgt := 36) hx hb dX6_four_4 (by decide) (by omega) (fun c9 => absurd c9 (by decide)) (fun _ => ?_)
  refine lv_aload_n hx hb dX6_four_7 rfl (lv_at hl 1 rfl) ?_
  refine va_get (v := .ref a6) (C := RX6) (T := TX6) (N := 24) (ci := 6) hx hb hts hi_6 hown hK hP 0 rfl rfl 13 (by decide) hw_1 (fun _ h9 => h9) rfl dX6_four_8 ?_
  refine lv_aload_n hx hb dX6_four_11 rfl (lv_at hl 1 rfl) ?_
  refine va_get (v := .int (iZ (((le + 1) + 1) + 1))) (C := RX6) (T := TX6) (N := 24) (ci := 6) hx hb hts hi_6 hown hK hP 0 rfl rfl 14 (by decide) hw_2 (fun _ h9 => h9) rfl dX6_four_12 ?_
  refine lv_iload_n hx hb dX6_four_15 rfl (lv_at hl 2 rfl) ?_
  refine lv_iload_n hx hb dX6_four_16 rfl (lv_at hl 0 rfl) ?_
  refine z_ishr (v / 2 ^ 0) hx hb dX6_four_17 (iZ_shr 0 (by omega) rfl) ?_
  refine z_i2b ((v / 2 ^ 0).bmod 256) hx hb dX6_four_18 (iZ_i2b _) ?_
  refine z_bast hx hb hK hP hD hS 6 2 rfl rfl ((v / 2 ^ 0).bmod 256) (nar_byte (bm_r _)) ((le + 1 + 1 + 1).toNat) (by omega) (by omega) (by omega) dX6_four_19 (fun H locs hP hD hS => ?_)
  have hP : va_P D vwCl (wMo cI cJ cB cZ h a1 a2 a3 a4 a5 a6 a7 thr eg fr wt rk nx nd es pp qq st ch bo (uZ (uZ (uZ (uZ tp le.toNat ((v / 2 ^ 24).bmod 256)) ((le + 1).toNat) ((v / 2 ^ 16).bmod 256)) ((le + 1 + 1).toNat) ((v / 2 ^ 8).bmod 256)) ((le + 1 + 1 + 1).toNat) ((v / 2 ^ 0).bmod 256)) (((le + 1) + 1) + 1) sz at_ fa fp nu fm nn ou om) H := hP
  have hD : va_D A (wMo cI cJ cB cZ h a1 a2 a3 a4 a5 a6 a7 thr eg fr wt rk nx nd es pp qq st ch bo (uZ (uZ (uZ (uZ tp le.toNat ((v / 2 ^ 24).bmod 256)) ((le + 1).toNat) ((v / 2 ^ 16).bmod 256)) ((le + 1 + 1).toNat) ((v / 2 ^ 8).bmod 256)) ((le + 1 + 1 + 1).toNat) ((v / 2 ^ 0).bmod 256)) (((le + 1) + 1) + 1) sz at_ fa fp nu fm nn ou om) := hD
  refine lv_aload_n hx hb dX6_four_20 rfl (lv_at hl 1 rfl) ?_
  refine lv_dup hx hb dX6_four_21 rfl ?_
  refine va_get (v := .int (iZ (((le + 1) + 1) + 1))) (C := RX6) (T := TX6) (N := 24) (ci := 6) hx hb hts hi_6 hown hK hP 0 rfl rfl 14 (by decide) hw_2 (fun _ h9 => h9) rfl dX6_four_22 ?_
  refine z_iconst hx hb dX6_four_25 ?_
  refine z_iadd hx hb dX6_four_26 ?_
  refine va_put (v := .int (iZ ((((le + 1) + 1) + 1) + 1))) (ty := .int) (C := RX6) (T := TX6) (N := 24) (ci := 6) hx hb hts hi_6 tyX6 tyX6_ok nmX6 hown hK hP hD hS 0 rfl rfl 14 (by decide) hw_2 (fun _ h9 => h9) rfl (by decide +kernel) rfl rfl (Nat.le_of_ble_eq_true rfl) dX6_four_27 (fun H locs hP hD hS => ?_)
  have hP : va_P D vwCl (wMo cI cJ cB cZ h a1 a2 a3 a4 a5 a6 a7 thr eg fr wt rk nx nd es pp qq st ch bo (uZ (uZ (uZ (uZ tp le.toNat ((v / 2 ^ 24).bmod 256)) ((le + 1).toNat) ((v / 2 ^ 16).bmod 256)) ((le + 1 + 1).toNat) ((v / 2 ^ 8).bmod 256)) ((le + 1 + 1 + 1).toNat) ((v / 2 ^ 0).bmod 256)) ((((le + 1) + 1) + 1) + 1) sz at_ fa fp nu fm nn ou om) H := hP
  have hD : va_D A (wMo cI cJ cB cZ h a1 a2 a3 a4 a5 a6 a7 thr eg fr wt rk nx nd es pp qq st ch bo (uZ (uZ (uZ (uZ tp le.toNat ((v / 2 ^ 24).bmod 256)) ((le + 1).toNat) ((v / 2 ^ 16).bmod 256)) ((le + 1 + 1).toNat) ((v / 2 ^ 8).bmod 256)) ((le + 1 + 1 + 1).toNat) ((v / 2 ^ 0).bmod 256)) ((((le + 1) + 1) + 1) + 1) sz at_ fa fp nu fm nn ou om) := hD
  refine lv_iinc (v := iZ (-8)) (lv' := [(2, .int (iZ (-8))), (0, .ref h), (1, .int (iZ v))]) hx hb dX6_four_30 hl (k := 0) rfl (show iZ 0 + iZ (-8) = _ from iZ_add _ _) (by decide) rfl (fun ls hl => ?_)
  refine lv_goto (tgt := 3) hx hb dX6_four_33 (by decide) ?_
  refine lv_iload_n hx hb dX6_four_3 rfl (lv_at hl 0 rfl) ?_
  refine z_if_lt (tgt := 36) hx hb dX6_four_4 (by decide) (by omega) (fun _ => ?_) (fun c9 => absurd c9 (by decide))
  exact rw_vret (uZ (uZ (uZ (uZ tp le.toNat ((v / 2 ^ 24).bmod 256)) ((le + 1).toNat) ((v / 2 ^ 16).bmod 256)) ((le + 1 + 1).toNat) ((v / 2 ^ 8).bmod 256)) ((le + 1 + 1 + 1).toNat) ((v / 2 ^ 0).bmod 256), (((le + 1) + 1) + 1) + 1) hx hb hr hlocks hP hD hS (by rw [four_eq hle.1]; rw [show le + 1 + 1 + 1 + 1 = le + 4 by omega]) dX6_four_36
set_option maxHeartbeats 4000000 in
set_option maxRecDepth 100000 in
theorem c_X6_wrong (l : Launch) (D : va_G) (cI cJ cB cZ : ClassId) (h a1 a2 a3 a4 a5 a6 a7 : Nat) (thr : Int) (eg fr wt rk nx : Nat → Int) (nd es pp qq st ch bo : Int) (tp : Nat → Int) (le sz at_ fa fp nu fm nn : Int) (ou : Nat → Int) (om : Int) (a b : Int)  (sz0 : Nat) : Met l yX6_wrong wsX6_wrong ({ frames := 0, cells := 0, slots := 0, locals := 0 } : Room) (Pre1 D cI cJ cB cZ [.ref h, .int (iZ a), .int (iZ b)] (wMo cI cJ cB cZ h a1 a2 a3 a4 a5 a6 a7 thr eg fr wt rk nx nd es pp qq st ch bo tp le sz at_ fa fp nu fm nn ou om) sz0) (rwI (S := Int × Int) D (fun z U => z = 0 ∧ U = (a, b)) (fun u => wMo cI cJ cB cZ h a1 a2 a3 a4 a5 a6 a7 thr eg fr wt rk nx nd es pp qq st ch bo tp le sz at_ u.1 u.2 nu fm nn ou om) (va_A (wMo cI cJ cB cZ h a1 a2 a3 a4 a5 a6 a7 thr eg fr wt rk nx nd es pp qq st ch bo tp le sz at_ fa fp nu fm nn ou om) sz0)) 0 0 (va_A (wMo cI cJ cB cZ h a1 a2 a3 a4 a5 a6 a7 thr eg fr wt rk nx nd es pp qq st ch bo tp le sz at_ fa fp nu fm nn ou om) sz0) := by
  refine Met.ofW (cc := cX6_wrong) (maxL := 3) (ret := (some .boolean)) (by decide) rfl ?_
  intro p e s m args below meth c s₁ B hml hv
  obtain ⟨rfl, hsz, hP, hE, hD0⟩ := hv
  have hx := B.exec
  have hb := B.bytes
  have hr := B.returns
  have hts := atoms_spec (ws := wsX6_wrong) B.pre
  have hown : s.vm.findClass RX6 = some m.cls := findClass_of_methodNamed B.named
  have hlocks := B.notSynchronized
  have hK := hE.1
  subst hsz
  have hD := hD0.self (sz := s.heap.size)
  generalize hAe : va_A (wMo cI cJ cB cZ h a1 a2 a3 a4 a5 a6 a7 thr eg fr wt rk nx nd es pp qq st ch bo tp le sz at_ fa fp nu fm nn ou om) s.heap.size = A at hD ⊢
  have hA : ∀ q : Nat, s.heap.size ≤ q → A q := fun q h => by rw [← hAe]; exact Or.inr h
  have hS : va_S A s.heap s.heap [] := va_S.rf
  have hP : va_P D vwCl (wMo cI cJ cB cZ h a1 a2 a3 a4 a5 a6 a7 thr eg fr wt rk nx nd es pp qq st ch bo tp le sz at_ fa fp nu fm nn ou om) s.heap := hP
  have hi_6 : ∀ w ∈ wsX60, w ∈ wsX6_wrong := by decide +kernel
  have hw_1 := hts (.fieldLink RX6 72 "RankHouseModel" "fault" "I") (by decide +kernel)
  have hw_2 := hts (.fieldLink RX6 75 "RankHouseModel" "faultAt" "I") (by decide +kernel)
  have hl := lv_entry ([.ref h, .int (iZ a), .int (iZ b)]) (n := 3) (Nat.le_of_ble_eq_true rfl)
  rw [lg_entry_eq]
  generalize (lg_sl ([.ref h, .int (iZ a), .int (iZ b)]) ++ List.replicate (3 - (lg_sl ([.ref h, .int (iZ a), .int (iZ b)])).length) Slot.unset).toArray = ls at hl ⊢
  have hl : lv_has ls 3 [(0, .ref h), (1, .int (iZ a)), (2, .int (iZ b))] := hl
  refine lv_aload_n hx hb dX6_wrong_0 rfl (lv_at hl 0 rfl) ?_
  refine lv_iload_n hx hb dX6_wrong_1 rfl (lv_at hl 1 rfl) ?_
  refine va_put (v := .int (iZ a)) (ty := .int) (C := RX6) (T := TX6) (N := 24) (ci := 6) hx hb hts hi_6 tyX6 tyX6_ok nmX6 hown hK hP hD hS 0 rfl rfl 17 (by decide) hw_1 (fun _ h9 => h9) rfl (by decide +kernel) rfl rfl (Nat.le_of_ble_eq_true rfl) dX6_wrong_2 (fun H locs hP hD hS => ?_)
  have hP : va_P D vwCl (wMo cI cJ cB cZ h a1 a2 a3 a4 a5 a6 a7 thr eg fr wt rk nx nd es pp qq st ch bo tp le sz at_ a fp nu fm nn ou om) H := hP
  have hD : va_D A (wMo cI cJ cB cZ h a1 a2 a3 a4 a5 a6 a7 thr eg fr wt rk nx nd es pp qq st ch bo tp le sz at_ a fp nu fm nn ou om) := hD
  refine lv_aload_n hx hb dX6_wrong_5 rfl (lv_at hl 0 rfl) ?_
  refine lv_iload_n hx hb dX6_wrong_6 rfl (lv_at hl 2 rfl) ?_
  refine va_put (v := .int (iZ b)) (ty := .int) (C := RX6) (T := TX6) (N := 24) (ci := 6) hx hb hts hi_6 tyX6 tyX6_ok nmX6 hown hK hP hD hS 0 rfl rfl 18 (by decide) hw_2 (fun _ h9 => h9) rfl (by decide +kernel) rfl rfl (Nat.le_of_ble_eq_true rfl) dX6_wrong_7 (fun H locs hP hD hS => ?_)
  have hP : va_P D vwCl (wMo cI cJ cB cZ h a1 a2 a3 a4 a5 a6 a7 thr eg fr wt rk nx nd es pp qq st ch bo tp le sz at_ a b nu fm nn ou om) H := hP
  have hD : va_D A (wMo cI cJ cB cZ h a1 a2 a3 a4 a5 a6 a7 thr eg fr wt rk nx nd es pp qq st ch bo tp le sz at_ a b nu fm nn ou om) := hD
  refine z_iconst hx hb dX6_wrong_10 ?_
  exact rw_zret (z := 0) (a, b) hx hb hr hlocks (Or.inl rfl) hP hD hS ⟨rfl, rfl⟩ dX6_wrong_11
set_option maxHeartbeats 4000000 in
set_option maxRecDepth 100000 in
theorem c_X6_bad (l : Launch) (D : va_G) (cI cJ cB cZ : ClassId) (h a1 a2 a3 a4 a5 a6 a7 : Nat) (thr : Int) (eg fr wt rk nx : Nat → Int) (nd es pp qq st ch bo : Int) (tp : Nat → Int) (le sz at_ fa fp nu fm nn : Int) (ou : Nat → Int) (om : Int) (a b : Int)  (sz0 : Nat) : Met l yX6_bad wsX6_bad ({ frames := 1, cells := 0, slots := 0, locals := 22 } : Room) (Pre1 D cI cJ cB cZ [.ref h, .int (iZ a), .int (iZ b)] (wMo cI cJ cB cZ h a1 a2 a3 a4 a5 a6 a7 thr eg fr wt rk nx nd es pp qq st ch bo tp le sz at_ fa fp nu fm nn ou om) sz0) (rwI (S := Int × Int) D (fun z U => z = -1 ∧ U = (a, b)) (fun u => wMo cI cJ cB cZ h a1 a2 a3 a4 a5 a6 a7 thr eg fr wt rk nx nd es pp qq st ch bo tp le sz at_ u.1 u.2 nu fm nn ou om) (va_A (wMo cI cJ cB cZ h a1 a2 a3 a4 a5 a6 a7 thr eg fr wt rk nx nd es pp qq st ch bo tp le sz at_ fa fp nu fm nn ou om) sz0)) 0 0 (va_A (wMo cI cJ cB cZ h a1 a2 a3 a4 a5 a6 a7 thr eg fr wt rk nx nd es pp qq st ch bo tp le sz at_ fa fp nu fm nn ou om) sz0) := by
  refine Met.ofW (cc := cX6_bad) (maxL := 3) (ret := (some .int)) (by decide) rfl ?_
  intro p e s m args below meth c s₁ B hml hv
  obtain ⟨rfl, hsz, hP, hE, hD0⟩ := hv
  have hx := B.exec
  have hb := B.bytes
  have hr := B.returns
  have hts := atoms_spec (ws := wsX6_bad) B.pre
  have hown : s.vm.findClass RX6 = some m.cls := findClass_of_methodNamed B.named
  have hlocks := B.notSynchronized
  have hK := hE.1
  subst hsz
  have hD := hD0.self (sz := s.heap.size)
  generalize hAe : va_A (wMo cI cJ cB cZ h a1 a2 a3 a4 a5 a6 a7 thr eg fr wt rk nx nd es pp qq st ch bo tp le sz at_ fa fp nu fm nn ou om) s.heap.size = A at hD ⊢
  have hA : ∀ q : Nat, s.heap.size ≤ q → A q := fun q h => by rw [← hAe]; exact Or.inr h
  have hS : va_S A s.heap s.heap [] := va_S.rf
  have hP : va_P D vwCl (wMo cI cJ cB cZ h a1 a2 a3 a4 a5 a6 a7 thr eg fr wt rk nx nd es pp qq st ch bo tp le sz at_ fa fp nu fm nn ou om) s.heap := hP
  have hl := lv_entry ([.ref h, .int (iZ a), .int (iZ b)]) (n := 3) (Nat.le_of_ble_eq_true rfl)
  rw [lg_entry_eq]
  generalize (lg_sl ([.ref h, .int (iZ a), .int (iZ b)]) ++ List.replicate (3 - (lg_sl ([.ref h, .int (iZ a), .int (iZ b)])).length) Slot.unset).toArray = ls at hl ⊢
  have hl : lv_has ls 3 [(0, .ref h), (1, .int (iZ a)), (2, .int (iZ b))] := hl
  refine lv_aload_n hx hb dX6_bad_0 rfl (lv_at hl 0 rfl) ?_
  refine lv_iload_n hx hb dX6_bad_1 rfl (lv_at hl 1 rfl) ?_
  refine lv_iload_n hx hb dX6_bad_2 rfl (lv_at hl 2 rfl) ?_
  refine rw_i (wr := []) (va_runV (As := [.int (iZ a), .int (iZ b)]) (rest := []) ⟨hx, hb, hml, hown, hts⟩ (c_X6_wrong l D cI cJ cB cZ h a1 a2 a3 a4 a5 a6 a7 thr eg fr wt rk nx nd es pp qq st ch bo tp le sz at_ fa fp nu fm nn ou om a b _) (cwV 2 hts gX6_bad_X6_wrong rfl rfl rfl (by decide +kernel) ⟨Nat.le_of_ble_eq_true rfl, Nat.le_of_ble_eq_true rfl⟩) (pre1V hE hP hD 0 rfl rfl) rfl rfl hl.1 rfl (lv_room (Nat.le_of_ble_eq_true rfl)) dX6_bad_3 ⟨Nat.le_of_ble_eq_true rfl, Nat.le_of_ble_eq_true rfl⟩) hP hD hS hA [0, 1, 2, 3, 4, 5, 6, 7] [] rfl rfl (by decide) (by decide) (fun r_1 u_3 H locs hr_2 hP hD hS => ?_)
  obtain ⟨rfl, rfl⟩ := hr_2
  have hP := hP.sub (ws' := (wMo cI cJ cB cZ h a1 a2 a3 a4 a5 a6 a7 thr eg fr wt rk nx nd es pp qq st ch bo tp le sz at_ a b nu fm nn ou om)) [0, 1, 2, 3, 4, 5, 6, 7] rfl
  have hD := hD.sub (ws' := (wMo cI cJ cB cZ h a1 a2 a3 a4 a5 a6 a7 thr eg fr wt rk nx nd es pp qq st ch bo tp le sz at_ a b nu fm nn ou om)) [0, 1, 2, 3, 4, 5, 6, 7] (by decide) rfl
  refine lv_pop hx hb dX6_bad_6 rfl ?_
  refine z_iconst hx hb dX6_bad_7 ?_
  exact rw_iret (z := (-1)) (a, b) hx hb hr hlocks hP hD hS ⟨rfl, rfl⟩ dX6_bad_8
