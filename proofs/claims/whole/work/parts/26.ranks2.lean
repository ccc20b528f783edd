set_option maxHeartbeats 4000000 in
set_option maxRecDepth 100000 in
theorem c_X4_shareOut (l : Launch) (D : va_G) (cI cJ cB cZ : ClassId) (r0 an ax h a1 a2 a3 : Nat) (fn fx : Nat → Int) (pp qq st ch er : Int) (f1 f2 f3 : Nat → Int) (n sz wh : Int) (N : Nat) (E : Ed) (w : Nat → Nat) (hG : GR N E w f1 f2 f3 n sz wh) (P Q : Nat) (x : Nat → Nat) (hR : RK N P Q x fn pp qq) (u : Int) (hu : 0 ≤ u ∧ u < n) (sz0 : Nat) : Met l yX4_shareOut wsX4_shareOut ({ frames := 3, cells := 0, slots := 0, locals := 64 } : Room) (Pre1 D cI cJ cB cZ [.ref r0, .ref h, .int (iZ u)] (wRa cJ r0 an ax fn fx pp qq st ch er ++ wGr cI h a1 a2 a3 f1 f2 f3 n sz wh) sz0) (rwV (S := Nat → Int) D (fun U => ∀ v, v < N → U v = fx v + (if E u.toNat v = true then ((shr E N P Q x u.toNat : Nat) : Int) else 0)) (fun u => wRa cJ r0 an ax fn u pp qq st ch er ++ wGr cI h a1 a2 a3 f1 f2 f3 n sz wh) (va_A (wRa cJ r0 an ax fn fx pp qq st ch er ++ wGr cI h a1 a2 a3 f1 f2 f3 n sz wh) sz0)) 0 0 (va_A (wRa cJ r0 an ax fn fx pp qq st ch er ++ wGr cI h a1 a2 a3 f1 f2 f3 n sz wh) sz0) := by
  refine Met.ofW (cc := cX4_shareOut) (maxL := 7) (ret := none) (by decide) rfl ?_
  intro p e s m args below meth c s₁ B hml hv
  obtain ⟨rfl, hsz, hP, hE, hD0⟩ := hv
  have hx := B.exec
  have hb := B.bytes
  have hr := B.returns
  have hts := atoms_spec (ws := wsX4_shareOut) B.pre
  have hown : s.vm.findClass RX4 = some m.cls := findClass_of_methodNamed B.named
  have hlocks := B.notSynchronized
  have hK := hE.1
  subst hsz
  have hD := hD0.self (sz := s.heap.size)
  generalize hAe : va_A (wRa cJ r0 an ax fn fx pp qq st ch er ++ wGr cI h a1 a2 a3 f1 f2 f3 n sz wh) s.heap.size = A at hD ⊢
  have hA : ∀ q : Nat, s.heap.size ≤ q → A q := fun q h => by rw [← hAe]; exact Or.inr h
  have hS : va_S A s.heap s.heap [] := va_S.rf
  have hP : va_P D vwCl (wRa cJ r0 an ax fn fx pp qq st ch er ++ wGr cI h a1 a2 a3 f1 f2 f3 n sz wh) s.heap := hP
  have hi_2 : ∀ w ∈ wsX20, w ∈ wsX4_shareOut := by decide +kernel
  have hi_4 : ∀ w ∈ wsX40, w ∈ wsX4_shareOut := by decide +kernel
  have hw_1 := hE.nl (w := .fieldLinkNest RX4 81 "RankHouse$Graph" "first" "[I" "RankHouse") (by decide +kernel) ([.ref r0, .ref h, .int (iZ u)] : List Value).toArray
  have hw_2 := hts (.fieldLink RX4 15 "RankHouse$Ranks" "next" "[J") (by decide +kernel)
  have hw_3 := hE.nl (w := .fieldLinkNest RX4 84 "RankHouse$Graph" "targets" "[I" "RankHouse") (by decide +kernel) ([.ref r0, .ref h, .int (iZ u)] : List Value).toArray
  have hl := lv_entry ([.ref r0, .ref h, .int (iZ u)]) (n := 7) (Nat.le_of_ble_eq_true rfl)
  rw [lg_entry_eq]
  generalize (lg_sl ([.ref r0, .ref h, .int (iZ u)]) ++ List.replicate (7 - (lg_sl ([.ref r0, .ref h, .int (iZ u)])).length) Slot.unset).toArray = ls at hl ⊢
  have hl : lv_has ls 7 [(0, .ref r0), (1, .ref h), (2, .int (iZ u))] := hl
  obtain ⟨g1, g2, g3, g4, g5, g6, g7, g8, g9, g10, g11⟩ := id hG
  obtain ⟨k1, k2, k3, k4, k5, k6⟩ := id hR
  have q1 := g4 u.toNat (by omega)
  have q2 := g4 (u.toNat + 1) (by omega)
  rw [fst_succ] at q2
  have q3 := fst_le E (show u.toNat < N by omega)
  refine lv_aload_n hx hb dX4_shareOut_0 rfl (lv_at hl 0 rfl) ?_
  refine lv_aload_n hx hb dX4_shareOut_1 rfl (lv_at hl 1 rfl) ?_
  refine lv_iload_n hx hb dX4_shareOut_2 rfl (lv_at hl 2 rfl) ?_
  refine ro_l (va_runV (As := [.ref h, .int (iZ u)]) (rest := []) ⟨hx, hb, hml, hown, hts⟩ (c_X4_share l D cI cJ cB cZ r0 an ax h a1 a2 a3 fn fx pp qq st ch er f1 f2 f3 n sz wh N E w hG P Q x hR u hu) (cwV 2 hts gX4_shareOut_X4_share rfl rfl rfl (by decide +kernel) ⟨Nat.le_of_ble_eq_true rfl, Nat.le_of_ble_eq_true rfl⟩) (pre0V hE hP 0 rfl rfl) rfl rfl hl.1 rfl (lv_room (Nat.le_of_ble_eq_true rfl)) dX4_shareOut_3 ⟨Nat.le_of_ble_eq_true rfl, Nat.le_of_ble_eq_true rfl⟩) (fun r_1 hr_2 => ?_)
  subst hr_2
  refine lv_lstore_n (lv' := [(3, .long (lZ ((shr E N P Q x u.toNat : Nat) : Int))), (0, .ref r0), (1, .ref h), (2, .int (iZ u))]) hx hb dX4_shareOut_6 rfl hl (by decide) rfl (fun ls hl => ?_)
  refine lv_aload_n hx hb dX4_shareOut_7 rfl (lv_at hl 2 rfl) ?_
  refine va_getN (v := .ref a1) (C := RX2) (T := TX2) (N := 6) (ci := 2) hx hb hts hi_2 hown hK hP 3 rfl rfl 0 (by decide) hw_1 (fun _ h9 => h9) rfl dX4_shareOut_8 ?_
  refine lv_iload_n hx hb dX4_shareOut_11 rfl (lv_at hl 3 rfl) ?_
  refine z_iconst hx hb dX4_shareOut_12 ?_
  refine z_iadd hx hb dX4_shareOut_13 ?_
  refine z_iald hx hb hK hP 4 0 rfl rfl (u.toNat + 1) (by omega) (by omega) (by omega) dX4_shareOut_14 ?_
  refine z_toi (((fst E N u.toNat + dgr E N u.toNat : Nat) : Int)) q2 ?_
  refine lv_istore (lv' := [(5, .int (iZ ((fst E N u.toNat + dgr E N u.toNat : Nat) : Int))), (3, .long (lZ ((shr E N P Q x u.toNat : Nat) : Int))), (0, .ref r0), (1, .ref h), (2, .int (iZ u))]) hx hb dX4_shareOut_15 hl (by decide) rfl (fun ls hl => ?_)
  refine lv_aload_n hx hb dX4_shareOut_17 rfl (lv_at hl 3 rfl) ?_
  refine va_getN (v := .ref a1) (C := RX2) (T := TX2) (N := 6) (ci := 2) hx hb hts hi_2 hown hK hP 3 rfl rfl 0 (by decide) hw_1 (fun _ h9 => h9) rfl dX4_shareOut_18 ?_
  refine lv_iload_n hx hb dX4_shareOut_21 rfl (lv_at hl 4 rfl) ?_
  refine z_iald hx hb hK hP 4 0 rfl rfl u.toNat (by omega) (by omega) (by omega) dX4_shareOut_22 ?_
  refine z_toi (((fst E N u.toNat : Nat) : Int)) q1 ?_
  refine lv_istore (lv' := [(6, .int (iZ ((fst E N u.toNat : Nat) : Int))), (5, .int (iZ ((fst E N u.toNat + dgr E N u.toNat : Nat) : Int))), (3, .long (lZ ((shr E N P Q x u.toNat : Nat) : Int))), (0, .ref r0), (1, .ref h), (2, .int (iZ u))]) hx hb dX4_shareOut_23 hl (by decide) rfl (fun ls hl => ?_)
  refine w_loop (fun kf H locs ls => ∃ (i : Nat), ∃ (g : Nat → Int), kf = dgr E N u.toNat - i ∧ (i ≤ dgr E N u.toNat ∧ ∀ v, v < N → g v = fx v + (if E u.toNat v = true ∧ fb_ct (E u.toNat) v < i then ((shr E N P Q x u.toNat : Nat) : Int) else 0)) ∧ va_P D vwCl (wRa cJ r0 an ax fn g pp qq st ch er ++ wGr cI h a1 a2 a3 f1 f2 f3 n sz wh) H ∧ va_D A (wRa cJ r0 an ax fn g pp qq st ch er ++ wGr cI h a1 a2 a3 f1 f2 f3 n sz wh) ∧ va_S A s.heap H locs ∧ lv_has ls 7 [(0, .ref r0), (1, .ref h), (2, .int (iZ u)), (3, .long (lZ ((shr E N P Q x u.toNat : Nat) : Int))), (5, .int (iZ ((fst E N u.toNat + dgr E N u.toNat : Nat) : Int))), (6, .int (iZ ((fst E N u.toNat + i : Nat) : Int)))]) ?_ _ ⟨0, fx, rfl, ⟨by omega, fun v _ => by rw [if_neg (by omega)]; omega⟩, hP, hD, hS, lv_sub hl [3, 4, 5, 2, 1, 0] rfl⟩
  rintro kf H locs ls ⟨i, g, hk, ⟨i1, i2⟩, hP, hD, hS, hl⟩ ih
  refine lv_iload hx hb dX4_shareOut_25 (lv_at hl 5 rfl) ?_
  refine lv_iload hx hb dX4_shareOut_27 (lv_at hl 4 rfl) ?_
  refine z_icmp_ge (tgt := 54) hx hb dX4_shareOut_29 (by decide) (by omega) (by omega) (fun c_3 => ?_) (fun c_3 => ?_)
  · exact rw_vret g hx hb hr hlocks hP hD hS (so_end (by rw [show dgr E N u.toNat = i by omega]; exact i2)) dX4_shareOut_54
  · obtain ⟨t, r1, r2, r3, r4⟩ := row_at g7 (show u.toNat < N by omega) (show i < dgr E N u.toNat by omega)
    refine lv_aload_n hx hb dX4_shareOut_32 rfl (lv_at hl 0 rfl) ?_
    refine va_get (v := .ref ax) (C := RX4) (T := TX4) (N := 7) (ci := 4) hx hb hts hi_4 hown hK hP 0 rfl rfl 1 (by decide) hw_2 (fun _ h9 => h9) rfl dX4_shareOut_33 ?_
    refine lv_aload_n hx hb dX4_shareOut_36 rfl (lv_at hl 1 rfl) ?_
    refine va_getN (v := .ref a2) (C := RX2) (T := TX2) (N := 6) (ci := 2) hx hb hts hi_2 hown hK hP 3 rfl rfl 1 (by decide) hw_3 (fun _ h9 => h9) rfl dX4_shareOut_37 ?_
    refine lv_iload hx hb dX4_shareOut_40 (lv_at hl 5 rfl) ?_
    refine z_iald hx hb hK hP 5 0 rfl rfl (fst E N u.toNat + i) (by omega) (by omega) (by omega) dX4_shareOut_42 ?_
    refine lv_dup2_11 hx hb dX4_shareOut_43 rfl rfl ?_
    refine z_lald hx hb hK hP 2 1 rfl rfl t (by omega) (by omega) (by omega) dX4_shareOut_44 ?_
    refine lv_lload_n hx hb dX4_shareOut_45 rfl (lv_at hl 3 rfl) ?_
    refine z_ladd hx hb dX4_shareOut_46 ?_
    refine z_last hx hb hK hP hD hS 2 1 rfl rfl t (by omega) (by omega) (by omega) dX4_shareOut_47 (fun H locs hP hD hS => ?_)
    have hP : va_P D vwCl (wRa cJ r0 an ax fn (uZ g t ((g t) + ((shr E N P Q x u.toNat : Nat) : Int))) pp qq st ch er ++ wGr cI h a1 a2 a3 f1 f2 f3 n sz wh) H := hP
    have hD : va_D A (wRa cJ r0 an ax fn (uZ g t ((g t) + ((shr E N P Q x u.toNat : Nat) : Int))) pp qq st ch er ++ wGr cI h a1 a2 a3 f1 f2 f3 n sz wh) := hD
    refine lv_iinc (v := iZ (((fst E N u.toNat + i : Nat) : Int) + 1)) (lv' := [(6, .int (iZ (((fst E N u.toNat + i : Nat) : Int) + 1))), (0, .ref r0), (1, .ref h), (2, .int (iZ u)), (3, .long (lZ ((shr E N P Q x u.toNat : Nat) : Int))), (5, .int (iZ ((fst E N u.toNat + dgr E N u.toNat : Nat) : Int)))]) hx hb dX4_shareOut_48 hl (k := 5) rfl (show iZ ((fst E N u.toNat + i : Nat) : Int) + iZ 1 = _ from iZ_add _ _) (by decide) rfl (fun ls hl => ?_)
    refine lv_goto (tgt := 25) hx hb dX4_shareOut_51 (by decide) ?_
    exact ih _ _ _ _ (by omega) ⟨(i + 1), (uZ g t ((g t) + ((shr E N P Q x u.toNat : Nat) : Int))), rfl, ⟨by omega, so_step r1 r2 r3 i2⟩, hP, hD, hS, lv_sub hl [1, 2, 3, 4, 5, 0] rfl⟩
set_option maxHeartbeats 4000000 in
set_option maxRecDepth 100000 in
theorem c_X4_begin (l : Launch) (D : va_G) (cI cJ cB cZ : ClassId) (r0 an ax : Nat) (fn fx : Nat → Int) (pp qq st ch er : Int) (n : Int) (N : Nat) (hN : 1 ≤ N ∧ N ≤ 250) (hn : n = (N : Int)) (sz0 : Nat) : Met l yX4_begin wsX4_begin ({ frames := 1, cells := 0, slots := 0, locals := 23 } : Room) (Pre1 D cI cJ cB cZ [.ref r0, .int (iZ n)] (wRa cJ r0 an ax fn fx pp qq st ch er) sz0) (rwV (S := Nat → Int) D (fun U => ∀ v, v < N → U v = ((beg N v : Nat) : Int)) (fun u => wRa cJ r0 an ax u fx pp qq 0 8589934592 8589934592) (va_A (wRa cJ r0 an ax fn fx pp qq st ch er) sz0)) 0 0 (va_A (wRa cJ r0 an ax fn fx pp qq st ch er) sz0) := by
  refine Met.ofW (cc := cX4_begin) (maxL := 7) (ret := none) (by decide) rfl ?_
  intro p e s m args below meth c s₁ B hml hv
  obtain ⟨rfl, hsz, hP, hE, hD0⟩ := hv
  have hx := B.exec
  have hb := B.bytes
  have hr := B.returns
  have hts := atoms_spec (ws := wsX4_begin) B.pre
  have hown : s.vm.findClass RX4 = some m.cls := findClass_of_methodNamed B.named
  have hlocks := B.notSynchronized
  have hK := hE.1
  subst hsz
  have hD := hD0.self (sz := s.heap.size)
  generalize hAe : va_A (wRa cJ r0 an ax fn fx pp qq st ch er) s.heap.size = A at hD ⊢
  have hA : ∀ q : Nat, s.heap.size ≤ q → A q := fun q h => by rw [← hAe]; exact Or.inr h
  have hS : va_S A s.heap s.heap [] := va_S.rf
  have hP : va_P D vwCl (wRa cJ r0 an ax fn fx pp qq st ch er) s.heap := hP
  have hi_4 : ∀ w ∈ wsX40, w ∈ wsX4_begin := by decide +kernel
  have hw_1 := hts (.constantLong RX4 25 (4294967296)) (by decide +kernel)
  have hw_2 := hts (.initialized RX5) (by decide +kernel)
  have hw_3 := hts (.static yX5_quotient) (by decide +kernel)
  have hw_4 := hts (.fieldLink RX4 31 "RankHouse$Ranks" "steps" "I") (by decide +kernel)
  have hw_5 := hts (.constantLong RX4 34 (8589934592)) (by decide +kernel)
  have hw_6 := hts (.fieldLink RX4 36 "RankHouse$Ranks" "change" "J") (by decide +kernel)
  have hw_7 := hts (.fieldLink RX4 40 "RankHouse$Ranks" "error" "J") (by decide +kernel)
  have hw_8 := hts (.fieldLink RX4 9 "RankHouse$Ranks" "now" "[J") (by decide +kernel)
  have hl := lv_entry ([.ref r0, .int (iZ n)]) (n := 7) (Nat.le_of_ble_eq_true rfl)
  rw [lg_entry_eq]
  generalize (lg_sl ([.ref r0, .int (iZ n)]) ++ List.replicate (7 - (lg_sl ([.ref r0, .int (iZ n)])).length) Slot.unset).toArray = ls at hl ⊢
  have hl : lv_has ls 7 [(0, .ref r0), (1, .int (iZ n))] := hl
  have b1 := Nat.div_le_self 4294967296 N
  have b2 := Nat.mod_lt 4294967296 (show 0 < N by omega)
  refine z_ldc2 hx hb (4294967296) hown hw_1 (by decide) dX4_begin_0 ?_
  refine lv_iload_n hx hb dX4_begin_3 rfl (lv_at hl 1 rfl) ?_
  refine z_i2l hx hb dX4_begin_4 (by omega) ?_
  refine ro_l (va_runSN (As := [.long (lZ 4294967296), .long (lZ n)]) (rest := []) ⟨hx, hb, hml, hown, hts⟩ (c_X5_quotient l D cI cJ cB cZ 4294967296 n (by omega) (by omega)) (⟨va_cnB 2 hts ggX4_begin_X5_quotient rfl rfl rfl (hE.2 (.methodLinkNest RX4 27 yX5_quotient "RankHouse") (by decide +kernel)) hw_2 (by decide +kernel) ⟨Nat.le_of_ble_eq_true rfl, Nat.le_of_ble_eq_true rfl⟩, hw_3, trivial⟩) (pre0S hE (hP.sub (ws' := []) [] rfl)) rfl rfl hl.1 rfl (lv_room (Nat.le_of_ble_eq_true rfl)) dX4_begin_5 ⟨Nat.le_of_ble_eq_true rfl, Nat.le_of_ble_eq_true rfl⟩) (fun r_1 hr_2 => ?_)
  subst hr_2
  refine z_tol (((4294967296 / N : Nat) : Int)) (each_eq hn) ?_
  refine lv_lstore_n (lv' := [(2, .long (lZ ((4294967296 / N : Nat) : Int))), (0, .ref r0), (1, .int (iZ n))]) hx hb dX4_begin_8 rfl hl (by decide) rfl (fun ls hl => ?_)
  refine z_ldc2 hx hb (4294967296) hown hw_1 (by decide) dX4_begin_9 ?_
  refine lv_lload_n hx hb dX4_begin_12 rfl (lv_at hl 0 rfl) ?_
  refine lv_iload_n hx hb dX4_begin_13 rfl (lv_at hl 2 rfl) ?_
  refine z_i2l hx hb dX4_begin_14 (by omega) ?_
  refine z_lmul hx hb dX4_begin_15 ?_
  refine z_lsub hx hb dX4_begin_16 ?_
  refine z_tol (((4294967296 % N : Nat) : Int)) (left_eq hn) ?_
  refine lv_lstore (lv' := [(4, .long (lZ ((4294967296 % N : Nat) : Int))), (2, .long (lZ ((4294967296 / N : Nat) : Int))), (0, .ref r0), (1, .int (iZ n))]) hx hb dX4_begin_17 hl (by decide) rfl (fun ls hl => ?_)
  refine z_iconst hx hb dX4_begin_19 ?_
  refine lv_istore (lv' := [(6, .int (iZ 0)), (4, .long (lZ ((4294967296 % N : Nat) : Int))), (2, .long (lZ ((4294967296 / N : Nat) : Int))), (0, .ref r0), (1, .int (iZ n))]) hx hb dX4_begin_20 hl (by decide) rfl (fun ls hl => ?_)
  refine w_loop (fun kf H locs ls => ∃ (i : Nat), ∃ (g : Nat → Int), kf = N - i ∧ (i ≤ N ∧ ∀ v, v < i → g v = ((beg N v : Nat) : Int)) ∧ va_P D vwCl (wRa cJ r0 an ax g fx pp qq st ch er) H ∧ va_D A (wRa cJ r0 an ax g fx pp qq st ch er) ∧ va_S A s.heap H locs ∧ lv_has ls 7 [(0, .ref r0), (1, .int (iZ n)), (2, .long (lZ ((4294967296 / N : Nat) : Int))), (4, .long (lZ ((4294967296 % N : Nat) : Int))), (6, .int (iZ ↑i))]) ?_ _ ⟨0, fn, rfl, ⟨by omega, fun v hv => absurd hv (Nat.not_lt_zero v)⟩, hP, hD, hS, lv_sub hl [3, 4, 2, 1, 0] rfl⟩
  rintro kf H locs ls ⟨i, g, hk, ⟨i1, i2⟩, hP, hD, hS, hl⟩ ih
  refine lv_iload hx hb dX4_begin_22 (lv_at hl 4 rfl) ?_
  refine lv_iload_n hx hb dX4_begin_24 rfl (lv_at hl 1 rfl) ?_
  refine z_icmp_ge (tgt := 57) hx hb dX4_begin_25 (by decide) (by omega) (by omega) (fun c_3 => ?_) (fun c_3 => ?_)
  · refine lv_aload_n hx hb dX4_begin_57 rfl (lv_at hl 0 rfl) ?_
    refine z_iconst hx hb dX4_begin_58 ?_
    refine va_put (v := .int (iZ 0)) (ty := .int) (C := RX4) (T := TX4) (N := 7) (ci := 4) hx hb hts hi_4 tyX4 tyX4_ok nmX4 hown hK hP hD hS 0 rfl rfl 4 (by decide) hw_4 (fun _ h9 => h9) rfl (by decide +kernel) rfl rfl (Nat.le_of_ble_eq_true rfl) dX4_begin_59 (fun H locs hP hD hS => ?_)
    have hP : va_P D vwCl (wRa cJ r0 an ax g fx pp qq 0 ch er) H := hP
    have hD : va_D A (wRa cJ r0 an ax g fx pp qq 0 ch er) := hD
    refine lv_aload_n hx hb dX4_begin_62 rfl (lv_at hl 0 rfl) ?_
    refine z_ldc2 hx hb (8589934592) hown hw_5 (by decide) dX4_begin_63 ?_
    refine va_put (v := .long (lZ 8589934592)) (ty := .long) (C := RX4) (T := TX4) (N := 7) (ci := 4) hx hb hts hi_4 tyX4 tyX4_ok nmX4 hown hK hP hD hS 0 rfl rfl 5 (by decide) hw_6 (fun _ h9 => h9) rfl (by decide +kernel) rfl rfl (Nat.le_of_ble_eq_true rfl) dX4_begin_66 (fun H locs hP hD hS => ?_)
    have hP : va_P D vwCl (wRa cJ r0 an ax g fx pp qq 0 8589934592 er) H := hP
    have hD : va_D A (wRa cJ r0 an ax g fx pp qq 0 8589934592 er) := hD
    refine lv_aload_n hx hb dX4_begin_69 rfl (lv_at hl 0 rfl) ?_
    refine z_ldc2 hx hb (8589934592) hown hw_5 (by decide) dX4_begin_70 ?_
    refine va_put (v := .long (lZ 8589934592)) (ty := .long) (C := RX4) (T := TX4) (N := 7) (ci := 4) hx hb hts hi_4 tyX4 tyX4_ok nmX4 hown hK hP hD hS 0 rfl rfl 6 (by decide) hw_7 (fun _ h9 => h9) rfl (by decide +kernel) rfl rfl (Nat.le_of_ble_eq_true rfl) dX4_begin_73 (fun H locs hP hD hS => ?_)
    have hP : va_P D vwCl (wRa cJ r0 an ax g fx pp qq 0 8589934592 8589934592) H := hP
    have hD : va_D A (wRa cJ r0 an ax g fx pp qq 0 8589934592 8589934592) := hD
    exact rw_vret g hx hb hr hlocks hP hD hS (fun v hv => i2 v (by omega)) dX4_begin_76
  · refine lv_aload_n hx hb dX4_begin_28 rfl (lv_at hl 0 rfl) ?_
    refine va_get (v := .ref an) (C := RX4) (T := TX4) (N := 7) (ci := 4) hx hb hts hi_4 hown hK hP 0 rfl rfl 0 (by decide) hw_8 (fun _ h9 => h9) rfl dX4_begin_29 ?_
    refine lv_iload hx hb dX4_begin_32 (lv_at hl 4 rfl) ?_
    refine lv_iload hx hb dX4_begin_34 (lv_at hl 4 rfl) ?_
    refine z_i2l hx hb dX4_begin_36 (by omega) ?_
    refine lv_lload hx hb dX4_begin_37 (lv_at hl 3 rfl) ?_
    refine z_lc_ge (tgt := 49) hx hb dX4_begin_39 dX4_begin_40 (by decide) (by omega) (by omega) (fun c_4 => ?_) (fun c_4 => ?_)
    · refine lv_lload_n hx hb dX4_begin_49 rfl (lv_at hl 2 rfl) ?_
      refine z_last hx hb hK hP hD hS 1 1 rfl rfl i (by omega) (by omega) (by omega) dX4_begin_50 (fun H locs hP hD hS => ?_)
      have hP : va_P D vwCl (wRa cJ r0 an ax (uZ g i ((4294967296 / N : Nat) : Int)) fx pp qq st ch er) H := hP
      have hD : va_D A (wRa cJ r0 an ax (uZ g i ((4294967296 / N : Nat) : Int)) fx pp qq st ch er) := hD
      refine lv_iinc (v := iZ (↑i + 1)) (lv' := [(6, .int (iZ (↑i + 1))), (0, .ref r0), (1, .int (iZ n)), (2, .long (lZ ((4294967296 / N : Nat) : Int))), (4, .long (lZ ((4294967296 % N : Nat) : Int)))]) hx hb dX4_begin_51 hl (k := 4) rfl (show iZ ↑i + iZ 1 = _ from iZ_add _ _) (by decide) rfl (fun ls hl => ?_)
      refine lv_goto (tgt := 22) hx hb dX4_begin_54 (by decide) ?_
      exact ih _ _ _ _ (by omega) ⟨(i + 1), (uZ g i ((4294967296 / N : Nat) : Int)), rfl, ⟨by omega, fun v hv => by by_cases q : v = i; (rw [q, uZ_s, beg]; split <;> omega); (rw [uZ_n q]; exact i2 v (by omega))⟩, hP, hD, hS, lv_sub hl [1, 2, 3, 4, 0] rfl⟩
    · refine lv_lload_n hx hb dX4_begin_43 rfl (lv_at hl 2 rfl) ?_
      refine z_lconst hx hb 1  dX4_begin_44 rfl ?_
      refine z_ladd hx hb dX4_begin_45 ?_
      refine lv_goto (tgt := 50) hx hb dX4_begin_46 (by decide) ?_
      refine z_last hx hb hK hP hD hS 1 1 rfl rfl i (by omega) (by omega) (by omega) dX4_begin_50 (fun H locs hP hD hS => ?_)
      have hP : va_P D vwCl (wRa cJ r0 an ax (uZ g i (((4294967296 / N : Nat) : Int) + 1)) fx pp qq st ch er) H := hP
      have hD : va_D A (wRa cJ r0 an ax (uZ g i (((4294967296 / N : Nat) : Int) + 1)) fx pp qq st ch er) := hD
      refine lv_iinc (v := iZ (↑i + 1)) (lv' := [(6, .int (iZ (↑i + 1))), (0, .ref r0), (1, .int (iZ n)), (2, .long (lZ ((4294967296 / N : Nat) : Int))), (4, .long (lZ ((4294967296 % N : Nat) : Int)))]) hx hb dX4_begin_51 hl (k := 4) rfl (show iZ ↑i + iZ 1 = _ from iZ_add _ _) (by decide) rfl (fun ls hl => ?_)
      refine lv_goto (tgt := 22) hx hb dX4_begin_54 (by decide) ?_
      exact ih _ _ _ _ (by omega) ⟨(i + 1), (uZ g i (((4294967296 / N : Nat) : Int) + 1)), rfl, ⟨by omega, fun v hv => by by_cases q : v = i; (rw [q, uZ_s, beg]; split <;> omega); (rw [uZ_n q]; exact i2 v (by omega))⟩, hP, hD, hS, lv_sub hl [1, 2, 3, 4, 0] rfl⟩
