set_option maxHeartbeats 4000000 in
set_option maxRecDepth 100000 in
theorem c_X6_step (l : Launch) (D : va_G) (cI cJ cB cZ : ClassId) (h a1 a2 a3 a4 a5 a6 a7 : Nat) (thr : Int) (eg fr wt rk nx : Nat → Int) (nd es pp qq st ch bo : Int) (tp : Nat → Int) (le sz at_ fa fp nu fm nn : Int) (ou : Nat → Int) (om : Int) (N : Nat) (E : Ed) (w : Nat → Nat) (hM : MG N E w eg wt nd es) (P Q : Nat) (x : Nat → Nat) (hR : RK N P Q x rk pp qq) (ke : Nat) (hke : bo = (ke : Int)) (hke2 : ke ≤ 8589934592)  (sz0 : Nat) : Met l yX6_step wsX6_step ({ frames := 3, cells := 0, slots := 0, locals := 69 } : Room) (Pre1 D cI cJ cB cZ [.ref h] (wMo cI cJ cB cZ h a1 a2 a3 a4 a5 a6 a7 thr eg fr wt rk nx nd es pp qq st ch bo tp le sz at_ fa fp nu fm nn ou om) sz0) (rwV (S := (Nat → Int) × (Nat → Int) × Int × Int × Int) D (fun U => (∀ v, v < N → U.1 v = ((stp E N w P Q x v : Nat) : Int)) ∧ U.2.2.1 = st + 1 ∧ U.2.2.2.1 = ((chg N x (stp E N w P Q x) : Nat) : Int) ∧ U.2.2.2.2 = ((ke * P / Q + 1 : Nat) : Int)) (fun u => wMo cI cJ cB cZ h a1 a2 a3 a4 a5 a6 a7 thr eg fr wt u.1 u.2.1 nd es pp qq u.2.2.1 u.2.2.2.1 u.2.2.2.2 tp le sz at_ fa fp nu fm nn ou om) (va_A (wMo cI cJ cB cZ h a1 a2 a3 a4 a5 a6 a7 thr eg fr wt rk nx nd es pp qq st ch bo tp le sz at_ fa fp nu fm nn ou om) sz0)) 0 0 (va_A (wMo cI cJ cB cZ h a1 a2 a3 a4 a5 a6 a7 thr eg fr wt rk nx nd es pp qq st ch bo tp le sz at_ fa fp nu fm nn ou om) sz0) := by
  refine Met.ofW (cc := cX6_step) (maxL := 8) (ret := none) (by decide) rfl ?_
  intro p e s m args below meth c s₁ B hml hv
  obtain ⟨rfl, hsz, hP, hE, hD0⟩ := hv
  have hx := B.exec
  have hb := B.bytes
  have hr := B.returns
  have hts := atoms_spec (ws := wsX6_step) B.pre
  have hown : s.vm.findClass RX6 = some m.cls := findClass_of_methodNamed B.named
  have hlocks := B.notSynchronized
  have hK := hE.1
  subst hsz
  have hD := hD0.self (sz := s.heap.size)
  generalize hAe : va_A (wMo cI cJ cB cZ h a1 a2 a3 a4 a5 a6 a7 thr eg fr wt rk nx nd es pp qq st ch bo tp le sz at_ fa fp nu fm nn ou om) s.heap.size = A at hD ⊢
  have hA : ∀ q : Nat, s.heap.size ≤ q → A q := fun q h => by rw [← hAe]; exact Or.inr h
  have hS : va_S A s.heap s.heap [] := va_S.rf
  have hP : va_P D vwCl (wMo cI cJ cB cZ h a1 a2 a3 a4 a5 a6 a7 thr eg fr wt rk nx nd es pp qq st ch bo tp le sz at_ fa fp nu fm nn ou om) s.heap := hP
  have hi_6 : ∀ w ∈ wsX60, w ∈ wsX6_step := by decide +kernel
  have hw_1 := hts (.fieldLink RX6 38 "RankHouseModel" "q" "I") (by decide +kernel)
  have hw_2 := hts (.fieldLink RX6 35 "RankHouseModel" "p" "I") (by decide +kernel)
  have hw_3 := hts (.constantLong RX6 51 (4294967296)) (by decide +kernel)
  have hw_4 := hts (.fieldLink RX6 32 "RankHouseModel" "nodes" "I") (by decide +kernel)
  have hw_5 := hts (.fieldLink RX6 58 "RankHouseModel" "change" "J") (by decide +kernel)
  have hw_6 := hts (.fieldLink RX6 62 "RankHouseModel" "bound" "J") (by decide +kernel)
  have hw_7 := hts (.fieldLink RX6 53 "RankHouseModel" "steps" "I") (by decide +kernel)
  have hw_8 := hts (.fieldLink RX6 29 "RankHouseModel" "next" "[J") (by decide +kernel)
  have hw_9 := hts (.fieldLink RX6 25 "RankHouseModel" "rank" "[J") (by decide +kernel)
  have hw_10 := hts (.fieldLink RX6 21 "RankHouseModel" "weight" "[I") (by decide +kernel)
  have hl := lv_entry ([.ref h]) (n := 8) (Nat.le_of_ble_eq_true rfl)
  rw [lg_entry_eq]
  generalize (lg_sl ([.ref h]) ++ List.replicate (8 - (lg_sl ([.ref h])).length) Slot.unset).toArray = ls at hl ⊢
  have hl : lv_has ls 8 [(0, .ref h)] := hl
  obtain ⟨m1, m2, m3, m4, m5, m6, m7, m8, m9⟩ := id hM
  obtain ⟨k1, k2, k3, k4, k5, k6⟩ := id hR
  have b0 := bar_le E N x
  have b1 := Nat.mul_le_mul_left P (Nat.le_trans b0 k6)
  have t1 := tla_le (E := E) k3 k6
  have wb := MG_thr hM
  have b6 := Nat.mul_le_mul_right P hke2
  have sN := stp_sum (E := E) (w := w) m9 k3 k6
  refine lv_aload_n hx hb dX6_step_0 rfl (lv_at hl 0 rfl) ?_
  refine va_get (v := .int (iZ qq)) (C := RX6) (T := TX6) (N := 24) (ci := 6) hx hb hts hi_6 hown hK hP 0 rfl rfl 9 (by decide) hw_1 (fun _ h9 => h9) rfl dX6_step_1 ?_
  refine lv_aload_n hx hb dX6_step_4 rfl (lv_at hl 0 rfl) ?_
  refine va_get (v := .int (iZ pp)) (C := RX6) (T := TX6) (N := 24) (ci := 6) hx hb hts hi_6 hown hK hP 0 rfl rfl 8 (by decide) hw_2 (fun _ h9 => h9) rfl dX6_step_5 ?_
  refine z_isub hx hb dX6_step_8 ?_
  refine z_i2l hx hb dX6_step_9 (by omega) ?_
  refine z_ldc2 hx hb (4294967296) hown hw_3 (by decide) dX6_step_10 ?_
  refine z_lmul hx hb dX6_step_13 ?_
  refine lv_aload_n hx hb dX6_step_14 rfl (lv_at hl 0 rfl) ?_
  refine va_get (v := .int (iZ pp)) (C := RX6) (T := TX6) (N := 24) (ci := 6) hx hb hts hi_6 hown hK hP 0 rfl rfl 8 (by decide) hw_2 (fun _ h9 => h9) rfl dX6_step_15 ?_
  refine z_i2l hx hb dX6_step_18 (by omega) ?_
  refine lv_aload_n hx hb dX6_step_19 rfl (lv_at hl 0 rfl) ?_
  refine ro_l (va_runV (As := []) (rest := [.long (lZ pp), .long (lZ ((qq - pp) * 4294967296))]) ⟨hx, hb, hml, hown, hts⟩ (c_X6_bare l D cI cJ cB cZ h a1 a2 a3 a4 a5 a6 a7 thr eg fr wt rk nx nd es pp qq st ch bo tp le sz at_ fa fp nu fm nn ou om N E w hM P Q x hR) (cwV 0 hts gX6_step_X6_bare rfl rfl rfl (by decide +kernel) ⟨Nat.le_of_ble_eq_true rfl, Nat.le_of_ble_eq_true rfl⟩) (pre0V hE hP 0 rfl rfl) rfl rfl hl.1 rfl (lv_room (Nat.le_of_ble_eq_true rfl)) dX6_step_20 ⟨Nat.le_of_ble_eq_true rfl, Nat.le_of_ble_eq_true rfl⟩) (fun r_1 hr_2 => ?_)
  subst hr_2
  refine z_lmul hx hb dX6_step_23 ?_
  refine z_ladd hx hb dX6_step_24 ?_
  refine z_tol ((((Q - P) * 4294967296 + P * bar E N x : Nat) : Int)) (by rw [k1, k2, Int.natCast_add, Int.natCast_mul P]; omega) ?_
  refine lv_aload_n hx hb dX6_step_25 rfl (lv_at hl 0 rfl) ?_
  refine va_get (v := .int (iZ qq)) (C := RX6) (T := TX6) (N := 24) (ci := 6) hx hb hts hi_6 hown hK hP 0 rfl rfl 9 (by decide) hw_1 (fun _ h9 => h9) rfl dX6_step_26 ?_
  refine z_i2l hx hb dX6_step_29 (by omega) ?_
  refine z_tol (((Q : Nat) : Int)) k2 ?_
  refine z_ldiv hx hb dX6_step_30 (by omega) (by omega) ?_
  refine z_tol (((tla E N P Q x : Nat) : Int)) (by rw [tla, Int.natCast_ediv]) ?_
  refine lv_lstore_n (lv' := [(1, .long (lZ ((tla E N P Q x : Nat) : Int))), (0, .ref h)]) hx hb dX6_step_31 rfl hl (by decide) rfl (fun ls hl => ?_)
  refine lv_aload_n hx hb dX6_step_32 rfl (lv_at hl 1 rfl) ?_
  refine ro_i (va_runV (As := []) (rest := []) ⟨hx, hb, hml, hown, hts⟩ (c_X6_whole l D cI cJ cB cZ h a1 a2 a3 a4 a5 a6 a7 thr eg fr wt rk nx nd es pp qq st ch bo tp le sz at_ fa fp nu fm nn ou om N E w hM) (cwV 0 hts gX6_step_X6_whole rfl rfl rfl (by decide +kernel) ⟨Nat.le_of_ble_eq_true rfl, Nat.le_of_ble_eq_true rfl⟩) (pre0V hE hP 0 rfl rfl) rfl rfl hl.1 rfl (lv_room (Nat.le_of_ble_eq_true rfl)) dX6_step_33 ⟨Nat.le_of_ble_eq_true rfl, Nat.le_of_ble_eq_true rfl⟩) (fun r_3 hr_4 => ?_)
  subst hr_4
  refine lv_istore_n (lv' := [(3, .int (iZ ((fb_sm w N : Nat) : Int))), (1, .long (lZ ((tla E N P Q x : Nat) : Int))), (0, .ref h)]) hx hb dX6_step_36 rfl hl (by decide) rfl (fun ls hl => ?_)
  refine z_iconst hx hb dX6_step_37 ?_
  refine lv_istore (lv' := [(4, .int (iZ 0)), (3, .int (iZ ((fb_sm w N : Nat) : Int))), (1, .long (lZ ((tla E N P Q x : Nat) : Int))), (0, .ref h)]) hx hb dX6_step_38 hl (by decide) rfl (fun ls hl => ?_)
  refine w_loop (fun kf H locs ls => ∃ (i : Nat), ∃ (ga : Nat → Int), kf = N - i ∧ (i ≤ N ∧ ∀ v, v < i → ga v = ((tla E N P Q x * w v / fb_sm w N : Nat) : Int)) ∧ va_P D vwCl (wMo cI cJ cB cZ h a1 a2 a3 a4 a5 a6 a7 thr eg fr wt rk ga nd es pp qq st ch bo tp le sz at_ fa fp nu fm nn ou om) H ∧ va_D A (wMo cI cJ cB cZ h a1 a2 a3 a4 a5 a6 a7 thr eg fr wt rk ga nd es pp qq st ch bo tp le sz at_ fa fp nu fm nn ou om) ∧ va_S A s.heap H locs ∧ lv_has ls 8 [(0, .ref h), (1, .long (lZ ((tla E N P Q x : Nat) : Int))), (3, .int (iZ ((fb_sm w N : Nat) : Int))), (4, .int (iZ ↑i))]) ?_ _ ⟨0, nx, rfl, ⟨by omega, fun v hv => absurd hv (Nat.not_lt_zero v)⟩, hP, hD, hS, lv_sub hl [3, 2, 1, 0] rfl⟩
  rintro kf H locs ls ⟨i, ga, hk, ⟨i1, i2⟩, hP, hD, hS, hl⟩ ih
  refine lv_iload hx hb dX6_step_40 (lv_at hl 3 rfl) ?_
  refine lv_aload_n hx hb dX6_step_42 rfl (lv_at hl 0 rfl) ?_
  refine va_get (v := .int (iZ nd)) (C := RX6) (T := TX6) (N := 24) (ci := 6) hx hb hts hi_6 hown hK hP 0 rfl rfl 6 (by decide) hw_4 (fun _ h9 => h9) rfl dX6_step_43 ?_
  refine z_icmp_ge (tgt := 75) hx hb dX6_step_46 (by decide) (by omega) (by omega) (fun c_5 => ?_) (fun c_5 => ?_)
  · refine z_iconst hx hb dX6_step_75 ?_
    refine lv_istore (lv' := [(4, .int (iZ 0)), (0, .ref h), (1, .long (lZ ((tla E N P Q x : Nat) : Int))), (3, .int (iZ ((fb_sm w N : Nat) : Int)))]) hx hb dX6_step_76 hl (by decide) rfl (fun ls hl => ?_)
    refine w_loop (fun kf H locs ls => ∃ (j : Nat), ∃ (gb : Nat → Int), kf = N - j ∧ (j ≤ N ∧ ∀ v, v < N → gb v = ((tla E N P Q x * w v / fb_sm w N + fb_sm (fun u => if E u v = true then shr E N P Q x u else 0) j : Nat) : Int)) ∧ va_P D vwCl (wMo cI cJ cB cZ h a1 a2 a3 a4 a5 a6 a7 thr eg fr wt rk gb nd es pp qq st ch bo tp le sz at_ fa fp nu fm nn ou om) H ∧ va_D A (wMo cI cJ cB cZ h a1 a2 a3 a4 a5 a6 a7 thr eg fr wt rk gb nd es pp qq st ch bo tp le sz at_ fa fp nu fm nn ou om) ∧ va_S A s.heap H locs ∧ lv_has ls 8 [(0, .ref h), (4, .int (iZ ↑j))]) ?_ _ ⟨0, ga, rfl, ⟨by omega, fun v hv => by rw [i2 v (by omega)]; rfl⟩, hP, hD, hS, lv_sub hl [1, 0] rfl⟩
    rintro kf H locs ls ⟨j, gb, hk, ⟨i3, i4⟩, hP, hD, hS, hl⟩ ih1
    refine lv_iload hx hb dX6_step_78 (lv_at hl 1 rfl) ?_
    refine lv_aload_n hx hb dX6_step_80 rfl (lv_at hl 0 rfl) ?_
    refine va_get (v := .int (iZ nd)) (C := RX6) (T := TX6) (N := 24) (ci := 6) hx hb hts hi_6 hown hK hP 0 rfl rfl 6 (by decide) hw_4 (fun _ h9 => h9) rfl dX6_step_81 ?_
    refine z_icmp_ge (tgt := 159) hx hb dX6_step_84 (by decide) (by omega) (by omega) (fun c_6 => ?_) (fun c_6 => ?_)
    · have y1 : ∀ v, v < N → gb v = ((stp E N w P Q x v : Nat) : Int) := fun v hv => by rw [i4 v hv, show j = N by omega]; rfl
      refine lv_aload_n hx hb dX6_step_159 rfl (lv_at hl 0 rfl) ?_
      refine z_lconst hx hb 0  dX6_step_160 rfl ?_
      refine va_put (v := .long (lZ 0)) (ty := .long) (C := RX6) (T := TX6) (N := 24) (ci := 6) hx hb hts hi_6 tyX6 tyX6_ok nmX6 hown hK hP hD hS 0 rfl rfl 11 (by decide) hw_5 (fun _ h9 => h9) rfl (by decide +kernel) rfl rfl (Nat.le_of_ble_eq_true rfl) dX6_step_161 (fun H locs hP hD hS => ?_)
      have hP : va_P D vwCl (wMo cI cJ cB cZ h a1 a2 a3 a4 a5 a6 a7 thr eg fr wt rk gb nd es pp qq st 0 bo tp le sz at_ fa fp nu fm nn ou om) H := hP
      have hD : va_D A (wMo cI cJ cB cZ h a1 a2 a3 a4 a5 a6 a7 thr eg fr wt rk gb nd es pp qq st 0 bo tp le sz at_ fa fp nu fm nn ou om) := hD
      refine z_iconst hx hb dX6_step_164 ?_
      refine lv_istore (lv' := [(4, .int (iZ 0)), (0, .ref h)]) hx hb dX6_step_165 hl (by decide) rfl (fun ls hl => ?_)
      refine w_loop (fun kf H locs ls => ∃ (u0 : Nat), ∃ (gd : Nat → Int), ∃ (ic : Int), kf = N - u0 ∧ (u0 ≤ N ∧ ic = ((fb_sm (fun v => dis (x v) (stp E N w P Q x v)) u0 : Nat) : Int) ∧ (∀ v, v < u0 → gd v = ((stp E N w P Q x v : Nat) : Int)) ∧ (∀ v, u0 ≤ v → v < N → gd v = ((x v : Nat) : Int))) ∧ va_P D vwCl (wMo cI cJ cB cZ h a1 a2 a3 a4 a5 a6 a7 thr eg fr wt gd gb nd es pp qq st ic bo tp le sz at_ fa fp nu fm nn ou om) H ∧ va_D A (wMo cI cJ cB cZ h a1 a2 a3 a4 a5 a6 a7 thr eg fr wt gd gb nd es pp qq st ic bo tp le sz at_ fa fp nu fm nn ou om) ∧ va_S A s.heap H locs ∧ lv_has ls 8 [(0, .ref h), (4, .int (iZ ↑u0))]) ?_ _ ⟨0, rk, 0, rfl, ⟨by omega, rfl, fun v hv => absurd hv (Nat.not_lt_zero v), fun v _ hv => k5 v hv⟩, hP, hD, hS, lv_sub hl [1, 0] rfl⟩
      rintro kf H locs ls ⟨u0, gd, ic, hk, ⟨i7, i8, i9, i10⟩, hP, hD, hS, hl⟩ ih
      refine lv_iload hx hb dX6_step_167 (lv_at hl 1 rfl) ?_
      refine lv_aload_n hx hb dX6_step_169 rfl (lv_at hl 0 rfl) ?_
      refine va_get (v := .int (iZ nd)) (C := RX6) (T := TX6) (N := 24) (ci := 6) hx hb hts hi_6 hown hK hP 0 rfl rfl 6 (by decide) hw_4 (fun _ h9 => h9) rfl dX6_step_170 ?_
      refine z_icmp_ge (tgt := 256) hx hb dX6_step_173 (by decide) (by omega) (by omega) (fun c_7 => ?_) (fun c_7 => ?_)
      · refine lv_aload_n hx hb dX6_step_256 rfl (lv_at hl 0 rfl) ?_
        refine lv_aload_n hx hb dX6_step_257 rfl (lv_at hl 0 rfl) ?_
        refine va_get (v := .long (lZ bo)) (C := RX6) (T := TX6) (N := 24) (ci := 6) hx hb hts hi_6 hown hK hP 0 rfl rfl 12 (by decide) hw_6 (fun _ h9 => h9) rfl dX6_step_258 ?_
        refine lv_aload_n hx hb dX6_step_261 rfl (lv_at hl 0 rfl) ?_
        refine va_get (v := .int (iZ pp)) (C := RX6) (T := TX6) (N := 24) (ci := 6) hx hb hts hi_6 hown hK hP 0 rfl rfl 8 (by decide) hw_2 (fun _ h9 => h9) rfl dX6_step_262 ?_
        refine z_i2l hx hb dX6_step_265 (by omega) ?_
        refine z_lmul hx hb dX6_step_266 ?_
        refine z_tol (((ke * P : Nat) : Int)) (by rw [hke, k1, Int.natCast_mul]) ?_
        refine lv_aload_n hx hb dX6_step_267 rfl (lv_at hl 0 rfl) ?_
        refine va_get (v := .int (iZ qq)) (C := RX6) (T := TX6) (N := 24) (ci := 6) hx hb hts hi_6 hown hK hP 0 rfl rfl 9 (by decide) hw_1 (fun _ h9 => h9) rfl dX6_step_268 ?_
        refine z_i2l hx hb dX6_step_271 (by omega) ?_
        refine z_tol (((Q : Nat) : Int)) k2 ?_
        refine z_ldiv hx hb dX6_step_272 (by omega) (by omega) ?_
        refine z_tol (((ke * P / Q : Nat) : Int)) (by rw [Int.natCast_ediv]) ?_
        refine z_lconst hx hb 1  dX6_step_273 rfl ?_
        refine z_ladd hx hb dX6_step_274 ?_
        refine z_tol (((ke * P / Q + 1 : Nat) : Int)) (by omega) ?_
        refine va_put (v := .long (lZ ((ke * P / Q + 1 : Nat) : Int))) (ty := .long) (C := RX6) (T := TX6) (N := 24) (ci := 6) hx hb hts hi_6 tyX6 tyX6_ok nmX6 hown hK hP hD hS 0 rfl rfl 12 (by decide) hw_6 (fun _ h9 => h9) rfl (by decide +kernel) rfl rfl (Nat.le_of_ble_eq_true rfl) dX6_step_275 (fun H locs hP hD hS => ?_)
        have hP : va_P D vwCl (wMo cI cJ cB cZ h a1 a2 a3 a4 a5 a6 a7 thr eg fr wt gd gb nd es pp qq st ic ((ke * P / Q + 1 : Nat) : Int) tp le sz at_ fa fp nu fm nn ou om) H := hP
        have hD : va_D A (wMo cI cJ cB cZ h a1 a2 a3 a4 a5 a6 a7 thr eg fr wt gd gb nd es pp qq st ic ((ke * P / Q + 1 : Nat) : Int) tp le sz at_ fa fp nu fm nn ou om) := hD
        refine lv_aload_n hx hb dX6_step_278 rfl (lv_at hl 0 rfl) ?_
        refine lv_dup hx hb dX6_step_279 rfl ?_
        refine va_get (v := .int (iZ st)) (C := RX6) (T := TX6) (N := 24) (ci := 6) hx hb hts hi_6 hown hK hP 0 rfl rfl 10 (by decide) hw_7 (fun _ h9 => h9) rfl dX6_step_280 ?_
        refine z_iconst hx hb dX6_step_283 ?_
        refine z_iadd hx hb dX6_step_284 ?_
        refine va_put (v := .int (iZ (st + 1))) (ty := .int) (C := RX6) (T := TX6) (N := 24) (ci := 6) hx hb hts hi_6 tyX6 tyX6_ok nmX6 hown hK hP hD hS 0 rfl rfl 10 (by decide) hw_7 (fun _ h9 => h9) rfl (by decide +kernel) rfl rfl (Nat.le_of_ble_eq_true rfl) dX6_step_285 (fun H locs hP hD hS => ?_)
        have hP : va_P D vwCl (wMo cI cJ cB cZ h a1 a2 a3 a4 a5 a6 a7 thr eg fr wt gd gb nd es pp qq (st + 1) ic ((ke * P / Q + 1 : Nat) : Int) tp le sz at_ fa fp nu fm nn ou om) H := hP
        have hD : va_D A (wMo cI cJ cB cZ h a1 a2 a3 a4 a5 a6 a7 thr eg fr wt gd gb nd es pp qq (st + 1) ic ((ke * P / Q + 1 : Nat) : Int) tp le sz at_ fa fp nu fm nn ou om) := hD
        exact rw_vret (gd, gb, st + 1, ic, ((ke * P / Q + 1 : Nat) : Int)) hx hb hr hlocks hP hD hS (by have uN : u0 = N := (by omega); rw [uN] at i8 i9; exact ⟨i9, rfl, i8, rfl⟩) dX6_step_288
      · have r1 := y1 u0 (by omega)
        have r2 := i10 u0 (by omega) (by omega)
        have sD : fb_sm (fun v => dis (x v) (stp E N w P Q x v)) (u0 + 1) = fb_sm (fun v => dis (x v) (stp E N w P Q x v)) u0 + dis (x u0) (stp E N w P Q x u0) := fb_sm_succ _ u0
        have sx := sm_at (x := x) (show u0 < N by omega)
        have ss := sm_at (x := stp E N w P Q x) (show u0 < N by omega)
        refine lv_aload_n hx hb dX6_step_176 rfl (lv_at hl 0 rfl) ?_
        refine lv_dup hx hb dX6_step_177 rfl ?_
        refine va_get (v := .long (lZ ic)) (C := RX6) (T := TX6) (N := 24) (ci := 6) hx hb hts hi_6 hown hK hP 0 rfl rfl 11 (by decide) hw_5 (fun _ h9 => h9) rfl dX6_step_178 ?_
        refine lv_aload_n hx hb dX6_step_181 rfl (lv_at hl 0 rfl) ?_
        refine va_get (v := .ref a5) (C := RX6) (T := TX6) (N := 24) (ci := 6) hx hb hts hi_6 hown hK hP 0 rfl rfl 5 (by decide) hw_8 (fun _ h9 => h9) rfl dX6_step_182 ?_
        refine lv_iload hx hb dX6_step_185 (lv_at hl 1 rfl) ?_
        refine z_lald hx hb hK hP 5 1 rfl rfl u0 (by omega) (by omega) (by omega) dX6_step_187 ?_
        refine lv_aload_n hx hb dX6_step_188 rfl (lv_at hl 0 rfl) ?_
        refine va_get (v := .ref a4) (C := RX6) (T := TX6) (N := 24) (ci := 6) hx hb hts hi_6 hown hK hP 0 rfl rfl 4 (by decide) hw_9 (fun _ h9 => h9) rfl dX6_step_189 ?_
        refine lv_iload hx hb dX6_step_192 (lv_at hl 1 rfl) ?_
        refine z_lald hx hb hK hP 4 1 rfl rfl u0 (by omega) (by omega) (by omega) dX6_step_194 ?_
        refine z_lc_le (tgt := 217) hx hb dX6_step_195 dX6_step_196 (by decide) (by omega) (by omega) (fun c_8 => ?_) (fun c_8 => ?_)
        · have dd : dis (x u0) (stp E N w P Q x u0) = x u0 - stp E N w P Q x u0 := by rw [dis, if_neg (by omega)]
          refine lv_aload_n hx hb dX6_step_217 rfl (lv_at hl 0 rfl) ?_
          refine va_get (v := .ref a4) (C := RX6) (T := TX6) (N := 24) (ci := 6) hx hb hts hi_6 hown hK hP 0 rfl rfl 4 (by decide) hw_9 (fun _ h9 => h9) rfl dX6_step_218 ?_
          refine lv_iload hx hb dX6_step_221 (lv_at hl 1 rfl) ?_
          refine z_lald hx hb hK hP 4 1 rfl rfl u0 (by omega) (by omega) (by omega) dX6_step_223 ?_
          refine lv_aload_n hx hb dX6_step_224 rfl (lv_at hl 0 rfl) ?_
          refine va_get (v := .ref a5) (C := RX6) (T := TX6) (N := 24) (ci := 6) hx hb hts hi_6 hown hK hP 0 rfl rfl 5 (by decide) hw_8 (fun _ h9 => h9) rfl dX6_step_225 ?_
          refine lv_iload hx hb dX6_step_228 (lv_at hl 1 rfl) ?_
          refine z_lald hx hb hK hP 5 1 rfl rfl u0 (by omega) (by omega) (by omega) dX6_step_230 ?_
          refine z_lsub hx hb dX6_step_231 ?_
          refine z_ladd hx hb dX6_step_232 ?_
          refine va_put (v := .long (lZ (ic + ((gd u0) - (gb u0))))) (ty := .long) (C := RX6) (T := TX6) (N := 24) (ci := 6) hx hb hts hi_6 tyX6 tyX6_ok nmX6 hown hK hP hD hS 0 rfl rfl 11 (by decide) hw_5 (fun _ h9 => h9) rfl (by decide +kernel) rfl rfl (Nat.le_of_ble_eq_true rfl) dX6_step_233 (fun H locs hP hD hS => ?_)
          have hP : va_P D vwCl (wMo cI cJ cB cZ h a1 a2 a3 a4 a5 a6 a7 thr eg fr wt gd gb nd es pp qq st (ic + ((gd u0) - (gb u0))) bo tp le sz at_ fa fp nu fm nn ou om) H := hP
          have hD : va_D A (wMo cI cJ cB cZ h a1 a2 a3 a4 a5 a6 a7 thr eg fr wt gd gb nd es pp qq st (ic + ((gd u0) - (gb u0))) bo tp le sz at_ fa fp nu fm nn ou om) := hD
          refine lv_aload_n hx hb dX6_step_236 rfl (lv_at hl 0 rfl) ?_
          refine va_get (v := .ref a4) (C := RX6) (T := TX6) (N := 24) (ci := 6) hx hb hts hi_6 hown hK hP 0 rfl rfl 4 (by decide) hw_9 (fun _ h9 => h9) rfl dX6_step_237 ?_
          refine lv_iload hx hb dX6_step_240 (lv_at hl 1 rfl) ?_
          refine lv_aload_n hx hb dX6_step_242 rfl (lv_at hl 0 rfl) ?_
          refine va_get (v := .ref a5) (C := RX6) (T := TX6) (N := 24) (ci := 6) hx hb hts hi_6 hown hK hP 0 rfl rfl 5 (by decide) hw_8 (fun _ h9 => h9) rfl dX6_step_243 ?_
          refine lv_iload hx hb dX6_step_246 (lv_at hl 1 rfl) ?_
          refine z_lald hx hb hK hP 5 1 rfl rfl u0 (by omega) (by omega) (by omega) dX6_step_248 ?_
          refine z_last hx hb hK hP hD hS 4 1 rfl rfl u0 (by omega) (by omega) (by omega) dX6_step_249 (fun H locs hP hD hS => ?_)
          have hP : va_P D vwCl (wMo cI cJ cB cZ h a1 a2 a3 a4 a5 a6 a7 thr eg fr wt (uZ gd u0 (gb u0)) gb nd es pp qq st (ic + ((gd u0) - (gb u0))) bo tp le sz at_ fa fp nu fm nn ou om) H := hP
          have hD : va_D A (wMo cI cJ cB cZ h a1 a2 a3 a4 a5 a6 a7 thr eg fr wt (uZ gd u0 (gb u0)) gb nd es pp qq st (ic + ((gd u0) - (gb u0))) bo tp le sz at_ fa fp nu fm nn ou om) := hD
          refine lv_iinc (v := iZ (↑u0 + 1)) (lv' := [(4, .int (iZ (↑u0 + 1))), (0, .ref h)]) hx hb dX6_step_250 hl (k := 1) rfl (show iZ ↑u0 + iZ 1 = _ from iZ_add _ _) (by decide) rfl (fun ls hl => ?_)
          refine lv_goto (tgt := 167) hx hb dX6_step_253 (by decide) ?_
          exact ih _ _ _ _ (by omega) ⟨(u0 + 1), (uZ gd u0 (gb u0)), (ic + ((gd u0) - (gb u0))), rfl, ⟨by omega, by omega, fun v hv => (by by_cases q : v = u0; (rw [q, uZ_s, r1]); (rw [uZ_n q]; exact i9 v (by omega))), fun v hv hv2 => (by rw [uZ_n (by omega)]; exact i10 v (by omega) hv2)⟩, hP, hD, hS, lv_sub hl [1, 0] rfl⟩
        · have dd : dis (x u0) (stp E N w P Q x u0) = stp E N w P Q x u0 - x u0 := by rw [dis, if_pos (by omega)]
          refine lv_aload_n hx hb dX6_step_199 rfl (lv_at hl 0 rfl) ?_
          refine va_get (v := .ref a5) (C := RX6) (T := TX6) (N := 24) (ci := 6) hx hb hts hi_6 hown hK hP 0 rfl rfl 5 (by decide) hw_8 (fun _ h9 => h9) rfl dX6_step_200 ?_
          refine lv_iload hx hb dX6_step_203 (lv_at hl 1 rfl) ?_
          refine z_lald hx hb hK hP 5 1 rfl rfl u0 (by omega) (by omega) (by omega) dX6_step_205 ?_
          refine lv_aload_n hx hb dX6_step_206 rfl (lv_at hl 0 rfl) ?_
          refine va_get (v := .ref a4) (C := RX6) (T := TX6) (N := 24) (ci := 6) hx hb hts hi_6 hown hK hP 0 rfl rfl 4 (by decide) hw_9 (fun _ h9 => h9) rfl dX6_step_207 ?_
          refine lv_iload hx hb dX6_step_210 (lv_at hl 1 rfl) ?_
          refine z_lald hx hb hK hP 4 1 rfl rfl u0 (by omega) (by omega) (by omega) dX6_step_212 ?_
          refine z_lsub hx hb dX6_step_213 ?_
          refine lv_goto (tgt := 232) hx hb dX6_step_214 (by decide) ?_
          refine z_ladd hx hb dX6_step_232 ?_
          refine va_put (v := .long (lZ (ic + ((gb u0) - (gd u0))))) (ty := .long) (C := RX6) (T := TX6) (N := 24) (ci := 6) hx hb hts hi_6 tyX6 tyX6_ok nmX6 hown hK hP hD hS 0 rfl rfl 11 (by decide) hw_5 (fun _ h9 => h9) rfl (by decide +kernel) rfl rfl (Nat.le_of_ble_eq_true rfl) dX6_step_233 (fun H locs hP hD hS => ?_)
          have hP : va_P D vwCl (wMo cI cJ cB cZ h a1 a2 a3 a4 a5 a6 a7 thr eg fr wt gd gb nd es pp qq st (ic + ((gb u0) - (gd u0))) bo tp le sz at_ fa fp nu fm nn ou om) H := hP
          have hD : va_D A (wMo cI cJ cB cZ h a1 a2 a3 a4 a5 a6 a7 thr eg fr wt gd gb nd es pp qq st (ic + ((gb u0) - (gd u0))) bo tp le sz at_ fa fp nu fm nn ou om) := hD
          refine lv_aload_n hx hb dX6_step_236 rfl (lv_at hl 0 rfl) ?_
          refine va_get (v := .ref a4) (C := RX6) (T := TX6) (N := 24) (ci := 6) hx hb hts hi_6 hown hK hP 0 rfl rfl 4 (by decide) hw_9 (fun _ h9 => h9) rfl dX6_step_237 ?_
          refine lv_iload hx hb dX6_step_240 (lv_at hl 1 rfl) ?_
          refine lv_aload_n hx hb dX6_step_242 rfl (lv_at hl 0 rfl) ?_
          refine va_get (v := .ref a5) (C := RX6) (T := TX6) (N := 24) (ci := 6) hx hb hts hi_6 hown hK hP 0 rfl rfl 5 (by decide) hw_8 (fun _ h9 => h9) rfl dX6_step_243 ?_
          refine lv_iload hx hb dX6_step_246 (lv_at hl 1 rfl) ?_
          refine z_lald hx hb hK hP 5 1 rfl rfl u0 (by omega) (by omega) (by omega) dX6_step_248 ?_
          refine z_last hx hb hK hP hD hS 4 1 rfl rfl u0 (by omega) (by omega) (by omega) dX6_step_249 (fun H locs hP hD hS => ?_)
          have hP : va_P D vwCl (wMo cI cJ cB cZ h a1 a2 a3 a4 a5 a6 a7 thr eg fr wt (uZ gd u0 (gb u0)) gb nd es pp qq st (ic + ((gb u0) - (gd u0))) bo tp le sz at_ fa fp nu fm nn ou om) H := hP
          have hD : va_D A (wMo cI cJ cB cZ h a1 a2 a3 a4 a5 a6 a7 thr eg fr wt (uZ gd u0 (gb u0)) gb nd es pp qq st (ic + ((gb u0) - (gd u0))) bo tp le sz at_ fa fp nu fm nn ou om) := hD
          refine lv_iinc (v := iZ (↑u0 + 1)) (lv' := [(4, .int (iZ (↑u0 + 1))), (0, .ref h)]) hx hb dX6_step_250 hl (k := 1) rfl (show iZ ↑u0 + iZ 1 = _ from iZ_add _ _) (by decide) rfl (fun ls hl => ?_)
          refine lv_goto (tgt := 167) hx hb dX6_step_253 (by decide) ?_
          exact ih _ _ _ _ (by omega) ⟨(u0 + 1), (uZ gd u0 (gb u0)), (ic + ((gb u0) - (gd u0))), rfl, ⟨by omega, by omega, fun v hv => (by by_cases q : v = u0; (rw [q, uZ_s, r1]); (rw [uZ_n q]; exact i9 v (by omega))), fun v hv hv2 => (by rw [uZ_n (by omega)]; exact i10 v (by omega) hv2)⟩, hP, hD, hS, lv_sub hl [1, 0] rfl⟩
    · refine lv_aload_n hx hb dX6_step_87 rfl (lv_at hl 0 rfl) ?_
      refine lv_iload hx hb dX6_step_88 (lv_at hl 1 rfl) ?_
      refine z_iconst hx hb dX6_step_90 ?_
      refine ro_i (va_runV (As := [.int (iZ ↑j), .int (iZ 0)]) (rest := []) ⟨hx, hb, hml, hown, hts⟩ (c_X6_many0 l D cI cJ cB cZ h a1 a2 a3 a4 a5 a6 a7 thr eg fr wt rk gb nd es pp qq st ch bo tp le sz at_ fa fp nu fm nn ou om (↑j) N E w hM (by omega)) (cwV 2 hts gX6_step_X6_many rfl rfl rfl (by decide +kernel) ⟨Nat.le_of_ble_eq_true rfl, Nat.le_of_ble_eq_true rfl⟩) (pre0V hE hP 0 rfl rfl) rfl rfl hl.1 rfl (lv_room (Nat.le_of_ble_eq_true rfl)) dX6_step_91 ⟨Nat.le_of_ble_eq_true rfl, Nat.le_of_ble_eq_true rfl⟩) (fun r_9 hr_10 => ?_)
      have q4 : r_9 = ((dgr E N j : Nat) : Int) := by rw [hr_10, Int.toNat_natCast]; rfl
      have q7 := dgr_le E N j
      refine z_if_ne (tgt := 100) hx hb dX6_step_94 (by decide) (by omega) (fun c_11 => ?_) (fun c_11 => ?_)
      · refine lv_aload_n hx hb dX6_step_100 rfl (lv_at hl 0 rfl) ?_
        refine lv_iload hx hb dX6_step_101 (lv_at hl 1 rfl) ?_
        refine ro_l (va_runV (As := [.int (iZ ↑j)]) (rest := []) ⟨hx, hb, hml, hown, hts⟩ (c_X6_share l D cI cJ cB cZ h a1 a2 a3 a4 a5 a6 a7 thr eg fr wt rk gb nd es pp qq st ch bo tp le sz at_ fa fp nu fm nn ou om (↑j) N E w hM P Q x hR (by omega) (by rw [Int.toNat_natCast]; omega)) (cwV 1 hts gX6_step_X6_share rfl rfl rfl (by decide +kernel) ⟨Nat.le_of_ble_eq_true rfl, Nat.le_of_ble_eq_true rfl⟩) (pre0V hE hP 0 rfl rfl) rfl rfl hl.1 rfl (lv_room (Nat.le_of_ble_eq_true rfl)) dX6_step_103 ⟨Nat.le_of_ble_eq_true rfl, Nat.le_of_ble_eq_true rfl⟩) (fun r_12 hr_13 => ?_)
        subst hr_13
        refine z_tol (((shr E N P Q x j : Nat) : Int)) (by rw [Int.toNat_natCast]) ?_
        refine lv_lstore (lv' := [(5, .long (lZ ((shr E N P Q x j : Nat) : Int))), (0, .ref h), (4, .int (iZ ↑j))]) hx hb dX6_step_106 hl (by decide) rfl (fun ls hl => ?_)
        refine z_iconst hx hb dX6_step_108 ?_
        refine lv_istore (lv' := [(7, .int (iZ 0)), (5, .long (lZ ((shr E N P Q x j : Nat) : Int))), (0, .ref h), (4, .int (iZ ↑j))]) hx hb dX6_step_109 hl (by decide) rfl (fun ls hl => ?_)
        refine w_loop (fun kf H locs ls => ∃ (t : Nat), ∃ (gc : Nat → Int), kf = N - t ∧ (t ≤ N ∧ ∀ v, v < N → gc v = ((tla E N P Q x * w v / fb_sm w N + fb_sm (fun u => if E u v = true then shr E N P Q x u else 0) j + (if v < t ∧ E j v = true then shr E N P Q x j else 0) : Nat) : Int)) ∧ va_P D vwCl (wMo cI cJ cB cZ h a1 a2 a3 a4 a5 a6 a7 thr eg fr wt rk gc nd es pp qq st ch bo tp le sz at_ fa fp nu fm nn ou om) H ∧ va_D A (wMo cI cJ cB cZ h a1 a2 a3 a4 a5 a6 a7 thr eg fr wt rk gc nd es pp qq st ch bo tp le sz at_ fa fp nu fm nn ou om) ∧ va_S A s.heap H locs ∧ lv_has ls 8 [(0, .ref h), (4, .int (iZ ↑j)), (5, .long (lZ ((shr E N P Q x j : Nat) : Int))), (7, .int (iZ ↑t))]) ?_ _ ⟨0, gb, rfl, ⟨by omega, fun v hv => by rw [if_neg (fun q => Nat.not_lt_zero v q.1), Nat.add_zero]; exact i4 v hv⟩, hP, hD, hS, lv_sub hl [2, 3, 1, 0] rfl⟩
        rintro kf H locs ls ⟨t, gc, hk, ⟨i5, i6⟩, hP, hD, hS, hl⟩ ih2
        refine lv_iload hx hb dX6_step_111 (lv_at hl 3 rfl) ?_
        refine lv_aload_n hx hb dX6_step_113 rfl (lv_at hl 0 rfl) ?_
        refine va_get (v := .int (iZ nd)) (C := RX6) (T := TX6) (N := 24) (ci := 6) hx hb hts hi_6 hown hK hP 0 rfl rfl 6 (by decide) hw_4 (fun _ h9 => h9) rfl dX6_step_114 ?_
        refine z_icmp_ge (tgt := 153) hx hb dX6_step_117 (by decide) (by omega) (by omega) (fun c_14 => ?_) (fun c_14 => ?_)
        · refine lv_iinc (v := iZ (↑j + 1)) (lv' := [(4, .int (iZ (↑j + 1))), (0, .ref h), (5, .long (lZ ((shr E N P Q x j : Nat) : Int))), (7, .int (iZ ↑t))]) hx hb dX6_step_153 hl (k := 1) rfl (show iZ ↑j + iZ 1 = _ from iZ_add _ _) (by decide) rfl (fun ls hl => ?_)
          refine lv_goto (tgt := 78) hx hb dX6_step_156 (by decide) ?_
          exact ih1 _ _ _ _ (by omega) ⟨(j + 1), gc, rfl, ⟨by omega, fun v hv => by have sS : fb_sm (fun u => if E u v = true then shr E N P Q x u else 0) (j + 1) = fb_sm (fun u => if E u v = true then shr E N P Q x u else 0) j + (if E j v = true then shr E N P Q x j else 0) := fb_sm_succ _ j; rw [i6 v hv, sS]; by_cases q : E j v = true; (rw [if_pos ⟨by omega, q⟩, if_pos q, Nat.add_assoc]); (rw [if_neg (fun q2 => q q2.2), if_neg q, Nat.add_assoc])⟩, hP, hD, hS, lv_sub hl [1, 0] rfl⟩
        · refine lv_aload_n hx hb dX6_step_120 rfl (lv_at hl 0 rfl) ?_
          refine va_get (v := .ref a5) (C := RX6) (T := TX6) (N := 24) (ci := 6) hx hb hts hi_6 hown hK hP 0 rfl rfl 5 (by decide) hw_8 (fun _ h9 => h9) rfl dX6_step_121 ?_
          refine lv_iload hx hb dX6_step_124 (lv_at hl 3 rfl) ?_
          refine lv_dup2_11 hx hb dX6_step_126 rfl rfl ?_
          refine z_lald hx hb hK hP 5 1 rfl rfl t (by omega) (by omega) (by omega) dX6_step_127 ?_
          refine lv_aload_n hx hb dX6_step_128 rfl (lv_at hl 0 rfl) ?_
          refine lv_iload hx hb dX6_step_129 (lv_at hl 1 rfl) ?_
          refine lv_iload hx hb dX6_step_131 (lv_at hl 3 rfl) ?_
          refine ro_i (va_runV (As := [.int (iZ ↑j), .int (iZ ↑t)]) (rest := [.long (lZ (gc t)), .int (iZ ↑t), .ref a5]) ⟨hx, hb, hml, hown, hts⟩ (c_X6_goes l D cI cJ cB cZ h a1 a2 a3 a4 a5 a6 a7 thr eg fr wt rk gc nd es pp qq st ch bo tp le sz at_ fa fp nu fm nn ou om (↑j) (↑t) (by omega) (by omega) E m1) (cwV 2 hts gX6_step_X6_goes rfl rfl rfl (by decide +kernel) ⟨Nat.le_of_ble_eq_true rfl, Nat.le_of_ble_eq_true rfl⟩) (pre0V hE hP 0 rfl rfl) rfl rfl hl.1 rfl (lv_room (Nat.le_of_ble_eq_true rfl)) dX6_step_133 ⟨Nat.le_of_ble_eq_true rfl, Nat.le_of_ble_eq_true rfl⟩) (fun r_15 hr_16 => ?_)
          rcases hr_16 with ⟨rfl, hq_17⟩ | ⟨rfl, hq_17⟩
          · have n3 := hq_17
            rw [Int.toNat_natCast, Int.toNat_natCast] at n3
            refine z_if_eq (tgt := 144) hx hb dX6_step_136 (by decide) (by omega) (fun c9 => absurd c9 (by decide)) (fun _ => ?_)
            refine lv_lload hx hb dX6_step_139 (lv_at hl 2 rfl) ?_
            refine lv_goto (tgt := 145) hx hb dX6_step_141 (by decide) ?_
            refine z_ladd hx hb dX6_step_145 ?_
            refine z_last hx hb hK hP hD hS 5 1 rfl rfl t (by omega) (by omega) (by omega) dX6_step_146 (fun H locs hP hD hS => ?_)
            have hP : va_P D vwCl (wMo cI cJ cB cZ h a1 a2 a3 a4 a5 a6 a7 thr eg fr wt rk (uZ gc t ((gc t) + ((shr E N P Q x j : Nat) : Int))) nd es pp qq st ch bo tp le sz at_ fa fp nu fm nn ou om) H := hP
            have hD : va_D A (wMo cI cJ cB cZ h a1 a2 a3 a4 a5 a6 a7 thr eg fr wt rk (uZ gc t ((gc t) + ((shr E N P Q x j : Nat) : Int))) nd es pp qq st ch bo tp le sz at_ fa fp nu fm nn ou om) := hD
            refine lv_iinc (v := iZ (↑t + 1)) (lv' := [(7, .int (iZ (↑t + 1))), (0, .ref h), (4, .int (iZ ↑j)), (5, .long (lZ ((shr E N P Q x j : Nat) : Int)))]) hx hb dX6_step_147 hl (k := 3) rfl (show iZ ↑t + iZ 1 = _ from iZ_add _ _) (by decide) rfl (fun ls hl => ?_)
            refine lv_goto (tgt := 111) hx hb dX6_step_150 (by decide) ?_
            exact ih2 _ _ _ _ (by omega) ⟨(t + 1), (uZ gc t ((gc t) + ((shr E N P Q x j : Nat) : Int))), rfl, ⟨by omega, cell_in (Ej := E j) i6 (by omega) (by first | rw [if_pos n3] | rw [if_neg n3])⟩, hP, hD, hS, lv_sub hl [1, 2, 3, 0] rfl⟩
          · have n3 := hq_17
            rw [Int.toNat_natCast, Int.toNat_natCast] at n3
            refine z_if_eq (tgt := 144) hx hb dX6_step_136 (by decide) (by omega) (fun _ => ?_) (fun c9 => absurd c9 (by decide))
            refine z_lconst hx hb 0  dX6_step_144 rfl ?_
            refine z_ladd hx hb dX6_step_145 ?_
            refine z_last hx hb hK hP hD hS 5 1 rfl rfl t (by omega) (by omega) (by omega) dX6_step_146 (fun H locs hP hD hS => ?_)
            have hP : va_P D vwCl (wMo cI cJ cB cZ h a1 a2 a3 a4 a5 a6 a7 thr eg fr wt rk (uZ gc t ((gc t) + 0)) nd es pp qq st ch bo tp le sz at_ fa fp nu fm nn ou om) H := hP
            have hD : va_D A (wMo cI cJ cB cZ h a1 a2 a3 a4 a5 a6 a7 thr eg fr wt rk (uZ gc t ((gc t) + 0)) nd es pp qq st ch bo tp le sz at_ fa fp nu fm nn ou om) := hD
            refine lv_iinc (v := iZ (↑t + 1)) (lv' := [(7, .int (iZ (↑t + 1))), (0, .ref h), (4, .int (iZ ↑j)), (5, .long (lZ ((shr E N P Q x j : Nat) : Int)))]) hx hb dX6_step_147 hl (k := 3) rfl (show iZ ↑t + iZ 1 = _ from iZ_add _ _) (by decide) rfl (fun ls hl => ?_)
            refine lv_goto (tgt := 111) hx hb dX6_step_150 (by decide) ?_
            exact ih2 _ _ _ _ (by omega) ⟨(t + 1), (uZ gc t ((gc t) + 0)), rfl, ⟨by omega, cell_in (Ej := E j) i6 (by omega) (by first | rw [if_pos n3] | rw [if_neg n3])⟩, hP, hD, hS, lv_sub hl [1, 2, 3, 0] rfl⟩
      · refine lv_goto (tgt := 153) hx hb dX6_step_97 (by decide) ?_
        refine lv_iinc (v := iZ (↑j + 1)) (lv' := [(4, .int (iZ (↑j + 1))), (0, .ref h)]) hx hb dX6_step_153 hl (k := 1) rfl (show iZ ↑j + iZ 1 = _ from iZ_add _ _) (by decide) rfl (fun ls hl => ?_)
        refine lv_goto (tgt := 78) hx hb dX6_step_156 (by decide) ?_
        exact ih1 _ _ _ _ (by omega) ⟨(j + 1), gb, rfl, ⟨by omega, fun v hv => by have sS : fb_sm (fun u => if E u v = true then shr E N P Q x u else 0) (j + 1) = fb_sm (fun u => if E u v = true then shr E N P Q x u else 0) j + (if E j v = true then shr E N P Q x j else 0) := fb_sm_succ _ j; rw [i4 v hv, sS, if_neg (no_row (show dgr E N j = 0 by omega) hv), Nat.add_zero]⟩, hP, hD, hS, lv_sub hl [1, 0] rfl⟩
  · have q8 := m8 i (by omega)
    have b5 := Nat.mul_le_mul t1 q8.2
    refine lv_aload_n hx hb dX6_step_49 rfl (lv_at hl 0 rfl) ?_
    refine va_get (v := .ref a5) (C := RX6) (T := TX6) (N := 24) (ci := 6) hx hb hts hi_6 hown hK hP 0 rfl rfl 5 (by decide) hw_8 (fun _ h9 => h9) rfl dX6_step_50 ?_
    refine lv_iload hx hb dX6_step_53 (lv_at hl 3 rfl) ?_
    refine lv_lload_n hx hb dX6_step_55 rfl (lv_at hl 1 rfl) ?_
    refine lv_aload_n hx hb dX6_step_56 rfl (lv_at hl 0 rfl) ?_
    refine va_get (v := .ref a3) (C := RX6) (T := TX6) (N := 24) (ci := 6) hx hb hts hi_6 hown hK hP 0 rfl rfl 3 (by decide) hw_10 (fun _ h9 => h9) rfl dX6_step_57 ?_
    refine lv_iload hx hb dX6_step_60 (lv_at hl 3 rfl) ?_
    refine z_iald hx hb hK hP 3 0 rfl rfl i (by omega) (by omega) (by omega) dX6_step_62 ?_
    refine z_i2l hx hb dX6_step_63 (by omega) ?_
    refine z_lmul hx hb dX6_step_64 ?_
    refine z_tol (((tla E N P Q x * w i : Nat) : Int)) (by rw [q8.1, Int.natCast_mul]) ?_
    refine lv_iload_n hx hb dX6_step_65 rfl (lv_at hl 2 rfl) ?_
    refine z_i2l hx hb dX6_step_66 (by omega) ?_
    refine z_ldiv hx hb dX6_step_67 (by omega) (by omega) ?_
    refine z_tol (((tla E N P Q x * w i / fb_sm w N : Nat) : Int)) (by rw [Int.natCast_ediv]) ?_
    refine z_last hx hb hK hP hD hS 5 1 rfl rfl i (by omega) (by omega) (by omega) dX6_step_68 (fun H locs hP hD hS => ?_)
    have hP : va_P D vwCl (wMo cI cJ cB cZ h a1 a2 a3 a4 a5 a6 a7 thr eg fr wt rk (uZ ga i ((tla E N P Q x * w i / fb_sm w N : Nat) : Int)) nd es pp qq st ch bo tp le sz at_ fa fp nu fm nn ou om) H := hP
    have hD : va_D A (wMo cI cJ cB cZ h a1 a2 a3 a4 a5 a6 a7 thr eg fr wt rk (uZ ga i ((tla E N P Q x * w i / fb_sm w N : Nat) : Int)) nd es pp qq st ch bo tp le sz at_ fa fp nu fm nn ou om) := hD
    refine lv_iinc (v := iZ (↑i + 1)) (lv' := [(4, .int (iZ (↑i + 1))), (0, .ref h), (1, .long (lZ ((tla E N P Q x : Nat) : Int))), (3, .int (iZ ((fb_sm w N : Nat) : Int)))]) hx hb dX6_step_69 hl (k := 3) rfl (show iZ ↑i + iZ 1 = _ from iZ_add _ _) (by decide) rfl (fun ls hl => ?_)
    refine lv_goto (tgt := 40) hx hb dX6_step_72 (by decide) ?_
    exact ih _ _ _ _ (by omega) ⟨(i + 1), (uZ ga i ((tla E N P Q x * w i / fb_sm w N : Nat) : Int)), rfl, ⟨by omega, fun v hv => by by_cases q : v = i; (rw [q, uZ_s]); (rw [uZ_n q]; exact i2 v (by omega))⟩, hP, hD, hS, lv_sub hl [1, 2, 3, 0] rfl⟩
