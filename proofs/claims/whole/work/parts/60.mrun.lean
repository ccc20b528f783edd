set_option maxHeartbeats 4000000 in
set_option maxRecDepth 100000 in
theorem c_X6_run (l : Launch) (D : va_G) (cI cJ cB cZ : ClassId) (h a1 a2 a3 a4 a5 a6 a7 : Nat) (thr : Int) (eg fr wt rk nx : Nat → Int) (nd es pp qq st ch bo : Int) (tp : Nat → Int) (le sz at_ fa fp nu fm nn : Int) (ou : Nat → Int) (om : Int) (N : Nat) (E : Ed) (w : Nat → Nat) (P Q : Nat) (x : Nat → Nat) (ks kc ke tl : Nat) (tf : Nat → Int) (ol : Nat) (of_ : Nat → Int) (fk : Int) (hMR : MR N E w P Q x ks kc ke tl tf ol of_ fk (thr, eg, fr, wt, rk, nx, nd, es, pp, qq, st, ch, bo, tp, le, sz, at_, fa, fp, nu, fm, nn, ou, om)) (a : Int) (ha : -2147483648 ≤ a ∧ a < 2147483648) (b : Int) (hb0 : -9223372036854775808 ≤ b ∧ b < 9223372036854775808) (hks : ks ≤ 1000000000)  (sz0 : Nat) : Met l yX6_run wsX6_run ({ frames := 4, cells := 0, slots := 0, locals := 96 } : Room) (Pre1 D cI cJ cB cZ [.ref h, .int (iZ a), .long (lZ b)] (wMo cI cJ cB cZ h a1 a2 a3 a4 a5 a6 a7 thr eg fr wt rk nx nd es pp qq st ch bo tp le sz at_ fa fp nu fm nn ou om) sz0) (rwI (S := MT) D (fun z U => ((0 ≤ a ∧ a ≤ 100 ∧ 0 ≤ b) ∧ U.1 = 0 ∧ ∃ k9 : Nat, z = (k9 : Int) ∧ RNK E N w P Q b a ((x, ks, kc, ke) : RT) k9 ∧ MR N E w P Q ((rnK E N w P Q k9 ((x, ks, kc, ke) : RT)).1) ((rnK E N w P Q k9 ((x, ks, kc, ke) : RT)).2.1) ((rnK E N w P Q k9 ((x, ks, kc, ke) : RT)).2.2.1) ((rnK E N w P Q k9 ((x, ks, kc, ke) : RT)).2.2.2) tl tf ol of_ fk U) ∨ (¬ (0 ≤ a ∧ a ≤ 100 ∧ 0 ≤ b) ∧ U.1 = 1 ∧ MR N E w P Q x ks kc ke tl tf ol of_ fk U)) (fun u => wM cI cJ cB cZ h a1 a2 a3 a4 a5 a6 a7 u) (va_A (wMo cI cJ cB cZ h a1 a2 a3 a4 a5 a6 a7 thr eg fr wt rk nx nd es pp qq st ch bo tp le sz at_ fa fp nu fm nn ou om) sz0)) 0 0 (va_A (wMo cI cJ cB cZ h a1 a2 a3 a4 a5 a6 a7 thr eg fr wt rk nx nd es pp qq st ch bo tp le sz at_ fa fp nu fm nn ou om) sz0) := by
  refine Met.ofW (cc := cX6_run) (maxL := 5) (ret := (some .int)) (by decide) rfl ?_
  intro p e s m args below meth c s₁ B hml hv
  obtain ⟨rfl, hsz, hP, hE, hD0⟩ := hv
  have hx := B.exec
  have hb := B.bytes
  have hr := B.returns
  have hts := atoms_spec (ws := wsX6_run) B.pre
  have hown : s.vm.findClass RX6 = some m.cls := findClass_of_methodNamed B.named
  have hlocks := B.notSynchronized
  have hK := hE.1
  subst hsz
  have hD := hD0.self (sz := s.heap.size)
  generalize hAe : va_A (wMo cI cJ cB cZ h a1 a2 a3 a4 a5 a6 a7 thr eg fr wt rk nx nd es pp qq st ch bo tp le sz at_ fa fp nu fm nn ou om) s.heap.size = A at hD ⊢
  have hA : ∀ q : Nat, s.heap.size ≤ q → A q := fun q h => by rw [← hAe]; exact Or.inr h
  have hS : va_S A s.heap s.heap [] := va_S.rf
  have hP : va_P D vwCl (wMo cI cJ cB cZ h a1 a2 a3 a4 a5 a6 a7 thr eg fr wt rk nx nd es pp qq st ch bo tp le sz at_ fa fp nu fm nn ou om) s.heap := hP
  have hi_6 : ∀ w ∈ wsX60, w ∈ wsX6_run := by decide +kernel
  have hw_1 := hts (.fieldLink RX6 53 "RankHouseModel" "steps" "I") (by decide +kernel)
  have hw_2 := hts (.fieldLink RX6 58 "RankHouseModel" "change" "J") (by decide +kernel)
  have hl := lv_entry ([.ref h, .int (iZ a), .long (lZ b)]) (n := 5) (Nat.le_of_ble_eq_true rfl)
  rw [lg_entry_eq]
  generalize (lg_sl ([.ref h, .int (iZ a), .long (lZ b)]) ++ List.replicate (5 - (lg_sl ([.ref h, .int (iZ a), .long (lZ b)])).length) Slot.unset).toArray = ls at hl ⊢
  have hl : lv_has ls 5 [(0, .ref h), (1, .int (iZ a)), (2, .long (lZ b))] := hl
  obtain ⟨hM, hR, s1, s2, s3, s5, s6, t1, t2, t3, y1, y2, y3, d1⟩ := id hMR
  dsimp only at hM hR s1 s2 s3 t1 t3 y1 y3 d1
  have hM : MG N E w eg wt nd es := hM
  have hR : RK N P Q x rk pp qq := hR
  have t3 : BY tp tf tl := t3
  have y3 : BY ou of_ ol := y3
  obtain ⟨m1, m2, m3, m4, m5, m6, m7, m8, m9⟩ := id hM
  obtain ⟨k1, k2, k3, k4, k5, k6⟩ := id hR
  refine lv_aload_n hx hb dX6_run_0 rfl (lv_at hl 0 rfl) ?_
  refine lv_iload_n hx hb dX6_run_1 rfl (lv_at hl 1 rfl) ?_
  refine z_if_lt (tgt := 17) hx hb dX6_run_2 (by decide) (by omega) (fun c_1 => ?_) (fun c_1 => ?_)
  · refine z_iconst hx hb dX6_run_17 ?_
    refine lv_goto (tgt := 22) hx hb dX6_run_18 (by decide) ?_
    refine rw_i (wr := []) (va_runV (As := [.int (iZ 1)]) (rest := []) ⟨hx, hb, hml, hown, hts⟩ (c_X6_throwsIf l D cI cJ cB cZ h a1 a2 a3 a4 a5 a6 a7 thr eg fr wt rk nx nd es pp qq st ch bo tp le sz at_ fa fp nu fm nn ou om 1 (by omega) _) (cwV 1 hts gX6_run_X6_throwsIf rfl rfl rfl (by decide +kernel) ⟨Nat.le_of_ble_eq_true rfl, Nat.le_of_ble_eq_true rfl⟩) (pre1V hE hP hD 0 rfl rfl) rfl rfl hl.1 rfl (lv_room (Nat.le_of_ble_eq_true rfl)) dX6_run_22 ⟨Nat.le_of_ble_eq_true rfl, Nat.le_of_ble_eq_true rfl⟩) hP hD hS hA [0, 1, 2, 3, 4, 5, 6, 7] [] rfl rfl (by decide) (by decide) (fun r_2 u_4 H locs hr_3 hP hD hS => ?_)
    have hP := hP.sub (ws' := (wMo cI cJ cB cZ h a1 a2 a3 a4 a5 a6 a7 u_4 eg fr wt rk nx nd es pp qq st ch bo tp le sz at_ fa fp nu fm nn ou om)) [0, 1, 2, 3, 4, 5, 6, 7] rfl
    have hD := hD.sub (ws' := (wMo cI cJ cB cZ h a1 a2 a3 a4 a5 a6 a7 u_4 eg fr wt rk nx nd es pp qq st ch bo tp le sz at_ fa fp nu fm nn ou om)) [0, 1, 2, 3, 4, 5, 6, 7] (by decide) rfl
    obtain ⟨rfl, v1⟩ := hr_3
    refine z_if_eq (tgt := 30) hx hb dX6_run_25 (by decide) (by omega) (fun c9 => absurd c9 (by decide)) (fun _ => ?_)
    refine z_iconst hx hb dX6_run_28 ?_
    exact rw_iret (z := 0) (u_4, eg, fr, wt, rk, nx, nd, es, pp, qq, st, ch, bo, tp, le, sz, at_, fa, fp, nu, fm, nn, ou, om) hx hb hr hlocks hP hD hS (Or.inr ⟨by omega, v1, ⟨hM, hR, s1, s2, s3, s5, s6, t1, t2, t3, y1, y2, y3, d1⟩⟩) dX6_run_29
  · refine lv_iload_n hx hb dX6_run_5 rfl (lv_at hl 1 rfl) ?_
    refine z_bipush hx hb dX6_run_6 (by decide) ?_
    refine z_icmp_gt (tgt := 17) hx hb dX6_run_8 (by decide) (by omega) (by omega) (fun c_5 => ?_) (fun c_5 => ?_)
    · refine z_iconst hx hb dX6_run_17 ?_
      refine lv_goto (tgt := 22) hx hb dX6_run_18 (by decide) ?_
      refine rw_i (wr := []) (va_runV (As := [.int (iZ 1)]) (rest := []) ⟨hx, hb, hml, hown, hts⟩ (c_X6_throwsIf l D cI cJ cB cZ h a1 a2 a3 a4 a5 a6 a7 thr eg fr wt rk nx nd es pp qq st ch bo tp le sz at_ fa fp nu fm nn ou om 1 (by omega) _) (cwV 1 hts gX6_run_X6_throwsIf rfl rfl rfl (by decide +kernel) ⟨Nat.le_of_ble_eq_true rfl, Nat.le_of_ble_eq_true rfl⟩) (pre1V hE hP hD 0 rfl rfl) rfl rfl hl.1 rfl (lv_room (Nat.le_of_ble_eq_true rfl)) dX6_run_22 ⟨Nat.le_of_ble_eq_true rfl, Nat.le_of_ble_eq_true rfl⟩) hP hD hS hA [0, 1, 2, 3, 4, 5, 6, 7] [] rfl rfl (by decide) (by decide) (fun r_6 u_8 H locs hr_7 hP hD hS => ?_)
      have hP := hP.sub (ws' := (wMo cI cJ cB cZ h a1 a2 a3 a4 a5 a6 a7 u_8 eg fr wt rk nx nd es pp qq st ch bo tp le sz at_ fa fp nu fm nn ou om)) [0, 1, 2, 3, 4, 5, 6, 7] rfl
      have hD := hD.sub (ws' := (wMo cI cJ cB cZ h a1 a2 a3 a4 a5 a6 a7 u_8 eg fr wt rk nx nd es pp qq st ch bo tp le sz at_ fa fp nu fm nn ou om)) [0, 1, 2, 3, 4, 5, 6, 7] (by decide) rfl
      obtain ⟨rfl, v1⟩ := hr_7
      refine z_if_eq (tgt := 30) hx hb dX6_run_25 (by decide) (by omega) (fun c9 => absurd c9 (by decide)) (fun _ => ?_)
      refine z_iconst hx hb dX6_run_28 ?_
      exact rw_iret (z := 0) (u_8, eg, fr, wt, rk, nx, nd, es, pp, qq, st, ch, bo, tp, le, sz, at_, fa, fp, nu, fm, nn, ou, om) hx hb hr hlocks hP hD hS (Or.inr ⟨by omega, v1, ⟨hM, hR, s1, s2, s3, s5, s6, t1, t2, t3, y1, y2, y3, d1⟩⟩) dX6_run_29
    · refine lv_lload_n hx hb dX6_run_11 rfl (lv_at hl 2 rfl) ?_
      refine z_lconst hx hb 0  dX6_run_12 rfl ?_
      refine z_lc_ge (tgt := 21) hx hb dX6_run_13 dX6_run_14 (by decide) (by omega) (by omega) (fun c_9 => ?_) (fun c_9 => ?_)
      · refine z_iconst hx hb dX6_run_21 ?_
        refine rw_i (wr := []) (va_runV (As := [.int (iZ 0)]) (rest := []) ⟨hx, hb, hml, hown, hts⟩ (c_X6_throwsIf l D cI cJ cB cZ h a1 a2 a3 a4 a5 a6 a7 thr eg fr wt rk nx nd es pp qq st ch bo tp le sz at_ fa fp nu fm nn ou om 0 (by omega) _) (cwV 1 hts gX6_run_X6_throwsIf rfl rfl rfl (by decide +kernel) ⟨Nat.le_of_ble_eq_true rfl, Nat.le_of_ble_eq_true rfl⟩) (pre1V hE hP hD 0 rfl rfl) rfl rfl hl.1 rfl (lv_room (Nat.le_of_ble_eq_true rfl)) dX6_run_22 ⟨Nat.le_of_ble_eq_true rfl, Nat.le_of_ble_eq_true rfl⟩) hP hD hS hA [0, 1, 2, 3, 4, 5, 6, 7] [] rfl rfl (by decide) (by decide) (fun r_10 u_12 H locs hr_11 hP hD hS => ?_)
        have hP := hP.sub (ws' := (wMo cI cJ cB cZ h a1 a2 a3 a4 a5 a6 a7 u_12 eg fr wt rk nx nd es pp qq st ch bo tp le sz at_ fa fp nu fm nn ou om)) [0, 1, 2, 3, 4, 5, 6, 7] rfl
        have hD := hD.sub (ws' := (wMo cI cJ cB cZ h a1 a2 a3 a4 a5 a6 a7 u_12 eg fr wt rk nx nd es pp qq st ch bo tp le sz at_ fa fp nu fm nn ou om)) [0, 1, 2, 3, 4, 5, 6, 7] (by decide) rfl
        obtain ⟨rfl, v1⟩ := hr_11
        refine z_if_eq (tgt := 30) hx hb dX6_run_25 (by decide) (by omega) (fun _ => ?_) (fun c9 => absurd c9 (by decide))
        refine z_iconst hx hb dX6_run_30 ?_
        refine lv_istore (lv' := [(4, .int (iZ 0)), (0, .ref h), (1, .int (iZ a)), (2, .long (lZ b))]) hx hb dX6_run_31 hl (by decide) rfl (fun ls hl => ?_)
        refine w_loop (fun kf H locs ls => ∃ (i : Nat), ∃ (g1 g2 : Nat → Int), ∃ (is ic ie : Int), kf = (a - (i : Int)).toNat ∧ ((i : Int) ≤ a ∧ (∀ j, j < i → ¬ stl b (rnK E N w P Q j ((x, ks, kc, ke) : RT))) ∧ RK N P Q (rnK E N w P Q i ((x, ks, kc, ke) : RT)).1 g1 pp qq ∧ is = ((rnK E N w P Q i ((x, ks, kc, ke) : RT)).2.1 : Int) ∧ ic = ((rnK E N w P Q i ((x, ks, kc, ke) : RT)).2.2.1 : Int) ∧ ie = ((rnK E N w P Q i ((x, ks, kc, ke) : RT)).2.2.2 : Int) ∧ (rnK E N w P Q i ((x, ks, kc, ke) : RT)).2.2.1 ≤ 8589934592 ∧ (rnK E N w P Q i ((x, ks, kc, ke) : RT)).2.2.2 ≤ 8589934592 ∧ (rnK E N w P Q i ((x, ks, kc, ke) : RT)).2.1 = ks + i) ∧ va_P D vwCl (wMo cI cJ cB cZ h a1 a2 a3 a4 a5 a6 a7 u_12 eg fr wt g1 g2 nd es pp qq is ic ie tp le sz at_ fa fp nu fm nn ou om) H ∧ va_D A (wMo cI cJ cB cZ h a1 a2 a3 a4 a5 a6 a7 u_12 eg fr wt g1 g2 nd es pp qq is ic ie tp le sz at_ fa fp nu fm nn ou om) ∧ va_S A s.heap H locs ∧ lv_has ls 5 [(0, .ref h), (1, .int (iZ a)), (2, .long (lZ b)), (4, .int (iZ ↑i))]) ?_ _ ⟨0, rk, nx, st, ch, bo, rfl, ⟨by omega, fun j hj => absurd hj (Nat.not_lt_zero j), hR, s1, s2, s3, s5, s6, rfl⟩, hP, hD, hS, lv_sub hl [1, 2, 3, 0] rfl⟩
        rintro kf H locs ls ⟨i, g1, g2, is, ic, ie, hk, ⟨i1, i2, i3, i4, i5, i6, i7, i8, i9⟩, hP, hD, hS, hl⟩ ih
        refine lv_iload hx hb dX6_run_33 (lv_at hl 3 rfl) ?_
        refine lv_iload_n hx hb dX6_run_35 rfl (lv_at hl 1 rfl) ?_
        refine z_icmp_ge (tgt := 65) hx hb dX6_run_36 (by decide) (by omega) (by omega) (fun c_13 => ?_) (fun c_13 => ?_)
        · refine lv_iload hx hb dX6_run_65 (lv_at hl 3 rfl) ?_
          exact rw_iret (z := ↑i) (u_12, eg, fr, wt, g1, g2, nd, es, pp, qq, is, ic, ie, tp, le, sz, at_, fa, fp, nu, fm, nn, ou, om) hx hb hr hlocks hP hD hS (Or.inl ⟨by omega, v1, i, rfl, ⟨i1, i2, fun q => (by unfold stl; omega)⟩, ⟨hM, i3, i4, i5, i6, i7, i8, t1, t2, t3, y1, y2, y3, d1⟩⟩) dX6_run_67
        · refine lv_aload_n hx hb dX6_run_39 rfl (lv_at hl 0 rfl) ?_
          refine va_get (v := .int (iZ is)) (C := RX6) (T := TX6) (N := 24) (ci := 6) hx hb hts hi_6 hown hK hP 0 rfl rfl 10 (by decide) hw_1 (fun _ h9 => h9) rfl dX6_run_40 ?_
          refine z_if_eq (tgt := 55) hx hb dX6_run_43 (by decide) (by omega) (fun c_14 => ?_) (fun c_14 => ?_)
          · have hst9 : ∀ j, j < i + 1 → ¬ stl b (rnK E N w P Q j ((x, ks, kc, ke) : RT)) := by (intro j hj; by_cases q : j = i; (subst q; unfold stl; omega); exact i2 j (by omega))
            have sb9 := stp_sum (E := E) (w := w) m9 k3 i3.2.2.2.2.2
            refine lv_aload_n hx hb dX6_run_55 rfl (lv_at hl 0 rfl) ?_
            refine rw_v (wr := []) (va_runV (As := []) (rest := []) ⟨hx, hb, hml, hown, hts⟩ (c_X6_step l D cI cJ cB cZ h a1 a2 a3 a4 a5 a6 a7 u_12 eg fr wt g1 g2 nd es pp qq is ic ie tp le sz at_ fa fp nu fm nn ou om N E w hM P Q (rnK E N w P Q i ((x, ks, kc, ke) : RT)).1 i3 (rnK E N w P Q i ((x, ks, kc, ke) : RT)).2.2.2 i6 i8 _) (cwV 0 hts gX6_run_X6_step rfl rfl rfl (by decide +kernel) ⟨Nat.le_of_ble_eq_true rfl, Nat.le_of_ble_eq_true rfl⟩) (pre1V hE hP hD 0 rfl rfl) rfl rfl hl.1 rfl (lv_room (Nat.le_of_ble_eq_true rfl)) dX6_run_56 ⟨Nat.le_of_ble_eq_true rfl, Nat.le_of_ble_eq_true rfl⟩) hP hD hS hA [0, 1, 2, 3, 4, 5, 6, 7] [] rfl rfl (by decide) (by decide) (fun u_17 H locs hr_16 hP hD hS => ?_)
            have hP := hP.sub (ws' := (wMo cI cJ cB cZ h a1 a2 a3 a4 a5 a6 a7 u_12 eg fr wt u_17.1 u_17.2.1 nd es pp qq u_17.2.2.1 u_17.2.2.2.1 u_17.2.2.2.2 tp le sz at_ fa fp nu fm nn ou om)) [0, 1, 2, 3, 4, 5, 6, 7] rfl
            have hD := hD.sub (ws' := (wMo cI cJ cB cZ h a1 a2 a3 a4 a5 a6 a7 u_12 eg fr wt u_17.1 u_17.2.1 nd es pp qq u_17.2.2.1 u_17.2.2.2.1 u_17.2.2.2.2 tp le sz at_ fa fp nu fm nn ou om)) [0, 1, 2, 3, 4, 5, 6, 7] (by decide) rfl
            obtain ⟨hy9, hy8, hy7, hy6⟩ := hr_16
            refine lv_iinc (v := iZ (↑i + 1)) (lv' := [(4, .int (iZ (↑i + 1))), (0, .ref h), (1, .int (iZ a)), (2, .long (lZ b))]) hx hb dX6_run_59 hl (k := 3) rfl (show iZ ↑i + iZ 1 = _ from iZ_add _ _) (by decide) rfl (fun ls hl => ?_)
            refine lv_goto (tgt := 33) hx hb dX6_run_62 (by decide) ?_
            exact ih _ _ _ _ (by omega) ⟨(i + 1), u_17.1, u_17.2.1, u_17.2.2.1, u_17.2.2.2.1, u_17.2.2.2.2, rfl, ⟨by omega, hst9, ⟨i3.1, i3.2.1, i3.2.2.1, i3.2.2.2.1, hy9, sb9⟩, (by rw [hy8, rnK_s]; show is + 1 = (((rnK E N w P Q i ((x, ks, kc, ke) : RT)).2.1 + 1 : Nat) : Int); omega), hy7, hy6, Nat.le_trans (chg_le N _ _) (by have q9 := i3.2.2.2.2.2; omega), ke_ok k3 i8, (by rw [rnK_s]; show (rnK E N w P Q i ((x, ks, kc, ke) : RT)).2.1 + 1 = _; omega)⟩, hP, hD, hS, lv_sub hl [1, 2, 3, 0] rfl⟩
          · refine lv_aload_n hx hb dX6_run_46 rfl (lv_at hl 0 rfl) ?_
            refine va_get (v := .long (lZ ic)) (C := RX6) (T := TX6) (N := 24) (ci := 6) hx hb hts hi_6 hown hK hP 0 rfl rfl 11 (by decide) hw_2 (fun _ h9 => h9) rfl dX6_run_47 ?_
            refine lv_lload_n hx hb dX6_run_50 rfl (lv_at hl 2 rfl) ?_
            refine z_lc_le (tgt := 65) hx hb dX6_run_51 dX6_run_52 (by decide) (by omega) (by omega) (fun c_18 => ?_) (fun c_18 => ?_)
            · refine lv_iload hx hb dX6_run_65 (lv_at hl 3 rfl) ?_
              exact rw_iret (z := ↑i) (u_12, eg, fr, wt, g1, g2, nd, es, pp, qq, is, ic, ie, tp, le, sz, at_, fa, fp, nu, fm, nn, ou, om) hx hb hr hlocks hP hD hS (Or.inl ⟨by omega, v1, i, rfl, ⟨i1, i2, fun q => (by unfold stl; omega)⟩, ⟨hM, i3, i4, i5, i6, i7, i8, t1, t2, t3, y1, y2, y3, d1⟩⟩) dX6_run_67
            · have hst9 : ∀ j, j < i + 1 → ¬ stl b (rnK E N w P Q j ((x, ks, kc, ke) : RT)) := by (intro j hj; by_cases q : j = i; (subst q; unfold stl; omega); exact i2 j (by omega))
              have sb9 := stp_sum (E := E) (w := w) m9 k3 i3.2.2.2.2.2
              refine lv_aload_n hx hb dX6_run_55 rfl (lv_at hl 0 rfl) ?_
              refine rw_v (wr := []) (va_runV (As := []) (rest := []) ⟨hx, hb, hml, hown, hts⟩ (c_X6_step l D cI cJ cB cZ h a1 a2 a3 a4 a5 a6 a7 u_12 eg fr wt g1 g2 nd es pp qq is ic ie tp le sz at_ fa fp nu fm nn ou om N E w hM P Q (rnK E N w P Q i ((x, ks, kc, ke) : RT)).1 i3 (rnK E N w P Q i ((x, ks, kc, ke) : RT)).2.2.2 i6 i8 _) (cwV 0 hts gX6_run_X6_step rfl rfl rfl (by decide +kernel) ⟨Nat.le_of_ble_eq_true rfl, Nat.le_of_ble_eq_true rfl⟩) (pre1V hE hP hD 0 rfl rfl) rfl rfl hl.1 rfl (lv_room (Nat.le_of_ble_eq_true rfl)) dX6_run_56 ⟨Nat.le_of_ble_eq_true rfl, Nat.le_of_ble_eq_true rfl⟩) hP hD hS hA [0, 1, 2, 3, 4, 5, 6, 7] [] rfl rfl (by decide) (by decide) (fun u_21 H locs hr_20 hP hD hS => ?_)
              have hP := hP.sub (ws' := (wMo cI cJ cB cZ h a1 a2 a3 a4 a5 a6 a7 u_12 eg fr wt u_21.1 u_21.2.1 nd es pp qq u_21.2.2.1 u_21.2.2.2.1 u_21.2.2.2.2 tp le sz at_ fa fp nu fm nn ou om)) [0, 1, 2, 3, 4, 5, 6, 7] rfl
              have hD := hD.sub (ws' := (wMo cI cJ cB cZ h a1 a2 a3 a4 a5 a6 a7 u_12 eg fr wt u_21.1 u_21.2.1 nd es pp qq u_21.2.2.1 u_21.2.2.2.1 u_21.2.2.2.2 tp le sz at_ fa fp nu fm nn ou om)) [0, 1, 2, 3, 4, 5, 6, 7] (by decide) rfl
              obtain ⟨hy9, hy8, hy7, hy6⟩ := hr_20
              refine lv_iinc (v := iZ (↑i + 1)) (lv' := [(4, .int (iZ (↑i + 1))), (0, .ref h), (1, .int (iZ a)), (2, .long (lZ b))]) hx hb dX6_run_59 hl (k := 3) rfl (show iZ ↑i + iZ 1 = _ from iZ_add _ _) (by decide) rfl (fun ls hl => ?_)
              refine lv_goto (tgt := 33) hx hb dX6_run_62 (by decide) ?_
              exact ih _ _ _ _ (by omega) ⟨(i + 1), u_21.1, u_21.2.1, u_21.2.2.1, u_21.2.2.2.1, u_21.2.2.2.2, rfl, ⟨by omega, hst9, ⟨i3.1, i3.2.1, i3.2.2.1, i3.2.2.2.1, hy9, sb9⟩, (by rw [hy8, rnK_s]; show is + 1 = (((rnK E N w P Q i ((x, ks, kc, ke) : RT)).2.1 + 1 : Nat) : Int); omega), hy7, hy6, Nat.le_trans (chg_le N _ _) (by have q9 := i3.2.2.2.2.2; omega), ke_ok k3 i8, (by rw [rnK_s]; show (rnK E N w P Q i ((x, ks, kc, ke) : RT)).2.1 + 1 = _; omega)⟩, hP, hD, hS, lv_sub hl [1, 2, 3, 0] rfl⟩
      · refine z_iconst hx hb dX6_run_17 ?_
        refine lv_goto (tgt := 22) hx hb dX6_run_18 (by decide) ?_
        refine rw_i (wr := []) (va_runV (As := [.int (iZ 1)]) (rest := []) ⟨hx, hb, hml, hown, hts⟩ (c_X6_throwsIf l D cI cJ cB cZ h a1 a2 a3 a4 a5 a6 a7 thr eg fr wt rk nx nd es pp qq st ch bo tp le sz at_ fa fp nu fm nn ou om 1 (by omega) _) (cwV 1 hts gX6_run_X6_throwsIf rfl rfl rfl (by decide +kernel) ⟨Nat.le_of_ble_eq_true rfl, Nat.le_of_ble_eq_true rfl⟩) (pre1V hE hP hD 0 rfl rfl) rfl rfl hl.1 rfl (lv_room (Nat.le_of_ble_eq_true rfl)) dX6_run_22 ⟨Nat.le_of_ble_eq_true rfl, Nat.le_of_ble_eq_true rfl⟩) hP hD hS hA [0, 1, 2, 3, 4, 5, 6, 7] [] rfl rfl (by decide) (by decide) (fun r_22 u_24 H locs hr_23 hP hD hS => ?_)
        have hP := hP.sub (ws' := (wMo cI cJ cB cZ h a1 a2 a3 a4 a5 a6 a7 u_24 eg fr wt rk nx nd es pp qq st ch bo tp le sz at_ fa fp nu fm nn ou om)) [0, 1, 2, 3, 4, 5, 6, 7] rfl
        have hD := hD.sub (ws' := (wMo cI cJ cB cZ h a1 a2 a3 a4 a5 a6 a7 u_24 eg fr wt rk nx nd es pp qq st ch bo tp le sz at_ fa fp nu fm nn ou om)) [0, 1, 2, 3, 4, 5, 6, 7] (by decide) rfl
        obtain ⟨rfl, v1⟩ := hr_23
        refine z_if_eq (tgt := 30) hx hb dX6_run_25 (by decide) (by omega) (fun c9 => absurd c9 (by decide)) (fun _ => ?_)
        refine z_iconst hx hb dX6_run_28 ?_
        exact rw_iret (z := 0) (u_24, eg, fr, wt, rk, nx, nd, es, pp, qq, st, ch, bo, tp, le, sz, at_, fa, fp, nu, fm, nn, ou, om) hx hb hr hlocks hP hD hS (Or.inr ⟨by omega, v1, ⟨hM, hR, s1, s2, s3, s5, s6, t1, t2, t3, y1, y2, y3, d1⟩⟩) dX6_run_29
