theorem c_X6_manyB (l : Launch) (D : va_G) (cI cJ cB cZ : ClassId) (h a1 a2 a3 a4 a5 a6 a7 : Nat) (thr : Int) (eg fr wt rk nx : Nat → Int) (nd es pp qq st ch bo : Int) (tp : Nat → Int) (le sz at_ fa fp nu fm nn : Int) (ou : Nat → Int) (om : Int) (u : Int) (N : Nat) (E : Ed) (w : Nat → Nat) (hM : MG N E w eg wt nd es) (hu : 0 ≤ u ∧ u < 250)  (b : Int) (hb9 : b = 0 ∨ b = 1) : Met l yX6_many wsX6_many ({ frames := 1, cells := 0, slots := 0, locals := 22 } : Room) (Pre0 D cI cJ cB cZ [.ref h, .int (iZ u), .int (iZ b)] (wMo cI cJ cB cZ h a1 a2 a3 a4 a5 a6 a7 thr eg fr wt rk nx nd es pp qq st ch bo tp le sz at_ fa fp nu fm nn ou om)) (roI (fun z => z = ((fb_ct (if b = 0 then E u.toNat else fun a => E a u.toNat) N : Nat) : Int))) 0 0 (fun _ => False) := by
  rcases hb9 with rfl | rfl
  · rw [if_pos (rfl : (0 : Int) = 0)]
    exact c_X6_many0 l D cI cJ cB cZ h a1 a2 a3 a4 a5 a6 a7 thr eg fr wt rk nx nd es pp qq st ch bo tp le sz at_ fa fp nu fm nn ou om u N E w hM hu
  · rw [if_neg (by decide : ¬ (1 : Int) = 0)]
    exact c_X6_many1 l D cI cJ cB cZ h a1 a2 a3 a4 a5 a6 a7 thr eg fr wt rk nx nd es pp qq st ch bo tp le sz at_ fa fp nu fm nn ou om u N E w hM hu
set_option maxHeartbeats 4000000 in
set_option maxRecDepth 100000 in
theorem c_X6_other (l : Launch) (D : va_G) (cI cJ cB cZ : ClassId) (h a1 a2 a3 a4 a5 a6 a7 : Nat) (thr : Int) (eg fr wt rk nx : Nat → Int) (nd es pp qq st ch bo : Int) (tp : Nat → Int) (le sz at_ fa fp nu fm nn : Int) (ou : Nat → Int) (om : Int) (N : Nat) (E : Ed) (w : Nat → Nat) (P Q : Nat) (x : Nat → Nat) (ks kc ke tl : Nat) (tf : Nat → Int) (ol : Nat) (of_ : Nat → Int) (fk : Int) (hMR : MR N E w P Q x ks kc ke tl tf ol of_ fk (thr, eg, fr, wt, rk, nx, nd, es, pp, qq, st, ch, bo, tp, le, sz, at_, fa, fp, nu, fm, nn, ou, om)) (a : Int) (ha : -2147483648 ≤ a ∧ a < 2147483648) (b : Int) (hb0 : -2147483648 ≤ b ∧ b < 2147483648) (k0 : Int) (hk0 : -2147483648 ≤ k0 ∧ k0 < 2147483648)  (sz0 : Nat) : Met l yX6_other wsX6_other ({ frames := 1, cells := 0, slots := 0, locals := 22 } : Room) (Pre1 D cI cJ cB cZ [.ref h, .int (iZ a), .int (iZ b), .int (iZ k0)] (wMo cI cJ cB cZ h a1 a2 a3 a4 a5 a6 a7 thr eg fr wt rk nx nd es pp qq st ch bo tp le sz at_ fa fp nu fm nn ou om) sz0) (rwI (S := MT) D (fun z U => ((b = 0 → TG (pout E N a) N k0 z) ∧ (b = 1 → TG (pin E N a) N k0 z) ∧ (¬ b = 0 → ¬ b = 1 → z = -1)) ∧ MR N E w P Q x ks kc ke tl tf ol of_ fk U) (fun u => wM cI cJ cB cZ h a1 a2 a3 a4 a5 a6 a7 u) (va_A (wMo cI cJ cB cZ h a1 a2 a3 a4 a5 a6 a7 thr eg fr wt rk nx nd es pp qq st ch bo tp le sz at_ fa fp nu fm nn ou om) sz0)) 0 0 (va_A (wMo cI cJ cB cZ h a1 a2 a3 a4 a5 a6 a7 thr eg fr wt rk nx nd es pp qq st ch bo tp le sz at_ fa fp nu fm nn ou om) sz0) := by
  refine Met.ofW (cc := cX6_other) (maxL := 6) (ret := (some .int)) (by decide) rfl ?_
  intro p e s m args below meth c s₁ B hml hv
  obtain ⟨rfl, hsz, hP, hE, hD0⟩ := hv
  have hx := B.exec
  have hb := B.bytes
  have hr := B.returns
  have hts := atoms_spec (ws := wsX6_other) B.pre
  have hown : s.vm.findClass RX6 = some m.cls := findClass_of_methodNamed B.named
  have hlocks := B.notSynchronized
  have hK := hE.1
  subst hsz
  have hD := hD0.self (sz := s.heap.size)
  generalize hAe : va_A (wMo cI cJ cB cZ h a1 a2 a3 a4 a5 a6 a7 thr eg fr wt rk nx nd es pp qq st ch bo tp le sz at_ fa fp nu fm nn ou om) s.heap.size = A at hD ⊢
  have hA : ∀ q : Nat, s.heap.size ≤ q → A q := fun q h => by rw [← hAe]; exact Or.inr h
  have hS : va_S A s.heap s.heap [] := va_S.rf
  have hP : va_P D vwCl (wMo cI cJ cB cZ h a1 a2 a3 a4 a5 a6 a7 thr eg fr wt rk nx nd es pp qq st ch bo tp le sz at_ fa fp nu fm nn ou om) s.heap := hP
  have hi_6 : ∀ w ∈ wsX60, w ∈ wsX6_other := by decide +kernel
  have hw_1 := hts (.fieldLink RX6 1 "RankHouseModel" "thrown" "I") (by decide +kernel)
  have hw_2 := hts (.fieldLink RX6 32 "RankHouseModel" "nodes" "I") (by decide +kernel)
  have hl := lv_entry ([.ref h, .int (iZ a), .int (iZ b), .int (iZ k0)]) (n := 6) (Nat.le_of_ble_eq_true rfl)
  rw [lg_entry_eq]
  generalize (lg_sl ([.ref h, .int (iZ a), .int (iZ b), .int (iZ k0)]) ++ List.replicate (6 - (lg_sl ([.ref h, .int (iZ a), .int (iZ b), .int (iZ k0)])).length) Slot.unset).toArray = ls at hl ⊢
  have hl : lv_has ls 6 [(0, .ref h), (1, .int (iZ a)), (2, .int (iZ b)), (3, .int (iZ k0))] := hl
  obtain ⟨hM, hR, s1, s2, s3, s5, s6, t1, t2, t3, y1, y2, y3, d1⟩ := id hMR
  dsimp only at hM hR s1 s2 s3 t1 t3 y1 y3 d1
  have hM : MG N E w eg wt nd es := hM
  have hR : RK N P Q x rk pp qq := hR
  have t3 : BY tp tf tl := t3
  have y3 : BY ou of_ ol := y3
  obtain ⟨m1, m2, m3, m4, m5, m6, m7, m8, m9⟩ := id hM
  obtain ⟨k1, k2, k3, k4, k5, k6⟩ := id hR
  refine lv_aload_n hx hb dX6_other_0 rfl (lv_at hl 0 rfl) ?_
  refine z_iconst hx hb dX6_other_1 ?_
  refine va_put (v := .int (iZ 0)) (ty := .int) (C := RX6) (T := TX6) (N := 24) (ci := 6) hx hb hts hi_6 tyX6 tyX6_ok nmX6 hown hK hP hD hS 0 rfl rfl 0 (by decide) hw_1 (fun _ h9 => h9) rfl (by decide +kernel) rfl rfl (Nat.le_of_ble_eq_true rfl) dX6_other_2 (fun H locs hP hD hS => ?_)
  have hP : va_P D vwCl (wMo cI cJ cB cZ h a1 a2 a3 a4 a5 a6 a7 0 eg fr wt rk nx nd es pp qq st ch bo tp le sz at_ fa fp nu fm nn ou om) H := hP
  have hD : va_D A (wMo cI cJ cB cZ h a1 a2 a3 a4 a5 a6 a7 0 eg fr wt rk nx nd es pp qq st ch bo tp le sz at_ fa fp nu fm nn ou om) := hD
  refine lv_aload_n hx hb dX6_other_5 rfl (lv_at hl 0 rfl) ?_
  refine lv_iload_n hx hb dX6_other_6 rfl (lv_at hl 1 rfl) ?_
  refine ro_i (va_runV (As := [.int (iZ a)]) (rest := []) ⟨hx, hb, hml, hown, hts⟩ (c_X6_no l D cI cJ cB cZ h a1 a2 a3 a4 a5 a6 a7 0 eg fr wt rk nx nd es pp qq st ch bo tp le sz at_ fa fp nu fm nn ou om a ha N (by omega) m5) (cwV 1 hts gX6_other_X6_no rfl rfl rfl (by decide +kernel) ⟨Nat.le_of_ble_eq_true rfl, Nat.le_of_ble_eq_true rfl⟩) (pre0V hE hP 0 rfl rfl) rfl rfl hl.1 rfl (lv_room (Nat.le_of_ble_eq_true rfl)) dX6_other_7 ⟨Nat.le_of_ble_eq_true rfl, Nat.le_of_ble_eq_true rfl⟩) (fun r_1 hr_2 => ?_)
  rcases hr_2 with ⟨rfl, hq_3⟩ | ⟨rfl, hq_3⟩
  · have n1 := hq_3
    refine z_if_ne (tgt := 26) hx hb dX6_other_10 (by decide) (by omega) (fun _ => ?_) (fun c9 => absurd c9 (by decide))
    refine z_iconst hx hb dX6_other_26 ?_
    exact rw_iret (z := (-1)) (0, eg, fr, wt, rk, nx, nd, es, pp, qq, st, ch, bo, tp, le, sz, at_, fa, fp, nu, fm, nn, ou, om) hx hb hr hlocks hP hD hS ⟨⟨fun q => (by first | exact TG_none (pout_out (by omega)) | exact Or.inr ⟨rfl, by omega⟩), fun q => (by first | exact TG_none (pin_out (by omega)) | exact Or.inr ⟨rfl, by omega⟩), fun _ _ => rfl⟩, ⟨hM, hR, s1, s2, s3, s5, s6, t1, t2, t3, y1, y2, y3, d1⟩⟩ dX6_other_27
  · have n1 := hq_3
    refine z_if_ne (tgt := 26) hx hb dX6_other_10 (by decide) (by omega) (fun c9 => absurd c9 (by decide)) (fun _ => ?_)
    refine lv_iload_n hx hb dX6_other_13 rfl (lv_at hl 2 rfl) ?_
    refine z_if_lt (tgt := 26) hx hb dX6_other_14 (by decide) (by omega) (fun c_4 => ?_) (fun c_4 => ?_)
    · refine z_iconst hx hb dX6_other_26 ?_
      exact rw_iret (z := (-1)) (0, eg, fr, wt, rk, nx, nd, es, pp, qq, st, ch, bo, tp, le, sz, at_, fa, fp, nu, fm, nn, ou, om) hx hb hr hlocks hP hD hS ⟨⟨fun q => (by first | exact TG_none (pout_out (by omega)) | exact Or.inr ⟨rfl, by omega⟩), fun q => (by first | exact TG_none (pin_out (by omega)) | exact Or.inr ⟨rfl, by omega⟩), fun _ _ => rfl⟩, ⟨hM, hR, s1, s2, s3, s5, s6, t1, t2, t3, y1, y2, y3, d1⟩⟩ dX6_other_27
    · refine lv_iload_n hx hb dX6_other_17 rfl (lv_at hl 2 rfl) ?_
      refine z_iconst hx hb dX6_other_18 ?_
      refine z_icmp_gt (tgt := 26) hx hb dX6_other_19 (by decide) (by omega) (by omega) (fun c_5 => ?_) (fun c_5 => ?_)
      · refine z_iconst hx hb dX6_other_26 ?_
        exact rw_iret (z := (-1)) (0, eg, fr, wt, rk, nx, nd, es, pp, qq, st, ch, bo, tp, le, sz, at_, fa, fp, nu, fm, nn, ou, om) hx hb hr hlocks hP hD hS ⟨⟨fun q => (by first | exact TG_none (pout_out (by omega)) | exact Or.inr ⟨rfl, by omega⟩), fun q => (by first | exact TG_none (pin_out (by omega)) | exact Or.inr ⟨rfl, by omega⟩), fun _ _ => rfl⟩, ⟨hM, hR, s1, s2, s3, s5, s6, t1, t2, t3, y1, y2, y3, d1⟩⟩ dX6_other_27
      · refine lv_iload_n hx hb dX6_other_22 rfl (lv_at hl 3 rfl) ?_
        refine z_if_ge (tgt := 28) hx hb dX6_other_23 (by decide) (by omega) (fun c_6 => ?_) (fun c_6 => ?_)
        · obtain ⟨pf, hpf⟩ : ∃ pf : Nat → Bool, pf = fun j => if b = 0 then E a.toNat j else E j a.toNat := ⟨_, rfl⟩
          have hp0 : b = 0 → pf = E a.toNat := fun q => by rw [hpf]; funext j; rw [if_pos q]
          have hp1 : b = 1 → pf = fun c9 => E c9 a.toNat := fun q => by rw [hpf]; funext j; rw [if_neg (by omega)]
          refine lv_iload_n hx hb dX6_other_28 rfl (lv_at hl 3 rfl) ?_
          refine lv_istore (lv' := [(4, .int (iZ k0)), (0, .ref h), (1, .int (iZ a)), (2, .int (iZ b)), (3, .int (iZ k0))]) hx hb dX6_other_29 hl (by decide) rfl (fun ls hl => ?_)
          refine z_iconst hx hb dX6_other_31 ?_
          refine lv_istore (lv' := [(5, .int (iZ 0)), (4, .int (iZ k0)), (0, .ref h), (1, .int (iZ a)), (2, .int (iZ b)), (3, .int (iZ k0))]) hx hb dX6_other_32 hl (by decide) rfl (fun ls hl => ?_)
          refine w_loop (fun kf H locs ls => ∃ (i : Nat), ∃ (y : Int), kf = N - i ∧ (i ≤ N ∧ y = k0 - ((fb_ct pf i : Nat) : Int) ∧ 0 ≤ y) ∧ va_P D vwCl (wMo cI cJ cB cZ h a1 a2 a3 a4 a5 a6 a7 0 eg fr wt rk nx nd es pp qq st ch bo tp le sz at_ fa fp nu fm nn ou om) H ∧ va_D A (wMo cI cJ cB cZ h a1 a2 a3 a4 a5 a6 a7 0 eg fr wt rk nx nd es pp qq st ch bo tp le sz at_ fa fp nu fm nn ou om) ∧ va_S A s.heap H locs ∧ lv_has ls 6 [(0, .ref h), (1, .int (iZ a)), (2, .int (iZ b)), (3, .int (iZ k0)), (4, .int (iZ y)), (5, .int (iZ ↑i))]) ?_ _ ⟨0, k0, rfl, ⟨by omega, (by show k0 = k0 - 0; omega), by omega⟩, hP, hD, hS, lv_sub hl [2, 3, 4, 5, 1, 0] rfl⟩
          rintro kf H locs ls ⟨i, y, hk, ⟨i1, i2, i3⟩, hP, hD, hS, hl⟩ ih
          refine lv_iload hx hb dX6_other_34 (lv_at hl 5 rfl) ?_
          refine lv_aload_n hx hb dX6_other_36 rfl (lv_at hl 0 rfl) ?_
          refine va_get (v := .int (iZ nd)) (C := RX6) (T := TX6) (N := 24) (ci := 6) hx hb hts hi_6 hown hK hP 0 rfl rfl 6 (by decide) hw_2 (fun _ h9 => h9) rfl dX6_other_37 ?_
          refine z_icmp_ge (tgt := 90) hx hb dX6_other_40 (by decide) (by omega) (by omega) (fun c_7 => ?_) (fun c_7 => ?_)
          · refine z_iconst hx hb dX6_other_90 ?_
            exact rw_iret (z := (-1)) (0, eg, fr, wt, rk, nx, nd, es, pp, qq, st, ch, bo, tp, le, sz, at_, fa, fp, nu, fm, nn, ou, om) hx hb hr hlocks hP hD hS (by have iN : i = N := (by omega); rw [iN] at i2; exact ⟨⟨fun q => (by rw [pout_in (by omega), ← hp0 q]; exact Or.inr ⟨rfl, by omega⟩), fun q => (by rw [pin_in (by omega), ← hp1 q]; exact Or.inr ⟨rfl, by omega⟩), fun _ _ => rfl⟩, ⟨hM, hR, s1, s2, s3, s5, s6, t1, t2, t3, y1, y2, y3, d1⟩⟩) dX6_other_91
          · refine lv_iload_n hx hb dX6_other_43 rfl (lv_at hl 2 rfl) ?_
            refine z_if_ne (tgt := 60) hx hb dX6_other_44 (by decide) (by omega) (fun c_8 => ?_) (fun c_8 => ?_)
            · refine lv_aload_n hx hb dX6_other_60 rfl (lv_at hl 0 rfl) ?_
              refine lv_iload hx hb dX6_other_61 (lv_at hl 5 rfl) ?_
              refine lv_iload_n hx hb dX6_other_63 rfl (lv_at hl 1 rfl) ?_
              refine ro_i (va_runV (As := [.int (iZ ↑i), .int (iZ a)]) (rest := []) ⟨hx, hb, hml, hown, hts⟩ (c_X6_goes l D cI cJ cB cZ h a1 a2 a3 a4 a5 a6 a7 0 eg fr wt rk nx nd es pp qq st ch bo tp le sz at_ fa fp nu fm nn ou om (↑i) a (by omega) (by omega) E m1) (cwV 2 hts gX6_other_X6_goes rfl rfl rfl (by decide +kernel) ⟨Nat.le_of_ble_eq_true rfl, Nat.le_of_ble_eq_true rfl⟩) (pre0V hE hP 0 rfl rfl) rfl rfl hl.1 rfl (lv_room (Nat.le_of_ble_eq_true rfl)) dX6_other_64 ⟨Nat.le_of_ble_eq_true rfl, Nat.le_of_ble_eq_true rfl⟩) (fun r_9 hr_10 => ?_)
              rcases hr_10 with ⟨rfl, hq_11⟩ | ⟨rfl, hq_11⟩
              · have q6 := hq_11
                rw [Int.toNat_natCast] at q6
                have q9 : pf i = true := by rw [hpf]; dsimp only; rw [if_neg (show ¬ b = 0 by omega)]; exact q6
                have q7 := ct_yes (p := pf) (i := i) q9
                refine z_if_ne (tgt := 73) hx hb dX6_other_67 (by decide) (by omega) (fun _ => ?_) (fun c9 => absurd c9 (by decide))
                refine lv_iload hx hb dX6_other_73 (lv_at hl 4 rfl) ?_
                refine z_if_ne (tgt := 81) hx hb dX6_other_75 (by decide) (by omega) (fun c_12 => ?_) (fun c_12 => ?_)
                · refine lv_iinc (v := iZ (y + (-1))) (lv' := [(4, .int (iZ (y + (-1)))), (0, .ref h), (1, .int (iZ a)), (2, .int (iZ b)), (3, .int (iZ k0)), (5, .int (iZ ↑i))]) hx hb dX6_other_81 hl (k := 4) rfl (show iZ y + iZ (-1) = _ from iZ_add _ _) (by decide) rfl (fun ls hl => ?_)
                  refine lv_iinc (v := iZ (↑i + 1)) (lv' := [(5, .int (iZ (↑i + 1))), (4, .int (iZ (y + (-1)))), (0, .ref h), (1, .int (iZ a)), (2, .int (iZ b)), (3, .int (iZ k0))]) hx hb dX6_other_84 hl (k := 5) rfl (show iZ ↑i + iZ 1 = _ from iZ_add _ _) (by decide) rfl (fun ls hl => ?_)
                  refine lv_goto (tgt := 34) hx hb dX6_other_87 (by decide) ?_
                  exact ih _ _ _ _ (by omega) ⟨(i + 1), (y + (-1)), rfl, (by omega), hP, hD, hS, lv_sub hl [2, 3, 4, 5, 1, 0] rfl⟩
                · refine lv_iload hx hb dX6_other_78 (lv_at hl 5 rfl) ?_
                  exact rw_iret (z := ↑i) (0, eg, fr, wt, rk, nx, nd, es, pp, qq, st, ch, bo, tp, le, sz, at_, fa, fp, nu, fm, nn, ou, om) hx hb hr hlocks hP hD hS ⟨⟨fun q => (by rw [pout_in (by omega), ← hp0 q]; exact Or.inl ⟨i, by omega, q9, by omega, rfl⟩), fun q => (by rw [pin_in (by omega), ← hp1 q]; exact Or.inl ⟨i, by omega, q9, by omega, rfl⟩), fun _ _ => by omega⟩, ⟨hM, hR, s1, s2, s3, s5, s6, t1, t2, t3, y1, y2, y3, d1⟩⟩ dX6_other_80
              · have q6 := hq_11
                rw [Int.toNat_natCast] at q6
                have q9 : ¬ pf i = true := by rw [hpf]; dsimp only; rw [if_neg (show ¬ b = 0 by omega)]; exact q6
                have q7 := ct_no (p := pf) (i := i) q9
                refine z_if_ne (tgt := 73) hx hb dX6_other_67 (by decide) (by omega) (fun c9 => absurd c9 (by decide)) (fun _ => ?_)
                refine lv_goto (tgt := 84) hx hb dX6_other_70 (by decide) ?_
                refine lv_iinc (v := iZ (↑i + 1)) (lv' := [(5, .int (iZ (↑i + 1))), (0, .ref h), (1, .int (iZ a)), (2, .int (iZ b)), (3, .int (iZ k0)), (4, .int (iZ y))]) hx hb dX6_other_84 hl (k := 5) rfl (show iZ ↑i + iZ 1 = _ from iZ_add _ _) (by decide) rfl (fun ls hl => ?_)
                refine lv_goto (tgt := 34) hx hb dX6_other_87 (by decide) ?_
                exact ih _ _ _ _ (by omega) ⟨(i + 1), y, rfl, (by omega), hP, hD, hS, lv_sub hl [1, 2, 3, 4, 5, 0] rfl⟩
            · refine lv_aload_n hx hb dX6_other_47 rfl (lv_at hl 0 rfl) ?_
              refine lv_iload_n hx hb dX6_other_48 rfl (lv_at hl 1 rfl) ?_
              refine lv_iload hx hb dX6_other_49 (lv_at hl 5 rfl) ?_
              refine ro_i (va_runV (As := [.int (iZ a), .int (iZ ↑i)]) (rest := []) ⟨hx, hb, hml, hown, hts⟩ (c_X6_goes l D cI cJ cB cZ h a1 a2 a3 a4 a5 a6 a7 0 eg fr wt rk nx nd es pp qq st ch bo tp le sz at_ fa fp nu fm nn ou om a (↑i) (by omega) (by omega) E m1) (cwV 2 hts gX6_other_X6_goes rfl rfl rfl (by decide +kernel) ⟨Nat.le_of_ble_eq_true rfl, Nat.le_of_ble_eq_true rfl⟩) (pre0V hE hP 0 rfl rfl) rfl rfl hl.1 rfl (lv_room (Nat.le_of_ble_eq_true rfl)) dX6_other_51 ⟨Nat.le_of_ble_eq_true rfl, Nat.le_of_ble_eq_true rfl⟩) (fun r_13 hr_14 => ?_)
              rcases hr_14 with ⟨rfl, hq_15⟩ | ⟨rfl, hq_15⟩
              · have q6 := hq_15
                rw [Int.toNat_natCast] at q6
                have q9 : pf i = true := by rw [hpf]; dsimp only; rw [if_pos (show b = 0 by omega)]; exact q6
                have q7 := ct_yes (p := pf) (i := i) q9
                refine z_if_eq (tgt := 84) hx hb dX6_other_54 (by decide) (by omega) (fun c9 => absurd c9 (by decide)) (fun _ => ?_)
                refine lv_goto (tgt := 73) hx hb dX6_other_57 (by decide) ?_
                refine lv_iload hx hb dX6_other_73 (lv_at hl 4 rfl) ?_
                refine z_if_ne (tgt := 81) hx hb dX6_other_75 (by decide) (by omega) (fun c_16 => ?_) (fun c_16 => ?_)
                · refine lv_iinc (v := iZ (y + (-1))) (lv' := [(4, .int (iZ (y + (-1)))), (0, .ref h), (1, .int (iZ a)), (2, .int (iZ b)), (3, .int (iZ k0)), (5, .int (iZ ↑i))]) hx hb dX6_other_81 hl (k := 4) rfl (show iZ y + iZ (-1) = _ from iZ_add _ _) (by decide) rfl (fun ls hl => ?_)
                  refine lv_iinc (v := iZ (↑i + 1)) (lv' := [(5, .int (iZ (↑i + 1))), (4, .int (iZ (y + (-1)))), (0, .ref h), (1, .int (iZ a)), (2, .int (iZ b)), (3, .int (iZ k0))]) hx hb dX6_other_84 hl (k := 5) rfl (show iZ ↑i + iZ 1 = _ from iZ_add _ _) (by decide) rfl (fun ls hl => ?_)
                  refine lv_goto (tgt := 34) hx hb dX6_other_87 (by decide) ?_
                  exact ih _ _ _ _ (by omega) ⟨(i + 1), (y + (-1)), rfl, (by omega), hP, hD, hS, lv_sub hl [2, 3, 4, 5, 1, 0] rfl⟩
                · refine lv_iload hx hb dX6_other_78 (lv_at hl 5 rfl) ?_
                  exact rw_iret (z := ↑i) (0, eg, fr, wt, rk, nx, nd, es, pp, qq, st, ch, bo, tp, le, sz, at_, fa, fp, nu, fm, nn, ou, om) hx hb hr hlocks hP hD hS ⟨⟨fun q => (by rw [pout_in (by omega), ← hp0 q]; exact Or.inl ⟨i, by omega, q9, by omega, rfl⟩), fun q => (by rw [pin_in (by omega), ← hp1 q]; exact Or.inl ⟨i, by omega, q9, by omega, rfl⟩), fun _ _ => by omega⟩, ⟨hM, hR, s1, s2, s3, s5, s6, t1, t2, t3, y1, y2, y3, d1⟩⟩ dX6_other_80
              · have q6 := hq_15
                rw [Int.toNat_natCast] at q6
                have q9 : ¬ pf i = true := by rw [hpf]; dsimp only; rw [if_pos (show b = 0 by omega)]; exact q6
                have q7 := ct_no (p := pf) (i := i) q9
                refine z_if_eq (tgt := 84) hx hb dX6_other_54 (by decide) (by omega) (fun _ => ?_) (fun c9 => absurd c9 (by decide))
                refine lv_iinc (v := iZ (↑i + 1)) (lv' := [(5, .int (iZ (↑i + 1))), (0, .ref h), (1, .int (iZ a)), (2, .int (iZ b)), (3, .int (iZ k0)), (4, .int (iZ y))]) hx hb dX6_other_84 hl (k := 5) rfl (show iZ ↑i + iZ 1 = _ from iZ_add _ _) (by decide) rfl (fun ls hl => ?_)
                refine lv_goto (tgt := 34) hx hb dX6_other_87 (by decide) ?_
                exact ih _ _ _ _ (by omega) ⟨(i + 1), y, rfl, (by omega), hP, hD, hS, lv_sub hl [1, 2, 3, 4, 5, 0] rfl⟩
        · refine z_iconst hx hb dX6_other_26 ?_
          exact rw_iret (z := (-1)) (0, eg, fr, wt, rk, nx, nd, es, pp, qq, st, ch, bo, tp, le, sz, at_, fa, fp, nu, fm, nn, ou, om) hx hb hr hlocks hP hD hS ⟨⟨fun q => (by first | exact TG_none (pout_out (by omega)) | exact Or.inr ⟨rfl, by omega⟩), fun q => (by first | exact TG_none (pin_out (by omega)) | exact Or.inr ⟨rfl, by omega⟩), fun _ _ => rfl⟩, ⟨hM, hR, s1, s2, s3, s5, s6, t1, t2, t3, y1, y2, y3, d1⟩⟩ dX6_other_27
set_option maxHeartbeats 4000000 in
set_option maxRecDepth 100000 in
theorem c_X6_look (l : Launch) (D : va_G) (cI cJ cB cZ : ClassId) (h a1 a2 a3 a4 a5 a6 a7 : Nat) (thr : Int) (eg fr wt rk nx : Nat → Int) (nd es pp qq st ch bo : Int) (tp : Nat → Int) (le sz at_ fa fp nu fm nn : Int) (ou : Nat → Int) (om : Int) (N : Nat) (E : Ed) (w : Nat → Nat) (P Q : Nat) (x : Nat → Nat) (ks kc ke tl : Nat) (tf : Nat → Int) (ol : Nat) (of_ : Nat → Int) (fk : Int) (hMR : MR N E w P Q x ks kc ke tl tf ol of_ fk (thr, eg, fr, wt, rk, nx, nd, es, pp, qq, st, ch, bo, tp, le, sz, at_, fa, fp, nu, fm, nn, ou, om)) (a : Int) (ha : -2147483648 ≤ a ∧ a < 2147483648) (hks : ks ≤ 60000)  (sz0 : Nat) : Met l yX6_look wsX6_look ({ frames := 3, cells := 0, slots := 0, locals := 69 } : Room) (Pre1 D cI cJ cB cZ [.ref h, .int (iZ a)] (wMo cI cJ cB cZ h a1 a2 a3 a4 a5 a6 a7 thr eg fr wt rk nx nd es pp qq st ch bo tp le sz at_ fa fp nu fm nn ou om) sz0) (rwL (S := MT) D (fun z U => ((a = 0 → z = ((fb_sm x N : Nat) : Int)) ∧ (a = 1 → z = (kc : Int)) ∧ (a = 2 → z = (ke : Int) + (((fst E N N + 2 * N) * Q / (Q - P) : Nat) : Int) + 1) ∧ (a = 3 → z = (ks : Int)) ∧ (a = 4 → z = ((bar E N x : Nat) : Int)) ∧ (¬ (0 ≤ a ∧ a ≤ 4) → z = -1)) ∧ MR N E w P Q x ks kc ke tl tf ol of_ fk U) (fun u => wM cI cJ cB cZ h a1 a2 a3 a4 a5 a6 a7 u) (va_A (wMo cI cJ cB cZ h a1 a2 a3 a4 a5 a6 a7 thr eg fr wt rk nx nd es pp qq st ch bo tp le sz at_ fa fp nu fm nn ou om) sz0)) 0 0 (va_A (wMo cI cJ cB cZ h a1 a2 a3 a4 a5 a6 a7 thr eg fr wt rk nx nd es pp qq st ch bo tp le sz at_ fa fp nu fm nn ou om) sz0) := by
  refine Met.ofW (cc := cX6_look) (maxL := 5) (ret := (some .long)) (by decide) rfl ?_
  intro p e s m args below meth c s₁ B hml hv
  obtain ⟨rfl, hsz, hP, hE, hD0⟩ := hv
  have hx := B.exec
  have hb := B.bytes
  have hr := B.returns
  have hts := atoms_spec (ws := wsX6_look) B.pre
  have hown : s.vm.findClass RX6 = some m.cls := findClass_of_methodNamed B.named
  have hlocks := B.notSynchronized
  have hK := hE.1
  subst hsz
  have hD := hD0.self (sz := s.heap.size)
  generalize hAe : va_A (wMo cI cJ cB cZ h a1 a2 a3 a4 a5 a6 a7 thr eg fr wt rk nx nd es pp qq st ch bo tp le sz at_ fa fp nu fm nn ou om) s.heap.size = A at hD ⊢
  have hA : ∀ q : Nat, s.heap.size ≤ q → A q := fun q h => by rw [← hAe]; exact Or.inr h
  have hS : va_S A s.heap s.heap [] := va_S.rf
  have hP : va_P D vwCl (wMo cI cJ cB cZ h a1 a2 a3 a4 a5 a6 a7 thr eg fr wt rk nx nd es pp qq st ch bo tp le sz at_ fa fp nu fm nn ou om) s.heap := hP
  have hi_6 : ∀ w ∈ wsX60, w ∈ wsX6_look := by decide +kernel
  have hw_1 := hts (.fieldLink RX6 1 "RankHouseModel" "thrown" "I") (by decide +kernel)
  have hw_2 := hts (.fieldLink RX6 32 "RankHouseModel" "nodes" "I") (by decide +kernel)
  have hw_3 := hts (.fieldLink RX6 25 "RankHouseModel" "rank" "[J") (by decide +kernel)
  have hw_4 := hts (.fieldLink RX6 58 "RankHouseModel" "change" "J") (by decide +kernel)
  have hw_5 := hts (.fieldLink RX6 62 "RankHouseModel" "bound" "J") (by decide +kernel)
  have hw_6 := hts (.fieldLink RX6 102 "RankHouseModel" "edges" "I") (by decide +kernel)
  have hw_7 := hts (.constantLong RX6 142 (2)) (by decide +kernel)
  have hw_8 := hts (.fieldLink RX6 38 "RankHouseModel" "q" "I") (by decide +kernel)
  have hw_9 := hts (.fieldLink RX6 35 "RankHouseModel" "p" "I") (by decide +kernel)
  have hw_10 := hts (.fieldLink RX6 53 "RankHouseModel" "steps" "I") (by decide +kernel)
  have hw_11 := hts (.constantLong RX6 144 (-1)) (by decide +kernel)
  have hl := lv_entry ([.ref h, .int (iZ a)]) (n := 5) (Nat.le_of_ble_eq_true rfl)
  rw [lg_entry_eq]
  generalize (lg_sl ([.ref h, .int (iZ a)]) ++ List.replicate (5 - (lg_sl ([.ref h, .int (iZ a)])).length) Slot.unset).toArray = ls at hl ⊢
  have hl : lv_has ls 5 [(0, .ref h), (1, .int (iZ a))] := hl
  obtain ⟨hM, hR, s1, s2, s3, s5, s6, t1, t2, t3, y1, y2, y3, d1⟩ := id hMR
  dsimp only at hM hR s1 s2 s3 t1 t3 y1 y3 d1
  have hM : MG N E w eg wt nd es := hM
  have hR : RK N P Q x rk pp qq := hR
  have t3 : BY tp tf tl := t3
  have y3 : BY ou of_ ol := y3
  obtain ⟨m1, m2, m3, m4, m5, m6, m7, m8, m9⟩ := id hM
  obtain ⟨k1, k2, k3, k4, k5, k6⟩ := id hR
  have b1 := Nat.mul_le_mul_right Q (show fst E N N + 2 * N ≤ 3000 by omega)
  refine lv_aload_n hx hb dX6_look_0 rfl (lv_at hl 0 rfl) ?_
  refine z_iconst hx hb dX6_look_1 ?_
  refine va_put (v := .int (iZ 0)) (ty := .int) (C := RX6) (T := TX6) (N := 24) (ci := 6) hx hb hts hi_6 tyX6 tyX6_ok nmX6 hown hK hP hD hS 0 rfl rfl 0 (by decide) hw_1 (fun _ h9 => h9) rfl (by decide +kernel) rfl rfl (Nat.le_of_ble_eq_true rfl) dX6_look_2 (fun H locs hP hD hS => ?_)
  have hP : va_P D vwCl (wMo cI cJ cB cZ h a1 a2 a3 a4 a5 a6 a7 0 eg fr wt rk nx nd es pp qq st ch bo tp le sz at_ fa fp nu fm nn ou om) H := hP
  have hD : va_D A (wMo cI cJ cB cZ h a1 a2 a3 a4 a5 a6 a7 0 eg fr wt rk nx nd es pp qq st ch bo tp le sz at_ fa fp nu fm nn ou om) := hD
  refine z_lconst hx hb 0  dX6_look_5 rfl ?_
  refine lv_lstore_n (lv' := [(2, .long (lZ 0)), (0, .ref h), (1, .int (iZ a))]) hx hb dX6_look_6 rfl hl (by decide) rfl (fun ls hl => ?_)
  refine lv_iload_n hx hb dX6_look_7 rfl (lv_at hl 2 rfl) ?_
  have ht_1 := iZ_t (z := a) (by omega)
  by_cases c_2 : a = 0
  · refine lv_tableIn (off := 36) (tgt := 44) hx hb dX6_look_8 (by rw [ht_1]; omega) (by rw [ht_1]; omega) (by rw [ht_1, c_2]; rfl) (by decide) ?_
    refine z_iconst hx hb dX6_look_44 ?_
    refine lv_istore (lv' := [(4, .int (iZ 0)), (2, .long (lZ 0)), (0, .ref h), (1, .int (iZ a))]) hx hb dX6_look_45 hl (by decide) rfl (fun ls hl => ?_)
    refine w_loop (fun kf H locs ls => ∃ (i : Nat), ∃ (y : Int), kf = N - i ∧ (i ≤ N ∧ y = ((fb_sm x i : Nat) : Int)) ∧ va_P D vwCl (wMo cI cJ cB cZ h a1 a2 a3 a4 a5 a6 a7 0 eg fr wt rk nx nd es pp qq st ch bo tp le sz at_ fa fp nu fm nn ou om) H ∧ va_D A (wMo cI cJ cB cZ h a1 a2 a3 a4 a5 a6 a7 0 eg fr wt rk nx nd es pp qq st ch bo tp le sz at_ fa fp nu fm nn ou om) ∧ va_S A s.heap H locs ∧ lv_has ls 5 [(0, .ref h), (1, .int (iZ a)), (2, .long (lZ y)), (4, .int (iZ ↑i))]) ?_ _ ⟨0, 0, rfl, ⟨by omega, rfl⟩, hP, hD, hS, lv_sub hl [2, 3, 1, 0] rfl⟩
    rintro kf H locs ls ⟨i, y, hk, ⟨i1, i2⟩, hP, hD, hS, hl⟩ ih
    refine lv_iload hx hb dX6_look_47 (lv_at hl 3 rfl) ?_
    refine lv_aload_n hx hb dX6_look_49 rfl (lv_at hl 0 rfl) ?_
    refine va_get (v := .int (iZ nd)) (C := RX6) (T := TX6) (N := 24) (ci := 6) hx hb hts hi_6 hown hK hP 0 rfl rfl 6 (by decide) hw_2 (fun _ h9 => h9) rfl dX6_look_50 ?_
    refine z_icmp_ge (tgt := 72) hx hb dX6_look_53 (by decide) (by omega) (by omega) (fun c_3 => ?_) (fun c_3 => ?_)
    · refine lv_lload_n hx hb dX6_look_72 rfl (lv_at hl 2 rfl) ?_
      exact rw_lret (z := y) (0, eg, fr, wt, rk, nx, nd, es, pp, qq, st, ch, bo, tp, le, sz, at_, fa, fp, nu, fm, nn, ou, om) hx hb hr hlocks hP hD hS (by have iN : i = N := (by omega); rw [iN] at i2; exact ⟨(by refine ⟨fun q => ?_, fun q => ?_, fun q => ?_, fun q => ?_, fun q => ?_, fun q => ?_⟩ <;> omega), ⟨hM, hR, s1, s2, s3, s5, s6, t1, t2, t3, y1, y2, y3, d1⟩⟩) dX6_look_73
    · have q8 := k5 i (by omega)
      have sS : fb_sm x (i + 1) = fb_sm x i + x i := fb_sm_succ _ i
      refine lv_lload_n hx hb dX6_look_56 rfl (lv_at hl 2 rfl) ?_
      refine lv_aload_n hx hb dX6_look_57 rfl (lv_at hl 0 rfl) ?_
      refine va_get (v := .ref a4) (C := RX6) (T := TX6) (N := 24) (ci := 6) hx hb hts hi_6 hown hK hP 0 rfl rfl 4 (by decide) hw_3 (fun _ h9 => h9) rfl dX6_look_58 ?_
      refine lv_iload hx hb dX6_look_61 (lv_at hl 3 rfl) ?_
      refine z_lald hx hb hK hP 4 1 rfl rfl i (by omega) (by omega) (by omega) dX6_look_63 ?_
      refine z_ladd hx hb dX6_look_64 ?_
      refine lv_lstore_n (lv' := [(2, .long (lZ (y + (rk i)))), (0, .ref h), (1, .int (iZ a)), (4, .int (iZ ↑i))]) hx hb dX6_look_65 rfl hl (by decide) rfl (fun ls hl => ?_)
      refine lv_iinc (v := iZ (↑i + 1)) (lv' := [(4, .int (iZ (↑i + 1))), (2, .long (lZ (y + (rk i)))), (0, .ref h), (1, .int (iZ a))]) hx hb dX6_look_66 hl (k := 3) rfl (show iZ ↑i + iZ 1 = _ from iZ_add _ _) (by decide) rfl (fun ls hl => ?_)
      refine lv_goto (tgt := 47) hx hb dX6_look_69 (by decide) ?_
      exact ih _ _ _ _ (by omega) ⟨(i + 1), (y + (rk i)), rfl, (by omega), hP, hD, hS, lv_sub hl [2, 3, 1, 0] rfl⟩
  by_cases c_4 : a = 1
  · refine lv_tableIn (off := 66) (tgt := 74) hx hb dX6_look_8 (by rw [ht_1]; omega) (by rw [ht_1]; omega) (by rw [ht_1, c_4]; rfl) (by decide) ?_
    refine lv_aload_n hx hb dX6_look_74 rfl (lv_at hl 1 rfl) ?_
    refine va_get (v := .long (lZ ch)) (C := RX6) (T := TX6) (N := 24) (ci := 6) hx hb hts hi_6 hown hK hP 0 rfl rfl 11 (by decide) hw_4 (fun _ h9 => h9) rfl dX6_look_75 ?_
    exact rw_lret (z := ch) (0, eg, fr, wt, rk, nx, nd, es, pp, qq, st, ch, bo, tp, le, sz, at_, fa, fp, nu, fm, nn, ou, om) hx hb hr hlocks hP hD hS ⟨(by refine ⟨fun q => ?_, fun q => ?_, fun q => ?_, fun q => ?_, fun q => ?_, fun q => ?_⟩ <;> omega), ⟨hM, hR, s1, s2, s3, s5, s6, t1, t2, t3, y1, y2, y3, d1⟩⟩ dX6_look_78
  by_cases c_5 : a = 2
  · refine lv_tableIn (off := 71) (tgt := 79) hx hb dX6_look_8 (by rw [ht_1]; omega) (by rw [ht_1]; omega) (by rw [ht_1, c_5]; rfl) (by decide) ?_
    refine lv_aload_n hx hb dX6_look_79 rfl (lv_at hl 1 rfl) ?_
    refine va_get (v := .long (lZ bo)) (C := RX6) (T := TX6) (N := 24) (ci := 6) hx hb hts hi_6 hown hK hP 0 rfl rfl 12 (by decide) hw_5 (fun _ h9 => h9) rfl dX6_look_80 ?_
    refine lv_aload_n hx hb dX6_look_83 rfl (lv_at hl 1 rfl) ?_
    refine va_get (v := .int (iZ es)) (C := RX6) (T := TX6) (N := 24) (ci := 6) hx hb hts hi_6 hown hK hP 0 rfl rfl 7 (by decide) hw_6 (fun _ h9 => h9) rfl dX6_look_84 ?_
    refine z_i2l hx hb dX6_look_87 (by omega) ?_
    refine z_ldc2 hx hb (2) hown hw_7 (by decide) dX6_look_88 ?_
    refine lv_aload_n hx hb dX6_look_91 rfl (lv_at hl 1 rfl) ?_
    refine va_get (v := .int (iZ nd)) (C := RX6) (T := TX6) (N := 24) (ci := 6) hx hb hts hi_6 hown hK hP 0 rfl rfl 6 (by decide) hw_2 (fun _ h9 => h9) rfl dX6_look_92 ?_
    refine z_i2l hx hb dX6_look_95 (by omega) ?_
    refine z_lmul hx hb dX6_look_96 ?_
    refine z_ladd hx hb dX6_look_97 ?_
    refine lv_aload_n hx hb dX6_look_98 rfl (lv_at hl 1 rfl) ?_
    refine va_get (v := .int (iZ qq)) (C := RX6) (T := TX6) (N := 24) (ci := 6) hx hb hts hi_6 hown hK hP 0 rfl rfl 9 (by decide) hw_8 (fun _ h9 => h9) rfl dX6_look_99 ?_
    refine z_i2l hx hb dX6_look_102 (by omega) ?_
    refine z_lmul hx hb dX6_look_103 ?_
    refine z_tol ((((fst E N N + 2 * N) * Q : Nat) : Int)) (by rw [m6, m5, k2, Int.natCast_mul, Int.natCast_add, Int.natCast_mul]; rfl) ?_
    refine lv_aload_n hx hb dX6_look_104 rfl (lv_at hl 1 rfl) ?_
    refine va_get (v := .int (iZ qq)) (C := RX6) (T := TX6) (N := 24) (ci := 6) hx hb hts hi_6 hown hK hP 0 rfl rfl 9 (by decide) hw_8 (fun _ h9 => h9) rfl dX6_look_105 ?_
    refine lv_aload_n hx hb dX6_look_108 rfl (lv_at hl 1 rfl) ?_
    refine va_get (v := .int (iZ pp)) (C := RX6) (T := TX6) (N := 24) (ci := 6) hx hb hts hi_6 hown hK hP 0 rfl rfl 8 (by decide) hw_9 (fun _ h9 => h9) rfl dX6_look_109 ?_
    refine z_isub hx hb dX6_look_112 ?_
    refine z_i2l hx hb dX6_look_113 (by omega) ?_
    refine z_tol (((Q - P : Nat) : Int)) (by omega) ?_
    refine z_ldiv hx hb dX6_look_114 (by omega) (by omega) ?_
    refine z_tol ((((fst E N N + 2 * N) * Q / (Q - P) : Nat) : Int)) (by rw [Int.natCast_ediv]) ?_
    refine z_ladd hx hb dX6_look_115 ?_
    refine z_lconst hx hb 1  dX6_look_116 rfl ?_
    refine z_ladd hx hb dX6_look_117 ?_
    exact rw_lret (z := (bo + (((fst E N N + 2 * N) * Q / (Q - P) : Nat) : Int)) + 1) (0, eg, fr, wt, rk, nx, nd, es, pp, qq, st, ch, bo, tp, le, sz, at_, fa, fp, nu, fm, nn, ou, om) hx hb hr hlocks hP hD hS ⟨(by refine ⟨fun q => ?_, fun q => ?_, fun q => ?_, fun q => ?_, fun q => ?_, fun q => ?_⟩ <;> omega), ⟨hM, hR, s1, s2, s3, s5, s6, t1, t2, t3, y1, y2, y3, d1⟩⟩ dX6_look_118
  by_cases c_6 : a = 3
  · refine lv_tableIn (off := 111) (tgt := 119) hx hb dX6_look_8 (by rw [ht_1]; omega) (by rw [ht_1]; omega) (by rw [ht_1, c_6]; rfl) (by decide) ?_
    refine lv_aload_n hx hb dX6_look_119 rfl (lv_at hl 1 rfl) ?_
    refine va_get (v := .int (iZ st)) (C := RX6) (T := TX6) (N := 24) (ci := 6) hx hb hts hi_6 hown hK hP 0 rfl rfl 10 (by decide) hw_10 (fun _ h9 => h9) rfl dX6_look_120 ?_
    refine z_i2l hx hb dX6_look_123 (by omega) ?_
    exact rw_lret (z := st) (0, eg, fr, wt, rk, nx, nd, es, pp, qq, st, ch, bo, tp, le, sz, at_, fa, fp, nu, fm, nn, ou, om) hx hb hr hlocks hP hD hS ⟨(by refine ⟨fun q => ?_, fun q => ?_, fun q => ?_, fun q => ?_, fun q => ?_, fun q => ?_⟩ <;> omega), ⟨hM, hR, s1, s2, s3, s5, s6, t1, t2, t3, y1, y2, y3, d1⟩⟩ dX6_look_124
  by_cases c_7 : a = 4
  · refine lv_tableIn (off := 117) (tgt := 125) hx hb dX6_look_8 (by rw [ht_1]; omega) (by rw [ht_1]; omega) (by rw [ht_1, c_7]; rfl) (by decide) ?_
    refine lv_aload_n hx hb dX6_look_125 rfl (lv_at hl 1 rfl) ?_
    refine ro_l (va_runV (As := []) (rest := []) ⟨hx, hb, hml, hown, hts⟩ (c_X6_bare l D cI cJ cB cZ h a1 a2 a3 a4 a5 a6 a7 0 eg fr wt rk nx nd es pp qq st ch bo tp le sz at_ fa fp nu fm nn ou om N E w hM P Q x hR) (cwV 0 hts gX6_look_X6_bare rfl rfl rfl (by decide +kernel) ⟨Nat.le_of_ble_eq_true rfl, Nat.le_of_ble_eq_true rfl⟩) (pre0V hE hP 0 rfl rfl) rfl rfl hl.1 rfl (lv_room (Nat.le_of_ble_eq_true rfl)) dX6_look_126 ⟨Nat.le_of_ble_eq_true rfl, Nat.le_of_ble_eq_true rfl⟩) (fun r_8 hr_9 => ?_)
    subst hr_9
    exact rw_lret (z := ((bar E N x : Nat) : Int)) (0, eg, fr, wt, rk, nx, nd, es, pp, qq, st, ch, bo, tp, le, sz, at_, fa, fp, nu, fm, nn, ou, om) hx hb hr hlocks hP hD hS ⟨(by refine ⟨fun q => ?_, fun q => ?_, fun q => ?_, fun q => ?_, fun q => ?_, fun q => ?_⟩ <;> omega), ⟨hM, hR, s1, s2, s3, s5, s6, t1, t2, t3, y1, y2, y3, d1⟩⟩ dX6_look_129
  refine lv_tableOut (tgt := 130) hx hb dX6_look_8 (by rw [ht_1]; omega) (by decide) ?_
  refine z_ldc2 hx hb (-1) hown hw_11 (by decide) dX6_look_130 ?_
  exact rw_lret (z := (-1)) (0, eg, fr, wt, rk, nx, nd, es, pp, qq, st, ch, bo, tp, le, sz, at_, fa, fp, nu, fm, nn, ou, om) hx hb hr hlocks hP hD hS ⟨(by refine ⟨fun q => ?_, fun q => ?_, fun q => ?_, fun q => ?_, fun q => ?_, fun q => ?_⟩ <;> omega), ⟨hM, hR, s1, s2, s3, s5, s6, t1, t2, t3, y1, y2, y3, d1⟩⟩ dX6_look_133
set_option maxHeartbeats 4000000 in
set_option maxRecDepth 100000 in
theorem c_X6_top (l : Launch) (D : va_G) (cI cJ cB cZ : ClassId) (h a1 a2 a3 a4 a5 a6 a7 : Nat) (thr : Int) (eg fr wt rk nx : Nat → Int) (nd es pp qq st ch bo : Int) (tp : Nat → Int) (le sz at_ fa fp nu fm nn : Int) (ou : Nat → Int) (om : Int) (N : Nat) (E : Ed) (w : Nat → Nat) (P Q : Nat) (x : Nat → Nat) (ks kc ke tl : Nat) (tf : Nat → Int) (ol : Nat) (of_ : Nat → Int) (fk : Int) (hMR : MR N E w P Q x ks kc ke tl tf ol of_ fk (thr, eg, fr, wt, rk, nx, nd, es, pp, qq, st, ch, bo, tp, le, sz, at_, fa, fp, nu, fm, nn, ou, om)) (a : Int) (ha : -2147483648 ≤ a ∧ a < 2147483648)  (sz0 : Nat) : Met l yX6_top wsX6_top ({ frames := 0, cells := 0, slots := 0, locals := 0 } : Room) (Pre1 D cI cJ cB cZ [.ref h, .int (iZ a)] (wMo cI cJ cB cZ h a1 a2 a3 a4 a5 a6 a7 thr eg fr wt rk nx nd es pp qq st ch bo tp le sz at_ fa fp nu fm nn ou om) sz0) (rwI (S := MT) D (fun z U => TK (fun _ => true) x N a z ∧ MR N E w P Q x ks kc ke tl tf ol of_ fk U) (fun u => wM cI cJ cB cZ h a1 a2 a3 a4 a5 a6 a7 u) (va_A (wMo cI cJ cB cZ h a1 a2 a3 a4 a5 a6 a7 thr eg fr wt rk nx nd es pp qq st ch bo tp le sz at_ fa fp nu fm nn ou om) sz0)) 0 0 (va_A (wMo cI cJ cB cZ h a1 a2 a3 a4 a5 a6 a7 thr eg fr wt rk nx nd es pp qq st ch bo tp le sz at_ fa fp nu fm nn ou om) sz0) := by
  refine Met.ofW (cc := cX6_top) (maxL := 5) (ret := (some .int)) (by decide) rfl ?_
  intro p e s m args below meth c s₁ B hml hv
  obtain ⟨rfl, hsz, hP, hE, hD0⟩ := hv
  have hx := B.exec
  have hb := B.bytes
  have hr := B.returns
  have hts := atoms_spec (ws := wsX6_top) B.pre
  have hown : s.vm.findClass RX6 = some m.cls := findClass_of_methodNamed B.named
  have hlocks := B.notSynchronized
  have hK := hE.1
  subst hsz
  have hD := hD0.self (sz := s.heap.size)
  generalize hAe : va_A (wMo cI cJ cB cZ h a1 a2 a3 a4 a5 a6 a7 thr eg fr wt rk nx nd es pp qq st ch bo tp le sz at_ fa fp nu fm nn ou om) s.heap.size = A at hD ⊢
  have hA : ∀ q : Nat, s.heap.size ≤ q → A q := fun q h => by rw [← hAe]; exact Or.inr h
  have hS : va_S A s.heap s.heap [] := va_S.rf
  have hP : va_P D vwCl (wMo cI cJ cB cZ h a1 a2 a3 a4 a5 a6 a7 thr eg fr wt rk nx nd es pp qq st ch bo tp le sz at_ fa fp nu fm nn ou om) s.heap := hP
  have hi_6 : ∀ w ∈ wsX60, w ∈ wsX6_top := by decide +kernel
  have hw_1 := hts (.fieldLink RX6 1 "RankHouseModel" "thrown" "I") (by decide +kernel)
  have hw_2 := hts (.fieldLink RX6 32 "RankHouseModel" "nodes" "I") (by decide +kernel)
  have hw_3 := hts (.fieldLink RX6 25 "RankHouseModel" "rank" "[J") (by decide +kernel)
  have hl := lv_entry ([.ref h, .int (iZ a)]) (n := 5) (Nat.le_of_ble_eq_true rfl)
  rw [lg_entry_eq]
  generalize (lg_sl ([.ref h, .int (iZ a)]) ++ List.replicate (5 - (lg_sl ([.ref h, .int (iZ a)])).length) Slot.unset).toArray = ls at hl ⊢
  have hl : lv_has ls 5 [(0, .ref h), (1, .int (iZ a))] := hl
  obtain ⟨hM, hR, s1, s2, s3, s5, s6, t1, t2, t3, y1, y2, y3, d1⟩ := id hMR
  dsimp only at hM hR s1 s2 s3 t1 t3 y1 y3 d1
  have hM : MG N E w eg wt nd es := hM
  have hR : RK N P Q x rk pp qq := hR
  have t3 : BY tp tf tl := t3
  have y3 : BY ou of_ ol := y3
  obtain ⟨m1, m2, m3, m4, m5, m6, m7, m8, m9⟩ := id hM
  obtain ⟨k1, k2, k3, k4, k5, k6⟩ := id hR
  refine lv_aload_n hx hb dX6_top_0 rfl (lv_at hl 0 rfl) ?_
  refine z_iconst hx hb dX6_top_1 ?_
  refine va_put (v := .int (iZ 0)) (ty := .int) (C := RX6) (T := TX6) (N := 24) (ci := 6) hx hb hts hi_6 tyX6 tyX6_ok nmX6 hown hK hP hD hS 0 rfl rfl 0 (by decide) hw_1 (fun _ h9 => h9) rfl (by decide +kernel) rfl rfl (Nat.le_of_ble_eq_true rfl) dX6_top_2 (fun H locs hP hD hS => ?_)
  have hP : va_P D vwCl (wMo cI cJ cB cZ h a1 a2 a3 a4 a5 a6 a7 0 eg fr wt rk nx nd es pp qq st ch bo tp le sz at_ fa fp nu fm nn ou om) H := hP
  have hD : va_D A (wMo cI cJ cB cZ h a1 a2 a3 a4 a5 a6 a7 0 eg fr wt rk nx nd es pp qq st ch bo tp le sz at_ fa fp nu fm nn ou om) := hD
  refine z_iconst hx hb dX6_top_5 ?_
  refine lv_istore_n (lv' := [(2, .int (iZ 0)), (0, .ref h), (1, .int (iZ a))]) hx hb dX6_top_6 rfl hl (by decide) rfl (fun ls hl => ?_)
  refine w_loop (fun kf H locs ls => ∃ (i : Nat), kf = N - i ∧ (i ≤ N ∧ ∀ u, u < i → (ahd (fun _ => true) x N u : Int) ≠ a) ∧ va_P D vwCl (wMo cI cJ cB cZ h a1 a2 a3 a4 a5 a6 a7 0 eg fr wt rk nx nd es pp qq st ch bo tp le sz at_ fa fp nu fm nn ou om) H ∧ va_D A (wMo cI cJ cB cZ h a1 a2 a3 a4 a5 a6 a7 0 eg fr wt rk nx nd es pp qq st ch bo tp le sz at_ fa fp nu fm nn ou om) ∧ va_S A s.heap H locs ∧ lv_has ls 5 [(0, .ref h), (1, .int (iZ a)), (2, .int (iZ ↑i))]) ?_ _ ⟨0, rfl, ⟨by omega, fun u hu => absurd hu (Nat.not_lt_zero u)⟩, hP, hD, hS, lv_sub hl [1, 2, 0] rfl⟩
  rintro kf H locs ls ⟨i, hk, ⟨i1, i2⟩, hP, hD, hS, hl⟩ ih1
  refine lv_iload_n hx hb dX6_top_7 rfl (lv_at hl 2 rfl) ?_
  refine lv_aload_n hx hb dX6_top_8 rfl (lv_at hl 0 rfl) ?_
  refine va_get (v := .int (iZ nd)) (C := RX6) (T := TX6) (N := 24) (ci := 6) hx hb hts hi_6 hown hK hP 0 rfl rfl 6 (by decide) hw_2 (fun _ h9 => h9) rfl dX6_top_9 ?_
  refine z_icmp_ge (tgt := 96) hx hb dX6_top_12 (by decide) (by omega) (by omega) (fun c_1 => ?_) (fun c_1 => ?_)
  · refine z_iconst hx hb dX6_top_96 ?_
    exact rw_iret (z := (-1)) (0, eg, fr, wt, rk, nx, nd, es, pp, qq, st, ch, bo, tp, le, sz, at_, fa, fp, nu, fm, nn, ou, om) hx hb hr hlocks hP hD hS ⟨Or.inr ⟨rfl, fun u hu _ => i2 u (by omega)⟩, ⟨hM, hR, s1, s2, s3, s5, s6, t1, t2, t3, y1, y2, y3, d1⟩⟩ dX6_top_97
  · refine z_iconst hx hb dX6_top_15 ?_
    refine lv_istore_n (lv' := [(3, .int (iZ 0)), (0, .ref h), (1, .int (iZ a)), (2, .int (iZ ↑i))]) hx hb dX6_top_16 rfl hl (by decide) rfl (fun ls hl => ?_)
    refine z_iconst hx hb dX6_top_17 ?_
    refine lv_istore (lv' := [(4, .int (iZ 0)), (3, .int (iZ 0)), (0, .ref h), (1, .int (iZ a)), (2, .int (iZ ↑i))]) hx hb dX6_top_18 hl (by decide) rfl (fun ls hl => ?_)
    refine w_loop (fun kf H locs ls => ∃ (j : Nat), ∃ (y : Int), kf = N - j ∧ (j ≤ N ∧ y = ((ahd (fun _ => true) x j i : Nat) : Int)) ∧ va_P D vwCl (wMo cI cJ cB cZ h a1 a2 a3 a4 a5 a6 a7 0 eg fr wt rk nx nd es pp qq st ch bo tp le sz at_ fa fp nu fm nn ou om) H ∧ va_D A (wMo cI cJ cB cZ h a1 a2 a3 a4 a5 a6 a7 0 eg fr wt rk nx nd es pp qq st ch bo tp le sz at_ fa fp nu fm nn ou om) ∧ va_S A s.heap H locs ∧ lv_has ls 5 [(0, .ref h), (1, .int (iZ a)), (2, .int (iZ ↑i)), (3, .int (iZ y)), (4, .int (iZ ↑j))]) ?_ _ ⟨0, 0, rfl, ⟨by omega, rfl⟩, hP, hD, hS, lv_sub hl [2, 3, 4, 1, 0] rfl⟩
    rintro kf H locs ls ⟨j, y, hk, ⟨j1, j2⟩, hP, hD, hS, hl⟩ ih2
    refine lv_iload hx hb dX6_top_20 (lv_at hl 4 rfl) ?_
    refine lv_aload_n hx hb dX6_top_22 rfl (lv_at hl 0 rfl) ?_
    refine va_get (v := .int (iZ nd)) (C := RX6) (T := TX6) (N := 24) (ci := 6) hx hb hts hi_6 hown hK hP 0 rfl rfl 6 (by decide) hw_2 (fun _ h9 => h9) rfl dX6_top_23 ?_
    refine z_icmp_ge (tgt := 83) hx hb dX6_top_26 (by decide) (by omega) (by omega) (fun c_2 => ?_) (fun c_2 => ?_)
    · have jN : j = N := by omega
      rw [jN] at j2
      have aB := ahd_lt0 (fun _ => true) x N i
      refine lv_iload_n hx hb dX6_top_83 rfl (lv_at hl 3 rfl) ?_
      refine lv_iload_n hx hb dX6_top_84 rfl (lv_at hl 1 rfl) ?_
      refine z_icmp_ne (tgt := 90) hx hb dX6_top_85 (by decide) (by omega) (by omega) (fun c_3 => ?_) (fun c_3 => ?_)
      · refine lv_iinc (v := iZ (↑i + 1)) (lv' := [(2, .int (iZ (↑i + 1))), (0, .ref h), (1, .int (iZ a)), (3, .int (iZ y)), (4, .int (iZ ↑j))]) hx hb dX6_top_90 hl (k := 2) rfl (show iZ ↑i + iZ 1 = _ from iZ_add _ _) (by decide) rfl (fun ls hl => ?_)
        refine lv_goto (tgt := 7) hx hb dX6_top_93 (by decide) ?_
        exact ih1 _ _ _ _ (by omega) ⟨(i + 1), rfl, ⟨by omega, fun u hu => by by_cases q : u = i; (subst q; omega); exact i2 u (by omega)⟩, hP, hD, hS, lv_sub hl [1, 2, 0] rfl⟩
      · refine lv_iload_n hx hb dX6_top_88 rfl (lv_at hl 2 rfl) ?_
        exact rw_iret (z := ↑i) (0, eg, fr, wt, rk, nx, nd, es, pp, qq, st, ch, bo, tp, le, sz, at_, fa, fp, nu, fm, nn, ou, om) hx hb hr hlocks hP hD hS ⟨Or.inl ⟨i, by omega, rfl, by omega, rfl⟩, ⟨hM, hR, s1, s2, s3, s5, s6, t1, t2, t3, y1, y2, y3, d1⟩⟩ dX6_top_89
    · have qj := k5 j (by omega)
      have qi := k5 i (by omega)
      have sj := sm_at (x := x) (show j < N by omega)
      have si := sm_at (x := x) (show i < N by omega)
      refine lv_iload_n hx hb dX6_top_29 rfl (lv_at hl 3 rfl) ?_
      refine lv_aload_n hx hb dX6_top_30 rfl (lv_at hl 0 rfl) ?_
      refine va_get (v := .ref a4) (C := RX6) (T := TX6) (N := 24) (ci := 6) hx hb hts hi_6 hown hK hP 0 rfl rfl 4 (by decide) hw_3 (fun _ h9 => h9) rfl dX6_top_31 ?_
      refine lv_iload hx hb dX6_top_34 (lv_at hl 4 rfl) ?_
      refine z_lald hx hb hK hP 4 1 rfl rfl j (by omega) (by omega) (by omega) dX6_top_36 ?_
      refine lv_aload_n hx hb dX6_top_37 rfl (lv_at hl 0 rfl) ?_
      refine va_get (v := .ref a4) (C := RX6) (T := TX6) (N := 24) (ci := 6) hx hb hts hi_6 hown hK hP 0 rfl rfl 4 (by decide) hw_3 (fun _ h9 => h9) rfl dX6_top_38 ?_
      refine lv_iload_n hx hb dX6_top_41 rfl (lv_at hl 2 rfl) ?_
      refine z_lald hx hb hK hP 4 1 rfl rfl i (by omega) (by omega) (by omega) dX6_top_42 ?_
      refine z_lc_gt (tgt := 70) hx hb dX6_top_43 dX6_top_44 (by decide) (by omega) (by omega) (fun c_4 => ?_) (fun c_4 => ?_)
      · have aS := ahd_t (p := (fun _ => true)) (wt := x) (j := j) (x := i) rfl (by omega)
        refine z_iconst hx hb dX6_top_70 ?_
        refine lv_goto (tgt := 75) hx hb dX6_top_71 (by decide) ?_
        refine z_iadd hx hb dX6_top_75 ?_
        refine lv_istore_n (lv' := [(3, .int (iZ (y + 1))), (0, .ref h), (1, .int (iZ a)), (2, .int (iZ ↑i)), (4, .int (iZ ↑j))]) hx hb dX6_top_76 rfl hl (by decide) rfl (fun ls hl => ?_)
        refine lv_iinc (v := iZ (↑j + 1)) (lv' := [(4, .int (iZ (↑j + 1))), (3, .int (iZ (y + 1))), (0, .ref h), (1, .int (iZ a)), (2, .int (iZ ↑i))]) hx hb dX6_top_77 hl (k := 4) rfl (show iZ ↑j + iZ 1 = _ from iZ_add _ _) (by decide) rfl (fun ls hl => ?_)
        refine lv_goto (tgt := 20) hx hb dX6_top_80 (by decide) ?_
        exact ih2 _ _ _ _ (by omega) ⟨(j + 1), (y + 1), rfl, ⟨by omega, by omega⟩, hP, hD, hS, lv_sub hl [2, 3, 4, 1, 0] rfl⟩
      · refine lv_aload_n hx hb dX6_top_47 rfl (lv_at hl 0 rfl) ?_
        refine va_get (v := .ref a4) (C := RX6) (T := TX6) (N := 24) (ci := 6) hx hb hts hi_6 hown hK hP 0 rfl rfl 4 (by decide) hw_3 (fun _ h9 => h9) rfl dX6_top_48 ?_
        refine lv_iload hx hb dX6_top_51 (lv_at hl 4 rfl) ?_
        refine z_lald hx hb hK hP 4 1 rfl rfl j (by omega) (by omega) (by omega) dX6_top_53 ?_
        refine lv_aload_n hx hb dX6_top_54 rfl (lv_at hl 0 rfl) ?_
        refine va_get (v := .ref a4) (C := RX6) (T := TX6) (N := 24) (ci := 6) hx hb hts hi_6 hown hK hP 0 rfl rfl 4 (by decide) hw_3 (fun _ h9 => h9) rfl dX6_top_55 ?_
        refine lv_iload_n hx hb dX6_top_58 rfl (lv_at hl 2 rfl) ?_
        refine z_lald hx hb hK hP 4 1 rfl rfl i (by omega) (by omega) (by omega) dX6_top_59 ?_
        refine z_lc_ne (tgt := 74) hx hb dX6_top_60 dX6_top_61 (by decide) (by omega) (by omega) (fun c_5 => ?_) (fun c_5 => ?_)
        · have aS := ahd_f (p := (fun _ => true)) (wt := x) (j := j) (x := i) (fun _ => by omega)
          refine z_iconst hx hb dX6_top_74 ?_
          refine z_iadd hx hb dX6_top_75 ?_
          refine lv_istore_n (lv' := [(3, .int (iZ (y + 0))), (0, .ref h), (1, .int (iZ a)), (2, .int (iZ ↑i)), (4, .int (iZ ↑j))]) hx hb dX6_top_76 rfl hl (by decide) rfl (fun ls hl => ?_)
          refine lv_iinc (v := iZ (↑j + 1)) (lv' := [(4, .int (iZ (↑j + 1))), (3, .int (iZ (y + 0))), (0, .ref h), (1, .int (iZ a)), (2, .int (iZ ↑i))]) hx hb dX6_top_77 hl (k := 4) rfl (show iZ ↑j + iZ 1 = _ from iZ_add _ _) (by decide) rfl (fun ls hl => ?_)
          refine lv_goto (tgt := 20) hx hb dX6_top_80 (by decide) ?_
          exact ih2 _ _ _ _ (by omega) ⟨(j + 1), (y + 0), rfl, ⟨by omega, by omega⟩, hP, hD, hS, lv_sub hl [2, 3, 4, 1, 0] rfl⟩
        · refine lv_iload hx hb dX6_top_64 (lv_at hl 4 rfl) ?_
          refine lv_iload_n hx hb dX6_top_66 rfl (lv_at hl 2 rfl) ?_
          refine z_icmp_ge (tgt := 74) hx hb dX6_top_67 (by decide) (by omega) (by omega) (fun c_6 => ?_) (fun c_6 => ?_)
          · have aS := ahd_f (p := (fun _ => true)) (wt := x) (j := j) (x := i) (fun _ => by omega)
            refine z_iconst hx hb dX6_top_74 ?_
            refine z_iadd hx hb dX6_top_75 ?_
            refine lv_istore_n (lv' := [(3, .int (iZ (y + 0))), (0, .ref h), (1, .int (iZ a)), (2, .int (iZ ↑i)), (4, .int (iZ ↑j))]) hx hb dX6_top_76 rfl hl (by decide) rfl (fun ls hl => ?_)
            refine lv_iinc (v := iZ (↑j + 1)) (lv' := [(4, .int (iZ (↑j + 1))), (3, .int (iZ (y + 0))), (0, .ref h), (1, .int (iZ a)), (2, .int (iZ ↑i))]) hx hb dX6_top_77 hl (k := 4) rfl (show iZ ↑j + iZ 1 = _ from iZ_add _ _) (by decide) rfl (fun ls hl => ?_)
            refine lv_goto (tgt := 20) hx hb dX6_top_80 (by decide) ?_
            exact ih2 _ _ _ _ (by omega) ⟨(j + 1), (y + 0), rfl, ⟨by omega, by omega⟩, hP, hD, hS, lv_sub hl [2, 3, 4, 1, 0] rfl⟩
          · have aS := ahd_t (p := (fun _ => true)) (wt := x) (j := j) (x := i) rfl (by omega)
            refine z_iconst hx hb dX6_top_70 ?_
            refine lv_goto (tgt := 75) hx hb dX6_top_71 (by decide) ?_
            refine z_iadd hx hb dX6_top_75 ?_
            refine lv_istore_n (lv' := [(3, .int (iZ (y + 1))), (0, .ref h), (1, .int (iZ a)), (2, .int (iZ ↑i)), (4, .int (iZ ↑j))]) hx hb dX6_top_76 rfl hl (by decide) rfl (fun ls hl => ?_)
            refine lv_iinc (v := iZ (↑j + 1)) (lv' := [(4, .int (iZ (↑j + 1))), (3, .int (iZ (y + 1))), (0, .ref h), (1, .int (iZ a)), (2, .int (iZ ↑i))]) hx hb dX6_top_77 hl (k := 4) rfl (show iZ ↑j + iZ 1 = _ from iZ_add _ _) (by decide) rfl (fun ls hl => ?_)
            refine lv_goto (tgt := 20) hx hb dX6_top_80 (by decide) ?_
            exact ih2 _ _ _ _ (by omega) ⟨(j + 1), (y + 1), rfl, ⟨by omega, by omega⟩, hP, hD, hS, lv_sub hl [2, 3, 4, 1, 0] rfl⟩
set_option maxHeartbeats 4000000 in
set_option maxRecDepth 100000 in
theorem c_X6_gives (l : Launch) (D : va_G) (cI cJ cB cZ : ClassId) (h a1 a2 a3 a4 a5 a6 a7 : Nat) (thr : Int) (eg fr wt rk nx : Nat → Int) (nd es pp qq st ch bo : Int) (tp : Nat → Int) (le sz at_ fa fp nu fm nn : Int) (ou : Nat → Int) (om : Int) (N : Nat) (E : Ed) (w : Nat → Nat) (P Q : Nat) (x : Nat → Nat) (ks kc ke tl : Nat) (tf : Nat → Int) (ol : Nat) (of_ : Nat → Int) (fk : Int) (hMR : MR N E w P Q x ks kc ke tl tf ol of_ fk (thr, eg, fr, wt, rk, nx, nd, es, pp, qq, st, ch, bo, tp, le, sz, at_, fa, fp, nu, fm, nn, ou, om)) (a : Int) (ha : -2147483648 ≤ a ∧ a < 2147483648) (b : Int) (hb0 : -2147483648 ≤ b ∧ b < 2147483648)  (sz0 : Nat) : Met l yX6_gives wsX6_gives ({ frames := 3, cells := 0, slots := 0, locals := 67 } : Room) (Pre1 D cI cJ cB cZ [.ref h, .int (iZ a), .int (iZ b)] (wMo cI cJ cB cZ h a1 a2 a3 a4 a5 a6 a7 thr eg fr wt rk nx nd es pp qq st ch bo tp le sz at_ fa fp nu fm nn ou om) sz0) (rwL (S := MT) D (fun z U => (((0 ≤ a ∧ a < (N : Int) ∧ 0 ≤ b ∧ b < (N : Int) ∧ E a.toNat b.toNat = true) → z = ((shr E N P Q x a.toNat : Nat) : Int)) ∧ (¬ (0 ≤ a ∧ a < (N : Int) ∧ 0 ≤ b ∧ b < (N : Int) ∧ E a.toNat b.toNat = true) → z = -1)) ∧ MR N E w P Q x ks kc ke tl tf ol of_ fk U) (fun u => wM cI cJ cB cZ h a1 a2 a3 a4 a5 a6 a7 u) (va_A (wMo cI cJ cB cZ h a1 a2 a3 a4 a5 a6 a7 thr eg fr wt rk nx nd es pp qq st ch bo tp le sz at_ fa fp nu fm nn ou om) sz0)) 0 0 (va_A (wMo cI cJ cB cZ h a1 a2 a3 a4 a5 a6 a7 thr eg fr wt rk nx nd es pp qq st ch bo tp le sz at_ fa fp nu fm nn ou om) sz0) := by
  refine Met.ofW (cc := cX6_gives) (maxL := 3) (ret := (some .long)) (by decide) rfl ?_
  intro p e s m args below meth c s₁ B hml hv
  obtain ⟨rfl, hsz, hP, hE, hD0⟩ := hv
  have hx := B.exec
  have hb := B.bytes
  have hr := B.returns
  have hts := atoms_spec (ws := wsX6_gives) B.pre
  have hown : s.vm.findClass RX6 = some m.cls := findClass_of_methodNamed B.named
  have hlocks := B.notSynchronized
  have hK := hE.1
  subst hsz
  have hD := hD0.self (sz := s.heap.size)
  generalize hAe : va_A (wMo cI cJ cB cZ h a1 a2 a3 a4 a5 a6 a7 thr eg fr wt rk nx nd es pp qq st ch bo tp le sz at_ fa fp nu fm nn ou om) s.heap.size = A at hD ⊢
  have hA : ∀ q : Nat, s.heap.size ≤ q → A q := fun q h => by rw [← hAe]; exact Or.inr h
  have hS : va_S A s.heap s.heap [] := va_S.rf
  have hP : va_P D vwCl (wMo cI cJ cB cZ h a1 a2 a3 a4 a5 a6 a7 thr eg fr wt rk nx nd es pp qq st ch bo tp le sz at_ fa fp nu fm nn ou om) s.heap := hP
  have hi_6 : ∀ w ∈ wsX60, w ∈ wsX6_gives := by decide +kernel
  have hw_1 := hts (.fieldLink RX6 1 "RankHouseModel" "thrown" "I") (by decide +kernel)
  have hw_2 := hts (.constantLong RX6 144 (-1)) (by decide +kernel)
  have hl := lv_entry ([.ref h, .int (iZ a), .int (iZ b)]) (n := 3) (Nat.le_of_ble_eq_true rfl)
  rw [lg_entry_eq]
  generalize (lg_sl ([.ref h, .int (iZ a), .int (iZ b)]) ++ List.replicate (3 - (lg_sl ([.ref h, .int (iZ a), .int (iZ b)])).length) Slot.unset).toArray = ls at hl ⊢
  have hl : lv_has ls 3 [(0, .ref h), (1, .int (iZ a)), (2, .int (iZ b))] := hl
  obtain ⟨hM, hR, s1, s2, s3, s5, s6, t1, t2, t3, y1, y2, y3, d1⟩ := id hMR
  dsimp only at hM hR s1 s2 s3 t1 t3 y1 y3 d1
  have hM : MG N E w eg wt nd es := hM
  have hR : RK N P Q x rk pp qq := hR
  have t3 : BY tp tf tl := t3
  have y3 : BY ou of_ ol := y3
  obtain ⟨m1, m2, m3, m4, m5, m6, m7, m8, m9⟩ := id hM
  obtain ⟨k1, k2, k3, k4, k5, k6⟩ := id hR
  refine lv_aload_n hx hb dX6_gives_0 rfl (lv_at hl 0 rfl) ?_
  refine z_iconst hx hb dX6_gives_1 ?_
  refine va_put (v := .int (iZ 0)) (ty := .int) (C := RX6) (T := TX6) (N := 24) (ci := 6) hx hb hts hi_6 tyX6 tyX6_ok nmX6 hown hK hP hD hS 0 rfl rfl 0 (by decide) hw_1 (fun _ h9 => h9) rfl (by decide +kernel) rfl rfl (Nat.le_of_ble_eq_true rfl) dX6_gives_2 (fun H locs hP hD hS => ?_)
  have hP : va_P D vwCl (wMo cI cJ cB cZ h a1 a2 a3 a4 a5 a6 a7 0 eg fr wt rk nx nd es pp qq st ch bo tp le sz at_ fa fp nu fm nn ou om) H := hP
  have hD : va_D A (wMo cI cJ cB cZ h a1 a2 a3 a4 a5 a6 a7 0 eg fr wt rk nx nd es pp qq st ch bo tp le sz at_ fa fp nu fm nn ou om) := hD
  refine lv_aload_n hx hb dX6_gives_5 rfl (lv_at hl 0 rfl) ?_
  refine lv_iload_n hx hb dX6_gives_6 rfl (lv_at hl 1 rfl) ?_
  refine ro_i (va_runV (As := [.int (iZ a)]) (rest := []) ⟨hx, hb, hml, hown, hts⟩ (c_X6_no l D cI cJ cB cZ h a1 a2 a3 a4 a5 a6 a7 0 eg fr wt rk nx nd es pp qq st ch bo tp le sz at_ fa fp nu fm nn ou om a ha N (by omega) m5) (cwV 1 hts gX6_gives_X6_no rfl rfl rfl (by decide +kernel) ⟨Nat.le_of_ble_eq_true rfl, Nat.le_of_ble_eq_true rfl⟩) (pre0V hE hP 0 rfl rfl) rfl rfl hl.1 rfl (lv_room (Nat.le_of_ble_eq_true rfl)) dX6_gives_7 ⟨Nat.le_of_ble_eq_true rfl, Nat.le_of_ble_eq_true rfl⟩) (fun r_1 hr_2 => ?_)
  rcases hr_2 with ⟨rfl, hq_3⟩ | ⟨rfl, hq_3⟩
  · have n1 := hq_3
    refine z_if_ne (tgt := 30) hx hb dX6_gives_10 (by decide) (by omega) (fun _ => ?_) (fun c9 => absurd c9 (by decide))
    refine z_ldc2 hx hb (-1) hown hw_2 (by decide) dX6_gives_30 ?_
    refine lv_goto (tgt := 41) hx hb dX6_gives_33 (by decide) ?_
    exact rw_lret (z := (-1)) (0, eg, fr, wt, rk, nx, nd, es, pp, qq, st, ch, bo, tp, le, sz, at_, fa, fp, nu, fm, nn, ou, om) hx hb hr hlocks hP hD hS ⟨⟨fun q => by first | omega | exact absurd q.2.2.2.2 n3, fun _ => rfl⟩, ⟨hM, hR, s1, s2, s3, s5, s6, t1, t2, t3, y1, y2, y3, d1⟩⟩ dX6_gives_41
  · have n1 := hq_3
    refine z_if_ne (tgt := 30) hx hb dX6_gives_10 (by decide) (by omega) (fun c9 => absurd c9 (by decide)) (fun _ => ?_)
    refine lv_aload_n hx hb dX6_gives_13 rfl (lv_at hl 0 rfl) ?_
    refine lv_iload_n hx hb dX6_gives_14 rfl (lv_at hl 2 rfl) ?_
    refine ro_i (va_runV (As := [.int (iZ b)]) (rest := []) ⟨hx, hb, hml, hown, hts⟩ (c_X6_no l D cI cJ cB cZ h a1 a2 a3 a4 a5 a6 a7 0 eg fr wt rk nx nd es pp qq st ch bo tp le sz at_ fa fp nu fm nn ou om b hb0 N (by omega) m5) (cwV 1 hts gX6_gives_X6_no rfl rfl rfl (by decide +kernel) ⟨Nat.le_of_ble_eq_true rfl, Nat.le_of_ble_eq_true rfl⟩) (pre0V hE hP 0 rfl rfl) rfl rfl hl.1 rfl (lv_room (Nat.le_of_ble_eq_true rfl)) dX6_gives_15 ⟨Nat.le_of_ble_eq_true rfl, Nat.le_of_ble_eq_true rfl⟩) (fun r_4 hr_5 => ?_)
    rcases hr_5 with ⟨rfl, hq_6⟩ | ⟨rfl, hq_6⟩
    · have n2 := hq_6
      refine z_if_ne (tgt := 30) hx hb dX6_gives_18 (by decide) (by omega) (fun _ => ?_) (fun c9 => absurd c9 (by decide))
      refine z_ldc2 hx hb (-1) hown hw_2 (by decide) dX6_gives_30 ?_
      refine lv_goto (tgt := 41) hx hb dX6_gives_33 (by decide) ?_
      exact rw_lret (z := (-1)) (0, eg, fr, wt, rk, nx, nd, es, pp, qq, st, ch, bo, tp, le, sz, at_, fa, fp, nu, fm, nn, ou, om) hx hb hr hlocks hP hD hS ⟨⟨fun q => by first | omega | exact absurd q.2.2.2.2 n3, fun _ => rfl⟩, ⟨hM, hR, s1, s2, s3, s5, s6, t1, t2, t3, y1, y2, y3, d1⟩⟩ dX6_gives_41
    · have n2 := hq_6
      refine z_if_ne (tgt := 30) hx hb dX6_gives_18 (by decide) (by omega) (fun c9 => absurd c9 (by decide)) (fun _ => ?_)
      refine lv_aload_n hx hb dX6_gives_21 rfl (lv_at hl 0 rfl) ?_
      refine lv_iload_n hx hb dX6_gives_22 rfl (lv_at hl 1 rfl) ?_
      refine lv_iload_n hx hb dX6_gives_23 rfl (lv_at hl 2 rfl) ?_
      refine ro_i (va_runV (As := [.int (iZ a), .int (iZ b)]) (rest := []) ⟨hx, hb, hml, hown, hts⟩ (c_X6_goes l D cI cJ cB cZ h a1 a2 a3 a4 a5 a6 a7 0 eg fr wt rk nx nd es pp qq st ch bo tp le sz at_ fa fp nu fm nn ou om a b (by omega) (by omega) E m1) (cwV 2 hts gX6_gives_X6_goes rfl rfl rfl (by decide +kernel) ⟨Nat.le_of_ble_eq_true rfl, Nat.le_of_ble_eq_true rfl⟩) (pre0V hE hP 0 rfl rfl) rfl rfl hl.1 rfl (lv_room (Nat.le_of_ble_eq_true rfl)) dX6_gives_24 ⟨Nat.le_of_ble_eq_true rfl, Nat.le_of_ble_eq_true rfl⟩) (fun r_7 hr_8 => ?_)
      rcases hr_8 with ⟨rfl, hq_9⟩ | ⟨rfl, hq_9⟩
      · have n3 := hq_9
        refine z_if_ne (tgt := 36) hx hb dX6_gives_27 (by decide) (by omega) (fun _ => ?_) (fun c9 => absurd c9 (by decide))
        refine lv_aload_n hx hb dX6_gives_36 rfl (lv_at hl 0 rfl) ?_
        refine lv_iload_n hx hb dX6_gives_37 rfl (lv_at hl 1 rfl) ?_
        refine ro_l (va_runV (As := [.int (iZ a)]) (rest := []) ⟨hx, hb, hml, hown, hts⟩ (c_X6_share l D cI cJ cB cZ h a1 a2 a3 a4 a5 a6 a7 0 eg fr wt rk nx nd es pp qq st ch bo tp le sz at_ fa fp nu fm nn ou om a N E w hM P Q x hR (by omega) (Nat.lt_of_le_of_lt (Nat.zero_le _) (row_in n3 (show b.toNat < N by omega)))) (cwV 1 hts gX6_gives_X6_share rfl rfl rfl (by decide +kernel) ⟨Nat.le_of_ble_eq_true rfl, Nat.le_of_ble_eq_true rfl⟩) (pre0V hE hP 0 rfl rfl) rfl rfl hl.1 rfl (lv_room (Nat.le_of_ble_eq_true rfl)) dX6_gives_38 ⟨Nat.le_of_ble_eq_true rfl, Nat.le_of_ble_eq_true rfl⟩) (fun r_10 hr_11 => ?_)
        subst hr_11
        exact rw_lret (z := ((shr E N P Q x a.toNat : Nat) : Int)) (0, eg, fr, wt, rk, nx, nd, es, pp, qq, st, ch, bo, tp, le, sz, at_, fa, fp, nu, fm, nn, ou, om) hx hb hr hlocks hP hD hS ⟨⟨fun _ => rfl, fun q => absurd ⟨by omega, by omega, by omega, by omega, n3⟩ q⟩, ⟨hM, hR, s1, s2, s3, s5, s6, t1, t2, t3, y1, y2, y3, d1⟩⟩ dX6_gives_41
      · have n3 := hq_9
        refine z_if_ne (tgt := 36) hx hb dX6_gives_27 (by decide) (by omega) (fun c9 => absurd c9 (by decide)) (fun _ => ?_)
        refine z_ldc2 hx hb (-1) hown hw_2 (by decide) dX6_gives_30 ?_
        refine lv_goto (tgt := 41) hx hb dX6_gives_33 (by decide) ?_
        exact rw_lret (z := (-1)) (0, eg, fr, wt, rk, nx, nd, es, pp, qq, st, ch, bo, tp, le, sz, at_, fa, fp, nu, fm, nn, ou, om) hx hb hr hlocks hP hD hS ⟨⟨fun q => by first | omega | exact absurd q.2.2.2.2 n3, fun _ => rfl⟩, ⟨hM, hR, s1, s2, s3, s5, s6, t1, t2, t3, y1, y2, y3, d1⟩⟩ dX6_gives_41
set_option maxHeartbeats 4000000 in
set_option maxRecDepth 100000 in
theorem c_X6_count (l : Launch) (D : va_G) (cI cJ cB cZ : ClassId) (h a1 a2 a3 a4 a5 a6 a7 : Nat) (thr : Int) (eg fr wt rk nx : Nat → Int) (nd es pp qq st ch bo : Int) (tp : Nat → Int) (le sz at_ fa fp nu fm nn : Int) (ou : Nat → Int) (om : Int) (N : Nat) (E : Ed) (w : Nat → Nat) (P Q : Nat) (x : Nat → Nat) (ks kc ke tl : Nat) (tf : Nat → Int) (ol : Nat) (of_ : Nat → Int) (fk : Int) (hMR : MR N E w P Q x ks kc ke tl tf ol of_ fk (thr, eg, fr, wt, rk, nx, nd, es, pp, qq, st, ch, bo, tp, le, sz, at_, fa, fp, nu, fm, nn, ou, om)) (a : Int) (ha : -2147483648 ≤ a ∧ a < 2147483648)  (sz0 : Nat) : Met l yX6_count wsX6_count ({ frames := 2, cells := 0, slots := 0, locals := 46 } : Room) (Pre1 D cI cJ cB cZ [.ref h, .int (iZ a)] (wMo cI cJ cB cZ h a1 a2 a3 a4 a5 a6 a7 thr eg fr wt rk nx nd es pp qq st ch bo tp le sz at_ fa fp nu fm nn ou om) sz0) (rwI (S := MT) D (fun z U => ((a = 0 → z = (N : Int)) ∧ (a = 1 → z = ((fst E N N : Nat) : Int)) ∧ (a = 2 → z = (fb_ct (fun a => decide (dgr E N a = 0)) N : Int)) ∧ (a = 3 → z = ((fb_sm w N : Nat) : Int)) ∧ (a = 4 → z = (tl : Int)) ∧ (a = 5 → z = (ol : Int)) ∧ (a = 6 → z = (P : Int)) ∧ (a = 7 → z = (Q : Int)) ∧ (¬ (0 ≤ a ∧ a ≤ 7) → z = -1)) ∧ MR N E w P Q x ks kc ke tl tf ol of_ fk U) (fun u => wM cI cJ cB cZ h a1 a2 a3 a4 a5 a6 a7 u) (va_A (wMo cI cJ cB cZ h a1 a2 a3 a4 a5 a6 a7 thr eg fr wt rk nx nd es pp qq st ch bo tp le sz at_ fa fp nu fm nn ou om) sz0)) 0 0 (va_A (wMo cI cJ cB cZ h a1 a2 a3 a4 a5 a6 a7 thr eg fr wt rk nx nd es pp qq st ch bo tp le sz at_ fa fp nu fm nn ou om) sz0) := by
  refine Met.ofW (cc := cX6_count) (maxL := 4) (ret := (some .int)) (by decide) rfl ?_
  intro p e s m args below meth c s₁ B hml hv
  obtain ⟨rfl, hsz, hP, hE, hD0⟩ := hv
  have hx := B.exec
  have hb := B.bytes
  have hr := B.returns
  have hts := atoms_spec (ws := wsX6_count) B.pre
  have hown : s.vm.findClass RX6 = some m.cls := findClass_of_methodNamed B.named
  have hlocks := B.notSynchronized
  have hK := hE.1
  subst hsz
  have hD := hD0.self (sz := s.heap.size)
  generalize hAe : va_A (wMo cI cJ cB cZ h a1 a2 a3 a4 a5 a6 a7 thr eg fr wt rk nx nd es pp qq st ch bo tp le sz at_ fa fp nu fm nn ou om) s.heap.size = A at hD ⊢
  have hA : ∀ q : Nat, s.heap.size ≤ q → A q := fun q h => by rw [← hAe]; exact Or.inr h
  have hS : va_S A s.heap s.heap [] := va_S.rf
  have hP : va_P D vwCl (wMo cI cJ cB cZ h a1 a2 a3 a4 a5 a6 a7 thr eg fr wt rk nx nd es pp qq st ch bo tp le sz at_ fa fp nu fm nn ou om) s.heap := hP
  have hi_6 : ∀ w ∈ wsX60, w ∈ wsX6_count := by decide +kernel
  have hw_1 := hts (.fieldLink RX6 1 "RankHouseModel" "thrown" "I") (by decide +kernel)
  have hw_2 := hts (.fieldLink RX6 32 "RankHouseModel" "nodes" "I") (by decide +kernel)
  have hw_3 := hts (.fieldLink RX6 102 "RankHouseModel" "edges" "I") (by decide +kernel)
  have hw_4 := hts (.fieldLink RX6 65 "RankHouseModel" "length" "I") (by decide +kernel)
  have hw_5 := hts (.fieldLink RX6 146 "RankHouseModel" "outMany" "I") (by decide +kernel)
  have hw_6 := hts (.fieldLink RX6 35 "RankHouseModel" "p" "I") (by decide +kernel)
  have hw_7 := hts (.fieldLink RX6 38 "RankHouseModel" "q" "I") (by decide +kernel)
  have hl := lv_entry ([.ref h, .int (iZ a)]) (n := 4) (Nat.le_of_ble_eq_true rfl)
  rw [lg_entry_eq]
  generalize (lg_sl ([.ref h, .int (iZ a)]) ++ List.replicate (4 - (lg_sl ([.ref h, .int (iZ a)])).length) Slot.unset).toArray = ls at hl ⊢
  have hl : lv_has ls 4 [(0, .ref h), (1, .int (iZ a))] := hl
  obtain ⟨hM, hR, s1, s2, s3, s5, s6, t1, t2, t3, y1, y2, y3, d1⟩ := id hMR
  dsimp only at hM hR s1 s2 s3 t1 t3 y1 y3 d1
  have hM : MG N E w eg wt nd es := hM
  have hR : RK N P Q x rk pp qq := hR
  have t3 : BY tp tf tl := t3
  have y3 : BY ou of_ ol := y3
  obtain ⟨m1, m2, m3, m4, m5, m6, m7, m8, m9⟩ := id hM
  obtain ⟨k1, k2, k3, k4, k5, k6⟩ := id hR
  refine lv_aload_n hx hb dX6_count_0 rfl (lv_at hl 0 rfl) ?_
  refine z_iconst hx hb dX6_count_1 ?_
  refine va_put (v := .int (iZ 0)) (ty := .int) (C := RX6) (T := TX6) (N := 24) (ci := 6) hx hb hts hi_6 tyX6 tyX6_ok nmX6 hown hK hP hD hS 0 rfl rfl 0 (by decide) hw_1 (fun _ h9 => h9) rfl (by decide +kernel) rfl rfl (Nat.le_of_ble_eq_true rfl) dX6_count_2 (fun H locs hP hD hS => ?_)
  have hP : va_P D vwCl (wMo cI cJ cB cZ h a1 a2 a3 a4 a5 a6 a7 0 eg fr wt rk nx nd es pp qq st ch bo tp le sz at_ fa fp nu fm nn ou om) H := hP
  have hD : va_D A (wMo cI cJ cB cZ h a1 a2 a3 a4 a5 a6 a7 0 eg fr wt rk nx nd es pp qq st ch bo tp le sz at_ fa fp nu fm nn ou om) := hD
  refine lv_iload_n hx hb dX6_count_5 rfl (lv_at hl 1 rfl) ?_
  have ht_1 := iZ_t (z := a) (by omega)
  by_cases c_2 : a = 0
  · refine lv_tableIn (off := 46) (tgt := 52) hx hb dX6_count_6 (by rw [ht_1]; omega) (by rw [ht_1]; omega) (by rw [ht_1, c_2]; rfl) (by decide) ?_
    refine lv_aload_n hx hb dX6_count_52 rfl (lv_at hl 0 rfl) ?_
    refine va_get (v := .int (iZ nd)) (C := RX6) (T := TX6) (N := 24) (ci := 6) hx hb hts hi_6 hown hK hP 0 rfl rfl 6 (by decide) hw_2 (fun _ h9 => h9) rfl dX6_count_53 ?_
    exact rw_iret (z := nd) (0, eg, fr, wt, rk, nx, nd, es, pp, qq, st, ch, bo, tp, le, sz, at_, fa, fp, nu, fm, nn, ou, om) hx hb hr hlocks hP hD hS ⟨(by refine ⟨fun q => ?_, fun q => ?_, fun q => ?_, fun q => ?_, fun q => ?_, fun q => ?_, fun q => ?_, fun q => ?_, fun q => ?_⟩ <;> omega), ⟨hM, hR, s1, s2, s3, s5, s6, t1, t2, t3, y1, y2, y3, d1⟩⟩ dX6_count_56
  by_cases c_3 : a = 1
  · refine lv_tableIn (off := 51) (tgt := 57) hx hb dX6_count_6 (by rw [ht_1]; omega) (by rw [ht_1]; omega) (by rw [ht_1, c_3]; rfl) (by decide) ?_
    refine lv_aload_n hx hb dX6_count_57 rfl (lv_at hl 0 rfl) ?_
    refine va_get (v := .int (iZ es)) (C := RX6) (T := TX6) (N := 24) (ci := 6) hx hb hts hi_6 hown hK hP 0 rfl rfl 7 (by decide) hw_3 (fun _ h9 => h9) rfl dX6_count_58 ?_
    exact rw_iret (z := es) (0, eg, fr, wt, rk, nx, nd, es, pp, qq, st, ch, bo, tp, le, sz, at_, fa, fp, nu, fm, nn, ou, om) hx hb hr hlocks hP hD hS ⟨(by refine ⟨fun q => ?_, fun q => ?_, fun q => ?_, fun q => ?_, fun q => ?_, fun q => ?_, fun q => ?_, fun q => ?_, fun q => ?_⟩ <;> omega), ⟨hM, hR, s1, s2, s3, s5, s6, t1, t2, t3, y1, y2, y3, d1⟩⟩ dX6_count_61
  by_cases c_4 : a = 2
  · refine lv_tableIn (off := 56) (tgt := 62) hx hb dX6_count_6 (by rw [ht_1]; omega) (by rw [ht_1]; omega) (by rw [ht_1, c_4]; rfl) (by decide) ?_
    refine z_iconst hx hb dX6_count_62 ?_
    refine lv_istore_n (lv' := [(2, .int (iZ 0)), (0, .ref h), (1, .int (iZ a))]) hx hb dX6_count_63 rfl hl (by decide) rfl (fun ls hl => ?_)
    refine z_iconst hx hb dX6_count_64 ?_
    refine lv_istore_n (lv' := [(3, .int (iZ 0)), (2, .int (iZ 0)), (0, .ref h), (1, .int (iZ a))]) hx hb dX6_count_65 rfl hl (by decide) rfl (fun ls hl => ?_)
    refine w_loop (fun kf H locs ls => ∃ (i : Nat), ∃ (y : Int), kf = N - i ∧ (i ≤ N ∧ y = ((fb_ct (fun a => decide (dgr E N a = 0)) i : Nat) : Int)) ∧ va_P D vwCl (wMo cI cJ cB cZ h a1 a2 a3 a4 a5 a6 a7 0 eg fr wt rk nx nd es pp qq st ch bo tp le sz at_ fa fp nu fm nn ou om) H ∧ va_D A (wMo cI cJ cB cZ h a1 a2 a3 a4 a5 a6 a7 0 eg fr wt rk nx nd es pp qq st ch bo tp le sz at_ fa fp nu fm nn ou om) ∧ va_S A s.heap H locs ∧ lv_has ls 4 [(0, .ref h), (1, .int (iZ a)), (2, .int (iZ y)), (3, .int (iZ ↑i))]) ?_ _ ⟨0, 0, rfl, ⟨by omega, rfl⟩, hP, hD, hS, lv_sub hl [2, 3, 1, 0] rfl⟩
    rintro kf H locs ls ⟨i, y, hk, ⟨i1, i2⟩, hP, hD, hS, hl⟩ ih
    refine lv_iload_n hx hb dX6_count_66 rfl (lv_at hl 3 rfl) ?_
    refine lv_aload_n hx hb dX6_count_67 rfl (lv_at hl 0 rfl) ?_
    refine va_get (v := .int (iZ nd)) (C := RX6) (T := TX6) (N := 24) (ci := 6) hx hb hts hi_6 hown hK hP 0 rfl rfl 6 (by decide) hw_2 (fun _ h9 => h9) rfl dX6_count_68 ?_
    refine z_icmp_ge (tgt := 97) hx hb dX6_count_71 (by decide) (by omega) (by omega) (fun c_5 => ?_) (fun c_5 => ?_)
    · refine lv_iload_n hx hb dX6_count_97 rfl (lv_at hl 2 rfl) ?_
      exact rw_iret (z := y) (0, eg, fr, wt, rk, nx, nd, es, pp, qq, st, ch, bo, tp, le, sz, at_, fa, fp, nu, fm, nn, ou, om) hx hb hr hlocks hP hD hS (by have iN : i = N := (by omega); rw [iN] at i2; exact ⟨(by refine ⟨fun q => ?_, fun q => ?_, fun q => ?_, fun q => ?_, fun q => ?_, fun q => ?_, fun q => ?_, fun q => ?_, fun q => ?_⟩ <;> omega), ⟨hM, hR, s1, s2, s3, s5, s6, t1, t2, t3, y1, y2, y3, d1⟩⟩) dX6_count_98
    · refine lv_iload_n hx hb dX6_count_74 rfl (lv_at hl 2 rfl) ?_
      refine lv_aload_n hx hb dX6_count_75 rfl (lv_at hl 0 rfl) ?_
      refine lv_iload_n hx hb dX6_count_76 rfl (lv_at hl 3 rfl) ?_
      refine z_iconst hx hb dX6_count_77 ?_
      refine ro_i (va_runV (As := [.int (iZ ↑i), .int (iZ 0)]) (rest := [.int (iZ y)]) ⟨hx, hb, hml, hown, hts⟩ (c_X6_many0 l D cI cJ cB cZ h a1 a2 a3 a4 a5 a6 a7 0 eg fr wt rk nx nd es pp qq st ch bo tp le sz at_ fa fp nu fm nn ou om (↑i) N E w hM (by omega)) (cwV 2 hts gX6_count_X6_many rfl rfl rfl (by decide +kernel) ⟨Nat.le_of_ble_eq_true rfl, Nat.le_of_ble_eq_true rfl⟩) (pre0V hE hP 0 rfl rfl) rfl rfl hl.1 rfl (lv_room (Nat.le_of_ble_eq_true rfl)) dX6_count_78 ⟨Nat.le_of_ble_eq_true rfl, Nat.le_of_ble_eq_true rfl⟩) (fun r_6 hr_7 => ?_)
      have q4 : r_6 = ((dgr E N i : Nat) : Int) := by rw [hr_7, Int.toNat_natCast]; rfl
      have q7 := dgr_le E N i
      refine z_if_ne (tgt := 88) hx hb dX6_count_81 (by decide) (by omega) (fun c_8 => ?_) (fun c_8 => ?_)
      · have cS := ct_no (p := fun a => decide (dgr E N a = 0)) (i := i) (fun q => by have q9 := of_decide_eq_true q; omega)
        refine z_iconst hx hb dX6_count_88 ?_
        refine z_iadd hx hb dX6_count_89 ?_
        refine lv_istore_n (lv' := [(2, .int (iZ (y + 0))), (0, .ref h), (1, .int (iZ a)), (3, .int (iZ ↑i))]) hx hb dX6_count_90 rfl hl (by decide) rfl (fun ls hl => ?_)
        refine lv_iinc (v := iZ (↑i + 1)) (lv' := [(3, .int (iZ (↑i + 1))), (2, .int (iZ (y + 0))), (0, .ref h), (1, .int (iZ a))]) hx hb dX6_count_91 hl (k := 3) rfl (show iZ ↑i + iZ 1 = _ from iZ_add _ _) (by decide) rfl (fun ls hl => ?_)
        refine lv_goto (tgt := 66) hx hb dX6_count_94 (by decide) ?_
        exact ih _ _ _ _ (by omega) ⟨(i + 1), (y + 0), rfl, (by omega), hP, hD, hS, lv_sub hl [2, 3, 1, 0] rfl⟩
      · have cS := ct_yes (p := fun a => decide (dgr E N a = 0)) (i := i) (decide_eq_true (by omega))
        refine z_iconst hx hb dX6_count_84 ?_
        refine lv_goto (tgt := 89) hx hb dX6_count_85 (by decide) ?_
        refine z_iadd hx hb dX6_count_89 ?_
        refine lv_istore_n (lv' := [(2, .int (iZ (y + 1))), (0, .ref h), (1, .int (iZ a)), (3, .int (iZ ↑i))]) hx hb dX6_count_90 rfl hl (by decide) rfl (fun ls hl => ?_)
        refine lv_iinc (v := iZ (↑i + 1)) (lv' := [(3, .int (iZ (↑i + 1))), (2, .int (iZ (y + 1))), (0, .ref h), (1, .int (iZ a))]) hx hb dX6_count_91 hl (k := 3) rfl (show iZ ↑i + iZ 1 = _ from iZ_add _ _) (by decide) rfl (fun ls hl => ?_)
        refine lv_goto (tgt := 66) hx hb dX6_count_94 (by decide) ?_
        exact ih _ _ _ _ (by omega) ⟨(i + 1), (y + 1), rfl, (by omega), hP, hD, hS, lv_sub hl [2, 3, 1, 0] rfl⟩
  by_cases c_9 : a = 3
  · refine lv_tableIn (off := 93) (tgt := 99) hx hb dX6_count_6 (by rw [ht_1]; omega) (by rw [ht_1]; omega) (by rw [ht_1, c_9]; rfl) (by decide) ?_
    refine lv_aload_n hx hb dX6_count_99 rfl (lv_at hl 0 rfl) ?_
    refine ro_i (va_runV (As := []) (rest := []) ⟨hx, hb, hml, hown, hts⟩ (c_X6_whole l D cI cJ cB cZ h a1 a2 a3 a4 a5 a6 a7 0 eg fr wt rk nx nd es pp qq st ch bo tp le sz at_ fa fp nu fm nn ou om N E w hM) (cwV 0 hts gX6_count_X6_whole rfl rfl rfl (by decide +kernel) ⟨Nat.le_of_ble_eq_true rfl, Nat.le_of_ble_eq_true rfl⟩) (pre0V hE hP 0 rfl rfl) rfl rfl hl.1 rfl (lv_room (Nat.le_of_ble_eq_true rfl)) dX6_count_100 ⟨Nat.le_of_ble_eq_true rfl, Nat.le_of_ble_eq_true rfl⟩) (fun r_10 hr_11 => ?_)
    subst hr_11
    exact rw_iret (z := ((fb_sm w N : Nat) : Int)) (0, eg, fr, wt, rk, nx, nd, es, pp, qq, st, ch, bo, tp, le, sz, at_, fa, fp, nu, fm, nn, ou, om) hx hb hr hlocks hP hD hS ⟨(by refine ⟨fun q => ?_, fun q => ?_, fun q => ?_, fun q => ?_, fun q => ?_, fun q => ?_, fun q => ?_, fun q => ?_, fun q => ?_⟩ <;> omega), ⟨hM, hR, s1, s2, s3, s5, s6, t1, t2, t3, y1, y2, y3, d1⟩⟩ dX6_count_103
  by_cases c_12 : a = 4
  · refine lv_tableIn (off := 98) (tgt := 104) hx hb dX6_count_6 (by rw [ht_1]; omega) (by rw [ht_1]; omega) (by rw [ht_1, c_12]; rfl) (by decide) ?_
    refine lv_aload_n hx hb dX6_count_104 rfl (lv_at hl 0 rfl) ?_
    refine va_get (v := .int (iZ le)) (C := RX6) (T := TX6) (N := 24) (ci := 6) hx hb hts hi_6 hown hK hP 0 rfl rfl 14 (by decide) hw_4 (fun _ h9 => h9) rfl dX6_count_105 ?_
    exact rw_iret (z := le) (0, eg, fr, wt, rk, nx, nd, es, pp, qq, st, ch, bo, tp, le, sz, at_, fa, fp, nu, fm, nn, ou, om) hx hb hr hlocks hP hD hS ⟨(by refine ⟨fun q => ?_, fun q => ?_, fun q => ?_, fun q => ?_, fun q => ?_, fun q => ?_, fun q => ?_, fun q => ?_, fun q => ?_⟩ <;> omega), ⟨hM, hR, s1, s2, s3, s5, s6, t1, t2, t3, y1, y2, y3, d1⟩⟩ dX6_count_108
  by_cases c_13 : a = 5
  · refine lv_tableIn (off := 103) (tgt := 109) hx hb dX6_count_6 (by rw [ht_1]; omega) (by rw [ht_1]; omega) (by rw [ht_1, c_13]; rfl) (by decide) ?_
    refine lv_aload_n hx hb dX6_count_109 rfl (lv_at hl 0 rfl) ?_
    refine va_get (v := .int (iZ om)) (C := RX6) (T := TX6) (N := 24) (ci := 6) hx hb hts hi_6 hown hK hP 0 rfl rfl 23 (by decide) hw_5 (fun _ h9 => h9) rfl dX6_count_110 ?_
    exact rw_iret (z := om) (0, eg, fr, wt, rk, nx, nd, es, pp, qq, st, ch, bo, tp, le, sz, at_, fa, fp, nu, fm, nn, ou, om) hx hb hr hlocks hP hD hS ⟨(by refine ⟨fun q => ?_, fun q => ?_, fun q => ?_, fun q => ?_, fun q => ?_, fun q => ?_, fun q => ?_, fun q => ?_, fun q => ?_⟩ <;> omega), ⟨hM, hR, s1, s2, s3, s5, s6, t1, t2, t3, y1, y2, y3, d1⟩⟩ dX6_count_113
  by_cases c_14 : a = 6
  · refine lv_tableIn (off := 108) (tgt := 114) hx hb dX6_count_6 (by rw [ht_1]; omega) (by rw [ht_1]; omega) (by rw [ht_1, c_14]; rfl) (by decide) ?_
    refine lv_aload_n hx hb dX6_count_114 rfl (lv_at hl 0 rfl) ?_
    refine va_get (v := .int (iZ pp)) (C := RX6) (T := TX6) (N := 24) (ci := 6) hx hb hts hi_6 hown hK hP 0 rfl rfl 8 (by decide) hw_6 (fun _ h9 => h9) rfl dX6_count_115 ?_
    exact rw_iret (z := pp) (0, eg, fr, wt, rk, nx, nd, es, pp, qq, st, ch, bo, tp, le, sz, at_, fa, fp, nu, fm, nn, ou, om) hx hb hr hlocks hP hD hS ⟨(by refine ⟨fun q => ?_, fun q => ?_, fun q => ?_, fun q => ?_, fun q => ?_, fun q => ?_, fun q => ?_, fun q => ?_, fun q => ?_⟩ <;> omega), ⟨hM, hR, s1, s2, s3, s5, s6, t1, t2, t3, y1, y2, y3, d1⟩⟩ dX6_count_118
  by_cases c_15 : a = 7
  · refine lv_tableIn (off := 113) (tgt := 119) hx hb dX6_count_6 (by rw [ht_1]; omega) (by rw [ht_1]; omega) (by rw [ht_1, c_15]; rfl) (by decide) ?_
    refine lv_aload_n hx hb dX6_count_119 rfl (lv_at hl 0 rfl) ?_
    refine va_get (v := .int (iZ qq)) (C := RX6) (T := TX6) (N := 24) (ci := 6) hx hb hts hi_6 hown hK hP 0 rfl rfl 9 (by decide) hw_7 (fun _ h9 => h9) rfl dX6_count_120 ?_
    exact rw_iret (z := qq) (0, eg, fr, wt, rk, nx, nd, es, pp, qq, st, ch, bo, tp, le, sz, at_, fa, fp, nu, fm, nn, ou, om) hx hb hr hlocks hP hD hS ⟨(by refine ⟨fun q => ?_, fun q => ?_, fun q => ?_, fun q => ?_, fun q => ?_, fun q => ?_, fun q => ?_, fun q => ?_, fun q => ?_⟩ <;> omega), ⟨hM, hR, s1, s2, s3, s5, s6, t1, t2, t3, y1, y2, y3, d1⟩⟩ dX6_count_123
  refine lv_tableOut (tgt := 124) hx hb dX6_count_6 (by rw [ht_1]; omega) (by decide) ?_
  refine z_iconst hx hb dX6_count_124 ?_
  exact rw_iret (z := (-1)) (0, eg, fr, wt, rk, nx, nd, es, pp, qq, st, ch, bo, tp, le, sz, at_, fa, fp, nu, fm, nn, ou, om) hx hb hr hlocks hP hD hS ⟨(by refine ⟨fun q => ?_, fun q => ?_, fun q => ?_, fun q => ?_, fun q => ?_, fun q => ?_, fun q => ?_, fun q => ?_, fun q => ?_⟩ <;> omega), ⟨hM, hR, s1, s2, s3, s5, s6, t1, t2, t3, y1, y2, y3, d1⟩⟩ dX6_count_125
