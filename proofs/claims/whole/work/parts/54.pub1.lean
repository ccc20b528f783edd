set_option maxHeartbeats 4000000 in
set_option maxRecDepth 100000 in
theorem c_X6_fault (l : Launch) (D : va_G) (cI cJ cB cZ : ClassId) (h a1 a2 a3 a4 a5 a6 a7 : Nat) (thr : Int) (eg fr wt rk nx : Nat → Int) (nd es pp qq st ch bo : Int) (tp : Nat → Int) (le sz at_ fa fp nu fm nn : Int) (ou : Nat → Int) (om : Int) (N : Nat) (E : Ed) (w : Nat → Nat) (P Q : Nat) (x : Nat → Nat) (ks kc ke tl : Nat) (tf : Nat → Int) (ol : Nat) (of_ : Nat → Int) (fk : Int) (hMR : MR N E w P Q x ks kc ke tl tf ol of_ fk (thr, eg, fr, wt, rk, nx, nd, es, pp, qq, st, ch, bo, tp, le, sz, at_, fa, fp, nu, fm, nn, ou, om))  (sz0 : Nat) : Met l yX6_fault wsX6_fault ({ frames := 0, cells := 0, slots := 0, locals := 0 } : Room) (Pre1 D cI cJ cB cZ [.ref h] (wMo cI cJ cB cZ h a1 a2 a3 a4 a5 a6 a7 thr eg fr wt rk nx nd es pp qq st ch bo tp le sz at_ fa fp nu fm nn ou om) sz0) (rwI (S := MT) D (fun z U => z = fk ∧ MR N E w P Q x ks kc ke tl tf ol of_ fk U) (fun u => wM cI cJ cB cZ h a1 a2 a3 a4 a5 a6 a7 u) (va_A (wMo cI cJ cB cZ h a1 a2 a3 a4 a5 a6 a7 thr eg fr wt rk nx nd es pp qq st ch bo tp le sz at_ fa fp nu fm nn ou om) sz0)) 0 0 (va_A (wMo cI cJ cB cZ h a1 a2 a3 a4 a5 a6 a7 thr eg fr wt rk nx nd es pp qq st ch bo tp le sz at_ fa fp nu fm nn ou om) sz0) := by
  refine Met.ofW (cc := cX6_fault) (maxL := 1) (ret := (some .int)) (by decide) rfl ?_
  intro p e s m args below meth c s₁ B hml hv
  obtain ⟨rfl, hsz, hP, hE, hD0⟩ := hv
  have hx := B.exec
  have hb := B.bytes
  have hr := B.returns
  have hts := atoms_spec (ws := wsX6_fault) B.pre
  have hown : s.vm.findClass RX6 = some m.cls := findClass_of_methodNamed B.named
  have hlocks := B.notSynchronized
  have hK := hE.1
  subst hsz
  have hD := hD0.self (sz := s.heap.size)
  generalize hAe : va_A (wMo cI cJ cB cZ h a1 a2 a3 a4 a5 a6 a7 thr eg fr wt rk nx nd es pp qq st ch bo tp le sz at_ fa fp nu fm nn ou om) s.heap.size = A at hD ⊢
  have hA : ∀ q : Nat, s.heap.size ≤ q → A q := fun q h => by rw [← hAe]; exact Or.inr h
  have hS : va_S A s.heap s.heap [] := va_S.rf
  have hP : va_P D vwCl (wMo cI cJ cB cZ h a1 a2 a3 a4 a5 a6 a7 thr eg fr wt rk nx nd es pp qq st ch bo tp le sz at_ fa fp nu fm nn ou om) s.heap := hP
  have hi_6 : ∀ w ∈ wsX60, w ∈ wsX6_fault := by decide +kernel
  have hw_1 := hts (.fieldLink RX6 1 "RankHouseModel" "thrown" "I") (by decide +kernel)
  have hw_2 := hts (.fieldLink RX6 72 "RankHouseModel" "fault" "I") (by decide +kernel)
  have hl := lv_entry ([.ref h]) (n := 1) (Nat.le_of_ble_eq_true rfl)
  rw [lg_entry_eq]
  generalize (lg_sl ([.ref h]) ++ List.replicate (1 - (lg_sl ([.ref h])).length) Slot.unset).toArray = ls at hl ⊢
  have hl : lv_has ls 1 [(0, .ref h)] := hl
  obtain ⟨hM, hR, s1, s2, s3, s5, s6, t1, t2, t3, y1, y2, y3, d1⟩ := id hMR
  dsimp only at hM hR s1 s2 s3 t1 t3 y1 y3 d1
  have hM : MG N E w eg wt nd es := hM
  have hR : RK N P Q x rk pp qq := hR
  have t3 : BY tp tf tl := t3
  have y3 : BY ou of_ ol := y3
  obtain ⟨m1, m2, m3, m4, m5, m6, m7, m8, m9⟩ := id hM
  obtain ⟨k1, k2, k3, k4, k5, k6⟩ := id hR
  refine lv_aload_n hx hb dX6_fault_0 rfl (lv_at hl 0 rfl) ?_
  refine z_iconst hx hb dX6_fault_1 ?_
  refine va_put (v := .int (iZ 0)) (ty := .int) (C := RX6) (T := TX6) (N := 24) (ci := 6) hx hb hts hi_6 tyX6 tyX6_ok nmX6 hown hK hP hD hS 0 rfl rfl 0 (by decide) hw_1 (fun _ h9 => h9) rfl (by decide +kernel) rfl rfl (Nat.le_of_ble_eq_true rfl) dX6_fault_2 (fun H locs hP hD hS => ?_)
  have hP : va_P D vwCl (wMo cI cJ cB cZ h a1 a2 a3 a4 a5 a6 a7 0 eg fr wt rk nx nd es pp qq st ch bo tp le sz at_ fa fp nu fm nn ou om) H := hP
  have hD : va_D A (wMo cI cJ cB cZ h a1 a2 a3 a4 a5 a6 a7 0 eg fr wt rk nx nd es pp qq st ch bo tp le sz at_ fa fp nu fm nn ou om) := hD
  refine lv_aload_n hx hb dX6_fault_5 rfl (lv_at hl 0 rfl) ?_
  refine va_get (v := .int (iZ fa)) (C := RX6) (T := TX6) (N := 24) (ci := 6) hx hb hts hi_6 hown hK hP 0 rfl rfl 17 (by decide) hw_2 (fun _ h9 => h9) rfl dX6_fault_6 ?_
  exact rw_iret (z := fa) (0, eg, fr, wt, rk, nx, nd, es, pp, qq, st, ch, bo, tp, le, sz, at_, fa, fp, nu, fm, nn, ou, om) hx hb hr hlocks hP hD hS ⟨d1, ⟨hM, hR, s1, s2, s3, s5, s6, t1, t2, t3, y1, y2, y3, d1⟩⟩ dX6_fault_9
set_option maxHeartbeats 4000000 in
set_option maxRecDepth 100000 in
theorem c_X6_end (l : Launch) (D : va_G) (cI cJ cB cZ : ClassId) (h a1 a2 a3 a4 a5 a6 a7 : Nat) (thr : Int) (eg fr wt rk nx : Nat → Int) (nd es pp qq st ch bo : Int) (tp : Nat → Int) (le sz at_ fa fp nu fm nn : Int) (ou : Nat → Int) (om : Int) (N : Nat) (E : Ed) (w : Nat → Nat) (P Q : Nat) (x : Nat → Nat) (ks kc ke tl : Nat) (tf : Nat → Int) (ol : Nat) (of_ : Nat → Int) (fk : Int) (hMR : MR N E w P Q x ks kc ke tl tf ol of_ fk (thr, eg, fr, wt, rk, nx, nd, es, pp, qq, st, ch, bo, tp, le, sz, at_, fa, fp, nu, fm, nn, ou, om)) (a : Int) (ha : -2147483648 ≤ a ∧ a < 2147483648)  (sz0 : Nat) : Met l yX6_end wsX6_end ({ frames := 0, cells := 0, slots := 0, locals := 0 } : Room) (Pre1 D cI cJ cB cZ [.ref h, .int (iZ a)] (wMo cI cJ cB cZ h a1 a2 a3 a4 a5 a6 a7 thr eg fr wt rk nx nd es pp qq st ch bo tp le sz at_ fa fp nu fm nn ou om) sz0) (rwI (S := MT) D (fun z U => (z = 1 ∧ (0 ≤ a ∧ a ≤ (tl : Int)) ∧ MR N E w P Q x ks kc ke a.toNat tf ol of_ fk U) ∨ (z = 0 ∧ ¬ (0 ≤ a ∧ a ≤ (tl : Int)) ∧ MR N E w P Q x ks kc ke tl tf ol of_ fk U)) (fun u => wM cI cJ cB cZ h a1 a2 a3 a4 a5 a6 a7 u) (va_A (wMo cI cJ cB cZ h a1 a2 a3 a4 a5 a6 a7 thr eg fr wt rk nx nd es pp qq st ch bo tp le sz at_ fa fp nu fm nn ou om) sz0)) 0 0 (va_A (wMo cI cJ cB cZ h a1 a2 a3 a4 a5 a6 a7 thr eg fr wt rk nx nd es pp qq st ch bo tp le sz at_ fa fp nu fm nn ou om) sz0) := by
  refine Met.ofW (cc := cX6_end) (maxL := 2) (ret := (some .boolean)) (by decide) rfl ?_
  intro p e s m args below meth c s₁ B hml hv
  obtain ⟨rfl, hsz, hP, hE, hD0⟩ := hv
  have hx := B.exec
  have hb := B.bytes
  have hr := B.returns
  have hts := atoms_spec (ws := wsX6_end) B.pre
  have hown : s.vm.findClass RX6 = some m.cls := findClass_of_methodNamed B.named
  have hlocks := B.notSynchronized
  have hK := hE.1
  subst hsz
  have hD := hD0.self (sz := s.heap.size)
  generalize hAe : va_A (wMo cI cJ cB cZ h a1 a2 a3 a4 a5 a6 a7 thr eg fr wt rk nx nd es pp qq st ch bo tp le sz at_ fa fp nu fm nn ou om) s.heap.size = A at hD ⊢
  have hA : ∀ q : Nat, s.heap.size ≤ q → A q := fun q h => by rw [← hAe]; exact Or.inr h
  have hS : va_S A s.heap s.heap [] := va_S.rf
  have hP : va_P D vwCl (wMo cI cJ cB cZ h a1 a2 a3 a4 a5 a6 a7 thr eg fr wt rk nx nd es pp qq st ch bo tp le sz at_ fa fp nu fm nn ou om) s.heap := hP
  have hi_6 : ∀ w ∈ wsX60, w ∈ wsX6_end := by decide +kernel
  have hw_1 := hts (.fieldLink RX6 1 "RankHouseModel" "thrown" "I") (by decide +kernel)
  have hw_2 := hts (.fieldLink RX6 65 "RankHouseModel" "length" "I") (by decide +kernel)
  have hl := lv_entry ([.ref h, .int (iZ a)]) (n := 2) (Nat.le_of_ble_eq_true rfl)
  rw [lg_entry_eq]
  generalize (lg_sl ([.ref h, .int (iZ a)]) ++ List.replicate (2 - (lg_sl ([.ref h, .int (iZ a)])).length) Slot.unset).toArray = ls at hl ⊢
  have hl : lv_has ls 2 [(0, .ref h), (1, .int (iZ a))] := hl
  obtain ⟨hM, hR, s1, s2, s3, s5, s6, t1, t2, t3, y1, y2, y3, d1⟩ := id hMR
  dsimp only at hM hR s1 s2 s3 t1 t3 y1 y3 d1
  have hM : MG N E w eg wt nd es := hM
  have hR : RK N P Q x rk pp qq := hR
  have t3 : BY tp tf tl := t3
  have y3 : BY ou of_ ol := y3
  obtain ⟨m1, m2, m3, m4, m5, m6, m7, m8, m9⟩ := id hM
  obtain ⟨k1, k2, k3, k4, k5, k6⟩ := id hR
  refine lv_aload_n hx hb dX6_end_0 rfl (lv_at hl 0 rfl) ?_
  refine z_iconst hx hb dX6_end_1 ?_
  refine va_put (v := .int (iZ 0)) (ty := .int) (C := RX6) (T := TX6) (N := 24) (ci := 6) hx hb hts hi_6 tyX6 tyX6_ok nmX6 hown hK hP hD hS 0 rfl rfl 0 (by decide) hw_1 (fun _ h9 => h9) rfl (by decide +kernel) rfl rfl (Nat.le_of_ble_eq_true rfl) dX6_end_2 (fun H locs hP hD hS => ?_)
  have hP : va_P D vwCl (wMo cI cJ cB cZ h a1 a2 a3 a4 a5 a6 a7 0 eg fr wt rk nx nd es pp qq st ch bo tp le sz at_ fa fp nu fm nn ou om) H := hP
  have hD : va_D A (wMo cI cJ cB cZ h a1 a2 a3 a4 a5 a6 a7 0 eg fr wt rk nx nd es pp qq st ch bo tp le sz at_ fa fp nu fm nn ou om) := hD
  refine lv_iload_n hx hb dX6_end_5 rfl (lv_at hl 1 rfl) ?_
  refine z_if_lt (tgt := 17) hx hb dX6_end_6 (by decide) (by omega) (fun c_1 => ?_) (fun c_1 => ?_)
  · refine z_iconst hx hb dX6_end_17 ?_
    exact rw_zret (z := 0) (0, eg, fr, wt, rk, nx, nd, es, pp, qq, st, ch, bo, tp, le, sz, at_, fa, fp, nu, fm, nn, ou, om) hx hb hr hlocks (Or.inl rfl) hP hD hS (Or.inr ⟨rfl, by omega, ⟨hM, hR, s1, s2, s3, s5, s6, t1, t2, t3, y1, y2, y3, d1⟩⟩) dX6_end_18
  · refine lv_iload_n hx hb dX6_end_9 rfl (lv_at hl 1 rfl) ?_
    refine lv_aload_n hx hb dX6_end_10 rfl (lv_at hl 0 rfl) ?_
    refine va_get (v := .int (iZ le)) (C := RX6) (T := TX6) (N := 24) (ci := 6) hx hb hts hi_6 hown hK hP 0 rfl rfl 14 (by decide) hw_2 (fun _ h9 => h9) rfl dX6_end_11 ?_
    refine z_icmp_le (tgt := 19) hx hb dX6_end_14 (by decide) (by omega) (by omega) (fun c_2 => ?_) (fun c_2 => ?_)
    · refine lv_aload_n hx hb dX6_end_19 rfl (lv_at hl 0 rfl) ?_
      refine lv_iload_n hx hb dX6_end_20 rfl (lv_at hl 1 rfl) ?_
      refine va_put (v := .int (iZ a)) (ty := .int) (C := RX6) (T := TX6) (N := 24) (ci := 6) hx hb hts hi_6 tyX6 tyX6_ok nmX6 hown hK hP hD hS 0 rfl rfl 14 (by decide) hw_2 (fun _ h9 => h9) rfl (by decide +kernel) rfl rfl (Nat.le_of_ble_eq_true rfl) dX6_end_21 (fun H locs hP hD hS => ?_)
      have hP : va_P D vwCl (wMo cI cJ cB cZ h a1 a2 a3 a4 a5 a6 a7 0 eg fr wt rk nx nd es pp qq st ch bo tp a sz at_ fa fp nu fm nn ou om) H := hP
      have hD : va_D A (wMo cI cJ cB cZ h a1 a2 a3 a4 a5 a6 a7 0 eg fr wt rk nx nd es pp qq st ch bo tp a sz at_ fa fp nu fm nn ou om) := hD
      refine z_iconst hx hb dX6_end_24 ?_
      exact rw_zret (z := 1) (0, eg, fr, wt, rk, nx, nd, es, pp, qq, st, ch, bo, tp, a, sz, at_, fa, fp, nu, fm, nn, ou, om) hx hb hr hlocks (Or.inr rfl) hP hD hS (Or.inl ⟨rfl, by omega, ⟨hM, hR, s1, s2, s3, s5, s6, (by first | omega | (dsimp only; omega)), (by omega), (fun j hj => t3 j (by omega)), y1, y2, y3, d1⟩⟩) dX6_end_25
    · refine z_iconst hx hb dX6_end_17 ?_
      exact rw_zret (z := 0) (0, eg, fr, wt, rk, nx, nd, es, pp, qq, st, ch, bo, tp, le, sz, at_, fa, fp, nu, fm, nn, ou, om) hx hb hr hlocks (Or.inl rfl) hP hD hS (Or.inr ⟨rfl, by omega, ⟨hM, hR, s1, s2, s3, s5, s6, t1, t2, t3, y1, y2, y3, d1⟩⟩) dX6_end_18
set_option maxHeartbeats 4000000 in
set_option maxRecDepth 100000 in
theorem c_X6_feed (l : Launch) (D : va_G) (cI cJ cB cZ : ClassId) (h a1 a2 a3 a4 a5 a6 a7 : Nat) (thr : Int) (eg fr wt rk nx : Nat → Int) (nd es pp qq st ch bo : Int) (tp : Nat → Int) (le sz at_ fa fp nu fm nn : Int) (ou : Nat → Int) (om : Int) (N : Nat) (E : Ed) (w : Nat → Nat) (P Q : Nat) (x : Nat → Nat) (ks kc ke tl : Nat) (tf : Nat → Int) (ol : Nat) (of_ : Nat → Int) (fk : Int) (hMR : MR N E w P Q x ks kc ke tl tf ol of_ fk (thr, eg, fr, wt, rk, nx, nd, es, pp, qq, st, ch, bo, tp, le, sz, at_, fa, fp, nu, fm, nn, ou, om)) (a : Int) (ha : -2147483648 ≤ a ∧ a < 2147483648) (b : Int) (hb0 : -2147483648 ≤ b ∧ b < 2147483648) (c0 : Int) (hc0 : -2147483648 ≤ c0 ∧ c0 < 2147483648) (d0 : Int) (hd0 : -2147483648 ≤ d0 ∧ d0 < 2147483648) (e0 : Int) (he0 : -2147483648 ≤ e0 ∧ e0 < 2147483648)  (sz0 : Nat) : Met l yX6_feed wsX6_feed ({ frames := 1, cells := 0, slots := 0, locals := 22 } : Room) (Pre1 D cI cJ cB cZ [.ref h, .int (iZ a), .int (iZ b), .int (iZ c0), .int (iZ d0), .int (iZ e0)] (wMo cI cJ cB cZ h a1 a2 a3 a4 a5 a6 a7 thr eg fr wt rk nx nd es pp qq st ch bo tp le sz at_ fa fp nu fm nn ou om) sz0) (rwI (S := MT) D (fun z U => ((tl : Int) ≤ 1980 ∧ z = (tl : Int) + 20 ∧ MR N E w P Q x ks kc ke (tl + 20) (p4 (p4 (p4 (p4 (p4 tf tl a) (tl + 4) b) (tl + 8) c0) (tl + 12) d0) (tl + 16) e0) ol of_ fk U) ∨ (¬ (tl : Int) ≤ 1980 ∧ z = -1 ∧ MR N E w P Q x ks kc ke tl tf ol of_ fk U)) (fun u => wM cI cJ cB cZ h a1 a2 a3 a4 a5 a6 a7 u) (va_A (wMo cI cJ cB cZ h a1 a2 a3 a4 a5 a6 a7 thr eg fr wt rk nx nd es pp qq st ch bo tp le sz at_ fa fp nu fm nn ou om) sz0)) 0 0 (va_A (wMo cI cJ cB cZ h a1 a2 a3 a4 a5 a6 a7 thr eg fr wt rk nx nd es pp qq st ch bo tp le sz at_ fa fp nu fm nn ou om) sz0) := by
  refine Met.ofW (cc := cX6_feed) (maxL := 6) (ret := (some .int)) (by decide) rfl ?_
  intro p e s m args below meth c s₁ B hml hv
  obtain ⟨rfl, hsz, hP, hE, hD0⟩ := hv
  have hx := B.exec
  have hb := B.bytes
  have hr := B.returns
  have hts := atoms_spec (ws := wsX6_feed) B.pre
  have hown : s.vm.findClass RX6 = some m.cls := findClass_of_methodNamed B.named
  have hlocks := B.notSynchronized
  have hK := hE.1
  subst hsz
  have hD := hD0.self (sz := s.heap.size)
  generalize hAe : va_A (wMo cI cJ cB cZ h a1 a2 a3 a4 a5 a6 a7 thr eg fr wt rk nx nd es pp qq st ch bo tp le sz at_ fa fp nu fm nn ou om) s.heap.size = A at hD ⊢
  have hA : ∀ q : Nat, s.heap.size ≤ q → A q := fun q h => by rw [← hAe]; exact Or.inr h
  have hS : va_S A s.heap s.heap [] := va_S.rf
  have hP : va_P D vwCl (wMo cI cJ cB cZ h a1 a2 a3 a4 a5 a6 a7 thr eg fr wt rk nx nd es pp qq st ch bo tp le sz at_ fa fp nu fm nn ou om) s.heap := hP
  have hi_6 : ∀ w ∈ wsX60, w ∈ wsX6_feed := by decide +kernel
  have hw_1 := hts (.fieldLink RX6 1 "RankHouseModel" "thrown" "I") (by decide +kernel)
  have hw_2 := hts (.fieldLink RX6 65 "RankHouseModel" "length" "I") (by decide +kernel)
  have hl := lv_entry ([.ref h, .int (iZ a), .int (iZ b), .int (iZ c0), .int (iZ d0), .int (iZ e0)]) (n := 6) (Nat.le_of_ble_eq_true rfl)
  rw [lg_entry_eq]
  generalize (lg_sl ([.ref h, .int (iZ a), .int (iZ b), .int (iZ c0), .int (iZ d0), .int (iZ e0)]) ++ List.replicate (6 - (lg_sl ([.ref h, .int (iZ a), .int (iZ b), .int (iZ c0), .int (iZ d0), .int (iZ e0)])).length) Slot.unset).toArray = ls at hl ⊢
  have hl : lv_has ls 6 [(0, .ref h), (1, .int (iZ a)), (2, .int (iZ b)), (3, .int (iZ c0)), (4, .int (iZ d0)), (5, .int (iZ e0))] := hl
  obtain ⟨hM, hR, s1, s2, s3, s5, s6, t1, t2, t3, y1, y2, y3, d1⟩ := id hMR
  dsimp only at hM hR s1 s2 s3 t1 t3 y1 y3 d1
  have hM : MG N E w eg wt nd es := hM
  have hR : RK N P Q x rk pp qq := hR
  have t3 : BY tp tf tl := t3
  have y3 : BY ou of_ ol := y3
  obtain ⟨m1, m2, m3, m4, m5, m6, m7, m8, m9⟩ := id hM
  obtain ⟨k1, k2, k3, k4, k5, k6⟩ := id hR
  refine lv_aload_n hx hb dX6_feed_0 rfl (lv_at hl 0 rfl) ?_
  refine z_iconst hx hb dX6_feed_1 ?_
  refine va_put (v := .int (iZ 0)) (ty := .int) (C := RX6) (T := TX6) (N := 24) (ci := 6) hx hb hts hi_6 tyX6 tyX6_ok nmX6 hown hK hP hD hS 0 rfl rfl 0 (by decide) hw_1 (fun _ h9 => h9) rfl (by decide +kernel) rfl rfl (Nat.le_of_ble_eq_true rfl) dX6_feed_2 (fun H locs hP hD hS => ?_)
  have hP : va_P D vwCl (wMo cI cJ cB cZ h a1 a2 a3 a4 a5 a6 a7 0 eg fr wt rk nx nd es pp qq st ch bo tp le sz at_ fa fp nu fm nn ou om) H := hP
  have hD : va_D A (wMo cI cJ cB cZ h a1 a2 a3 a4 a5 a6 a7 0 eg fr wt rk nx nd es pp qq st ch bo tp le sz at_ fa fp nu fm nn ou om) := hD
  refine lv_aload_n hx hb dX6_feed_5 rfl (lv_at hl 0 rfl) ?_
  refine va_get (v := .int (iZ le)) (C := RX6) (T := TX6) (N := 24) (ci := 6) hx hb hts hi_6 hown hK hP 0 rfl rfl 14 (by decide) hw_2 (fun _ h9 => h9) rfl dX6_feed_6 ?_
  refine z_bipush hx hb dX6_feed_9 (by decide) ?_
  refine z_iadd hx hb dX6_feed_11 ?_
  refine z_sipush hx hb dX6_feed_12 (by decide) ?_
  refine z_icmp_le (tgt := 20) hx hb dX6_feed_15 (by decide) (by omega) (by omega) (fun c_1 => ?_) (fun c_1 => ?_)
  · refine lv_aload_n hx hb dX6_feed_20 rfl (lv_at hl 0 rfl) ?_
    refine lv_iload_n hx hb dX6_feed_21 rfl (lv_at hl 1 rfl) ?_
    refine rw_v (wr := []) (va_runV (As := [.int (iZ a)]) (rest := []) ⟨hx, hb, hml, hown, hts⟩ (c_X6_four l D cI cJ cB cZ h a1 a2 a3 a4 a5 a6 a7 0 eg fr wt rk nx nd es pp qq st ch bo tp le sz at_ fa fp nu fm nn ou om a ha (by omega) _) (cwV 1 hts gX6_feed_X6_four rfl rfl rfl (by decide +kernel) ⟨Nat.le_of_ble_eq_true rfl, Nat.le_of_ble_eq_true rfl⟩) (pre1V hE hP hD 0 rfl rfl) rfl rfl hl.1 rfl (lv_room (Nat.le_of_ble_eq_true rfl)) dX6_feed_22 ⟨Nat.le_of_ble_eq_true rfl, Nat.le_of_ble_eq_true rfl⟩) hP hD hS hA [0, 1, 2, 3, 4, 5, 6, 7] [] rfl rfl (by decide) (by decide) (fun u_4 H locs hr_3 hP hD hS => ?_)
    have hP := hP.sub (ws' := (wMo cI cJ cB cZ h a1 a2 a3 a4 a5 a6 a7 0 eg fr wt rk nx nd es pp qq st ch bo u_4.1 u_4.2 sz at_ fa fp nu fm nn ou om)) [0, 1, 2, 3, 4, 5, 6, 7] rfl
    have hD := hD.sub (ws' := (wMo cI cJ cB cZ h a1 a2 a3 a4 a5 a6 a7 0 eg fr wt rk nx nd es pp qq st ch bo u_4.1 u_4.2 sz at_ fa fp nu fm nn ou om)) [0, 1, 2, 3, 4, 5, 6, 7] (by decide) rfl
    obtain ⟨wa1, wb1⟩ := by4 (L := tl) t3 t1 hr_3
    refine lv_aload_n hx hb dX6_feed_25 rfl (lv_at hl 0 rfl) ?_
    refine lv_iload_n hx hb dX6_feed_26 rfl (lv_at hl 2 rfl) ?_
    refine rw_v (wr := []) (va_runV (As := [.int (iZ b)]) (rest := []) ⟨hx, hb, hml, hown, hts⟩ (c_X6_four l D cI cJ cB cZ h a1 a2 a3 a4 a5 a6 a7 0 eg fr wt rk nx nd es pp qq st ch bo u_4.1 u_4.2 sz at_ fa fp nu fm nn ou om b hb0 (by omega) _) (cwV 1 hts gX6_feed_X6_four rfl rfl rfl (by decide +kernel) ⟨Nat.le_of_ble_eq_true rfl, Nat.le_of_ble_eq_true rfl⟩) (pre1V hE hP hD 0 rfl rfl) rfl rfl hl.1 rfl (lv_room (Nat.le_of_ble_eq_true rfl)) dX6_feed_27 ⟨Nat.le_of_ble_eq_true rfl, Nat.le_of_ble_eq_true rfl⟩) hP hD hS hA [0, 1, 2, 3, 4, 5, 6, 7] [] rfl rfl (by decide) (by decide) (fun u_7 H locs hr_6 hP hD hS => ?_)
    have hP := hP.sub (ws' := (wMo cI cJ cB cZ h a1 a2 a3 a4 a5 a6 a7 0 eg fr wt rk nx nd es pp qq st ch bo u_7.1 u_7.2 sz at_ fa fp nu fm nn ou om)) [0, 1, 2, 3, 4, 5, 6, 7] rfl
    have hD := hD.sub (ws' := (wMo cI cJ cB cZ h a1 a2 a3 a4 a5 a6 a7 0 eg fr wt rk nx nd es pp qq st ch bo u_7.1 u_7.2 sz at_ fa fp nu fm nn ou om)) [0, 1, 2, 3, 4, 5, 6, 7] (by decide) rfl
    obtain ⟨wa2, wb2⟩ := by4 (L := tl + 4) wa1 wb1 hr_6
    refine lv_aload_n hx hb dX6_feed_30 rfl (lv_at hl 0 rfl) ?_
    refine lv_iload_n hx hb dX6_feed_31 rfl (lv_at hl 3 rfl) ?_
    refine rw_v (wr := []) (va_runV (As := [.int (iZ c0)]) (rest := []) ⟨hx, hb, hml, hown, hts⟩ (c_X6_four l D cI cJ cB cZ h a1 a2 a3 a4 a5 a6 a7 0 eg fr wt rk nx nd es pp qq st ch bo u_7.1 u_7.2 sz at_ fa fp nu fm nn ou om c0 hc0 (by omega) _) (cwV 1 hts gX6_feed_X6_four rfl rfl rfl (by decide +kernel) ⟨Nat.le_of_ble_eq_true rfl, Nat.le_of_ble_eq_true rfl⟩) (pre1V hE hP hD 0 rfl rfl) rfl rfl hl.1 rfl (lv_room (Nat.le_of_ble_eq_true rfl)) dX6_feed_32 ⟨Nat.le_of_ble_eq_true rfl, Nat.le_of_ble_eq_true rfl⟩) hP hD hS hA [0, 1, 2, 3, 4, 5, 6, 7] [] rfl rfl (by decide) (by decide) (fun u_10 H locs hr_9 hP hD hS => ?_)
    have hP := hP.sub (ws' := (wMo cI cJ cB cZ h a1 a2 a3 a4 a5 a6 a7 0 eg fr wt rk nx nd es pp qq st ch bo u_10.1 u_10.2 sz at_ fa fp nu fm nn ou om)) [0, 1, 2, 3, 4, 5, 6, 7] rfl
    have hD := hD.sub (ws' := (wMo cI cJ cB cZ h a1 a2 a3 a4 a5 a6 a7 0 eg fr wt rk nx nd es pp qq st ch bo u_10.1 u_10.2 sz at_ fa fp nu fm nn ou om)) [0, 1, 2, 3, 4, 5, 6, 7] (by decide) rfl
    obtain ⟨wa3, wb3⟩ := by4 (L := tl + 8) wa2 wb2 hr_9
    refine lv_aload_n hx hb dX6_feed_35 rfl (lv_at hl 0 rfl) ?_
    refine lv_iload hx hb dX6_feed_36 (lv_at hl 4 rfl) ?_
    refine rw_v (wr := []) (va_runV (As := [.int (iZ d0)]) (rest := []) ⟨hx, hb, hml, hown, hts⟩ (c_X6_four l D cI cJ cB cZ h a1 a2 a3 a4 a5 a6 a7 0 eg fr wt rk nx nd es pp qq st ch bo u_10.1 u_10.2 sz at_ fa fp nu fm nn ou om d0 hd0 (by omega) _) (cwV 1 hts gX6_feed_X6_four rfl rfl rfl (by decide +kernel) ⟨Nat.le_of_ble_eq_true rfl, Nat.le_of_ble_eq_true rfl⟩) (pre1V hE hP hD 0 rfl rfl) rfl rfl hl.1 rfl (lv_room (Nat.le_of_ble_eq_true rfl)) dX6_feed_38 ⟨Nat.le_of_ble_eq_true rfl, Nat.le_of_ble_eq_true rfl⟩) hP hD hS hA [0, 1, 2, 3, 4, 5, 6, 7] [] rfl rfl (by decide) (by decide) (fun u_13 H locs hr_12 hP hD hS => ?_)
    have hP := hP.sub (ws' := (wMo cI cJ cB cZ h a1 a2 a3 a4 a5 a6 a7 0 eg fr wt rk nx nd es pp qq st ch bo u_13.1 u_13.2 sz at_ fa fp nu fm nn ou om)) [0, 1, 2, 3, 4, 5, 6, 7] rfl
    have hD := hD.sub (ws' := (wMo cI cJ cB cZ h a1 a2 a3 a4 a5 a6 a7 0 eg fr wt rk nx nd es pp qq st ch bo u_13.1 u_13.2 sz at_ fa fp nu fm nn ou om)) [0, 1, 2, 3, 4, 5, 6, 7] (by decide) rfl
    obtain ⟨wa4, wb4⟩ := by4 (L := tl + 12) wa3 wb3 hr_12
    refine lv_aload_n hx hb dX6_feed_41 rfl (lv_at hl 0 rfl) ?_
    refine lv_iload hx hb dX6_feed_42 (lv_at hl 5 rfl) ?_
    refine rw_v (wr := []) (va_runV (As := [.int (iZ e0)]) (rest := []) ⟨hx, hb, hml, hown, hts⟩ (c_X6_four l D cI cJ cB cZ h a1 a2 a3 a4 a5 a6 a7 0 eg fr wt rk nx nd es pp qq st ch bo u_13.1 u_13.2 sz at_ fa fp nu fm nn ou om e0 he0 (by omega) _) (cwV 1 hts gX6_feed_X6_four rfl rfl rfl (by decide +kernel) ⟨Nat.le_of_ble_eq_true rfl, Nat.le_of_ble_eq_true rfl⟩) (pre1V hE hP hD 0 rfl rfl) rfl rfl hl.1 rfl (lv_room (Nat.le_of_ble_eq_true rfl)) dX6_feed_44 ⟨Nat.le_of_ble_eq_true rfl, Nat.le_of_ble_eq_true rfl⟩) hP hD hS hA [0, 1, 2, 3, 4, 5, 6, 7] [] rfl rfl (by decide) (by decide) (fun u_16 H locs hr_15 hP hD hS => ?_)
    have hP := hP.sub (ws' := (wMo cI cJ cB cZ h a1 a2 a3 a4 a5 a6 a7 0 eg fr wt rk nx nd es pp qq st ch bo u_16.1 u_16.2 sz at_ fa fp nu fm nn ou om)) [0, 1, 2, 3, 4, 5, 6, 7] rfl
    have hD := hD.sub (ws' := (wMo cI cJ cB cZ h a1 a2 a3 a4 a5 a6 a7 0 eg fr wt rk nx nd es pp qq st ch bo u_16.1 u_16.2 sz at_ fa fp nu fm nn ou om)) [0, 1, 2, 3, 4, 5, 6, 7] (by decide) rfl
    obtain ⟨wa5, wb5⟩ := by4 (L := tl + 16) wa4 wb4 hr_15
    refine lv_aload_n hx hb dX6_feed_47 rfl (lv_at hl 0 rfl) ?_
    refine va_get (v := .int (iZ u_16.2)) (C := RX6) (T := TX6) (N := 24) (ci := 6) hx hb hts hi_6 hown hK hP 0 rfl rfl 14 (by decide) hw_2 (fun _ h9 => h9) rfl dX6_feed_48 ?_
    exact rw_iret (z := u_16.2) (0, eg, fr, wt, rk, nx, nd, es, pp, qq, st, ch, bo, u_16.1, u_16.2, sz, at_, fa, fp, nu, fm, nn, ou, om) hx hb hr hlocks hP hD hS (Or.inl ⟨by omega, by omega, ⟨hM, hR, s1, s2, s3, s5, s6, wb5, (by omega), wa5, y1, y2, y3, d1⟩⟩) dX6_feed_51
  · refine z_iconst hx hb dX6_feed_18 ?_
    exact rw_iret (z := (-1)) (0, eg, fr, wt, rk, nx, nd, es, pp, qq, st, ch, bo, tp, le, sz, at_, fa, fp, nu, fm, nn, ou, om) hx hb hr hlocks hP hD hS (Or.inr ⟨by omega, rfl, ⟨hM, hR, s1, s2, s3, s5, s6, t1, t2, t3, y1, y2, y3, d1⟩⟩) dX6_feed_19
set_option maxHeartbeats 4000000 in
set_option maxRecDepth 100000 in
theorem c_X6_clear (l : Launch) (D : va_G) (cI cJ cB cZ : ClassId) (h a1 a2 a3 a4 a5 a6 a7 : Nat) (thr : Int) (eg fr wt rk nx : Nat → Int) (nd es pp qq st ch bo : Int) (tp : Nat → Int) (le sz at_ fa fp nu fm nn : Int) (ou : Nat → Int) (om : Int) (N : Nat) (E : Ed) (w : Nat → Nat) (P Q : Nat) (x : Nat → Nat) (ks kc ke tl : Nat) (tf : Nat → Int) (ol : Nat) (of_ : Nat → Int) (fk : Int) (hMR : MR N E w P Q x ks kc ke tl tf ol of_ fk (thr, eg, fr, wt, rk, nx, nd, es, pp, qq, st, ch, bo, tp, le, sz, at_, fa, fp, nu, fm, nn, ou, om)) (a : Int) (ha : -2147483648 ≤ a ∧ a < 2147483648)  (sz0 : Nat) : Met l yX6_clear wsX6_clear ({ frames := 1, cells := 0, slots := 0, locals := 21 } : Room) (Pre1 D cI cJ cB cZ [.ref h, .int (iZ a)] (wMo cI cJ cB cZ h a1 a2 a3 a4 a5 a6 a7 thr eg fr wt rk nx nd es pp qq st ch bo tp le sz at_ fa fp nu fm nn ou om) sz0) (rwI (S := MT) D (fun z U => (z = 1 ∧ (1 ≤ a ∧ a ≤ 250) ∧ MR a.toNat (fun _ _ => false) (fun _ => 1) P Q (beg a.toNat) 0 8589934592 8589934592 tl tf ol of_ fk U) ∨ (z = 0 ∧ ¬ (1 ≤ a ∧ a ≤ 250) ∧ MR N E w P Q x ks kc ke tl tf ol of_ fk U)) (fun u => wM cI cJ cB cZ h a1 a2 a3 a4 a5 a6 a7 u) (va_A (wMo cI cJ cB cZ h a1 a2 a3 a4 a5 a6 a7 thr eg fr wt rk nx nd es pp qq st ch bo tp le sz at_ fa fp nu fm nn ou om) sz0)) 0 0 (va_A (wMo cI cJ cB cZ h a1 a2 a3 a4 a5 a6 a7 thr eg fr wt rk nx nd es pp qq st ch bo tp le sz at_ fa fp nu fm nn ou om) sz0) := by
  refine Met.ofW (cc := cX6_clear) (maxL := 3) (ret := (some .boolean)) (by decide) rfl ?_
  intro p e s m args below meth c s₁ B hml hv
  obtain ⟨rfl, hsz, hP, hE, hD0⟩ := hv
  have hx := B.exec
  have hb := B.bytes
  have hr := B.returns
  have hts := atoms_spec (ws := wsX6_clear) B.pre
  have hown : s.vm.findClass RX6 = some m.cls := findClass_of_methodNamed B.named
  have hlocks := B.notSynchronized
  have hK := hE.1
  subst hsz
  have hD := hD0.self (sz := s.heap.size)
  generalize hAe : va_A (wMo cI cJ cB cZ h a1 a2 a3 a4 a5 a6 a7 thr eg fr wt rk nx nd es pp qq st ch bo tp le sz at_ fa fp nu fm nn ou om) s.heap.size = A at hD ⊢
  have hA : ∀ q : Nat, s.heap.size ≤ q → A q := fun q h => by rw [← hAe]; exact Or.inr h
  have hS : va_S A s.heap s.heap [] := va_S.rf
  have hP : va_P D vwCl (wMo cI cJ cB cZ h a1 a2 a3 a4 a5 a6 a7 thr eg fr wt rk nx nd es pp qq st ch bo tp le sz at_ fa fp nu fm nn ou om) s.heap := hP
  have hi_6 : ∀ w ∈ wsX60, w ∈ wsX6_clear := by decide +kernel
  have hw_1 := hts (.fieldLink RX6 1 "RankHouseModel" "thrown" "I") (by decide +kernel)
  have hw_2 := hts (.fieldLink RX6 32 "RankHouseModel" "nodes" "I") (by decide +kernel)
  have hw_3 := hts (.fieldLink RX6 102 "RankHouseModel" "edges" "I") (by decide +kernel)
  have hw_4 := hts (.constant RX6 13 (62500)) (by decide +kernel)
  have hw_5 := hts (.fieldLink RX6 21 "RankHouseModel" "weight" "[I") (by decide +kernel)
  have hw_6 := hts (.fieldLink RX6 14 "RankHouseModel" "edge" "[Z") (by decide +kernel)
  have hl := lv_entry ([.ref h, .int (iZ a)]) (n := 3) (Nat.le_of_ble_eq_true rfl)
  rw [lg_entry_eq]
  generalize (lg_sl ([.ref h, .int (iZ a)]) ++ List.replicate (3 - (lg_sl ([.ref h, .int (iZ a)])).length) Slot.unset).toArray = ls at hl ⊢
  have hl : lv_has ls 3 [(0, .ref h), (1, .int (iZ a))] := hl
  obtain ⟨hM, hR, s1, s2, s3, s5, s6, t1, t2, t3, y1, y2, y3, d1⟩ := id hMR
  dsimp only at hM hR s1 s2 s3 t1 t3 y1 y3 d1
  have hM : MG N E w eg wt nd es := hM
  have hR : RK N P Q x rk pp qq := hR
  have t3 : BY tp tf tl := t3
  have y3 : BY ou of_ ol := y3
  obtain ⟨m1, m2, m3, m4, m5, m6, m7, m8, m9⟩ := id hM
  obtain ⟨k1, k2, k3, k4, k5, k6⟩ := id hR
  refine lv_aload_n hx hb dX6_clear_0 rfl (lv_at hl 0 rfl) ?_
  refine z_iconst hx hb dX6_clear_1 ?_
  refine va_put (v := .int (iZ 0)) (ty := .int) (C := RX6) (T := TX6) (N := 24) (ci := 6) hx hb hts hi_6 tyX6 tyX6_ok nmX6 hown hK hP hD hS 0 rfl rfl 0 (by decide) hw_1 (fun _ h9 => h9) rfl (by decide +kernel) rfl rfl (Nat.le_of_ble_eq_true rfl) dX6_clear_2 (fun H locs hP hD hS => ?_)
  have hP : va_P D vwCl (wMo cI cJ cB cZ h a1 a2 a3 a4 a5 a6 a7 0 eg fr wt rk nx nd es pp qq st ch bo tp le sz at_ fa fp nu fm nn ou om) H := hP
  have hD : va_D A (wMo cI cJ cB cZ h a1 a2 a3 a4 a5 a6 a7 0 eg fr wt rk nx nd es pp qq st ch bo tp le sz at_ fa fp nu fm nn ou om) := hD
  refine lv_iload_n hx hb dX6_clear_5 rfl (lv_at hl 1 rfl) ?_
  refine z_iconst hx hb dX6_clear_6 ?_
  refine z_icmp_lt (tgt := 17) hx hb dX6_clear_7 (by decide) (by omega) (by omega) (fun c_1 => ?_) (fun c_1 => ?_)
  · refine z_iconst hx hb dX6_clear_17 ?_
    exact rw_zret (z := 0) (0, eg, fr, wt, rk, nx, nd, es, pp, qq, st, ch, bo, tp, le, sz, at_, fa, fp, nu, fm, nn, ou, om) hx hb hr hlocks (Or.inl rfl) hP hD hS (Or.inr ⟨rfl, by omega, ⟨hM, hR, s1, s2, s3, s5, s6, t1, t2, t3, y1, y2, y3, d1⟩⟩) dX6_clear_18
  · refine lv_iload_n hx hb dX6_clear_10 rfl (lv_at hl 1 rfl) ?_
    refine z_sipush hx hb dX6_clear_11 (by decide) ?_
    refine z_icmp_le (tgt := 19) hx hb dX6_clear_14 (by decide) (by omega) (by omega) (fun c_2 => ?_) (fun c_2 => ?_)
    · refine lv_aload_n hx hb dX6_clear_19 rfl (lv_at hl 0 rfl) ?_
      refine lv_iload_n hx hb dX6_clear_20 rfl (lv_at hl 1 rfl) ?_
      refine va_put (v := .int (iZ a)) (ty := .int) (C := RX6) (T := TX6) (N := 24) (ci := 6) hx hb hts hi_6 tyX6 tyX6_ok nmX6 hown hK hP hD hS 0 rfl rfl 6 (by decide) hw_2 (fun _ h9 => h9) rfl (by decide +kernel) rfl rfl (Nat.le_of_ble_eq_true rfl) dX6_clear_21 (fun H locs hP hD hS => ?_)
      have hP : va_P D vwCl (wMo cI cJ cB cZ h a1 a2 a3 a4 a5 a6 a7 0 eg fr wt rk nx a es pp qq st ch bo tp le sz at_ fa fp nu fm nn ou om) H := hP
      have hD : va_D A (wMo cI cJ cB cZ h a1 a2 a3 a4 a5 a6 a7 0 eg fr wt rk nx a es pp qq st ch bo tp le sz at_ fa fp nu fm nn ou om) := hD
      refine lv_aload_n hx hb dX6_clear_24 rfl (lv_at hl 0 rfl) ?_
      refine z_iconst hx hb dX6_clear_25 ?_
      refine va_put (v := .int (iZ 0)) (ty := .int) (C := RX6) (T := TX6) (N := 24) (ci := 6) hx hb hts hi_6 tyX6 tyX6_ok nmX6 hown hK hP hD hS 0 rfl rfl 7 (by decide) hw_3 (fun _ h9 => h9) rfl (by decide +kernel) rfl rfl (Nat.le_of_ble_eq_true rfl) dX6_clear_26 (fun H locs hP hD hS => ?_)
      have hP : va_P D vwCl (wMo cI cJ cB cZ h a1 a2 a3 a4 a5 a6 a7 0 eg fr wt rk nx a 0 pp qq st ch bo tp le sz at_ fa fp nu fm nn ou om) H := hP
      have hD : va_D A (wMo cI cJ cB cZ h a1 a2 a3 a4 a5 a6 a7 0 eg fr wt rk nx a 0 pp qq st ch bo tp le sz at_ fa fp nu fm nn ou om) := hD
      refine z_iconst hx hb dX6_clear_29 ?_
      refine lv_istore_n (lv' := [(2, .int (iZ 0)), (0, .ref h), (1, .int (iZ a))]) hx hb dX6_clear_30 rfl hl (by decide) rfl (fun ls hl => ?_)
      refine w_loop (fun kf H locs ls => ∃ (i : Nat), ∃ (g : Nat → Int), kf = 62500 - i ∧ (i ≤ 62500 ∧ ∀ j, j < i → g j = 0) ∧ va_P D vwCl (wMo cI cJ cB cZ h a1 a2 a3 a4 a5 a6 a7 0 g fr wt rk nx a 0 pp qq st ch bo tp le sz at_ fa fp nu fm nn ou om) H ∧ va_D A (wMo cI cJ cB cZ h a1 a2 a3 a4 a5 a6 a7 0 g fr wt rk nx a 0 pp qq st ch bo tp le sz at_ fa fp nu fm nn ou om) ∧ va_S A s.heap H locs ∧ lv_has ls 3 [(0, .ref h), (1, .int (iZ a)), (2, .int (iZ ↑i))]) ?_ _ ⟨0, eg, rfl, ⟨by omega, fun j hj => absurd hj (Nat.not_lt_zero j)⟩, hP, hD, hS, lv_sub hl [1, 2, 0] rfl⟩
      rintro kf H locs ls ⟨i, g, hk, ⟨i1, i2⟩, hP, hD, hS, hl⟩ ih
      refine lv_iload_n hx hb dX6_clear_31 rfl (lv_at hl 2 rfl) ?_
      refine z_ldc hx hb (62500) hown hw_4 (by decide) dX6_clear_32 ?_
      refine z_icmp_ge (tgt := 50) hx hb dX6_clear_34 (by decide) (by omega) (by omega) (fun c_3 => ?_) (fun c_3 => ?_)
      · refine z_iconst hx hb dX6_clear_50 ?_
        refine lv_istore_n (lv' := [(2, .int (iZ 0)), (0, .ref h), (1, .int (iZ a))]) hx hb dX6_clear_51 rfl hl (by decide) rfl (fun ls hl => ?_)
        refine w_loop (fun kf H locs ls => ∃ (k : Nat), ∃ (g2 : Nat → Int), kf = a.toNat - k ∧ (k ≤ a.toNat ∧ ∀ j, j < k → g2 j = 1) ∧ va_P D vwCl (wMo cI cJ cB cZ h a1 a2 a3 a4 a5 a6 a7 0 g fr g2 rk nx a 0 pp qq st ch bo tp le sz at_ fa fp nu fm nn ou om) H ∧ va_D A (wMo cI cJ cB cZ h a1 a2 a3 a4 a5 a6 a7 0 g fr g2 rk nx a 0 pp qq st ch bo tp le sz at_ fa fp nu fm nn ou om) ∧ va_S A s.heap H locs ∧ lv_has ls 3 [(0, .ref h), (1, .int (iZ a)), (2, .int (iZ ↑k))]) ?_ _ ⟨0, wt, rfl, ⟨by omega, fun j hj => absurd hj (Nat.not_lt_zero j)⟩, hP, hD, hS, lv_sub hl [1, 2, 0] rfl⟩
        rintro kf H locs ls ⟨k, g2, hk, ⟨i3, i4⟩, hP, hD, hS, hl⟩ ih
        refine lv_iload_n hx hb dX6_clear_52 rfl (lv_at hl 2 rfl) ?_
        refine lv_iload_n hx hb dX6_clear_53 rfl (lv_at hl 1 rfl) ?_
        refine z_icmp_ge (tgt := 70) hx hb dX6_clear_54 (by decide) (by omega) (by omega) (fun c_4 => ?_) (fun c_4 => ?_)
        · refine lv_aload_n hx hb dX6_clear_70 rfl (lv_at hl 0 rfl) ?_
          refine rw_v (wr := []) (va_runV (As := []) (rest := []) ⟨hx, hb, hml, hown, hts⟩ (c_X6_begin l D cI cJ cB cZ h a1 a2 a3 a4 a5 a6 a7 0 g fr g2 rk nx a 0 pp qq st ch bo tp le sz at_ fa fp nu fm nn ou om a.toNat (by omega) (by omega) _) (cwV 0 hts gX6_clear_X6_begin rfl rfl rfl (by decide +kernel) ⟨Nat.le_of_ble_eq_true rfl, Nat.le_of_ble_eq_true rfl⟩) (pre1V hE hP hD 0 rfl rfl) rfl rfl hl.1 rfl (lv_room (Nat.le_of_ble_eq_true rfl)) dX6_clear_71 ⟨Nat.le_of_ble_eq_true rfl, Nat.le_of_ble_eq_true rfl⟩) hP hD hS hA [0, 1, 2, 3, 4, 5, 6, 7] [] rfl rfl (by decide) (by decide) (fun u_7 H locs hr_6 hP hD hS => ?_)
          have hP := hP.sub (ws' := (wMo cI cJ cB cZ h a1 a2 a3 a4 a5 a6 a7 0 g fr g2 u_7.1 nx a 0 pp qq u_7.2.1 u_7.2.2.1 u_7.2.2.2 tp le sz at_ fa fp nu fm nn ou om)) [0, 1, 2, 3, 4, 5, 6, 7] rfl
          have hD := hD.sub (ws' := (wMo cI cJ cB cZ h a1 a2 a3 a4 a5 a6 a7 0 g fr g2 u_7.1 nx a 0 pp qq u_7.2.1 u_7.2.2.1 u_7.2.2.2 tp le sz at_ fa fp nu fm nn ou om)) [0, 1, 2, 3, 4, 5, 6, 7] (by decide) rfl
          obtain ⟨hb9, hb8⟩ := hr_6
          have hb7 := congrArg Prod.fst hb8
          have hb6 := congrArg (fun q => q.2.1) hb8
          have hb5 := congrArg (fun q => q.2.2) hb8
          refine z_iconst hx hb dX6_clear_74 ?_
          exact rw_zret (z := 1) (0, g, fr, g2, u_7.1, nx, a, 0, pp, qq, u_7.2.1, u_7.2.2.1, u_7.2.2.2, tp, le, sz, at_, fa, fp, nu, fm, nn, ou, om) hx hb hr hlocks (Or.inr rfl) hP hD hS (Or.inl ⟨rfl, by omega, ⟨(MG_clr (by omega) (by omega) (by dsimp only; omega) rfl (fun j hj => i2 j (by omega)) (fun j hj => i4 j (by omega))), (RK_beg (by omega) hR hb9), hb7, hb6, hb5, (Nat.le_refl _), (Nat.le_refl _), t1, t2, t3, y1, y2, y3, d1⟩⟩) dX6_clear_75
        · refine lv_aload_n hx hb dX6_clear_57 rfl (lv_at hl 0 rfl) ?_
          refine va_get (v := .ref a3) (C := RX6) (T := TX6) (N := 24) (ci := 6) hx hb hts hi_6 hown hK hP 0 rfl rfl 3 (by decide) hw_5 (fun _ h9 => h9) rfl dX6_clear_58 ?_
          refine lv_iload_n hx hb dX6_clear_61 rfl (lv_at hl 2 rfl) ?_
          refine z_iconst hx hb dX6_clear_62 ?_
          refine z_iast hx hb hK hP hD hS 3 0 rfl rfl k (by omega) (by omega) (by omega) dX6_clear_63 (fun H locs hP hD hS => ?_)
          have hP : va_P D vwCl (wMo cI cJ cB cZ h a1 a2 a3 a4 a5 a6 a7 0 g fr (uZ g2 k 1) rk nx a 0 pp qq st ch bo tp le sz at_ fa fp nu fm nn ou om) H := hP
          have hD : va_D A (wMo cI cJ cB cZ h a1 a2 a3 a4 a5 a6 a7 0 g fr (uZ g2 k 1) rk nx a 0 pp qq st ch bo tp le sz at_ fa fp nu fm nn ou om) := hD
          refine lv_iinc (v := iZ (↑k + 1)) (lv' := [(2, .int (iZ (↑k + 1))), (0, .ref h), (1, .int (iZ a))]) hx hb dX6_clear_64 hl (k := 2) rfl (show iZ ↑k + iZ 1 = _ from iZ_add _ _) (by decide) rfl (fun ls hl => ?_)
          refine lv_goto (tgt := 52) hx hb dX6_clear_67 (by decide) ?_
          exact ih _ _ _ _ (by omega) ⟨(k + 1), (uZ g2 k 1), rfl, ⟨by omega, reset_step (f := eg) i4⟩, hP, hD, hS, lv_sub hl [1, 2, 0] rfl⟩
      · refine lv_aload_n hx hb dX6_clear_37 rfl (lv_at hl 0 rfl) ?_
        refine va_get (v := .ref a1) (C := RX6) (T := TX6) (N := 24) (ci := 6) hx hb hts hi_6 hown hK hP 0 rfl rfl 1 (by decide) hw_6 (fun _ h9 => h9) rfl dX6_clear_38 ?_
        refine lv_iload_n hx hb dX6_clear_41 rfl (lv_at hl 2 rfl) ?_
        refine z_iconst hx hb dX6_clear_42 ?_
        refine z_zast hx hb hK hP hD hS 1 3 rfl rfl 0 rfl i (by omega) (by omega) (by omega) dX6_clear_43 (fun H locs hP hD hS => ?_)
        have hP : va_P D vwCl (wMo cI cJ cB cZ h a1 a2 a3 a4 a5 a6 a7 0 (uZ g i 0) fr wt rk nx a 0 pp qq st ch bo tp le sz at_ fa fp nu fm nn ou om) H := hP
        have hD : va_D A (wMo cI cJ cB cZ h a1 a2 a3 a4 a5 a6 a7 0 (uZ g i 0) fr wt rk nx a 0 pp qq st ch bo tp le sz at_ fa fp nu fm nn ou om) := hD
        refine lv_iinc (v := iZ (↑i + 1)) (lv' := [(2, .int (iZ (↑i + 1))), (0, .ref h), (1, .int (iZ a))]) hx hb dX6_clear_44 hl (k := 2) rfl (show iZ ↑i + iZ 1 = _ from iZ_add _ _) (by decide) rfl (fun ls hl => ?_)
        refine lv_goto (tgt := 31) hx hb dX6_clear_47 (by decide) ?_
        exact ih _ _ _ _ (by omega) ⟨(i + 1), (uZ g i 0), rfl, ⟨by omega, reset_step (f := eg) i2⟩, hP, hD, hS, lv_sub hl [1, 2, 0] rfl⟩
    · refine z_iconst hx hb dX6_clear_17 ?_
      exact rw_zret (z := 0) (0, eg, fr, wt, rk, nx, nd, es, pp, qq, st, ch, bo, tp, le, sz, at_, fa, fp, nu, fm, nn, ou, om) hx hb hr hlocks (Or.inl rfl) hP hD hS (Or.inr ⟨rfl, by omega, ⟨hM, hR, s1, s2, s3, s5, s6, t1, t2, t3, y1, y2, y3, d1⟩⟩) dX6_clear_18
set_option maxHeartbeats 4000000 in
set_option maxRecDepth 100000 in
theorem c_X6_add (l : Launch) (D : va_G) (cI cJ cB cZ : ClassId) (h a1 a2 a3 a4 a5 a6 a7 : Nat) (thr : Int) (eg fr wt rk nx : Nat → Int) (nd es pp qq st ch bo : Int) (tp : Nat → Int) (le sz at_ fa fp nu fm nn : Int) (ou : Nat → Int) (om : Int) (N : Nat) (E : Ed) (w : Nat → Nat) (P Q : Nat) (x : Nat → Nat) (ks kc ke tl : Nat) (tf : Nat → Int) (ol : Nat) (of_ : Nat → Int) (fk : Int) (hMR : MR N E w P Q x ks kc ke tl tf ol of_ fk (thr, eg, fr, wt, rk, nx, nd, es, pp, qq, st, ch, bo, tp, le, sz, at_, fa, fp, nu, fm, nn, ou, om)) (a : Int) (ha : -2147483648 ≤ a ∧ a < 2147483648) (b : Int) (hb0 : -2147483648 ≤ b ∧ b < 2147483648)  (sz0 : Nat) : Met l yX6_add wsX6_add ({ frames := 1, cells := 0, slots := 0, locals := 22 } : Room) (Pre1 D cI cJ cB cZ [.ref h, .int (iZ a), .int (iZ b)] (wMo cI cJ cB cZ h a1 a2 a3 a4 a5 a6 a7 thr eg fr wt rk nx nd es pp qq st ch bo tp le sz at_ fa fp nu fm nn ou om) sz0) (rwI (S := MT) D (fun z U => (z = 1 ∧ (0 ≤ a ∧ a < (N : Int) ∧ 0 ≤ b ∧ b < (N : Int) ∧ fst E N N < 2500 ∧ E a.toNat b.toNat = false) ∧ MR N (uE E a.toNat b.toNat true) w P Q (beg N) 0 8589934592 8589934592 tl tf ol of_ fk U) ∨ (z = 0 ∧ ¬ (0 ≤ a ∧ a < (N : Int) ∧ 0 ≤ b ∧ b < (N : Int) ∧ fst E N N < 2500 ∧ E a.toNat b.toNat = false) ∧ MR N E w P Q x ks kc ke tl tf ol of_ fk U)) (fun u => wM cI cJ cB cZ h a1 a2 a3 a4 a5 a6 a7 u) (va_A (wMo cI cJ cB cZ h a1 a2 a3 a4 a5 a6 a7 thr eg fr wt rk nx nd es pp qq st ch bo tp le sz at_ fa fp nu fm nn ou om) sz0)) 0 0 (va_A (wMo cI cJ cB cZ h a1 a2 a3 a4 a5 a6 a7 thr eg fr wt rk nx nd es pp qq st ch bo tp le sz at_ fa fp nu fm nn ou om) sz0) := by
  refine Met.ofW (cc := cX6_add) (maxL := 3) (ret := (some .boolean)) (by decide) rfl ?_
  intro p e s m args below meth c s₁ B hml hv
  obtain ⟨rfl, hsz, hP, hE, hD0⟩ := hv
  have hx := B.exec
  have hb := B.bytes
  have hr := B.returns
  have hts := atoms_spec (ws := wsX6_add) B.pre
  have hown : s.vm.findClass RX6 = some m.cls := findClass_of_methodNamed B.named
  have hlocks := B.notSynchronized
  have hK := hE.1
  subst hsz
  have hD := hD0.self (sz := s.heap.size)
  generalize hAe : va_A (wMo cI cJ cB cZ h a1 a2 a3 a4 a5 a6 a7 thr eg fr wt rk nx nd es pp qq st ch bo tp le sz at_ fa fp nu fm nn ou om) s.heap.size = A at hD ⊢
  have hA : ∀ q : Nat, s.heap.size ≤ q → A q := fun q h => by rw [← hAe]; exact Or.inr h
  have hS : va_S A s.heap s.heap [] := va_S.rf
  have hP : va_P D vwCl (wMo cI cJ cB cZ h a1 a2 a3 a4 a5 a6 a7 thr eg fr wt rk nx nd es pp qq st ch bo tp le sz at_ fa fp nu fm nn ou om) s.heap := hP
  have hi_6 : ∀ w ∈ wsX60, w ∈ wsX6_add := by decide +kernel
  have hw_1 := hts (.fieldLink RX6 1 "RankHouseModel" "thrown" "I") (by decide +kernel)
  have hw_2 := hts (.fieldLink RX6 102 "RankHouseModel" "edges" "I") (by decide +kernel)
  have hw_3 := hts (.fieldLink RX6 14 "RankHouseModel" "edge" "[Z") (by decide +kernel)
  have hl := lv_entry ([.ref h, .int (iZ a), .int (iZ b)]) (n := 3) (Nat.le_of_ble_eq_true rfl)
  rw [lg_entry_eq]
  generalize (lg_sl ([.ref h, .int (iZ a), .int (iZ b)]) ++ List.replicate (3 - (lg_sl ([.ref h, .int (iZ a), .int (iZ b)])).length) Slot.unset).toArray = ls at hl ⊢
  have hl : lv_has ls 3 [(0, .ref h), (1, .int (iZ a)), (2, .int (iZ b))] := hl
  obtain ⟨hM, hR, s1, s2, s3, s5, s6, t1, t2, t3, y1, y2, y3, d1⟩ := id hMR
  dsimp only at hM hR s1 s2 s3 t1 t3 y1 y3 d1
  have hM : MG N E w eg wt nd es := hM
  have hR : RK N P Q x rk pp qq := hR
  have t3 : BY tp tf tl := t3
  have y3 : BY ou of_ ol := y3
  obtain ⟨m1, m2, m3, m4, m5, m6, m7, m8, m9⟩ := id hM
  obtain ⟨k1, k2, k3, k4, k5, k6⟩ := id hR
  refine lv_aload_n hx hb dX6_add_0 rfl (lv_at hl 0 rfl) ?_
  refine z_iconst hx hb dX6_add_1 ?_
  refine va_put (v := .int (iZ 0)) (ty := .int) (C := RX6) (T := TX6) (N := 24) (ci := 6) hx hb hts hi_6 tyX6 tyX6_ok nmX6 hown hK hP hD hS 0 rfl rfl 0 (by decide) hw_1 (fun _ h9 => h9) rfl (by decide +kernel) rfl rfl (Nat.le_of_ble_eq_true rfl) dX6_add_2 (fun H locs hP hD hS => ?_)
  have hP : va_P D vwCl (wMo cI cJ cB cZ h a1 a2 a3 a4 a5 a6 a7 0 eg fr wt rk nx nd es pp qq st ch bo tp le sz at_ fa fp nu fm nn ou om) H := hP
  have hD : va_D A (wMo cI cJ cB cZ h a1 a2 a3 a4 a5 a6 a7 0 eg fr wt rk nx nd es pp qq st ch bo tp le sz at_ fa fp nu fm nn ou om) := hD
  refine lv_aload_n hx hb dX6_add_5 rfl (lv_at hl 0 rfl) ?_
  refine lv_iload_n hx hb dX6_add_6 rfl (lv_at hl 1 rfl) ?_
  refine ro_i (va_runV (As := [.int (iZ a)]) (rest := []) ⟨hx, hb, hml, hown, hts⟩ (c_X6_no l D cI cJ cB cZ h a1 a2 a3 a4 a5 a6 a7 0 eg fr wt rk nx nd es pp qq st ch bo tp le sz at_ fa fp nu fm nn ou om a ha N (by omega) m5) (cwV 1 hts gX6_add_X6_no rfl rfl rfl (by decide +kernel) ⟨Nat.le_of_ble_eq_true rfl, Nat.le_of_ble_eq_true rfl⟩) (pre0V hE hP 0 rfl rfl) rfl rfl hl.1 rfl (lv_room (Nat.le_of_ble_eq_true rfl)) dX6_add_7 ⟨Nat.le_of_ble_eq_true rfl, Nat.le_of_ble_eq_true rfl⟩) (fun r_1 hr_2 => ?_)
  rcases hr_2 with ⟨rfl, hq_3⟩ | ⟨rfl, hq_3⟩
  · have n1 := hq_3
    refine z_if_ne (tgt := 40) hx hb dX6_add_10 (by decide) (by omega) (fun _ => ?_) (fun c9 => absurd c9 (by decide))
    refine z_iconst hx hb dX6_add_40 ?_
    exact rw_zret (z := 0) (0, eg, fr, wt, rk, nx, nd, es, pp, qq, st, ch, bo, tp, le, sz, at_, fa, fp, nu, fm, nn, ou, om) hx hb hr hlocks (Or.inl rfl) hP hD hS (Or.inr ⟨rfl, fun q => by first | omega | exact absurd n3 (by rw [q.2.2.2.2.2]; decide), ⟨hM, hR, s1, s2, s3, s5, s6, t1, t2, t3, y1, y2, y3, d1⟩⟩) dX6_add_41
  · have n1 := hq_3
    refine z_if_ne (tgt := 40) hx hb dX6_add_10 (by decide) (by omega) (fun c9 => absurd c9 (by decide)) (fun _ => ?_)
    refine lv_aload_n hx hb dX6_add_13 rfl (lv_at hl 0 rfl) ?_
    refine lv_iload_n hx hb dX6_add_14 rfl (lv_at hl 2 rfl) ?_
    refine ro_i (va_runV (As := [.int (iZ b)]) (rest := []) ⟨hx, hb, hml, hown, hts⟩ (c_X6_no l D cI cJ cB cZ h a1 a2 a3 a4 a5 a6 a7 0 eg fr wt rk nx nd es pp qq st ch bo tp le sz at_ fa fp nu fm nn ou om b hb0 N (by omega) m5) (cwV 1 hts gX6_add_X6_no rfl rfl rfl (by decide +kernel) ⟨Nat.le_of_ble_eq_true rfl, Nat.le_of_ble_eq_true rfl⟩) (pre0V hE hP 0 rfl rfl) rfl rfl hl.1 rfl (lv_room (Nat.le_of_ble_eq_true rfl)) dX6_add_15 ⟨Nat.le_of_ble_eq_true rfl, Nat.le_of_ble_eq_true rfl⟩) (fun r_4 hr_5 => ?_)
    rcases hr_5 with ⟨rfl, hq_6⟩ | ⟨rfl, hq_6⟩
    · have n2 := hq_6
      refine z_if_ne (tgt := 40) hx hb dX6_add_18 (by decide) (by omega) (fun _ => ?_) (fun c9 => absurd c9 (by decide))
      refine z_iconst hx hb dX6_add_40 ?_
      exact rw_zret (z := 0) (0, eg, fr, wt, rk, nx, nd, es, pp, qq, st, ch, bo, tp, le, sz, at_, fa, fp, nu, fm, nn, ou, om) hx hb hr hlocks (Or.inl rfl) hP hD hS (Or.inr ⟨rfl, fun q => by first | omega | exact absurd n3 (by rw [q.2.2.2.2.2]; decide), ⟨hM, hR, s1, s2, s3, s5, s6, t1, t2, t3, y1, y2, y3, d1⟩⟩) dX6_add_41
    · have n2 := hq_6
      refine z_if_ne (tgt := 40) hx hb dX6_add_18 (by decide) (by omega) (fun c9 => absurd c9 (by decide)) (fun _ => ?_)
      refine lv_aload_n hx hb dX6_add_21 rfl (lv_at hl 0 rfl) ?_
      refine lv_iload_n hx hb dX6_add_22 rfl (lv_at hl 1 rfl) ?_
      refine lv_iload_n hx hb dX6_add_23 rfl (lv_at hl 2 rfl) ?_
      refine ro_i (va_runV (As := [.int (iZ a), .int (iZ b)]) (rest := []) ⟨hx, hb, hml, hown, hts⟩ (c_X6_goes l D cI cJ cB cZ h a1 a2 a3 a4 a5 a6 a7 0 eg fr wt rk nx nd es pp qq st ch bo tp le sz at_ fa fp nu fm nn ou om a b (by omega) (by omega) E m1) (cwV 2 hts gX6_add_X6_goes rfl rfl rfl (by decide +kernel) ⟨Nat.le_of_ble_eq_true rfl, Nat.le_of_ble_eq_true rfl⟩) (pre0V hE hP 0 rfl rfl) rfl rfl hl.1 rfl (lv_room (Nat.le_of_ble_eq_true rfl)) dX6_add_24 ⟨Nat.le_of_ble_eq_true rfl, Nat.le_of_ble_eq_true rfl⟩) (fun r_7 hr_8 => ?_)
      rcases hr_8 with ⟨rfl, hq_9⟩ | ⟨rfl, hq_9⟩
      · have n3 := hq_9
        refine z_if_ne (tgt := 40) hx hb dX6_add_27 (by decide) (by omega) (fun _ => ?_) (fun c9 => absurd c9 (by decide))
        refine z_iconst hx hb dX6_add_40 ?_
        exact rw_zret (z := 0) (0, eg, fr, wt, rk, nx, nd, es, pp, qq, st, ch, bo, tp, le, sz, at_, fa, fp, nu, fm, nn, ou, om) hx hb hr hlocks (Or.inl rfl) hP hD hS (Or.inr ⟨rfl, fun q => by first | omega | exact absurd n3 (by rw [q.2.2.2.2.2]; decide), ⟨hM, hR, s1, s2, s3, s5, s6, t1, t2, t3, y1, y2, y3, d1⟩⟩) dX6_add_41
      · have n3 := hq_9
        refine z_if_ne (tgt := 40) hx hb dX6_add_27 (by decide) (by omega) (fun c9 => absurd c9 (by decide)) (fun _ => ?_)
        refine lv_aload_n hx hb dX6_add_30 rfl (lv_at hl 0 rfl) ?_
        refine va_get (v := .int (iZ es)) (C := RX6) (T := TX6) (N := 24) (ci := 6) hx hb hts hi_6 hown hK hP 0 rfl rfl 7 (by decide) hw_2 (fun _ h9 => h9) rfl dX6_add_31 ?_
        refine z_sipush hx hb dX6_add_34 (by decide) ?_
        refine z_icmp_ne (tgt := 42) hx hb dX6_add_37 (by decide) (by omega) (by omega) (fun c_10 => ?_) (fun c_10 => ?_)
        · refine lv_aload_n hx hb dX6_add_42 rfl (lv_at hl 0 rfl) ?_
          refine va_get (v := .ref a1) (C := RX6) (T := TX6) (N := 24) (ci := 6) hx hb hts hi_6 hown hK hP 0 rfl rfl 1 (by decide) hw_3 (fun _ h9 => h9) rfl dX6_add_43 ?_
          refine z_sipush hx hb dX6_add_46 (by decide) ?_
          refine lv_iload_n hx hb dX6_add_49 rfl (lv_at hl 1 rfl) ?_
          refine z_imul hx hb dX6_add_50 ?_
          refine lv_iload_n hx hb dX6_add_51 rfl (lv_at hl 2 rfl) ?_
          refine z_iadd hx hb dX6_add_52 ?_
          refine z_iconst hx hb dX6_add_53 ?_
          refine z_zast hx hb hK hP hD hS 1 3 rfl rfl 1 rfl (250 * a.toNat + b.toNat) (by omega) (by omega) (by omega) dX6_add_54 (fun H locs hP hD hS => ?_)
          have hP : va_P D vwCl (wMo cI cJ cB cZ h a1 a2 a3 a4 a5 a6 a7 0 (uZ eg (250 * a.toNat + b.toNat) 1) fr wt rk nx nd es pp qq st ch bo tp le sz at_ fa fp nu fm nn ou om) H := hP
          have hD : va_D A (wMo cI cJ cB cZ h a1 a2 a3 a4 a5 a6 a7 0 (uZ eg (250 * a.toNat + b.toNat) 1) fr wt rk nx nd es pp qq st ch bo tp le sz at_ fa fp nu fm nn ou om) := hD
          refine lv_aload_n hx hb dX6_add_55 rfl (lv_at hl 0 rfl) ?_
          refine lv_dup hx hb dX6_add_56 rfl ?_
          refine va_get (v := .int (iZ es)) (C := RX6) (T := TX6) (N := 24) (ci := 6) hx hb hts hi_6 hown hK hP 0 rfl rfl 7 (by decide) hw_2 (fun _ h9 => h9) rfl dX6_add_57 ?_
          refine z_iconst hx hb dX6_add_60 ?_
          refine z_iadd hx hb dX6_add_61 ?_
          refine va_put (v := .int (iZ (es + 1))) (ty := .int) (C := RX6) (T := TX6) (N := 24) (ci := 6) hx hb hts hi_6 tyX6 tyX6_ok nmX6 hown hK hP hD hS 0 rfl rfl 7 (by decide) hw_2 (fun _ h9 => h9) rfl (by decide +kernel) rfl rfl (Nat.le_of_ble_eq_true rfl) dX6_add_62 (fun H locs hP hD hS => ?_)
          have hP : va_P D vwCl (wMo cI cJ cB cZ h a1 a2 a3 a4 a5 a6 a7 0 (uZ eg (250 * a.toNat + b.toNat) 1) fr wt rk nx nd (es + 1) pp qq st ch bo tp le sz at_ fa fp nu fm nn ou om) H := hP
          have hD : va_D A (wMo cI cJ cB cZ h a1 a2 a3 a4 a5 a6 a7 0 (uZ eg (250 * a.toNat + b.toNat) 1) fr wt rk nx nd (es + 1) pp qq st ch bo tp le sz at_ fa fp nu fm nn ou om) := hD
          refine lv_aload_n hx hb dX6_add_65 rfl (lv_at hl 0 rfl) ?_
          refine rw_v (wr := []) (va_runV (As := []) (rest := []) ⟨hx, hb, hml, hown, hts⟩ (c_X6_begin l D cI cJ cB cZ h a1 a2 a3 a4 a5 a6 a7 0 (uZ eg (250 * a.toNat + b.toNat) 1) fr wt rk nx nd (es + 1) pp qq st ch bo tp le sz at_ fa fp nu fm nn ou om N (by omega) (by omega) _) (cwV 0 hts gX6_add_X6_begin rfl rfl rfl (by decide +kernel) ⟨Nat.le_of_ble_eq_true rfl, Nat.le_of_ble_eq_true rfl⟩) (pre1V hE hP hD 0 rfl rfl) rfl rfl hl.1 rfl (lv_room (Nat.le_of_ble_eq_true rfl)) dX6_add_66 ⟨Nat.le_of_ble_eq_true rfl, Nat.le_of_ble_eq_true rfl⟩) hP hD hS hA [0, 1, 2, 3, 4, 5, 6, 7] [] rfl rfl (by decide) (by decide) (fun u_13 H locs hr_12 hP hD hS => ?_)
          have hP := hP.sub (ws' := (wMo cI cJ cB cZ h a1 a2 a3 a4 a5 a6 a7 0 (uZ eg (250 * a.toNat + b.toNat) 1) fr wt u_13.1 nx nd (es + 1) pp qq u_13.2.1 u_13.2.2.1 u_13.2.2.2 tp le sz at_ fa fp nu fm nn ou om)) [0, 1, 2, 3, 4, 5, 6, 7] rfl
          have hD := hD.sub (ws' := (wMo cI cJ cB cZ h a1 a2 a3 a4 a5 a6 a7 0 (uZ eg (250 * a.toNat + b.toNat) 1) fr wt u_13.1 nx nd (es + 1) pp qq u_13.2.1 u_13.2.2.1 u_13.2.2.2 tp le sz at_ fa fp nu fm nn ou om)) [0, 1, 2, 3, 4, 5, 6, 7] (by decide) rfl
          obtain ⟨hb9, hb8⟩ := hr_12
          have hb7 := congrArg Prod.fst hb8
          have hb6 := congrArg (fun q => q.2.1) hb8
          have hb5 := congrArg (fun q => q.2.2) hb8
          refine z_iconst hx hb dX6_add_69 ?_
          exact rw_zret (z := 1) (0, uZ eg (250 * a.toNat + b.toNat) 1, fr, wt, u_13.1, nx, nd, es + 1, pp, qq, u_13.2.1, u_13.2.2.1, u_13.2.2.2, tp, le, sz, at_, fa, fp, nu, fm, nn, ou, om) hx hb hr hlocks (Or.inr rfl) hP hD hS (Or.inl ⟨rfl, ⟨by omega, by omega, by omega, by omega, by omega, Bool.eq_false_iff.mpr n3⟩, ⟨(MG_add hM (by omega) (by omega) n3 (by omega)), (RK_beg (by omega) hR hb9), hb7, hb6, hb5, (Nat.le_refl _), (Nat.le_refl _), t1, t2, t3, y1, y2, y3, d1⟩⟩) dX6_add_70
        · refine z_iconst hx hb dX6_add_40 ?_
          exact rw_zret (z := 0) (0, eg, fr, wt, rk, nx, nd, es, pp, qq, st, ch, bo, tp, le, sz, at_, fa, fp, nu, fm, nn, ou, om) hx hb hr hlocks (Or.inl rfl) hP hD hS (Or.inr ⟨rfl, fun q => by first | omega | exact absurd n3 (by rw [q.2.2.2.2.2]; decide), ⟨hM, hR, s1, s2, s3, s5, s6, t1, t2, t3, y1, y2, y3, d1⟩⟩) dX6_add_41
set_option maxHeartbeats 4000000 in
set_option maxRecDepth 100000 in
theorem c_X6_cut (l : Launch) (D : va_G) (cI cJ cB cZ : ClassId) (h a1 a2 a3 a4 a5 a6 a7 : Nat) (thr : Int) (eg fr wt rk nx : Nat → Int) (nd es pp qq st ch bo : Int) (tp : Nat → Int) (le sz at_ fa fp nu fm nn : Int) (ou : Nat → Int) (om : Int) (N : Nat) (E : Ed) (w : Nat → Nat) (P Q : Nat) (x : Nat → Nat) (ks kc ke tl : Nat) (tf : Nat → Int) (ol : Nat) (of_ : Nat → Int) (fk : Int) (hMR : MR N E w P Q x ks kc ke tl tf ol of_ fk (thr, eg, fr, wt, rk, nx, nd, es, pp, qq, st, ch, bo, tp, le, sz, at_, fa, fp, nu, fm, nn, ou, om)) (a : Int) (ha : -2147483648 ≤ a ∧ a < 2147483648) (b : Int) (hb0 : -2147483648 ≤ b ∧ b < 2147483648)  (sz0 : Nat) : Met l yX6_cut wsX6_cut ({ frames := 1, cells := 0, slots := 0, locals := 22 } : Room) (Pre1 D cI cJ cB cZ [.ref h, .int (iZ a), .int (iZ b)] (wMo cI cJ cB cZ h a1 a2 a3 a4 a5 a6 a7 thr eg fr wt rk nx nd es pp qq st ch bo tp le sz at_ fa fp nu fm nn ou om) sz0) (rwI (S := MT) D (fun z U => (z = 1 ∧ (0 ≤ a ∧ a < (N : Int) ∧ 0 ≤ b ∧ b < (N : Int) ∧ E a.toNat b.toNat = true) ∧ MR N (uE E a.toNat b.toNat false) w P Q (beg N) 0 8589934592 8589934592 tl tf ol of_ fk U) ∨ (z = 0 ∧ ¬ (0 ≤ a ∧ a < (N : Int) ∧ 0 ≤ b ∧ b < (N : Int) ∧ E a.toNat b.toNat = true) ∧ MR N E w P Q x ks kc ke tl tf ol of_ fk U)) (fun u => wM cI cJ cB cZ h a1 a2 a3 a4 a5 a6 a7 u) (va_A (wMo cI cJ cB cZ h a1 a2 a3 a4 a5 a6 a7 thr eg fr wt rk nx nd es pp qq st ch bo tp le sz at_ fa fp nu fm nn ou om) sz0)) 0 0 (va_A (wMo cI cJ cB cZ h a1 a2 a3 a4 a5 a6 a7 thr eg fr wt rk nx nd es pp qq st ch bo tp le sz at_ fa fp nu fm nn ou om) sz0) := by
  refine Met.ofW (cc := cX6_cut) (maxL := 3) (ret := (some .boolean)) (by decide) rfl ?_
  intro p e s m args below meth c s₁ B hml hv
  obtain ⟨rfl, hsz, hP, hE, hD0⟩ := hv
  have hx := B.exec
  have hb := B.bytes
  have hr := B.returns
  have hts := atoms_spec (ws := wsX6_cut) B.pre
  have hown : s.vm.findClass RX6 = some m.cls := findClass_of_methodNamed B.named
  have hlocks := B.notSynchronized
  have hK := hE.1
  subst hsz
  have hD := hD0.self (sz := s.heap.size)
  generalize hAe : va_A (wMo cI cJ cB cZ h a1 a2 a3 a4 a5 a6 a7 thr eg fr wt rk nx nd es pp qq st ch bo tp le sz at_ fa fp nu fm nn ou om) s.heap.size = A at hD ⊢
  have hA : ∀ q : Nat, s.heap.size ≤ q → A q := fun q h => by rw [← hAe]; exact Or.inr h
  have hS : va_S A s.heap s.heap [] := va_S.rf
  have hP : va_P D vwCl (wMo cI cJ cB cZ h a1 a2 a3 a4 a5 a6 a7 thr eg fr wt rk nx nd es pp qq st ch bo tp le sz at_ fa fp nu fm nn ou om) s.heap := hP
  have hi_6 : ∀ w ∈ wsX60, w ∈ wsX6_cut := by decide +kernel
  have hw_1 := hts (.fieldLink RX6 1 "RankHouseModel" "thrown" "I") (by decide +kernel)
  have hw_2 := hts (.fieldLink RX6 14 "RankHouseModel" "edge" "[Z") (by decide +kernel)
  have hw_3 := hts (.fieldLink RX6 102 "RankHouseModel" "edges" "I") (by decide +kernel)
  have hl := lv_entry ([.ref h, .int (iZ a), .int (iZ b)]) (n := 3) (Nat.le_of_ble_eq_true rfl)
  rw [lg_entry_eq]
  generalize (lg_sl ([.ref h, .int (iZ a), .int (iZ b)]) ++ List.replicate (3 - (lg_sl ([.ref h, .int (iZ a), .int (iZ b)])).length) Slot.unset).toArray = ls at hl ⊢
  have hl : lv_has ls 3 [(0, .ref h), (1, .int (iZ a)), (2, .int (iZ b))] := hl
  obtain ⟨hM, hR, s1, s2, s3, s5, s6, t1, t2, t3, y1, y2, y3, d1⟩ := id hMR
  dsimp only at hM hR s1 s2 s3 t1 t3 y1 y3 d1
  have hM : MG N E w eg wt nd es := hM
  have hR : RK N P Q x rk pp qq := hR
  have t3 : BY tp tf tl := t3
  have y3 : BY ou of_ ol := y3
  obtain ⟨m1, m2, m3, m4, m5, m6, m7, m8, m9⟩ := id hM
  obtain ⟨k1, k2, k3, k4, k5, k6⟩ := id hR
  refine lv_aload_n hx hb dX6_cut_0 rfl (lv_at hl 0 rfl) ?_
  refine z_iconst hx hb dX6_cut_1 ?_
  refine va_put (v := .int (iZ 0)) (ty := .int) (C := RX6) (T := TX6) (N := 24) (ci := 6) hx hb hts hi_6 tyX6 tyX6_ok nmX6 hown hK hP hD hS 0 rfl rfl 0 (by decide) hw_1 (fun _ h9 => h9) rfl (by decide +kernel) rfl rfl (Nat.le_of_ble_eq_true rfl) dX6_cut_2 (fun H locs hP hD hS => ?_)
  have hP : va_P D vwCl (wMo cI cJ cB cZ h a1 a2 a3 a4 a5 a6 a7 0 eg fr wt rk nx nd es pp qq st ch bo tp le sz at_ fa fp nu fm nn ou om) H := hP
  have hD : va_D A (wMo cI cJ cB cZ h a1 a2 a3 a4 a5 a6 a7 0 eg fr wt rk nx nd es pp qq st ch bo tp le sz at_ fa fp nu fm nn ou om) := hD
  refine lv_aload_n hx hb dX6_cut_5 rfl (lv_at hl 0 rfl) ?_
  refine lv_iload_n hx hb dX6_cut_6 rfl (lv_at hl 1 rfl) ?_
  refine ro_i (va_runV (As := [.int (iZ a)]) (rest := []) ⟨hx, hb, hml, hown, hts⟩ (c_X6_no l D cI cJ cB cZ h a1 a2 a3 a4 a5 a6 a7 0 eg fr wt rk nx nd es pp qq st ch bo tp le sz at_ fa fp nu fm nn ou om a ha N (by omega) m5) (cwV 1 hts gX6_cut_X6_no rfl rfl rfl (by decide +kernel) ⟨Nat.le_of_ble_eq_true rfl, Nat.le_of_ble_eq_true rfl⟩) (pre0V hE hP 0 rfl rfl) rfl rfl hl.1 rfl (lv_room (Nat.le_of_ble_eq_true rfl)) dX6_cut_7 ⟨Nat.le_of_ble_eq_true rfl, Nat.le_of_ble_eq_true rfl⟩) (fun r_1 hr_2 => ?_)
  rcases hr_2 with ⟨rfl, hq_3⟩ | ⟨rfl, hq_3⟩
  · have n1 := hq_3
    refine z_if_ne (tgt := 30) hx hb dX6_cut_10 (by decide) (by omega) (fun _ => ?_) (fun c9 => absurd c9 (by decide))
    refine z_iconst hx hb dX6_cut_30 ?_
    exact rw_zret (z := 0) (0, eg, fr, wt, rk, nx, nd, es, pp, qq, st, ch, bo, tp, le, sz, at_, fa, fp, nu, fm, nn, ou, om) hx hb hr hlocks (Or.inl rfl) hP hD hS (Or.inr ⟨rfl, fun q => by first | omega | exact absurd q.2.2.2.2 n3, ⟨hM, hR, s1, s2, s3, s5, s6, t1, t2, t3, y1, y2, y3, d1⟩⟩) dX6_cut_31
  · have n1 := hq_3
    refine z_if_ne (tgt := 30) hx hb dX6_cut_10 (by decide) (by omega) (fun c9 => absurd c9 (by decide)) (fun _ => ?_)
    refine lv_aload_n hx hb dX6_cut_13 rfl (lv_at hl 0 rfl) ?_
    refine lv_iload_n hx hb dX6_cut_14 rfl (lv_at hl 2 rfl) ?_
    refine ro_i (va_runV (As := [.int (iZ b)]) (rest := []) ⟨hx, hb, hml, hown, hts⟩ (c_X6_no l D cI cJ cB cZ h a1 a2 a3 a4 a5 a6 a7 0 eg fr wt rk nx nd es pp qq st ch bo tp le sz at_ fa fp nu fm nn ou om b hb0 N (by omega) m5) (cwV 1 hts gX6_cut_X6_no rfl rfl rfl (by decide +kernel) ⟨Nat.le_of_ble_eq_true rfl, Nat.le_of_ble_eq_true rfl⟩) (pre0V hE hP 0 rfl rfl) rfl rfl hl.1 rfl (lv_room (Nat.le_of_ble_eq_true rfl)) dX6_cut_15 ⟨Nat.le_of_ble_eq_true rfl, Nat.le_of_ble_eq_true rfl⟩) (fun r_4 hr_5 => ?_)
    rcases hr_5 with ⟨rfl, hq_6⟩ | ⟨rfl, hq_6⟩
    · have n2 := hq_6
      refine z_if_ne (tgt := 30) hx hb dX6_cut_18 (by decide) (by omega) (fun _ => ?_) (fun c9 => absurd c9 (by decide))
      refine z_iconst hx hb dX6_cut_30 ?_
      exact rw_zret (z := 0) (0, eg, fr, wt, rk, nx, nd, es, pp, qq, st, ch, bo, tp, le, sz, at_, fa, fp, nu, fm, nn, ou, om) hx hb hr hlocks (Or.inl rfl) hP hD hS (Or.inr ⟨rfl, fun q => by first | omega | exact absurd q.2.2.2.2 n3, ⟨hM, hR, s1, s2, s3, s5, s6, t1, t2, t3, y1, y2, y3, d1⟩⟩) dX6_cut_31
    · have n2 := hq_6
      refine z_if_ne (tgt := 30) hx hb dX6_cut_18 (by decide) (by omega) (fun c9 => absurd c9 (by decide)) (fun _ => ?_)
      refine lv_aload_n hx hb dX6_cut_21 rfl (lv_at hl 0 rfl) ?_
      refine lv_iload_n hx hb dX6_cut_22 rfl (lv_at hl 1 rfl) ?_
      refine lv_iload_n hx hb dX6_cut_23 rfl (lv_at hl 2 rfl) ?_
      refine ro_i (va_runV (As := [.int (iZ a), .int (iZ b)]) (rest := []) ⟨hx, hb, hml, hown, hts⟩ (c_X6_goes l D cI cJ cB cZ h a1 a2 a3 a4 a5 a6 a7 0 eg fr wt rk nx nd es pp qq st ch bo tp le sz at_ fa fp nu fm nn ou om a b (by omega) (by omega) E m1) (cwV 2 hts gX6_cut_X6_goes rfl rfl rfl (by decide +kernel) ⟨Nat.le_of_ble_eq_true rfl, Nat.le_of_ble_eq_true rfl⟩) (pre0V hE hP 0 rfl rfl) rfl rfl hl.1 rfl (lv_room (Nat.le_of_ble_eq_true rfl)) dX6_cut_24 ⟨Nat.le_of_ble_eq_true rfl, Nat.le_of_ble_eq_true rfl⟩) (fun r_7 hr_8 => ?_)
      rcases hr_8 with ⟨rfl, hq_9⟩ | ⟨rfl, hq_9⟩
      · have n3 := hq_9
        refine z_if_ne (tgt := 32) hx hb dX6_cut_27 (by decide) (by omega) (fun _ => ?_) (fun c9 => absurd c9 (by decide))
        refine lv_aload_n hx hb dX6_cut_32 rfl (lv_at hl 0 rfl) ?_
        refine va_get (v := .ref a1) (C := RX6) (T := TX6) (N := 24) (ci := 6) hx hb hts hi_6 hown hK hP 0 rfl rfl 1 (by decide) hw_2 (fun _ h9 => h9) rfl dX6_cut_33 ?_
        refine z_sipush hx hb dX6_cut_36 (by decide) ?_
        refine lv_iload_n hx hb dX6_cut_39 rfl (lv_at hl 1 rfl) ?_
        refine z_imul hx hb dX6_cut_40 ?_
        refine lv_iload_n hx hb dX6_cut_41 rfl (lv_at hl 2 rfl) ?_
        refine z_iadd hx hb dX6_cut_42 ?_
        refine z_iconst hx hb dX6_cut_43 ?_
        refine z_zast hx hb hK hP hD hS 1 3 rfl rfl 0 rfl (250 * a.toNat + b.toNat) (by omega) (by omega) (by omega) dX6_cut_44 (fun H locs hP hD hS => ?_)
        have hP : va_P D vwCl (wMo cI cJ cB cZ h a1 a2 a3 a4 a5 a6 a7 0 (uZ eg (250 * a.toNat + b.toNat) 0) fr wt rk nx nd es pp qq st ch bo tp le sz at_ fa fp nu fm nn ou om) H := hP
        have hD : va_D A (wMo cI cJ cB cZ h a1 a2 a3 a4 a5 a6 a7 0 (uZ eg (250 * a.toNat + b.toNat) 0) fr wt rk nx nd es pp qq st ch bo tp le sz at_ fa fp nu fm nn ou om) := hD
        refine lv_aload_n hx hb dX6_cut_45 rfl (lv_at hl 0 rfl) ?_
        refine lv_dup hx hb dX6_cut_46 rfl ?_
        refine va_get (v := .int (iZ es)) (C := RX6) (T := TX6) (N := 24) (ci := 6) hx hb hts hi_6 hown hK hP 0 rfl rfl 7 (by decide) hw_3 (fun _ h9 => h9) rfl dX6_cut_47 ?_
        refine z_iconst hx hb dX6_cut_50 ?_
        refine z_isub hx hb dX6_cut_51 ?_
        refine va_put (v := .int (iZ (es - 1))) (ty := .int) (C := RX6) (T := TX6) (N := 24) (ci := 6) hx hb hts hi_6 tyX6 tyX6_ok nmX6 hown hK hP hD hS 0 rfl rfl 7 (by decide) hw_3 (fun _ h9 => h9) rfl (by decide +kernel) rfl rfl (Nat.le_of_ble_eq_true rfl) dX6_cut_52 (fun H locs hP hD hS => ?_)
        have hP : va_P D vwCl (wMo cI cJ cB cZ h a1 a2 a3 a4 a5 a6 a7 0 (uZ eg (250 * a.toNat + b.toNat) 0) fr wt rk nx nd (es - 1) pp qq st ch bo tp le sz at_ fa fp nu fm nn ou om) H := hP
        have hD : va_D A (wMo cI cJ cB cZ h a1 a2 a3 a4 a5 a6 a7 0 (uZ eg (250 * a.toNat + b.toNat) 0) fr wt rk nx nd (es - 1) pp qq st ch bo tp le sz at_ fa fp nu fm nn ou om) := hD
        refine lv_aload_n hx hb dX6_cut_55 rfl (lv_at hl 0 rfl) ?_
        refine rw_v (wr := []) (va_runV (As := []) (rest := []) ⟨hx, hb, hml, hown, hts⟩ (c_X6_begin l D cI cJ cB cZ h a1 a2 a3 a4 a5 a6 a7 0 (uZ eg (250 * a.toNat + b.toNat) 0) fr wt rk nx nd (es - 1) pp qq st ch bo tp le sz at_ fa fp nu fm nn ou om N (by omega) (by omega) _) (cwV 0 hts gX6_cut_X6_begin rfl rfl rfl (by decide +kernel) ⟨Nat.le_of_ble_eq_true rfl, Nat.le_of_ble_eq_true rfl⟩) (pre1V hE hP hD 0 rfl rfl) rfl rfl hl.1 rfl (lv_room (Nat.le_of_ble_eq_true rfl)) dX6_cut_56 ⟨Nat.le_of_ble_eq_true rfl, Nat.le_of_ble_eq_true rfl⟩) hP hD hS hA [0, 1, 2, 3, 4, 5, 6, 7] [] rfl rfl (by decide) (by decide) (fun u_12 H locs hr_11 hP hD hS => ?_)
        have hP := hP.sub (ws' := (wMo cI cJ cB cZ h a1 a2 a3 a4 a5 a6 a7 0 (uZ eg (250 * a.toNat + b.toNat) 0) fr wt u_12.1 nx nd (es - 1) pp qq u_12.2.1 u_12.2.2.1 u_12.2.2.2 tp le sz at_ fa fp nu fm nn ou om)) [0, 1, 2, 3, 4, 5, 6, 7] rfl
        have hD := hD.sub (ws' := (wMo cI cJ cB cZ h a1 a2 a3 a4 a5 a6 a7 0 (uZ eg (250 * a.toNat + b.toNat) 0) fr wt u_12.1 nx nd (es - 1) pp qq u_12.2.1 u_12.2.2.1 u_12.2.2.2 tp le sz at_ fa fp nu fm nn ou om)) [0, 1, 2, 3, 4, 5, 6, 7] (by decide) rfl
        obtain ⟨hb9, hb8⟩ := hr_11
        have hb7 := congrArg Prod.fst hb8
        have hb6 := congrArg (fun q => q.2.1) hb8
        have hb5 := congrArg (fun q => q.2.2) hb8
        refine z_iconst hx hb dX6_cut_59 ?_
        exact rw_zret (z := 1) (0, uZ eg (250 * a.toNat + b.toNat) 0, fr, wt, u_12.1, nx, nd, es - 1, pp, qq, u_12.2.1, u_12.2.2.1, u_12.2.2.2, tp, le, sz, at_, fa, fp, nu, fm, nn, ou, om) hx hb hr hlocks (Or.inr rfl) hP hD hS (Or.inl ⟨rfl, ⟨by omega, by omega, by omega, by omega, n3⟩, ⟨(MG_cut hM (by omega) (by omega) n3), (RK_beg (by omega) hR hb9), hb7, hb6, hb5, (Nat.le_refl _), (Nat.le_refl _), t1, t2, t3, y1, y2, y3, d1⟩⟩) dX6_cut_60
      · have n3 := hq_9
        refine z_if_ne (tgt := 32) hx hb dX6_cut_27 (by decide) (by omega) (fun c9 => absurd c9 (by decide)) (fun _ => ?_)
        refine z_iconst hx hb dX6_cut_30 ?_
        exact rw_zret (z := 0) (0, eg, fr, wt, rk, nx, nd, es, pp, qq, st, ch, bo, tp, le, sz, at_, fa, fp, nu, fm, nn, ou, om) hx hb hr hlocks (Or.inl rfl) hP hD hS (Or.inr ⟨rfl, fun q => by first | omega | exact absurd q.2.2.2.2 n3, ⟨hM, hR, s1, s2, s3, s5, s6, t1, t2, t3, y1, y2, y3, d1⟩⟩) dX6_cut_31
set_option maxHeartbeats 4000000 in
set_option maxRecDepth 100000 in
theorem c_X6_has (l : Launch) (D : va_G) (cI cJ cB cZ : ClassId) (h a1 a2 a3 a4 a5 a6 a7 : Nat) (thr : Int) (eg fr wt rk nx : Nat → Int) (nd es pp qq st ch bo : Int) (tp : Nat → Int) (le sz at_ fa fp nu fm nn : Int) (ou : Nat → Int) (om : Int) (N : Nat) (E : Ed) (w : Nat → Nat) (P Q : Nat) (x : Nat → Nat) (ks kc ke tl : Nat) (tf : Nat → Int) (ol : Nat) (of_ : Nat → Int) (fk : Int) (hMR : MR N E w P Q x ks kc ke tl tf ol of_ fk (thr, eg, fr, wt, rk, nx, nd, es, pp, qq, st, ch, bo, tp, le, sz, at_, fa, fp, nu, fm, nn, ou, om)) (a : Int) (ha : -2147483648 ≤ a ∧ a < 2147483648) (b : Int) (hb0 : -2147483648 ≤ b ∧ b < 2147483648)  (sz0 : Nat) : Met l yX6_has wsX6_has ({ frames := 1, cells := 0, slots := 0, locals := 22 } : Room) (Pre1 D cI cJ cB cZ [.ref h, .int (iZ a), .int (iZ b)] (wMo cI cJ cB cZ h a1 a2 a3 a4 a5 a6 a7 thr eg fr wt rk nx nd es pp qq st ch bo tp le sz at_ fa fp nu fm nn ou om) sz0) (rwI (S := MT) D (fun z U => (z = 1 ∧ (0 ≤ a ∧ a < (N : Int) ∧ 0 ≤ b ∧ b < (N : Int) ∧ E a.toNat b.toNat = true) ∧ MR N E w P Q x ks kc ke tl tf ol of_ fk U) ∨ (z = 0 ∧ ¬ (0 ≤ a ∧ a < (N : Int) ∧ 0 ≤ b ∧ b < (N : Int) ∧ E a.toNat b.toNat = true) ∧ MR N E w P Q x ks kc ke tl tf ol of_ fk U)) (fun u => wM cI cJ cB cZ h a1 a2 a3 a4 a5 a6 a7 u) (va_A (wMo cI cJ cB cZ h a1 a2 a3 a4 a5 a6 a7 thr eg fr wt rk nx nd es pp qq st ch bo tp le sz at_ fa fp nu fm nn ou om) sz0)) 0 0 (va_A (wMo cI cJ cB cZ h a1 a2 a3 a4 a5 a6 a7 thr eg fr wt rk nx nd es pp qq st ch bo tp le sz at_ fa fp nu fm nn ou om) sz0) := by
  refine Met.ofW (cc := cX6_has) (maxL := 3) (ret := (some .boolean)) (by decide) rfl ?_
  intro p e s m args below meth c s₁ B hml hv
  obtain ⟨rfl, hsz, hP, hE, hD0⟩ := hv
  have hx := B.exec
  have hb := B.bytes
  have hr := B.returns
  have hts := atoms_spec (ws := wsX6_has) B.pre
  have hown : s.vm.findClass RX6 = some m.cls := findClass_of_methodNamed B.named
  have hlocks := B.notSynchronized
  have hK := hE.1
  subst hsz
  have hD := hD0.self (sz := s.heap.size)
  generalize hAe : va_A (wMo cI cJ cB cZ h a1 a2 a3 a4 a5 a6 a7 thr eg fr wt rk nx nd es pp qq st ch bo tp le sz at_ fa fp nu fm nn ou om) s.heap.size = A at hD ⊢
  have hA : ∀ q : Nat, s.heap.size ≤ q → A q := fun q h => by rw [← hAe]; exact Or.inr h
  have hS : va_S A s.heap s.heap [] := va_S.rf
  have hP : va_P D vwCl (wMo cI cJ cB cZ h a1 a2 a3 a4 a5 a6 a7 thr eg fr wt rk nx nd es pp qq st ch bo tp le sz at_ fa fp nu fm nn ou om) s.heap := hP
  have hi_6 : ∀ w ∈ wsX60, w ∈ wsX6_has := by decide +kernel
  have hw_1 := hts (.fieldLink RX6 1 "RankHouseModel" "thrown" "I") (by decide +kernel)
  have hl := lv_entry ([.ref h, .int (iZ a), .int (iZ b)]) (n := 3) (Nat.le_of_ble_eq_true rfl)
  rw [lg_entry_eq]
  generalize (lg_sl ([.ref h, .int (iZ a), .int (iZ b)]) ++ List.replicate (3 - (lg_sl ([.ref h, .int (iZ a), .int (iZ b)])).length) Slot.unset).toArray = ls at hl ⊢
  have hl : lv_has ls 3 [(0, .ref h), (1, .int (iZ a)), (2, .int (iZ b))] := hl
  obtain ⟨hM, hR, s1, s2, s3, s5, s6, t1, t2, t3, y1, y2, y3, d1⟩ := id hMR
  dsimp only at hM hR s1 s2 s3 t1 t3 y1 y3 d1
  have hM : MG N E w eg wt nd es := hM
  have hR : RK N P Q x rk pp qq := hR
  have t3 : BY tp tf tl := t3
  have y3 : BY ou of_ ol := y3
  obtain ⟨m1, m2, m3, m4, m5, m6, m7, m8, m9⟩ := id hM
  obtain ⟨k1, k2, k3, k4, k5, k6⟩ := id hR
  refine lv_aload_n hx hb dX6_has_0 rfl (lv_at hl 0 rfl) ?_
  refine z_iconst hx hb dX6_has_1 ?_
  refine va_put (v := .int (iZ 0)) (ty := .int) (C := RX6) (T := TX6) (N := 24) (ci := 6) hx hb hts hi_6 tyX6 tyX6_ok nmX6 hown hK hP hD hS 0 rfl rfl 0 (by decide) hw_1 (fun _ h9 => h9) rfl (by decide +kernel) rfl rfl (Nat.le_of_ble_eq_true rfl) dX6_has_2 (fun H locs hP hD hS => ?_)
  have hP : va_P D vwCl (wMo cI cJ cB cZ h a1 a2 a3 a4 a5 a6 a7 0 eg fr wt rk nx nd es pp qq st ch bo tp le sz at_ fa fp nu fm nn ou om) H := hP
  have hD : va_D A (wMo cI cJ cB cZ h a1 a2 a3 a4 a5 a6 a7 0 eg fr wt rk nx nd es pp qq st ch bo tp le sz at_ fa fp nu fm nn ou om) := hD
  refine lv_aload_n hx hb dX6_has_5 rfl (lv_at hl 0 rfl) ?_
  refine lv_iload_n hx hb dX6_has_6 rfl (lv_at hl 1 rfl) ?_
  refine ro_i (va_runV (As := [.int (iZ a)]) (rest := []) ⟨hx, hb, hml, hown, hts⟩ (c_X6_no l D cI cJ cB cZ h a1 a2 a3 a4 a5 a6 a7 0 eg fr wt rk nx nd es pp qq st ch bo tp le sz at_ fa fp nu fm nn ou om a ha N (by omega) m5) (cwV 1 hts gX6_has_X6_no rfl rfl rfl (by decide +kernel) ⟨Nat.le_of_ble_eq_true rfl, Nat.le_of_ble_eq_true rfl⟩) (pre0V hE hP 0 rfl rfl) rfl rfl hl.1 rfl (lv_room (Nat.le_of_ble_eq_true rfl)) dX6_has_7 ⟨Nat.le_of_ble_eq_true rfl, Nat.le_of_ble_eq_true rfl⟩) (fun r_1 hr_2 => ?_)
  rcases hr_2 with ⟨rfl, hq_3⟩ | ⟨rfl, hq_3⟩
  · have n1 := hq_3
    refine z_if_ne (tgt := 34) hx hb dX6_has_10 (by decide) (by omega) (fun _ => ?_) (fun c9 => absurd c9 (by decide))
    refine z_iconst hx hb dX6_has_34 ?_
    exact rw_zret (z := 0) (0, eg, fr, wt, rk, nx, nd, es, pp, qq, st, ch, bo, tp, le, sz, at_, fa, fp, nu, fm, nn, ou, om) hx hb hr hlocks (Or.inl rfl) hP hD hS (Or.inr ⟨rfl, fun q => by first | omega | exact absurd q.2.2.2.2 n3, ⟨hM, hR, s1, s2, s3, s5, s6, t1, t2, t3, y1, y2, y3, d1⟩⟩) dX6_has_35
  · have n1 := hq_3
    refine z_if_ne (tgt := 34) hx hb dX6_has_10 (by decide) (by omega) (fun c9 => absurd c9 (by decide)) (fun _ => ?_)
    refine lv_aload_n hx hb dX6_has_13 rfl (lv_at hl 0 rfl) ?_
    refine lv_iload_n hx hb dX6_has_14 rfl (lv_at hl 2 rfl) ?_
    refine ro_i (va_runV (As := [.int (iZ b)]) (rest := []) ⟨hx, hb, hml, hown, hts⟩ (c_X6_no l D cI cJ cB cZ h a1 a2 a3 a4 a5 a6 a7 0 eg fr wt rk nx nd es pp qq st ch bo tp le sz at_ fa fp nu fm nn ou om b hb0 N (by omega) m5) (cwV 1 hts gX6_has_X6_no rfl rfl rfl (by decide +kernel) ⟨Nat.le_of_ble_eq_true rfl, Nat.le_of_ble_eq_true rfl⟩) (pre0V hE hP 0 rfl rfl) rfl rfl hl.1 rfl (lv_room (Nat.le_of_ble_eq_true rfl)) dX6_has_15 ⟨Nat.le_of_ble_eq_true rfl, Nat.le_of_ble_eq_true rfl⟩) (fun r_4 hr_5 => ?_)
    rcases hr_5 with ⟨rfl, hq_6⟩ | ⟨rfl, hq_6⟩
    · have n2 := hq_6
      refine z_if_ne (tgt := 34) hx hb dX6_has_18 (by decide) (by omega) (fun _ => ?_) (fun c9 => absurd c9 (by decide))
      refine z_iconst hx hb dX6_has_34 ?_
      exact rw_zret (z := 0) (0, eg, fr, wt, rk, nx, nd, es, pp, qq, st, ch, bo, tp, le, sz, at_, fa, fp, nu, fm, nn, ou, om) hx hb hr hlocks (Or.inl rfl) hP hD hS (Or.inr ⟨rfl, fun q => by first | omega | exact absurd q.2.2.2.2 n3, ⟨hM, hR, s1, s2, s3, s5, s6, t1, t2, t3, y1, y2, y3, d1⟩⟩) dX6_has_35
    · have n2 := hq_6
      refine z_if_ne (tgt := 34) hx hb dX6_has_18 (by decide) (by omega) (fun c9 => absurd c9 (by decide)) (fun _ => ?_)
      refine lv_aload_n hx hb dX6_has_21 rfl (lv_at hl 0 rfl) ?_
      refine lv_iload_n hx hb dX6_has_22 rfl (lv_at hl 1 rfl) ?_
      refine lv_iload_n hx hb dX6_has_23 rfl (lv_at hl 2 rfl) ?_
      refine ro_i (va_runV (As := [.int (iZ a), .int (iZ b)]) (rest := []) ⟨hx, hb, hml, hown, hts⟩ (c_X6_goes l D cI cJ cB cZ h a1 a2 a3 a4 a5 a6 a7 0 eg fr wt rk nx nd es pp qq st ch bo tp le sz at_ fa fp nu fm nn ou om a b (by omega) (by omega) E m1) (cwV 2 hts gX6_has_X6_goes rfl rfl rfl (by decide +kernel) ⟨Nat.le_of_ble_eq_true rfl, Nat.le_of_ble_eq_true rfl⟩) (pre0V hE hP 0 rfl rfl) rfl rfl hl.1 rfl (lv_room (Nat.le_of_ble_eq_true rfl)) dX6_has_24 ⟨Nat.le_of_ble_eq_true rfl, Nat.le_of_ble_eq_true rfl⟩) (fun r_7 hr_8 => ?_)
      rcases hr_8 with ⟨rfl, hq_9⟩ | ⟨rfl, hq_9⟩
      · have n3 := hq_9
        refine z_if_eq (tgt := 34) hx hb dX6_has_27 (by decide) (by omega) (fun c9 => absurd c9 (by decide)) (fun _ => ?_)
        refine z_iconst hx hb dX6_has_30 ?_
        refine lv_goto (tgt := 35) hx hb dX6_has_31 (by decide) ?_
        exact rw_zret (z := 1) (0, eg, fr, wt, rk, nx, nd, es, pp, qq, st, ch, bo, tp, le, sz, at_, fa, fp, nu, fm, nn, ou, om) hx hb hr hlocks (Or.inr rfl) hP hD hS (Or.inl ⟨rfl, ⟨by omega, by omega, by omega, by omega, n3⟩, ⟨hM, hR, s1, s2, s3, s5, s6, t1, t2, t3, y1, y2, y3, d1⟩⟩) dX6_has_35
      · have n3 := hq_9
        refine z_if_eq (tgt := 34) hx hb dX6_has_27 (by decide) (by omega) (fun _ => ?_) (fun c9 => absurd c9 (by decide))
        refine z_iconst hx hb dX6_has_34 ?_
        exact rw_zret (z := 0) (0, eg, fr, wt, rk, nx, nd, es, pp, qq, st, ch, bo, tp, le, sz, at_, fa, fp, nu, fm, nn, ou, om) hx hb hr hlocks (Or.inl rfl) hP hD hS (Or.inr ⟨rfl, fun q => by first | omega | exact absurd q.2.2.2.2 n3, ⟨hM, hR, s1, s2, s3, s5, s6, t1, t2, t3, y1, y2, y3, d1⟩⟩) dX6_has_35
set_option maxHeartbeats 4000000 in
set_option maxRecDepth 100000 in
theorem c_X6_weight (l : Launch) (D : va_G) (cI cJ cB cZ : ClassId) (h a1 a2 a3 a4 a5 a6 a7 : Nat) (thr : Int) (eg fr wt rk nx : Nat → Int) (nd es pp qq st ch bo : Int) (tp : Nat → Int) (le sz at_ fa fp nu fm nn : Int) (ou : Nat → Int) (om : Int) (N : Nat) (E : Ed) (w : Nat → Nat) (P Q : Nat) (x : Nat → Nat) (ks kc ke tl : Nat) (tf : Nat → Int) (ol : Nat) (of_ : Nat → Int) (fk : Int) (hMR : MR N E w P Q x ks kc ke tl tf ol of_ fk (thr, eg, fr, wt, rk, nx, nd, es, pp, qq, st, ch, bo, tp, le, sz, at_, fa, fp, nu, fm, nn, ou, om)) (a : Int) (ha : -2147483648 ≤ a ∧ a < 2147483648) (b : Int) (hb0 : -2147483648 ≤ b ∧ b < 2147483648)  (sz0 : Nat) : Met l yX6_weight wsX6_weight ({ frames := 1, cells := 0, slots := 0, locals := 22 } : Room) (Pre1 D cI cJ cB cZ [.ref h, .int (iZ a), .int (iZ b)] (wMo cI cJ cB cZ h a1 a2 a3 a4 a5 a6 a7 thr eg fr wt rk nx nd es pp qq st ch bo tp le sz at_ fa fp nu fm nn ou om) sz0) (rwI (S := MT) D (fun z U => (z = 1 ∧ (0 ≤ a ∧ a < (N : Int) ∧ 0 ≤ b ∧ b ≤ 1000 ∧ ¬ (fb_sm w N : Int) - (w a.toNat : Int) + b = 0) ∧ MR N E (fun k => if k = a.toNat then b.toNat else w k) P Q (beg N) 0 8589934592 8589934592 tl tf ol of_ fk U) ∨ (z = 0 ∧ ¬ (0 ≤ a ∧ a < (N : Int) ∧ 0 ≤ b ∧ b ≤ 1000 ∧ ¬ (fb_sm w N : Int) - (w a.toNat : Int) + b = 0) ∧ MR N E w P Q x ks kc ke tl tf ol of_ fk U)) (fun u => wM cI cJ cB cZ h a1 a2 a3 a4 a5 a6 a7 u) (va_A (wMo cI cJ cB cZ h a1 a2 a3 a4 a5 a6 a7 thr eg fr wt rk nx nd es pp qq st ch bo tp le sz at_ fa fp nu fm nn ou om) sz0)) 0 0 (va_A (wMo cI cJ cB cZ h a1 a2 a3 a4 a5 a6 a7 thr eg fr wt rk nx nd es pp qq st ch bo tp le sz at_ fa fp nu fm nn ou om) sz0) := by
  refine Met.ofW (cc := cX6_weight) (maxL := 3) (ret := (some .boolean)) (by decide) rfl ?_
  intro p e s m args below meth c s₁ B hml hv
  obtain ⟨rfl, hsz, hP, hE, hD0⟩ := hv
  have hx := B.exec
  have hb := B.bytes
  have hr := B.returns
  have hts := atoms_spec (ws := wsX6_weight) B.pre
  have hown : s.vm.findClass RX6 = some m.cls := findClass_of_methodNamed B.named
  have hlocks := B.notSynchronized
  have hK := hE.1
  subst hsz
  have hD := hD0.self (sz := s.heap.size)
  generalize hAe : va_A (wMo cI cJ cB cZ h a1 a2 a3 a4 a5 a6 a7 thr eg fr wt rk nx nd es pp qq st ch bo tp le sz at_ fa fp nu fm nn ou om) s.heap.size = A at hD ⊢
  have hA : ∀ q : Nat, s.heap.size ≤ q → A q := fun q h => by rw [← hAe]; exact Or.inr h
  have hS : va_S A s.heap s.heap [] := va_S.rf
  have hP : va_P D vwCl (wMo cI cJ cB cZ h a1 a2 a3 a4 a5 a6 a7 thr eg fr wt rk nx nd es pp qq st ch bo tp le sz at_ fa fp nu fm nn ou om) s.heap := hP
  have hi_6 : ∀ w ∈ wsX60, w ∈ wsX6_weight := by decide +kernel
  have hw_1 := hts (.fieldLink RX6 1 "RankHouseModel" "thrown" "I") (by decide +kernel)
  have hw_2 := hts (.fieldLink RX6 21 "RankHouseModel" "weight" "[I") (by decide +kernel)
  have hl := lv_entry ([.ref h, .int (iZ a), .int (iZ b)]) (n := 3) (Nat.le_of_ble_eq_true rfl)
  rw [lg_entry_eq]
  generalize (lg_sl ([.ref h, .int (iZ a), .int (iZ b)]) ++ List.replicate (3 - (lg_sl ([.ref h, .int (iZ a), .int (iZ b)])).length) Slot.unset).toArray = ls at hl ⊢
  have hl : lv_has ls 3 [(0, .ref h), (1, .int (iZ a)), (2, .int (iZ b))] := hl
  obtain ⟨hM, hR, s1, s2, s3, s5, s6, t1, t2, t3, y1, y2, y3, d1⟩ := id hMR
  dsimp only at hM hR s1 s2 s3 t1 t3 y1 y3 d1
  have hM : MG N E w eg wt nd es := hM
  have hR : RK N P Q x rk pp qq := hR
  have t3 : BY tp tf tl := t3
  have y3 : BY ou of_ ol := y3
  obtain ⟨m1, m2, m3, m4, m5, m6, m7, m8, m9⟩ := id hM
  obtain ⟨k1, k2, k3, k4, k5, k6⟩ := id hR
  refine lv_aload_n hx hb dX6_weight_0 rfl (lv_at hl 0 rfl) ?_
  refine z_iconst hx hb dX6_weight_1 ?_
  refine va_put (v := .int (iZ 0)) (ty := .int) (C := RX6) (T := TX6) (N := 24) (ci := 6) hx hb hts hi_6 tyX6 tyX6_ok nmX6 hown hK hP hD hS 0 rfl rfl 0 (by decide) hw_1 (fun _ h9 => h9) rfl (by decide +kernel) rfl rfl (Nat.le_of_ble_eq_true rfl) dX6_weight_2 (fun H locs hP hD hS => ?_)
  have hP : va_P D vwCl (wMo cI cJ cB cZ h a1 a2 a3 a4 a5 a6 a7 0 eg fr wt rk nx nd es pp qq st ch bo tp le sz at_ fa fp nu fm nn ou om) H := hP
  have hD : va_D A (wMo cI cJ cB cZ h a1 a2 a3 a4 a5 a6 a7 0 eg fr wt rk nx nd es pp qq st ch bo tp le sz at_ fa fp nu fm nn ou om) := hD
  refine lv_aload_n hx hb dX6_weight_5 rfl (lv_at hl 0 rfl) ?_
  refine lv_iload_n hx hb dX6_weight_6 rfl (lv_at hl 1 rfl) ?_
  refine ro_i (va_runV (As := [.int (iZ a)]) (rest := []) ⟨hx, hb, hml, hown, hts⟩ (c_X6_no l D cI cJ cB cZ h a1 a2 a3 a4 a5 a6 a7 0 eg fr wt rk nx nd es pp qq st ch bo tp le sz at_ fa fp nu fm nn ou om a ha N (by omega) m5) (cwV 1 hts gX6_weight_X6_no rfl rfl rfl (by decide +kernel) ⟨Nat.le_of_ble_eq_true rfl, Nat.le_of_ble_eq_true rfl⟩) (pre0V hE hP 0 rfl rfl) rfl rfl hl.1 rfl (lv_room (Nat.le_of_ble_eq_true rfl)) dX6_weight_7 ⟨Nat.le_of_ble_eq_true rfl, Nat.le_of_ble_eq_true rfl⟩) (fun r_1 hr_2 => ?_)
  rcases hr_2 with ⟨rfl, hq_3⟩ | ⟨rfl, hq_3⟩
  · have n1 := hq_3
    refine z_if_ne (tgt := 40) hx hb dX6_weight_10 (by decide) (by omega) (fun _ => ?_) (fun c9 => absurd c9 (by decide))
    refine z_iconst hx hb dX6_weight_40 ?_
    exact rw_zret (z := 0) (0, eg, fr, wt, rk, nx, nd, es, pp, qq, st, ch, bo, tp, le, sz, at_, fa, fp, nu, fm, nn, ou, om) hx hb hr hlocks (Or.inl rfl) hP hD hS (Or.inr ⟨rfl, fun q => by omega, ⟨hM, hR, s1, s2, s3, s5, s6, t1, t2, t3, y1, y2, y3, d1⟩⟩) dX6_weight_41
  · have n1 := hq_3
    refine z_if_ne (tgt := 40) hx hb dX6_weight_10 (by decide) (by omega) (fun c9 => absurd c9 (by decide)) (fun _ => ?_)
    refine lv_iload_n hx hb dX6_weight_13 rfl (lv_at hl 2 rfl) ?_
    refine z_if_lt (tgt := 40) hx hb dX6_weight_14 (by decide) (by omega) (fun c_4 => ?_) (fun c_4 => ?_)
    · refine z_iconst hx hb dX6_weight_40 ?_
      exact rw_zret (z := 0) (0, eg, fr, wt, rk, nx, nd, es, pp, qq, st, ch, bo, tp, le, sz, at_, fa, fp, nu, fm, nn, ou, om) hx hb hr hlocks (Or.inl rfl) hP hD hS (Or.inr ⟨rfl, fun q => by omega, ⟨hM, hR, s1, s2, s3, s5, s6, t1, t2, t3, y1, y2, y3, d1⟩⟩) dX6_weight_41
    · refine lv_iload_n hx hb dX6_weight_17 rfl (lv_at hl 2 rfl) ?_
      refine z_sipush hx hb dX6_weight_18 (by decide) ?_
      refine z_icmp_gt (tgt := 40) hx hb dX6_weight_21 (by decide) (by omega) (by omega) (fun c_5 => ?_) (fun c_5 => ?_)
      · refine z_iconst hx hb dX6_weight_40 ?_
        exact rw_zret (z := 0) (0, eg, fr, wt, rk, nx, nd, es, pp, qq, st, ch, bo, tp, le, sz, at_, fa, fp, nu, fm, nn, ou, om) hx hb hr hlocks (Or.inl rfl) hP hD hS (Or.inr ⟨rfl, fun q => by omega, ⟨hM, hR, s1, s2, s3, s5, s6, t1, t2, t3, y1, y2, y3, d1⟩⟩) dX6_weight_41
      · refine lv_aload_n hx hb dX6_weight_24 rfl (lv_at hl 0 rfl) ?_
        refine ro_i (va_runV (As := []) (rest := []) ⟨hx, hb, hml, hown, hts⟩ (c_X6_whole l D cI cJ cB cZ h a1 a2 a3 a4 a5 a6 a7 0 eg fr wt rk nx nd es pp qq st ch bo tp le sz at_ fa fp nu fm nn ou om N E w hM) (cwV 0 hts gX6_weight_X6_whole rfl rfl rfl (by decide +kernel) ⟨Nat.le_of_ble_eq_true rfl, Nat.le_of_ble_eq_true rfl⟩) (pre0V hE hP 0 rfl rfl) rfl rfl hl.1 rfl (lv_room (Nat.le_of_ble_eq_true rfl)) dX6_weight_25 ⟨Nat.le_of_ble_eq_true rfl, Nat.le_of_ble_eq_true rfl⟩) (fun r_6 hr_7 => ?_)
        have n4 := hr_7
        have n5 := (m8 a.toNat (by omega)).1
        have n6 := MG_thr hM
        have n7 := (m8 a.toNat (by omega)).2
        refine lv_aload_n hx hb dX6_weight_28 rfl (lv_at hl 0 rfl) ?_
        refine va_get (v := .ref a3) (C := RX6) (T := TX6) (N := 24) (ci := 6) hx hb hts hi_6 hown hK hP 0 rfl rfl 3 (by decide) hw_2 (fun _ h9 => h9) rfl dX6_weight_29 ?_
        refine lv_iload_n hx hb dX6_weight_32 rfl (lv_at hl 1 rfl) ?_
        refine z_iald hx hb hK hP 3 0 rfl rfl a.toNat (by omega) (by omega) (by omega) dX6_weight_33 ?_
        refine z_isub hx hb dX6_weight_34 ?_
        refine lv_iload_n hx hb dX6_weight_35 rfl (lv_at hl 2 rfl) ?_
        refine z_iadd hx hb dX6_weight_36 ?_
        refine z_if_ne (tgt := 42) hx hb dX6_weight_37 (by decide) (by omega) (fun c_8 => ?_) (fun c_8 => ?_)
        · refine lv_aload_n hx hb dX6_weight_42 rfl (lv_at hl 0 rfl) ?_
          refine va_get (v := .ref a3) (C := RX6) (T := TX6) (N := 24) (ci := 6) hx hb hts hi_6 hown hK hP 0 rfl rfl 3 (by decide) hw_2 (fun _ h9 => h9) rfl dX6_weight_43 ?_
          refine lv_iload_n hx hb dX6_weight_46 rfl (lv_at hl 1 rfl) ?_
          refine lv_iload_n hx hb dX6_weight_47 rfl (lv_at hl 2 rfl) ?_
          refine z_iast hx hb hK hP hD hS 3 0 rfl rfl a.toNat (by omega) (by omega) (by omega) dX6_weight_48 (fun H locs hP hD hS => ?_)
          have hP : va_P D vwCl (wMo cI cJ cB cZ h a1 a2 a3 a4 a5 a6 a7 0 eg fr (uZ wt a.toNat b) rk nx nd es pp qq st ch bo tp le sz at_ fa fp nu fm nn ou om) H := hP
          have hD : va_D A (wMo cI cJ cB cZ h a1 a2 a3 a4 a5 a6 a7 0 eg fr (uZ wt a.toNat b) rk nx nd es pp qq st ch bo tp le sz at_ fa fp nu fm nn ou om) := hD
          refine lv_aload_n hx hb dX6_weight_49 rfl (lv_at hl 0 rfl) ?_
          refine rw_v (wr := []) (va_runV (As := []) (rest := []) ⟨hx, hb, hml, hown, hts⟩ (c_X6_begin l D cI cJ cB cZ h a1 a2 a3 a4 a5 a6 a7 0 eg fr (uZ wt a.toNat b) rk nx nd es pp qq st ch bo tp le sz at_ fa fp nu fm nn ou om N (by omega) (by omega) _) (cwV 0 hts gX6_weight_X6_begin rfl rfl rfl (by decide +kernel) ⟨Nat.le_of_ble_eq_true rfl, Nat.le_of_ble_eq_true rfl⟩) (pre1V hE hP hD 0 rfl rfl) rfl rfl hl.1 rfl (lv_room (Nat.le_of_ble_eq_true rfl)) dX6_weight_50 ⟨Nat.le_of_ble_eq_true rfl, Nat.le_of_ble_eq_true rfl⟩) hP hD hS hA [0, 1, 2, 3, 4, 5, 6, 7] [] rfl rfl (by decide) (by decide) (fun u_11 H locs hr_10 hP hD hS => ?_)
          have hP := hP.sub (ws' := (wMo cI cJ cB cZ h a1 a2 a3 a4 a5 a6 a7 0 eg fr (uZ wt a.toNat b) u_11.1 nx nd es pp qq u_11.2.1 u_11.2.2.1 u_11.2.2.2 tp le sz at_ fa fp nu fm nn ou om)) [0, 1, 2, 3, 4, 5, 6, 7] rfl
          have hD := hD.sub (ws' := (wMo cI cJ cB cZ h a1 a2 a3 a4 a5 a6 a7 0 eg fr (uZ wt a.toNat b) u_11.1 nx nd es pp qq u_11.2.1 u_11.2.2.1 u_11.2.2.2 tp le sz at_ fa fp nu fm nn ou om)) [0, 1, 2, 3, 4, 5, 6, 7] (by decide) rfl
          obtain ⟨hb9, hb8⟩ := hr_10
          have hb7 := congrArg Prod.fst hb8
          have hb6 := congrArg (fun q => q.2.1) hb8
          have hb5 := congrArg (fun q => q.2.2) hb8
          refine z_iconst hx hb dX6_weight_53 ?_
          exact rw_zret (z := 1) (0, eg, fr, uZ wt a.toNat b, u_11.1, nx, nd, es, pp, qq, u_11.2.1, u_11.2.2.1, u_11.2.2.2, tp, le, sz, at_, fa, fp, nu, fm, nn, ou, om) hx hb hr hlocks (Or.inr rfl) hP hD hS (Or.inl ⟨rfl, by omega, ⟨(MG_wei hM (by omega) (by omega) (by omega)), (RK_beg (by omega) hR hb9), hb7, hb6, hb5, (Nat.le_refl _), (Nat.le_refl _), t1, t2, t3, y1, y2, y3, d1⟩⟩) dX6_weight_54
        · refine z_iconst hx hb dX6_weight_40 ?_
          exact rw_zret (z := 0) (0, eg, fr, wt, rk, nx, nd, es, pp, qq, st, ch, bo, tp, le, sz, at_, fa, fp, nu, fm, nn, ou, om) hx hb hr hlocks (Or.inl rfl) hP hD hS (Or.inr ⟨rfl, fun q => by omega, ⟨hM, hR, s1, s2, s3, s5, s6, t1, t2, t3, y1, y2, y3, d1⟩⟩) dX6_weight_41
set_option maxHeartbeats 4000000 in
set_option maxRecDepth 100000 in
theorem c_X6_damping (l : Launch) (D : va_G) (cI cJ cB cZ : ClassId) (h a1 a2 a3 a4 a5 a6 a7 : Nat) (thr : Int) (eg fr wt rk nx : Nat → Int) (nd es pp qq st ch bo : Int) (tp : Nat → Int) (le sz at_ fa fp nu fm nn : Int) (ou : Nat → Int) (om : Int) (N : Nat) (E : Ed) (w : Nat → Nat) (P Q : Nat) (x : Nat → Nat) (ks kc ke tl : Nat) (tf : Nat → Int) (ol : Nat) (of_ : Nat → Int) (fk : Int) (hMR : MR N E w P Q x ks kc ke tl tf ol of_ fk (thr, eg, fr, wt, rk, nx, nd, es, pp, qq, st, ch, bo, tp, le, sz, at_, fa, fp, nu, fm, nn, ou, om)) (a : Int) (ha : -2147483648 ≤ a ∧ a < 2147483648) (b : Int) (hb0 : -2147483648 ≤ b ∧ b < 2147483648)  (sz0 : Nat) : Met l yX6_damping wsX6_damping ({ frames := 1, cells := 0, slots := 0, locals := 21 } : Room) (Pre1 D cI cJ cB cZ [.ref h, .int (iZ a), .int (iZ b)] (wMo cI cJ cB cZ h a1 a2 a3 a4 a5 a6 a7 thr eg fr wt rk nx nd es pp qq st ch bo tp le sz at_ fa fp nu fm nn ou om) sz0) (rwI (S := MT) D (fun z U => (z = 1 ∧ (0 ≤ a ∧ a < b ∧ b < 1073741824) ∧ MR N E w a.toNat b.toNat (beg N) 0 8589934592 8589934592 tl tf ol of_ fk U) ∨ (z = 0 ∧ ¬ (0 ≤ a ∧ a < b ∧ b < 1073741824) ∧ MR N E w P Q x ks kc ke tl tf ol of_ fk U)) (fun u => wM cI cJ cB cZ h a1 a2 a3 a4 a5 a6 a7 u) (va_A (wMo cI cJ cB cZ h a1 a2 a3 a4 a5 a6 a7 thr eg fr wt rk nx nd es pp qq st ch bo tp le sz at_ fa fp nu fm nn ou om) sz0)) 0 0 (va_A (wMo cI cJ cB cZ h a1 a2 a3 a4 a5 a6 a7 thr eg fr wt rk nx nd es pp qq st ch bo tp le sz at_ fa fp nu fm nn ou om) sz0) := by
  refine Met.ofW (cc := cX6_damping) (maxL := 3) (ret := (some .boolean)) (by decide) rfl ?_
  intro p e s m args below meth c s₁ B hml hv
  obtain ⟨rfl, hsz, hP, hE, hD0⟩ := hv
  have hx := B.exec
  have hb := B.bytes
  have hr := B.returns
  have hts := atoms_spec (ws := wsX6_damping) B.pre
  have hown : s.vm.findClass RX6 = some m.cls := findClass_of_methodNamed B.named
  have hlocks := B.notSynchronized
  have hK := hE.1
  subst hsz
  have hD := hD0.self (sz := s.heap.size)
  generalize hAe : va_A (wMo cI cJ cB cZ h a1 a2 a3 a4 a5 a6 a7 thr eg fr wt rk nx nd es pp qq st ch bo tp le sz at_ fa fp nu fm nn ou om) s.heap.size = A at hD ⊢
  have hA : ∀ q : Nat, s.heap.size ≤ q → A q := fun q h => by rw [← hAe]; exact Or.inr h
  have hS : va_S A s.heap s.heap [] := va_S.rf
  have hP : va_P D vwCl (wMo cI cJ cB cZ h a1 a2 a3 a4 a5 a6 a7 thr eg fr wt rk nx nd es pp qq st ch bo tp le sz at_ fa fp nu fm nn ou om) s.heap := hP
  have hi_6 : ∀ w ∈ wsX60, w ∈ wsX6_damping := by decide +kernel
  have hw_1 := hts (.fieldLink RX6 1 "RankHouseModel" "thrown" "I") (by decide +kernel)
  have hw_2 := hts (.constant RX6 130 (1073741824)) (by decide +kernel)
  have hw_3 := hts (.fieldLink RX6 35 "RankHouseModel" "p" "I") (by decide +kernel)
  have hw_4 := hts (.fieldLink RX6 38 "RankHouseModel" "q" "I") (by decide +kernel)
  have hl := lv_entry ([.ref h, .int (iZ a), .int (iZ b)]) (n := 3) (Nat.le_of_ble_eq_true rfl)
  rw [lg_entry_eq]
  generalize (lg_sl ([.ref h, .int (iZ a), .int (iZ b)]) ++ List.replicate (3 - (lg_sl ([.ref h, .int (iZ a), .int (iZ b)])).length) Slot.unset).toArray = ls at hl ⊢
  have hl : lv_has ls 3 [(0, .ref h), (1, .int (iZ a)), (2, .int (iZ b))] := hl
  obtain ⟨hM, hR, s1, s2, s3, s5, s6, t1, t2, t3, y1, y2, y3, d1⟩ := id hMR
  dsimp only at hM hR s1 s2 s3 t1 t3 y1 y3 d1
  have hM : MG N E w eg wt nd es := hM
  have hR : RK N P Q x rk pp qq := hR
  have t3 : BY tp tf tl := t3
  have y3 : BY ou of_ ol := y3
  obtain ⟨m1, m2, m3, m4, m5, m6, m7, m8, m9⟩ := id hM
  obtain ⟨k1, k2, k3, k4, k5, k6⟩ := id hR
  refine lv_aload_n hx hb dX6_damping_0 rfl (lv_at hl 0 rfl) ?_
  refine z_iconst hx hb dX6_damping_1 ?_
  refine va_put (v := .int (iZ 0)) (ty := .int) (C := RX6) (T := TX6) (N := 24) (ci := 6) hx hb hts hi_6 tyX6 tyX6_ok nmX6 hown hK hP hD hS 0 rfl rfl 0 (by decide) hw_1 (fun _ h9 => h9) rfl (by decide +kernel) rfl rfl (Nat.le_of_ble_eq_true rfl) dX6_damping_2 (fun H locs hP hD hS => ?_)
  have hP : va_P D vwCl (wMo cI cJ cB cZ h a1 a2 a3 a4 a5 a6 a7 0 eg fr wt rk nx nd es pp qq st ch bo tp le sz at_ fa fp nu fm nn ou om) H := hP
  have hD : va_D A (wMo cI cJ cB cZ h a1 a2 a3 a4 a5 a6 a7 0 eg fr wt rk nx nd es pp qq st ch bo tp le sz at_ fa fp nu fm nn ou om) := hD
  refine lv_iload_n hx hb dX6_damping_5 rfl (lv_at hl 1 rfl) ?_
  refine z_if_lt (tgt := 20) hx hb dX6_damping_6 (by decide) (by omega) (fun c_1 => ?_) (fun c_1 => ?_)
  · refine z_iconst hx hb dX6_damping_20 ?_
    exact rw_zret (z := 0) (0, eg, fr, wt, rk, nx, nd, es, pp, qq, st, ch, bo, tp, le, sz, at_, fa, fp, nu, fm, nn, ou, om) hx hb hr hlocks (Or.inl rfl) hP hD hS (Or.inr ⟨rfl, fun q => by omega, ⟨hM, hR, s1, s2, s3, s5, s6, t1, t2, t3, y1, y2, y3, d1⟩⟩) dX6_damping_21
  · refine lv_iload_n hx hb dX6_damping_9 rfl (lv_at hl 1 rfl) ?_
    refine lv_iload_n hx hb dX6_damping_10 rfl (lv_at hl 2 rfl) ?_
    refine z_icmp_ge (tgt := 20) hx hb dX6_damping_11 (by decide) (by omega) (by omega) (fun c_2 => ?_) (fun c_2 => ?_)
    · refine z_iconst hx hb dX6_damping_20 ?_
      exact rw_zret (z := 0) (0, eg, fr, wt, rk, nx, nd, es, pp, qq, st, ch, bo, tp, le, sz, at_, fa, fp, nu, fm, nn, ou, om) hx hb hr hlocks (Or.inl rfl) hP hD hS (Or.inr ⟨rfl, fun q => by omega, ⟨hM, hR, s1, s2, s3, s5, s6, t1, t2, t3, y1, y2, y3, d1⟩⟩) dX6_damping_21
    · refine lv_iload_n hx hb dX6_damping_14 rfl (lv_at hl 2 rfl) ?_
      refine z_ldc hx hb (1073741824) hown hw_2 (by decide) dX6_damping_15 ?_
      refine z_icmp_lt (tgt := 22) hx hb dX6_damping_17 (by decide) (by omega) (by omega) (fun c_3 => ?_) (fun c_3 => ?_)
      · refine lv_aload_n hx hb dX6_damping_22 rfl (lv_at hl 0 rfl) ?_
        refine lv_iload_n hx hb dX6_damping_23 rfl (lv_at hl 1 rfl) ?_
        refine va_put (v := .int (iZ a)) (ty := .int) (C := RX6) (T := TX6) (N := 24) (ci := 6) hx hb hts hi_6 tyX6 tyX6_ok nmX6 hown hK hP hD hS 0 rfl rfl 8 (by decide) hw_3 (fun _ h9 => h9) rfl (by decide +kernel) rfl rfl (Nat.le_of_ble_eq_true rfl) dX6_damping_24 (fun H locs hP hD hS => ?_)
        have hP : va_P D vwCl (wMo cI cJ cB cZ h a1 a2 a3 a4 a5 a6 a7 0 eg fr wt rk nx nd es a qq st ch bo tp le sz at_ fa fp nu fm nn ou om) H := hP
        have hD : va_D A (wMo cI cJ cB cZ h a1 a2 a3 a4 a5 a6 a7 0 eg fr wt rk nx nd es a qq st ch bo tp le sz at_ fa fp nu fm nn ou om) := hD
        refine lv_aload_n hx hb dX6_damping_27 rfl (lv_at hl 0 rfl) ?_
        refine lv_iload_n hx hb dX6_damping_28 rfl (lv_at hl 2 rfl) ?_
        refine va_put (v := .int (iZ b)) (ty := .int) (C := RX6) (T := TX6) (N := 24) (ci := 6) hx hb hts hi_6 tyX6 tyX6_ok nmX6 hown hK hP hD hS 0 rfl rfl 9 (by decide) hw_4 (fun _ h9 => h9) rfl (by decide +kernel) rfl rfl (Nat.le_of_ble_eq_true rfl) dX6_damping_29 (fun H locs hP hD hS => ?_)
        have hP : va_P D vwCl (wMo cI cJ cB cZ h a1 a2 a3 a4 a5 a6 a7 0 eg fr wt rk nx nd es a b st ch bo tp le sz at_ fa fp nu fm nn ou om) H := hP
        have hD : va_D A (wMo cI cJ cB cZ h a1 a2 a3 a4 a5 a6 a7 0 eg fr wt rk nx nd es a b st ch bo tp le sz at_ fa fp nu fm nn ou om) := hD
        refine lv_aload_n hx hb dX6_damping_32 rfl (lv_at hl 0 rfl) ?_
        refine rw_v (wr := []) (va_runV (As := []) (rest := []) ⟨hx, hb, hml, hown, hts⟩ (c_X6_begin l D cI cJ cB cZ h a1 a2 a3 a4 a5 a6 a7 0 eg fr wt rk nx nd es a b st ch bo tp le sz at_ fa fp nu fm nn ou om N (by omega) (by omega) _) (cwV 0 hts gX6_damping_X6_begin rfl rfl rfl (by decide +kernel) ⟨Nat.le_of_ble_eq_true rfl, Nat.le_of_ble_eq_true rfl⟩) (pre1V hE hP hD 0 rfl rfl) rfl rfl hl.1 rfl (lv_room (Nat.le_of_ble_eq_true rfl)) dX6_damping_33 ⟨Nat.le_of_ble_eq_true rfl, Nat.le_of_ble_eq_true rfl⟩) hP hD hS hA [0, 1, 2, 3, 4, 5, 6, 7] [] rfl rfl (by decide) (by decide) (fun u_6 H locs hr_5 hP hD hS => ?_)
        have hP := hP.sub (ws' := (wMo cI cJ cB cZ h a1 a2 a3 a4 a5 a6 a7 0 eg fr wt u_6.1 nx nd es a b u_6.2.1 u_6.2.2.1 u_6.2.2.2 tp le sz at_ fa fp nu fm nn ou om)) [0, 1, 2, 3, 4, 5, 6, 7] rfl
        have hD := hD.sub (ws' := (wMo cI cJ cB cZ h a1 a2 a3 a4 a5 a6 a7 0 eg fr wt u_6.1 nx nd es a b u_6.2.1 u_6.2.2.1 u_6.2.2.2 tp le sz at_ fa fp nu fm nn ou om)) [0, 1, 2, 3, 4, 5, 6, 7] (by decide) rfl
        obtain ⟨hb9, hb8⟩ := hr_5
        have hb7 := congrArg Prod.fst hb8
        have hb6 := congrArg (fun q => q.2.1) hb8
        have hb5 := congrArg (fun q => q.2.2) hb8
        refine z_iconst hx hb dX6_damping_36 ?_
        exact rw_zret (z := 1) (0, eg, fr, wt, u_6.1, nx, nd, es, a, b, u_6.2.1, u_6.2.2.1, u_6.2.2.2, tp, le, sz, at_, fa, fp, nu, fm, nn, ou, om) hx hb hr hlocks (Or.inr rfl) hP hD hS (Or.inl ⟨rfl, by omega, ⟨hM, ⟨by dsimp only; omega, by dsimp only; omega, by omega, by omega, hb9, Nat.le_of_eq (beg_sum (by omega))⟩, hb7, hb6, hb5, (Nat.le_refl _), (Nat.le_refl _), t1, t2, t3, y1, y2, y3, d1⟩⟩) dX6_damping_37
      · refine z_iconst hx hb dX6_damping_20 ?_
        exact rw_zret (z := 0) (0, eg, fr, wt, rk, nx, nd, es, pp, qq, st, ch, bo, tp, le, sz, at_, fa, fp, nu, fm, nn, ou, om) hx hb hr hlocks (Or.inl rfl) hP hD hS (Or.inr ⟨rfl, fun q => by omega, ⟨hM, hR, s1, s2, s3, s5, s6, t1, t2, t3, y1, y2, y3, d1⟩⟩) dX6_damping_21
set_option maxHeartbeats 4000000 in
set_option maxRecDepth 100000 in
theorem c_X6_again (l : Launch) (D : va_G) (cI cJ cB cZ : ClassId) (h a1 a2 a3 a4 a5 a6 a7 : Nat) (thr : Int) (eg fr wt rk nx : Nat → Int) (nd es pp qq st ch bo : Int) (tp : Nat → Int) (le sz at_ fa fp nu fm nn : Int) (ou : Nat → Int) (om : Int) (N : Nat) (E : Ed) (w : Nat → Nat) (P Q : Nat) (x : Nat → Nat) (ks kc ke tl : Nat) (tf : Nat → Int) (ol : Nat) (of_ : Nat → Int) (fk : Int) (hMR : MR N E w P Q x ks kc ke tl tf ol of_ fk (thr, eg, fr, wt, rk, nx, nd, es, pp, qq, st, ch, bo, tp, le, sz, at_, fa, fp, nu, fm, nn, ou, om))  (sz0 : Nat) : Met l yX6_again wsX6_again ({ frames := 1, cells := 0, slots := 0, locals := 21 } : Room) (Pre1 D cI cJ cB cZ [.ref h] (wMo cI cJ cB cZ h a1 a2 a3 a4 a5 a6 a7 thr eg fr wt rk nx nd es pp qq st ch bo tp le sz at_ fa fp nu fm nn ou om) sz0) (rwV (S := MT) D (fun U => MR N E w P Q (beg N) 0 8589934592 8589934592 tl tf ol of_ fk U) (fun u => wM cI cJ cB cZ h a1 a2 a3 a4 a5 a6 a7 u) (va_A (wMo cI cJ cB cZ h a1 a2 a3 a4 a5 a6 a7 thr eg fr wt rk nx nd es pp qq st ch bo tp le sz at_ fa fp nu fm nn ou om) sz0)) 0 0 (va_A (wMo cI cJ cB cZ h a1 a2 a3 a4 a5 a6 a7 thr eg fr wt rk nx nd es pp qq st ch bo tp le sz at_ fa fp nu fm nn ou om) sz0) := by
  refine Met.ofW (cc := cX6_again) (maxL := 1) (ret := none) (by decide) rfl ?_
  intro p e s m args below meth c s₁ B hml hv
  obtain ⟨rfl, hsz, hP, hE, hD0⟩ := hv
  have hx := B.exec
  have hb := B.bytes
  have hr := B.returns
  have hts := atoms_spec (ws := wsX6_again) B.pre
  have hown : s.vm.findClass RX6 = some m.cls := findClass_of_methodNamed B.named
  have hlocks := B.notSynchronized
  have hK := hE.1
  subst hsz
  have hD := hD0.self (sz := s.heap.size)
  generalize hAe : va_A (wMo cI cJ cB cZ h a1 a2 a3 a4 a5 a6 a7 thr eg fr wt rk nx nd es pp qq st ch bo tp le sz at_ fa fp nu fm nn ou om) s.heap.size = A at hD ⊢
  have hA : ∀ q : Nat, s.heap.size ≤ q → A q := fun q h => by rw [← hAe]; exact Or.inr h
  have hS : va_S A s.heap s.heap [] := va_S.rf
  have hP : va_P D vwCl (wMo cI cJ cB cZ h a1 a2 a3 a4 a5 a6 a7 thr eg fr wt rk nx nd es pp qq st ch bo tp le sz at_ fa fp nu fm nn ou om) s.heap := hP
  have hi_6 : ∀ w ∈ wsX60, w ∈ wsX6_again := by decide +kernel
  have hw_1 := hts (.fieldLink RX6 1 "RankHouseModel" "thrown" "I") (by decide +kernel)
  have hl := lv_entry ([.ref h]) (n := 1) (Nat.le_of_ble_eq_true rfl)
  rw [lg_entry_eq]
  generalize (lg_sl ([.ref h]) ++ List.replicate (1 - (lg_sl ([.ref h])).length) Slot.unset).toArray = ls at hl ⊢
  have hl : lv_has ls 1 [(0, .ref h)] := hl
  obtain ⟨hM, hR, s1, s2, s3, s5, s6, t1, t2, t3, y1, y2, y3, d1⟩ := id hMR
  dsimp only at hM hR s1 s2 s3 t1 t3 y1 y3 d1
  have hM : MG N E w eg wt nd es := hM
  have hR : RK N P Q x rk pp qq := hR
  have t3 : BY tp tf tl := t3
  have y3 : BY ou of_ ol := y3
  obtain ⟨m1, m2, m3, m4, m5, m6, m7, m8, m9⟩ := id hM
  obtain ⟨k1, k2, k3, k4, k5, k6⟩ := id hR
  refine lv_aload_n hx hb dX6_again_0 rfl (lv_at hl 0 rfl) ?_
  refine z_iconst hx hb dX6_again_1 ?_
  refine va_put (v := .int (iZ 0)) (ty := .int) (C := RX6) (T := TX6) (N := 24) (ci := 6) hx hb hts hi_6 tyX6 tyX6_ok nmX6 hown hK hP hD hS 0 rfl rfl 0 (by decide) hw_1 (fun _ h9 => h9) rfl (by decide +kernel) rfl rfl (Nat.le_of_ble_eq_true rfl) dX6_again_2 (fun H locs hP hD hS => ?_)
  have hP : va_P D vwCl (wMo cI cJ cB cZ h a1 a2 a3 a4 a5 a6 a7 0 eg fr wt rk nx nd es pp qq st ch bo tp le sz at_ fa fp nu fm nn ou om) H := hP
  have hD : va_D A (wMo cI cJ cB cZ h a1 a2 a3 a4 a5 a6 a7 0 eg fr wt rk nx nd es pp qq st ch bo tp le sz at_ fa fp nu fm nn ou om) := hD
  refine lv_aload_n hx hb dX6_again_5 rfl (lv_at hl 0 rfl) ?_
  refine rw_v (wr := []) (va_runV (As := []) (rest := []) ⟨hx, hb, hml, hown, hts⟩ (c_X6_begin l D cI cJ cB cZ h a1 a2 a3 a4 a5 a6 a7 0 eg fr wt rk nx nd es pp qq st ch bo tp le sz at_ fa fp nu fm nn ou om N (by omega) (by omega) _) (cwV 0 hts gX6_again_X6_begin rfl rfl rfl (by decide +kernel) ⟨Nat.le_of_ble_eq_true rfl, Nat.le_of_ble_eq_true rfl⟩) (pre1V hE hP hD 0 rfl rfl) rfl rfl hl.1 rfl (lv_room (Nat.le_of_ble_eq_true rfl)) dX6_again_6 ⟨Nat.le_of_ble_eq_true rfl, Nat.le_of_ble_eq_true rfl⟩) hP hD hS hA [0, 1, 2, 3, 4, 5, 6, 7] [] rfl rfl (by decide) (by decide) (fun u_3 H locs hr_2 hP hD hS => ?_)
  have hP := hP.sub (ws' := (wMo cI cJ cB cZ h a1 a2 a3 a4 a5 a6 a7 0 eg fr wt u_3.1 nx nd es pp qq u_3.2.1 u_3.2.2.1 u_3.2.2.2 tp le sz at_ fa fp nu fm nn ou om)) [0, 1, 2, 3, 4, 5, 6, 7] rfl
  have hD := hD.sub (ws' := (wMo cI cJ cB cZ h a1 a2 a3 a4 a5 a6 a7 0 eg fr wt u_3.1 nx nd es pp qq u_3.2.1 u_3.2.2.1 u_3.2.2.2 tp le sz at_ fa fp nu fm nn ou om)) [0, 1, 2, 3, 4, 5, 6, 7] (by decide) rfl
  obtain ⟨hb9, hb8⟩ := hr_2
  have hb7 := congrArg Prod.fst hb8
  have hb6 := congrArg (fun q => q.2.1) hb8
  have hb5 := congrArg (fun q => q.2.2) hb8
  exact rw_vret (0, eg, fr, wt, u_3.1, nx, nd, es, pp, qq, u_3.2.1, u_3.2.2.1, u_3.2.2.2, tp, le, sz, at_, fa, fp, nu, fm, nn, ou, om) hx hb hr hlocks hP hD hS ⟨hM, (RK_beg (by omega) hR hb9), hb7, hb6, hb5, (Nat.le_refl _), (Nat.le_refl _), t1, t2, t3, y1, y2, y3, d1⟩ dX6_again_9
