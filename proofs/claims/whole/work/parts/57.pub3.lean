set_option maxHeartbeats 4000000 in
set_option maxRecDepth 100000 in
theorem c_X6_giver (l : Launch) (D : va_G) (cI cJ cB cZ : ClassId) (h a1 a2 a3 a4 a5 a6 a7 : Nat) (thr : Int) (eg fr wt rk nx : Nat → Int) (nd es pp qq st ch bo : Int) (tp : Nat → Int) (le sz at_ fa fp nu fm nn : Int) (ou : Nat → Int) (om : Int) (N : Nat) (E : Ed) (w : Nat → Nat) (P Q : Nat) (x : Nat → Nat) (ks kc ke tl : Nat) (tf : Nat → Int) (ol : Nat) (of_ : Nat → Int) (fk : Int) (hMR : MR N E w P Q x ks kc ke tl tf ol of_ fk (thr, eg, fr, wt, rk, nx, nd, es, pp, qq, st, ch, bo, tp, le, sz, at_, fa, fp, nu, fm, nn, ou, om)) (a : Int) (ha : -2147483648 ≤ a ∧ a < 2147483648) (b : Int) (hb0 : -2147483648 ≤ b ∧ b < 2147483648)  (sz0 : Nat) : Met l yX6_giver wsX6_giver ({ frames := 3, cells := 0, slots := 0, locals := 67 } : Room) (Pre1 D cI cJ cB cZ [.ref h, .int (iZ a), .int (iZ b)] (wMo cI cJ cB cZ h a1 a2 a3 a4 a5 a6 a7 thr eg fr wt rk nx nd es pp qq st ch bo tp le sz at_ fa fp nu fm nn ou om) sz0) (rwI (S := MT) D (fun z U => TK (pin E N a) (shr E N P Q x) N b z ∧ MR N E w P Q x ks kc ke tl tf ol of_ fk U) (fun u => wM cI cJ cB cZ h a1 a2 a3 a4 a5 a6 a7 u) (va_A (wMo cI cJ cB cZ h a1 a2 a3 a4 a5 a6 a7 thr eg fr wt rk nx nd es pp qq st ch bo tp le sz at_ fa fp nu fm nn ou om) sz0)) 0 0 (va_A (wMo cI cJ cB cZ h a1 a2 a3 a4 a5 a6 a7 thr eg fr wt rk nx nd es pp qq st ch bo tp le sz at_ fa fp nu fm nn ou om) sz0) := by
  refine Met.ofW (cc := cX6_giver) (maxL := 6) (ret := (some .int)) (by decide) rfl ?_
  intro p e s m args below meth c s₁ B hml hv
  obtain ⟨rfl, hsz, hP, hE, hD0⟩ := hv
  have hx := B.exec
  have hb := B.bytes
  have hr := B.returns
  have hts := atoms_spec (ws := wsX6_giver) B.pre
  have hown : s.vm.findClass RX6 = some m.cls := findClass_of_methodNamed B.named
  have hlocks := B.notSynchronized
  have hK := hE.1
  subst hsz
  have hD := hD0.self (sz := s.heap.size)
  generalize hAe : va_A (wMo cI cJ cB cZ h a1 a2 a3 a4 a5 a6 a7 thr eg fr wt rk nx nd es pp qq st ch bo tp le sz at_ fa fp nu fm nn ou om) s.heap.size = A at hD ⊢
  have hA : ∀ q : Nat, s.heap.size ≤ q → A q := fun q h => by rw [← hAe]; exact Or.inr h
  have hS : va_S A s.heap s.heap [] := va_S.rf
  have hP : va_P D vwCl (wMo cI cJ cB cZ h a1 a2 a3 a4 a5 a6 a7 thr eg fr wt rk nx nd es pp qq st ch bo tp le sz at_ fa fp nu fm nn ou om) s.heap := hP
  have hi_6 : ∀ w ∈ wsX60, w ∈ wsX6_giver := by decide +kernel
  have hw_1 := hts (.fieldLink RX6 1 "RankHouseModel" "thrown" "I") (by decide +kernel)
  have hw_2 := hts (.fieldLink RX6 32 "RankHouseModel" "nodes" "I") (by decide +kernel)
  have hw_3 := hts (.fieldLink RX6 29 "RankHouseModel" "next" "[J") (by decide +kernel)
  have hw_4 := hts (.constantLong RX6 144 (-1)) (by decide +kernel)
  have hl := lv_entry ([.ref h, .int (iZ a), .int (iZ b)]) (n := 6) (Nat.le_of_ble_eq_true rfl)
  rw [lg_entry_eq]
  generalize (lg_sl ([.ref h, .int (iZ a), .int (iZ b)]) ++ List.replicate (6 - (lg_sl ([.ref h, .int (iZ a), .int (iZ b)])).length) Slot.unset).toArray = ls at hl ⊢
  have hl : lv_has ls 6 [(0, .ref h), (1, .int (iZ a)), (2, .int (iZ b))] := hl
  obtain ⟨hM, hR, s1, s2, s3, s5, s6, t1, t2, t3, y1, y2, y3, d1⟩ := id hMR
  dsimp only at hM hR s1 s2 s3 t1 t3 y1 y3 d1
  have hM : MG N E w eg wt nd es := hM
  have hR : RK N P Q x rk pp qq := hR
  have t3 : BY tp tf tl := t3
  have y3 : BY ou of_ ol := y3
  obtain ⟨m1, m2, m3, m4, m5, m6, m7, m8, m9⟩ := id hM
  obtain ⟨k1, k2, k3, k4, k5, k6⟩ := id hR
  refine lv_aload_n hx hb dX6_giver_0 rfl (lv_at hl 0 rfl) ?_
  refine z_iconst hx hb dX6_giver_1 ?_
  refine va_put (v := .int (iZ 0)) (ty := .int) (C := RX6) (T := TX6) (N := 24) (ci := 6) hx hb hts hi_6 tyX6 tyX6_ok nmX6 hown hK hP hD hS 0 rfl rfl 0 (by decide) hw_1 (fun _ h9 => h9) rfl (by decide +kernel) rfl rfl (Nat.le_of_ble_eq_true rfl) dX6_giver_2 (fun H locs hP hD hS => ?_)
  have hP : va_P D vwCl (wMo cI cJ cB cZ h a1 a2 a3 a4 a5 a6 a7 0 eg fr wt rk nx nd es pp qq st ch bo tp le sz at_ fa fp nu fm nn ou om) H := hP
  have hD : va_D A (wMo cI cJ cB cZ h a1 a2 a3 a4 a5 a6 a7 0 eg fr wt rk nx nd es pp qq st ch bo tp le sz at_ fa fp nu fm nn ou om) := hD
  refine lv_aload_n hx hb dX6_giver_5 rfl (lv_at hl 0 rfl) ?_
  refine lv_iload_n hx hb dX6_giver_6 rfl (lv_at hl 1 rfl) ?_
  refine ro_i (va_runV (As := [.int (iZ a)]) (rest := []) ⟨hx, hb, hml, hown, hts⟩ (c_X6_no l D cI cJ cB cZ h a1 a2 a3 a4 a5 a6 a7 0 eg fr wt rk nx nd es pp qq st ch bo tp le sz at_ fa fp nu fm nn ou om a ha N (by omega) m5) (cwV 1 hts gX6_giver_X6_no rfl rfl rfl (by decide +kernel) ⟨Nat.le_of_ble_eq_true rfl, Nat.le_of_ble_eq_true rfl⟩) (pre0V hE hP 0 rfl rfl) rfl rfl hl.1 rfl (lv_room (Nat.le_of_ble_eq_true rfl)) dX6_giver_7 ⟨Nat.le_of_ble_eq_true rfl, Nat.le_of_ble_eq_true rfl⟩) (fun r_1 hr_2 => ?_)
  rcases hr_2 with ⟨rfl, hq_3⟩ | ⟨rfl, hq_3⟩
  · have n1 := hq_3
    refine z_if_eq (tgt := 15) hx hb dX6_giver_10 (by decide) (by omega) (fun c9 => absurd c9 (by decide)) (fun _ => ?_)
    refine z_iconst hx hb dX6_giver_13 ?_
    exact rw_iret (z := (-1)) (0, eg, fr, wt, rk, nx, nd, es, pp, qq, st, ch, bo, tp, le, sz, at_, fa, fp, nu, fm, nn, ou, om) hx hb hr hlocks hP hD hS ⟨Or.inr ⟨rfl, fun u hu hp9 => absurd hp9 (by rw [pin_out n1]; decide)⟩, ⟨hM, hR, s1, s2, s3, s5, s6, t1, t2, t3, y1, y2, y3, d1⟩⟩ dX6_giver_14
  · have n1 := hq_3
    refine z_if_eq (tgt := 15) hx hb dX6_giver_10 (by decide) (by omega) (fun _ => ?_) (fun c9 => absurd c9 (by decide))
    refine z_iconst hx hb dX6_giver_15 ?_
    refine lv_istore_n (lv' := [(3, .int (iZ 0)), (0, .ref h), (1, .int (iZ a)), (2, .int (iZ b))]) hx hb dX6_giver_16 rfl hl (by decide) rfl (fun ls hl => ?_)
    refine w_loop (fun kf H locs ls => ∃ (i : Nat), ∃ (g : Nat → Int), kf = N - i ∧ (i ≤ N ∧ ∀ u, u < i → g u = if E u a.toNat = true then ((shr E N P Q x u : Nat) : Int) else -1) ∧ va_P D vwCl (wMo cI cJ cB cZ h a1 a2 a3 a4 a5 a6 a7 0 eg fr wt rk g nd es pp qq st ch bo tp le sz at_ fa fp nu fm nn ou om) H ∧ va_D A (wMo cI cJ cB cZ h a1 a2 a3 a4 a5 a6 a7 0 eg fr wt rk g nd es pp qq st ch bo tp le sz at_ fa fp nu fm nn ou om) ∧ va_S A s.heap H locs ∧ lv_has ls 6 [(0, .ref h), (1, .int (iZ a)), (2, .int (iZ b)), (3, .int (iZ ↑i))]) ?_ _ ⟨0, nx, rfl, ⟨by omega, fun u hu => absurd hu (Nat.not_lt_zero u)⟩, hP, hD, hS, lv_sub hl [1, 2, 3, 0] rfl⟩
    rintro kf H locs ls ⟨i, g, hk, ⟨i1, i2⟩, hP, hD, hS, hl⟩ ih
    refine lv_iload_n hx hb dX6_giver_17 rfl (lv_at hl 3 rfl) ?_
    refine lv_aload_n hx hb dX6_giver_18 rfl (lv_at hl 0 rfl) ?_
    refine va_get (v := .int (iZ nd)) (C := RX6) (T := TX6) (N := 24) (ci := 6) hx hb hts hi_6 hown hK hP 0 rfl rfl 6 (by decide) hw_2 (fun _ h9 => h9) rfl dX6_giver_19 ?_
    refine z_icmp_ge (tgt := 57) hx hb dX6_giver_22 (by decide) (by omega) (by omega) (fun c_4 => ?_) (fun c_4 => ?_)
    · have gq : ∀ u, u < N → (pin E N a u = true ∧ g u = ((shr E N P Q x u : Nat) : Int) ∧ shr E N P Q x u < 4611686018427387904) ∨ (¬ pin E N a u = true ∧ g u = -1) := fun u hu => by (rw [pin_in (by omega)]; dsimp only; rw [i2 u (by omega)]; have q9 := sm_at (x := x) (show u < N by omega); have q8 := shr_le E N P Q x u; have q7 := Nat.mul_le_mul_left P (Nat.le_trans q9 k6); by_cases q : E u a.toNat = true; (rw [if_pos q]; exact Or.inl ⟨q, rfl, by omega⟩); (rw [if_neg q]; exact Or.inr ⟨q, rfl⟩))
      refine z_iconst hx hb dX6_giver_57 ?_
      refine lv_istore_n (lv' := [(3, .int (iZ 0)), (0, .ref h), (1, .int (iZ a)), (2, .int (iZ b))]) hx hb dX6_giver_58 rfl hl (by decide) rfl (fun ls hl => ?_)
      refine w_loop (fun kf H locs ls => ∃ (u0 : Nat), kf = N - u0 ∧ (u0 ≤ N ∧ ∀ u, u < u0 → pin E N a u = true → (ahd (pin E N a) (shr E N P Q x) N u : Int) ≠ b) ∧ va_P D vwCl (wMo cI cJ cB cZ h a1 a2 a3 a4 a5 a6 a7 0 eg fr wt rk g nd es pp qq st ch bo tp le sz at_ fa fp nu fm nn ou om) H ∧ va_D A (wMo cI cJ cB cZ h a1 a2 a3 a4 a5 a6 a7 0 eg fr wt rk g nd es pp qq st ch bo tp le sz at_ fa fp nu fm nn ou om) ∧ va_S A s.heap H locs ∧ lv_has ls 6 [(0, .ref h), (1, .int (iZ a)), (2, .int (iZ b)), (3, .int (iZ ↑u0))]) ?_ _ ⟨0, rfl, ⟨by omega, fun u hu => absurd hu (Nat.not_lt_zero u)⟩, hP, hD, hS, lv_sub hl [1, 2, 3, 0] rfl⟩
      rintro kf H locs ls ⟨u0, hk, ⟨i3, i4⟩, hP, hD, hS, hl⟩ ih1
      refine lv_iload_n hx hb dX6_giver_59 rfl (lv_at hl 3 rfl) ?_
      refine lv_aload_n hx hb dX6_giver_60 rfl (lv_at hl 0 rfl) ?_
      refine va_get (v := .int (iZ nd)) (C := RX6) (T := TX6) (N := 24) (ci := 6) hx hb hts hi_6 hown hK hP 0 rfl rfl 6 (by decide) hw_2 (fun _ h9 => h9) rfl dX6_giver_61 ?_
      refine z_icmp_ge (tgt := 166) hx hb dX6_giver_64 (by decide) (by omega) (by omega) (fun c_5 => ?_) (fun c_5 => ?_)
      · refine z_iconst hx hb dX6_giver_166 ?_
        exact rw_iret (z := (-1)) (0, eg, fr, wt, rk, g, nd, es, pp, qq, st, ch, bo, tp, le, sz, at_, fa, fp, nu, fm, nn, ou, om) hx hb hr hlocks hP hD hS ⟨Or.inr ⟨rfl, fun u hu hp9 => i4 u (by omega) hp9⟩, ⟨hM, hR, s1, s2, s3, s5, s6, t1, t2, t3, y1, y2, y3, d1⟩⟩ dX6_giver_167
      · have gu := gq u0 (by omega)
        have gu2 : -1 ≤ g u0 ∧ g u0 < 4611686018427387904 := by rcases gu with q | q <;> omega
        refine lv_aload_n hx hb dX6_giver_67 rfl (lv_at hl 0 rfl) ?_
        refine va_get (v := .ref a5) (C := RX6) (T := TX6) (N := 24) (ci := 6) hx hb hts hi_6 hown hK hP 0 rfl rfl 5 (by decide) hw_3 (fun _ h9 => h9) rfl dX6_giver_68 ?_
        refine lv_iload_n hx hb dX6_giver_71 rfl (lv_at hl 3 rfl) ?_
        refine z_lald hx hb hK hP 5 1 rfl rfl u0 (by omega) (by omega) (by omega) dX6_giver_72 ?_
        refine z_lconst hx hb 0  dX6_giver_73 rfl ?_
        refine z_lc_ge (tgt := 81) hx hb dX6_giver_74 dX6_giver_75 (by decide) (by omega) (by omega) (fun c_6 => ?_) (fun c_6 => ?_)
        · have gp : pin E N a u0 = true ∧ g u0 = ((shr E N P Q x u0 : Nat) : Int) := by (rcases gu with q | q; exact ⟨q.1, q.2.1⟩; omega)
          refine z_iconst hx hb dX6_giver_81 ?_
          refine lv_istore (lv' := [(4, .int (iZ 0)), (0, .ref h), (1, .int (iZ a)), (2, .int (iZ b)), (3, .int (iZ ↑u0))]) hx hb dX6_giver_82 hl (by decide) rfl (fun ls hl => ?_)
          refine z_iconst hx hb dX6_giver_84 ?_
          refine lv_istore (lv' := [(5, .int (iZ 0)), (4, .int (iZ 0)), (0, .ref h), (1, .int (iZ a)), (2, .int (iZ b)), (3, .int (iZ ↑u0))]) hx hb dX6_giver_85 hl (by decide) rfl (fun ls hl => ?_)
          refine w_loop (fun kf H locs ls => ∃ (j : Nat), ∃ (y : Int), kf = N - j ∧ (j ≤ N ∧ y = ((ahd (pin E N a) (shr E N P Q x) j u0 : Nat) : Int)) ∧ va_P D vwCl (wMo cI cJ cB cZ h a1 a2 a3 a4 a5 a6 a7 0 eg fr wt rk g nd es pp qq st ch bo tp le sz at_ fa fp nu fm nn ou om) H ∧ va_D A (wMo cI cJ cB cZ h a1 a2 a3 a4 a5 a6 a7 0 eg fr wt rk g nd es pp qq st ch bo tp le sz at_ fa fp nu fm nn ou om) ∧ va_S A s.heap H locs ∧ lv_has ls 6 [(0, .ref h), (1, .int (iZ a)), (2, .int (iZ b)), (3, .int (iZ ↑u0)), (4, .int (iZ y)), (5, .int (iZ ↑j))]) ?_ _ ⟨0, 0, rfl, ⟨by omega, rfl⟩, hP, hD, hS, lv_sub hl [2, 3, 4, 5, 1, 0] rfl⟩
          rintro kf H locs ls ⟨j, y, hk, ⟨j1, j2⟩, hP, hD, hS, hl⟩ ih2
          refine lv_iload hx hb dX6_giver_87 (lv_at hl 5 rfl) ?_
          refine lv_aload_n hx hb dX6_giver_89 rfl (lv_at hl 0 rfl) ?_
          refine va_get (v := .int (iZ nd)) (C := RX6) (T := TX6) (N := 24) (ci := 6) hx hb hts hi_6 hown hK hP 0 rfl rfl 6 (by decide) hw_2 (fun _ h9 => h9) rfl dX6_giver_90 ?_
          refine z_icmp_ge (tgt := 152) hx hb dX6_giver_93 (by decide) (by omega) (by omega) (fun c_7 => ?_) (fun c_7 => ?_)
          · have jN : j = N := by omega
            rw [jN] at j2
            have aB := ahd_lt0 (pin E N a) (shr E N P Q x) N u0
            refine lv_iload hx hb dX6_giver_152 (lv_at hl 4 rfl) ?_
            refine lv_iload_n hx hb dX6_giver_154 rfl (lv_at hl 2 rfl) ?_
            refine z_icmp_ne (tgt := 160) hx hb dX6_giver_155 (by decide) (by omega) (by omega) (fun c_8 => ?_) (fun c_8 => ?_)
            · refine lv_iinc (v := iZ (↑u0 + 1)) (lv' := [(3, .int (iZ (↑u0 + 1))), (0, .ref h), (1, .int (iZ a)), (2, .int (iZ b)), (4, .int (iZ y)), (5, .int (iZ ↑j))]) hx hb dX6_giver_160 hl (k := 3) rfl (show iZ ↑u0 + iZ 1 = _ from iZ_add _ _) (by decide) rfl (fun ls hl => ?_)
              refine lv_goto (tgt := 59) hx hb dX6_giver_163 (by decide) ?_
              exact ih1 _ _ _ _ (by omega) ⟨(u0 + 1), rfl, ⟨by omega, fun u hu hp9 => by by_cases q : u = u0; (subst q; first | omega | (rcases gu with q2 | q2; omega; exact absurd hp9 q2.1)); exact i4 u (by omega) hp9⟩, hP, hD, hS, lv_sub hl [1, 2, 3, 0] rfl⟩
            · refine lv_iload_n hx hb dX6_giver_158 rfl (lv_at hl 3 rfl) ?_
              exact rw_iret (z := ↑u0) (0, eg, fr, wt, rk, g, nd, es, pp, qq, st, ch, bo, tp, le, sz, at_, fa, fp, nu, fm, nn, ou, om) hx hb hr hlocks hP hD hS ⟨Or.inl ⟨u0, by omega, gp.1, by omega, rfl⟩, ⟨hM, hR, s1, s2, s3, s5, s6, t1, t2, t3, y1, y2, y3, d1⟩⟩ dX6_giver_159
          · have gj := gq j (by omega)
            have gj2 : -1 ≤ g j ∧ g j < 4611686018427387904 := by rcases gj with q | q <;> omega
            refine lv_iload hx hb dX6_giver_96 (lv_at hl 4 rfl) ?_
            refine lv_aload_n hx hb dX6_giver_98 rfl (lv_at hl 0 rfl) ?_
            refine va_get (v := .ref a5) (C := RX6) (T := TX6) (N := 24) (ci := 6) hx hb hts hi_6 hown hK hP 0 rfl rfl 5 (by decide) hw_3 (fun _ h9 => h9) rfl dX6_giver_99 ?_
            refine lv_iload hx hb dX6_giver_102 (lv_at hl 5 rfl) ?_
            refine z_lald hx hb hK hP 5 1 rfl rfl j (by omega) (by omega) (by omega) dX6_giver_104 ?_
            refine lv_aload_n hx hb dX6_giver_105 rfl (lv_at hl 0 rfl) ?_
            refine va_get (v := .ref a5) (C := RX6) (T := TX6) (N := 24) (ci := 6) hx hb hts hi_6 hown hK hP 0 rfl rfl 5 (by decide) hw_3 (fun _ h9 => h9) rfl dX6_giver_106 ?_
            refine lv_iload_n hx hb dX6_giver_109 rfl (lv_at hl 3 rfl) ?_
            refine z_lald hx hb hK hP 5 1 rfl rfl u0 (by omega) (by omega) (by omega) dX6_giver_110 ?_
            refine z_lc_gt (tgt := 138) hx hb dX6_giver_111 dX6_giver_112 (by decide) (by omega) (by omega) (fun c_9 => ?_) (fun c_9 => ?_)
            · have aS := ahd_t (p := (pin E N a)) (wt := (shr E N P Q x)) (j := j) (x := u0) (by (rcases gj with q | q; exact q.1; omega)) (by rcases gj with q | q <;> omega)
              refine z_iconst hx hb dX6_giver_138 ?_
              refine lv_goto (tgt := 143) hx hb dX6_giver_139 (by decide) ?_
              refine z_iadd hx hb dX6_giver_143 ?_
              refine lv_istore (lv' := [(4, .int (iZ (y + 1))), (0, .ref h), (1, .int (iZ a)), (2, .int (iZ b)), (3, .int (iZ ↑u0)), (5, .int (iZ ↑j))]) hx hb dX6_giver_144 hl (by decide) rfl (fun ls hl => ?_)
              refine lv_iinc (v := iZ (↑j + 1)) (lv' := [(5, .int (iZ (↑j + 1))), (4, .int (iZ (y + 1))), (0, .ref h), (1, .int (iZ a)), (2, .int (iZ b)), (3, .int (iZ ↑u0))]) hx hb dX6_giver_146 hl (k := 5) rfl (show iZ ↑j + iZ 1 = _ from iZ_add _ _) (by decide) rfl (fun ls hl => ?_)
              refine lv_goto (tgt := 87) hx hb dX6_giver_149 (by decide) ?_
              exact ih2 _ _ _ _ (by omega) ⟨(j + 1), (y + 1), rfl, ⟨by omega, by omega⟩, hP, hD, hS, lv_sub hl [2, 3, 4, 5, 1, 0] rfl⟩
            · refine lv_aload_n hx hb dX6_giver_115 rfl (lv_at hl 0 rfl) ?_
              refine va_get (v := .ref a5) (C := RX6) (T := TX6) (N := 24) (ci := 6) hx hb hts hi_6 hown hK hP 0 rfl rfl 5 (by decide) hw_3 (fun _ h9 => h9) rfl dX6_giver_116 ?_
              refine lv_iload hx hb dX6_giver_119 (lv_at hl 5 rfl) ?_
              refine z_lald hx hb hK hP 5 1 rfl rfl j (by omega) (by omega) (by omega) dX6_giver_121 ?_
              refine lv_aload_n hx hb dX6_giver_122 rfl (lv_at hl 0 rfl) ?_
              refine va_get (v := .ref a5) (C := RX6) (T := TX6) (N := 24) (ci := 6) hx hb hts hi_6 hown hK hP 0 rfl rfl 5 (by decide) hw_3 (fun _ h9 => h9) rfl dX6_giver_123 ?_
              refine lv_iload_n hx hb dX6_giver_126 rfl (lv_at hl 3 rfl) ?_
              refine z_lald hx hb hK hP 5 1 rfl rfl u0 (by omega) (by omega) (by omega) dX6_giver_127 ?_
              refine z_lc_ne (tgt := 142) hx hb dX6_giver_128 dX6_giver_129 (by decide) (by omega) (by omega) (fun c_10 => ?_) (fun c_10 => ?_)
              · have aS := ahd_f (p := (pin E N a)) (wt := (shr E N P Q x)) (j := j) (x := u0) (fun q0 => by (rcases gj with q | q; omega; exact absurd q0 q.1))
                refine z_iconst hx hb dX6_giver_142 ?_
                refine z_iadd hx hb dX6_giver_143 ?_
                refine lv_istore (lv' := [(4, .int (iZ (y + 0))), (0, .ref h), (1, .int (iZ a)), (2, .int (iZ b)), (3, .int (iZ ↑u0)), (5, .int (iZ ↑j))]) hx hb dX6_giver_144 hl (by decide) rfl (fun ls hl => ?_)
                refine lv_iinc (v := iZ (↑j + 1)) (lv' := [(5, .int (iZ (↑j + 1))), (4, .int (iZ (y + 0))), (0, .ref h), (1, .int (iZ a)), (2, .int (iZ b)), (3, .int (iZ ↑u0))]) hx hb dX6_giver_146 hl (k := 5) rfl (show iZ ↑j + iZ 1 = _ from iZ_add _ _) (by decide) rfl (fun ls hl => ?_)
                refine lv_goto (tgt := 87) hx hb dX6_giver_149 (by decide) ?_
                exact ih2 _ _ _ _ (by omega) ⟨(j + 1), (y + 0), rfl, ⟨by omega, by omega⟩, hP, hD, hS, lv_sub hl [2, 3, 4, 5, 1, 0] rfl⟩
              · refine lv_iload hx hb dX6_giver_132 (lv_at hl 5 rfl) ?_
                refine lv_iload_n hx hb dX6_giver_134 rfl (lv_at hl 3 rfl) ?_
                refine z_icmp_ge (tgt := 142) hx hb dX6_giver_135 (by decide) (by omega) (by omega) (fun c_11 => ?_) (fun c_11 => ?_)
                · have aS := ahd_f (p := (pin E N a)) (wt := (shr E N P Q x)) (j := j) (x := u0) (fun q0 => by (rcases gj with q | q; omega; exact absurd q0 q.1))
                  refine z_iconst hx hb dX6_giver_142 ?_
                  refine z_iadd hx hb dX6_giver_143 ?_
                  refine lv_istore (lv' := [(4, .int (iZ (y + 0))), (0, .ref h), (1, .int (iZ a)), (2, .int (iZ b)), (3, .int (iZ ↑u0)), (5, .int (iZ ↑j))]) hx hb dX6_giver_144 hl (by decide) rfl (fun ls hl => ?_)
                  refine lv_iinc (v := iZ (↑j + 1)) (lv' := [(5, .int (iZ (↑j + 1))), (4, .int (iZ (y + 0))), (0, .ref h), (1, .int (iZ a)), (2, .int (iZ b)), (3, .int (iZ ↑u0))]) hx hb dX6_giver_146 hl (k := 5) rfl (show iZ ↑j + iZ 1 = _ from iZ_add _ _) (by decide) rfl (fun ls hl => ?_)
                  refine lv_goto (tgt := 87) hx hb dX6_giver_149 (by decide) ?_
                  exact ih2 _ _ _ _ (by omega) ⟨(j + 1), (y + 0), rfl, ⟨by omega, by omega⟩, hP, hD, hS, lv_sub hl [2, 3, 4, 5, 1, 0] rfl⟩
                · have aS := ahd_t (p := (pin E N a)) (wt := (shr E N P Q x)) (j := j) (x := u0) (by (rcases gj with q | q; exact q.1; omega)) (by rcases gj with q | q <;> omega)
                  refine z_iconst hx hb dX6_giver_138 ?_
                  refine lv_goto (tgt := 143) hx hb dX6_giver_139 (by decide) ?_
                  refine z_iadd hx hb dX6_giver_143 ?_
                  refine lv_istore (lv' := [(4, .int (iZ (y + 1))), (0, .ref h), (1, .int (iZ a)), (2, .int (iZ b)), (3, .int (iZ ↑u0)), (5, .int (iZ ↑j))]) hx hb dX6_giver_144 hl (by decide) rfl (fun ls hl => ?_)
                  refine lv_iinc (v := iZ (↑j + 1)) (lv' := [(5, .int (iZ (↑j + 1))), (4, .int (iZ (y + 1))), (0, .ref h), (1, .int (iZ a)), (2, .int (iZ b)), (3, .int (iZ ↑u0))]) hx hb dX6_giver_146 hl (k := 5) rfl (show iZ ↑j + iZ 1 = _ from iZ_add _ _) (by decide) rfl (fun ls hl => ?_)
                  refine lv_goto (tgt := 87) hx hb dX6_giver_149 (by decide) ?_
                  exact ih2 _ _ _ _ (by omega) ⟨(j + 1), (y + 1), rfl, ⟨by omega, by omega⟩, hP, hD, hS, lv_sub hl [2, 3, 4, 5, 1, 0] rfl⟩
        · refine lv_goto (tgt := 160) hx hb dX6_giver_78 (by decide) ?_
          refine lv_iinc (v := iZ (↑u0 + 1)) (lv' := [(3, .int (iZ (↑u0 + 1))), (0, .ref h), (1, .int (iZ a)), (2, .int (iZ b))]) hx hb dX6_giver_160 hl (k := 3) rfl (show iZ ↑u0 + iZ 1 = _ from iZ_add _ _) (by decide) rfl (fun ls hl => ?_)
          refine lv_goto (tgt := 59) hx hb dX6_giver_163 (by decide) ?_
          exact ih1 _ _ _ _ (by omega) ⟨(u0 + 1), rfl, ⟨by omega, fun u hu hp9 => by by_cases q : u = u0; (subst q; first | omega | (rcases gu with q2 | q2; omega; exact absurd hp9 q2.1)); exact i4 u (by omega) hp9⟩, hP, hD, hS, lv_sub hl [1, 2, 3, 0] rfl⟩
    · refine lv_aload_n hx hb dX6_giver_25 rfl (lv_at hl 0 rfl) ?_
      refine va_get (v := .ref a5) (C := RX6) (T := TX6) (N := 24) (ci := 6) hx hb hts hi_6 hown hK hP 0 rfl rfl 5 (by decide) hw_3 (fun _ h9 => h9) rfl dX6_giver_26 ?_
      refine lv_iload_n hx hb dX6_giver_29 rfl (lv_at hl 3 rfl) ?_
      refine lv_aload_n hx hb dX6_giver_30 rfl (lv_at hl 0 rfl) ?_
      refine lv_iload_n hx hb dX6_giver_31 rfl (lv_at hl 3 rfl) ?_
      refine lv_iload_n hx hb dX6_giver_32 rfl (lv_at hl 1 rfl) ?_
      refine ro_i (va_runV (As := [.int (iZ ↑i), .int (iZ a)]) (rest := [.int (iZ ↑i), .ref a5]) ⟨hx, hb, hml, hown, hts⟩ (c_X6_goes l D cI cJ cB cZ h a1 a2 a3 a4 a5 a6 a7 0 eg fr wt rk g nd es pp qq st ch bo tp le sz at_ fa fp nu fm nn ou om (↑i) a (by omega) (by omega) E m1) (cwV 2 hts gX6_giver_X6_goes rfl rfl rfl (by decide +kernel) ⟨Nat.le_of_ble_eq_true rfl, Nat.le_of_ble_eq_true rfl⟩) (pre0V hE hP 0 rfl rfl) rfl rfl hl.1 rfl (lv_room (Nat.le_of_ble_eq_true rfl)) dX6_giver_33 ⟨Nat.le_of_ble_eq_true rfl, Nat.le_of_ble_eq_true rfl⟩) (fun r_12 hr_13 => ?_)
      rcases hr_13 with ⟨rfl, hq_14⟩ | ⟨rfl, hq_14⟩
      · have n3 := hq_14
        rw [Int.toNat_natCast] at n3
        refine z_if_eq (tgt := 47) hx hb dX6_giver_36 (by decide) (by omega) (fun c9 => absurd c9 (by decide)) (fun _ => ?_)
        refine lv_aload_n hx hb dX6_giver_39 rfl (lv_at hl 0 rfl) ?_
        refine lv_iload_n hx hb dX6_giver_40 rfl (lv_at hl 3 rfl) ?_
        refine ro_l (va_runV (As := [.int (iZ ↑i)]) (rest := [.int (iZ ↑i), .ref a5]) ⟨hx, hb, hml, hown, hts⟩ (c_X6_share l D cI cJ cB cZ h a1 a2 a3 a4 a5 a6 a7 0 eg fr wt rk g nd es pp qq st ch bo tp le sz at_ fa fp nu fm nn ou om (↑i) N E w hM P Q x hR (by omega) (by rw [Int.toNat_natCast]; exact Nat.lt_of_le_of_lt (Nat.zero_le _) (row_in n3 (show a.toNat < N by omega)))) (cwV 1 hts gX6_giver_X6_share rfl rfl rfl (by decide +kernel) ⟨Nat.le_of_ble_eq_true rfl, Nat.le_of_ble_eq_true rfl⟩) (pre0V hE hP 0 rfl rfl) rfl rfl hl.1 rfl (lv_room (Nat.le_of_ble_eq_true rfl)) dX6_giver_41 ⟨Nat.le_of_ble_eq_true rfl, Nat.le_of_ble_eq_true rfl⟩) (fun r_15 hr_16 => ?_)
        subst hr_16
        refine lv_goto (tgt := 50) hx hb dX6_giver_44 (by decide) ?_
        refine z_last hx hb hK hP hD hS 5 1 rfl rfl i (by omega) (by omega) (by omega) dX6_giver_50 (fun H locs hP hD hS => ?_)
        have hP : va_P D vwCl (wMo cI cJ cB cZ h a1 a2 a3 a4 a5 a6 a7 0 eg fr wt rk (uZ g i ((shr E N P Q x (↑i : Int).toNat : Nat) : Int)) nd es pp qq st ch bo tp le sz at_ fa fp nu fm nn ou om) H := hP
        have hD : va_D A (wMo cI cJ cB cZ h a1 a2 a3 a4 a5 a6 a7 0 eg fr wt rk (uZ g i ((shr E N P Q x (↑i : Int).toNat : Nat) : Int)) nd es pp qq st ch bo tp le sz at_ fa fp nu fm nn ou om) := hD
        refine lv_iinc (v := iZ (↑i + 1)) (lv' := [(3, .int (iZ (↑i + 1))), (0, .ref h), (1, .int (iZ a)), (2, .int (iZ b))]) hx hb dX6_giver_51 hl (k := 3) rfl (show iZ ↑i + iZ 1 = _ from iZ_add _ _) (by decide) rfl (fun ls hl => ?_)
        refine lv_goto (tgt := 17) hx hb dX6_giver_54 (by decide) ?_
        exact ih _ _ _ _ (by omega) ⟨(i + 1), (uZ g i ((shr E N P Q x (↑i : Int).toNat : Nat) : Int)), rfl, ⟨by omega, fun u hu => by by_cases q : u = i; (rw [q, uZ_s, if_pos n3]; rw [Int.toNat_natCast]); (rw [uZ_n q]; exact i2 u (by omega))⟩, hP, hD, hS, lv_sub hl [1, 2, 3, 0] rfl⟩
      · have n3 := hq_14
        rw [Int.toNat_natCast] at n3
        refine z_if_eq (tgt := 47) hx hb dX6_giver_36 (by decide) (by omega) (fun _ => ?_) (fun c9 => absurd c9 (by decide))
        refine z_ldc2 hx hb (-1) hown hw_4 (by decide) dX6_giver_47 ?_
        refine z_last hx hb hK hP hD hS 5 1 rfl rfl i (by omega) (by omega) (by omega) dX6_giver_50 (fun H locs hP hD hS => ?_)
        have hP : va_P D vwCl (wMo cI cJ cB cZ h a1 a2 a3 a4 a5 a6 a7 0 eg fr wt rk (uZ g i (-1)) nd es pp qq st ch bo tp le sz at_ fa fp nu fm nn ou om) H := hP
        have hD : va_D A (wMo cI cJ cB cZ h a1 a2 a3 a4 a5 a6 a7 0 eg fr wt rk (uZ g i (-1)) nd es pp qq st ch bo tp le sz at_ fa fp nu fm nn ou om) := hD
        refine lv_iinc (v := iZ (↑i + 1)) (lv' := [(3, .int (iZ (↑i + 1))), (0, .ref h), (1, .int (iZ a)), (2, .int (iZ b))]) hx hb dX6_giver_51 hl (k := 3) rfl (show iZ ↑i + iZ 1 = _ from iZ_add _ _) (by decide) rfl (fun ls hl => ?_)
        refine lv_goto (tgt := 17) hx hb dX6_giver_54 (by decide) ?_
        exact ih _ _ _ _ (by omega) ⟨(i + 1), (uZ g i (-1)), rfl, ⟨by omega, fun u hu => by by_cases q : u = i; (rw [q, uZ_s, if_neg n3]); (rw [uZ_n q]; exact i2 u (by omega))⟩, hP, hD, hS, lv_sub hl [1, 2, 3, 0] rfl⟩
set_option maxHeartbeats 4000000 in
set_option maxRecDepth 100000 in
theorem c_X6_edges (l : Launch) (D : va_G) (cI cJ cB cZ : ClassId) (h a1 a2 a3 a4 a5 a6 a7 : Nat) (thr : Int) (eg fr wt rk nx : Nat → Int) (nd es pp qq st ch bo : Int) (tp : Nat → Int) (le sz at_ fa fp nu fm nn : Int) (ou : Nat → Int) (om : Int) (N : Nat) (E : Ed) (w : Nat → Nat) (P Q : Nat) (x : Nat → Nat) (ks kc ke tl : Nat) (tf : Nat → Int) (ol : Nat) (of_ : Nat → Int) (fk : Int) (hMR : MR N E w P Q x ks kc ke tl tf ol of_ fk (thr, eg, fr, wt, rk, nx, nd, es, pp, qq, st, ch, bo, tp, le, sz, at_, fa, fp, nu, fm, nn, ou, om)) (a : Int) (ha : -2147483648 ≤ a ∧ a < 2147483648) (b : Int) (hb0 : -2147483648 ≤ b ∧ b < 2147483648)  (sz0 : Nat) : Met l yX6_edges wsX6_edges ({ frames := 2, cells := 0, slots := 0, locals := 46 } : Room) (Pre1 D cI cJ cB cZ [.ref h, .int (iZ a), .int (iZ b)] (wMo cI cJ cB cZ h a1 a2 a3 a4 a5 a6 a7 thr eg fr wt rk nx nd es pp qq st ch bo tp le sz at_ fa fp nu fm nn ou om) sz0) (rwI (S := MT) D (fun z U => ((((b = 0 ∨ b = 1) ∧ 0 ≤ a ∧ a < (N : Int)) ∧ U.1 = 0 ∧ (b = 0 → z = (dgr E N a.toNat : Int)) ∧ (b = 1 → z = (fb_ct (fun c9 => E c9 a.toNat) N : Int))) ∨ (¬ ((b = 0 ∨ b = 1) ∧ 0 ≤ a ∧ a < (N : Int)) ∧ U.1 = 1)) ∧ MR N E w P Q x ks kc ke tl tf ol of_ fk U) (fun u => wM cI cJ cB cZ h a1 a2 a3 a4 a5 a6 a7 u) (va_A (wMo cI cJ cB cZ h a1 a2 a3 a4 a5 a6 a7 thr eg fr wt rk nx nd es pp qq st ch bo tp le sz at_ fa fp nu fm nn ou om) sz0)) 0 0 (va_A (wMo cI cJ cB cZ h a1 a2 a3 a4 a5 a6 a7 thr eg fr wt rk nx nd es pp qq st ch bo tp le sz at_ fa fp nu fm nn ou om) sz0) := by
  refine Met.ofW (cc := cX6_edges) (maxL := 3) (ret := (some .int)) (by decide) rfl ?_
  intro p e s m args below meth c s₁ B hml hv
  obtain ⟨rfl, hsz, hP, hE, hD0⟩ := hv
  have hx := B.exec
  have hb := B.bytes
  have hr := B.returns
  have hts := atoms_spec (ws := wsX6_edges) B.pre
  have hown : s.vm.findClass RX6 = some m.cls := findClass_of_methodNamed B.named
  have hlocks := B.notSynchronized
  have hK := hE.1
  subst hsz
  have hD := hD0.self (sz := s.heap.size)
  generalize hAe : va_A (wMo cI cJ cB cZ h a1 a2 a3 a4 a5 a6 a7 thr eg fr wt rk nx nd es pp qq st ch bo tp le sz at_ fa fp nu fm nn ou om) s.heap.size = A at hD ⊢
  have hA : ∀ q : Nat, s.heap.size ≤ q → A q := fun q h => by rw [← hAe]; exact Or.inr h
  have hS : va_S A s.heap s.heap [] := va_S.rf
  have hP : va_P D vwCl (wMo cI cJ cB cZ h a1 a2 a3 a4 a5 a6 a7 thr eg fr wt rk nx nd es pp qq st ch bo tp le sz at_ fa fp nu fm nn ou om) s.heap := hP
  have hl := lv_entry ([.ref h, .int (iZ a), .int (iZ b)]) (n := 3) (Nat.le_of_ble_eq_true rfl)
  rw [lg_entry_eq]
  generalize (lg_sl ([.ref h, .int (iZ a), .int (iZ b)]) ++ List.replicate (3 - (lg_sl ([.ref h, .int (iZ a), .int (iZ b)])).length) Slot.unset).toArray = ls at hl ⊢
  have hl : lv_has ls 3 [(0, .ref h), (1, .int (iZ a)), (2, .int (iZ b))] := hl
  obtain ⟨hM, hR, s1, s2, s3, s5, s6, t1, t2, t3, y1, y2, y3, d1⟩ := id hMR
  dsimp only at hM hR s1 s2 s3 t1 t3 y1 y3 d1
  have hM : MG N E w eg wt nd es := hM
  have hR : RK N P Q x rk pp qq := hR
  have t3 : BY tp tf tl := t3
  have y3 : BY ou of_ ol := y3
  obtain ⟨m1, m2, m3, m4, m5, m6, m7, m8, m9⟩ := id hM
  obtain ⟨k1, k2, k3, k4, k5, k6⟩ := id hR
  refine lv_aload_n hx hb dX6_edges_0 rfl (lv_at hl 0 rfl) ?_
  refine lv_aload_n hx hb dX6_edges_1 rfl (lv_at hl 0 rfl) ?_
  refine lv_iload_n hx hb dX6_edges_2 rfl (lv_at hl 1 rfl) ?_
  refine ro_i (va_runV (As := [.int (iZ a)]) (rest := [.ref h]) ⟨hx, hb, hml, hown, hts⟩ (c_X6_no l D cI cJ cB cZ h a1 a2 a3 a4 a5 a6 a7 thr eg fr wt rk nx nd es pp qq st ch bo tp le sz at_ fa fp nu fm nn ou om a ha N (by omega) m5) (cwV 1 hts gX6_edges_X6_no rfl rfl rfl (by decide +kernel) ⟨Nat.le_of_ble_eq_true rfl, Nat.le_of_ble_eq_true rfl⟩) (pre0V hE hP 0 rfl rfl) rfl rfl hl.1 rfl (lv_room (Nat.le_of_ble_eq_true rfl)) dX6_edges_3 ⟨Nat.le_of_ble_eq_true rfl, Nat.le_of_ble_eq_true rfl⟩) (fun r_1 hr_2 => ?_)
  rcases hr_2 with ⟨rfl, hq_3⟩ | ⟨rfl, hq_3⟩
  · have n1 := hq_3
    refine z_if_ne (tgt := 18) hx hb dX6_edges_6 (by decide) (by omega) (fun _ => ?_) (fun c9 => absurd c9 (by decide))
    refine z_iconst hx hb dX6_edges_18 ?_
    refine lv_goto (tgt := 23) hx hb dX6_edges_19 (by decide) ?_
    refine rw_i (wr := []) (va_runV (As := [.int (iZ 1)]) (rest := []) ⟨hx, hb, hml, hown, hts⟩ (c_X6_throwsIf l D cI cJ cB cZ h a1 a2 a3 a4 a5 a6 a7 thr eg fr wt rk nx nd es pp qq st ch bo tp le sz at_ fa fp nu fm nn ou om 1 (by omega) _) (cwV 1 hts gX6_edges_X6_throwsIf rfl rfl rfl (by decide +kernel) ⟨Nat.le_of_ble_eq_true rfl, Nat.le_of_ble_eq_true rfl⟩) (pre1V hE hP hD 0 rfl rfl) rfl rfl hl.1 rfl (lv_room (Nat.le_of_ble_eq_true rfl)) dX6_edges_23 ⟨Nat.le_of_ble_eq_true rfl, Nat.le_of_ble_eq_true rfl⟩) hP hD hS hA [0, 1, 2, 3, 4, 5, 6, 7] [] rfl rfl (by decide) (by decide) (fun r_4 u_6 H locs hr_5 hP hD hS => ?_)
    have hP := hP.sub (ws' := (wMo cI cJ cB cZ h a1 a2 a3 a4 a5 a6 a7 u_6 eg fr wt rk nx nd es pp qq st ch bo tp le sz at_ fa fp nu fm nn ou om)) [0, 1, 2, 3, 4, 5, 6, 7] rfl
    have hD := hD.sub (ws' := (wMo cI cJ cB cZ h a1 a2 a3 a4 a5 a6 a7 u_6 eg fr wt rk nx nd es pp qq st ch bo tp le sz at_ fa fp nu fm nn ou om)) [0, 1, 2, 3, 4, 5, 6, 7] (by decide) rfl
    obtain ⟨rfl, v1⟩ := hr_5
    refine z_if_eq (tgt := 31) hx hb dX6_edges_26 (by decide) (by omega) (fun c9 => absurd c9 (by decide)) (fun _ => ?_)
    refine z_iconst hx hb dX6_edges_29 ?_
    exact rw_iret (z := 0) (u_6, eg, fr, wt, rk, nx, nd, es, pp, qq, st, ch, bo, tp, le, sz, at_, fa, fp, nu, fm, nn, ou, om) hx hb hr hlocks hP hD hS ⟨Or.inr ⟨by omega, v1⟩, ⟨hM, hR, s1, s2, s3, s5, s6, t1, t2, t3, y1, y2, y3, d1⟩⟩ dX6_edges_30
  · have n1 := hq_3
    refine z_if_ne (tgt := 18) hx hb dX6_edges_6 (by decide) (by omega) (fun c9 => absurd c9 (by decide)) (fun _ => ?_)
    refine lv_iload_n hx hb dX6_edges_9 rfl (lv_at hl 2 rfl) ?_
    refine z_if_lt (tgt := 18) hx hb dX6_edges_10 (by decide) (by omega) (fun c_7 => ?_) (fun c_7 => ?_)
    · refine z_iconst hx hb dX6_edges_18 ?_
      refine lv_goto (tgt := 23) hx hb dX6_edges_19 (by decide) ?_
      refine rw_i (wr := []) (va_runV (As := [.int (iZ 1)]) (rest := []) ⟨hx, hb, hml, hown, hts⟩ (c_X6_throwsIf l D cI cJ cB cZ h a1 a2 a3 a4 a5 a6 a7 thr eg fr wt rk nx nd es pp qq st ch bo tp le sz at_ fa fp nu fm nn ou om 1 (by omega) _) (cwV 1 hts gX6_edges_X6_throwsIf rfl rfl rfl (by decide +kernel) ⟨Nat.le_of_ble_eq_true rfl, Nat.le_of_ble_eq_true rfl⟩) (pre1V hE hP hD 0 rfl rfl) rfl rfl hl.1 rfl (lv_room (Nat.le_of_ble_eq_true rfl)) dX6_edges_23 ⟨Nat.le_of_ble_eq_true rfl, Nat.le_of_ble_eq_true rfl⟩) hP hD hS hA [0, 1, 2, 3, 4, 5, 6, 7] [] rfl rfl (by decide) (by decide) (fun r_8 u_10 H locs hr_9 hP hD hS => ?_)
      have hP := hP.sub (ws' := (wMo cI cJ cB cZ h a1 a2 a3 a4 a5 a6 a7 u_10 eg fr wt rk nx nd es pp qq st ch bo tp le sz at_ fa fp nu fm nn ou om)) [0, 1, 2, 3, 4, 5, 6, 7] rfl
      have hD := hD.sub (ws' := (wMo cI cJ cB cZ h a1 a2 a3 a4 a5 a6 a7 u_10 eg fr wt rk nx nd es pp qq st ch bo tp le sz at_ fa fp nu fm nn ou om)) [0, 1, 2, 3, 4, 5, 6, 7] (by decide) rfl
      obtain ⟨rfl, v1⟩ := hr_9
      refine z_if_eq (tgt := 31) hx hb dX6_edges_26 (by decide) (by omega) (fun c9 => absurd c9 (by decide)) (fun _ => ?_)
      refine z_iconst hx hb dX6_edges_29 ?_
      exact rw_iret (z := 0) (u_10, eg, fr, wt, rk, nx, nd, es, pp, qq, st, ch, bo, tp, le, sz, at_, fa, fp, nu, fm, nn, ou, om) hx hb hr hlocks hP hD hS ⟨Or.inr ⟨by omega, v1⟩, ⟨hM, hR, s1, s2, s3, s5, s6, t1, t2, t3, y1, y2, y3, d1⟩⟩ dX6_edges_30
    · refine lv_iload_n hx hb dX6_edges_13 rfl (lv_at hl 2 rfl) ?_
      refine z_iconst hx hb dX6_edges_14 ?_
      refine z_icmp_le (tgt := 22) hx hb dX6_edges_15 (by decide) (by omega) (by omega) (fun c_11 => ?_) (fun c_11 => ?_)
      · refine z_iconst hx hb dX6_edges_22 ?_
        refine rw_i (wr := []) (va_runV (As := [.int (iZ 0)]) (rest := []) ⟨hx, hb, hml, hown, hts⟩ (c_X6_throwsIf l D cI cJ cB cZ h a1 a2 a3 a4 a5 a6 a7 thr eg fr wt rk nx nd es pp qq st ch bo tp le sz at_ fa fp nu fm nn ou om 0 (by omega) _) (cwV 1 hts gX6_edges_X6_throwsIf rfl rfl rfl (by decide +kernel) ⟨Nat.le_of_ble_eq_true rfl, Nat.le_of_ble_eq_true rfl⟩) (pre1V hE hP hD 0 rfl rfl) rfl rfl hl.1 rfl (lv_room (Nat.le_of_ble_eq_true rfl)) dX6_edges_23 ⟨Nat.le_of_ble_eq_true rfl, Nat.le_of_ble_eq_true rfl⟩) hP hD hS hA [0, 1, 2, 3, 4, 5, 6, 7] [] rfl rfl (by decide) (by decide) (fun r_12 u_14 H locs hr_13 hP hD hS => ?_)
        have hP := hP.sub (ws' := (wMo cI cJ cB cZ h a1 a2 a3 a4 a5 a6 a7 u_14 eg fr wt rk nx nd es pp qq st ch bo tp le sz at_ fa fp nu fm nn ou om)) [0, 1, 2, 3, 4, 5, 6, 7] rfl
        have hD := hD.sub (ws' := (wMo cI cJ cB cZ h a1 a2 a3 a4 a5 a6 a7 u_14 eg fr wt rk nx nd es pp qq st ch bo tp le sz at_ fa fp nu fm nn ou om)) [0, 1, 2, 3, 4, 5, 6, 7] (by decide) rfl
        obtain ⟨rfl, v1⟩ := hr_13
        refine z_if_eq (tgt := 31) hx hb dX6_edges_26 (by decide) (by omega) (fun _ => ?_) (fun c9 => absurd c9 (by decide))
        refine lv_aload_n hx hb dX6_edges_31 rfl (lv_at hl 0 rfl) ?_
        refine lv_iload_n hx hb dX6_edges_32 rfl (lv_at hl 1 rfl) ?_
        refine lv_iload_n hx hb dX6_edges_33 rfl (lv_at hl 2 rfl) ?_
        refine ro_i (va_runV (As := [.int (iZ a), .int (iZ b)]) (rest := []) ⟨hx, hb, hml, hown, hts⟩ (c_X6_manyB l D cI cJ cB cZ h a1 a2 a3 a4 a5 a6 a7 u_14 eg fr wt rk nx nd es pp qq st ch bo tp le sz at_ fa fp nu fm nn ou om a N E w hM (by omega) b (by omega)) (cwV 2 hts gX6_edges_X6_many rfl rfl rfl (by decide +kernel) ⟨Nat.le_of_ble_eq_true rfl, Nat.le_of_ble_eq_true rfl⟩) (pre0V hE hP 0 rfl rfl) rfl rfl hl.1 rfl (lv_room (Nat.le_of_ble_eq_true rfl)) dX6_edges_34 ⟨Nat.le_of_ble_eq_true rfl, Nat.le_of_ble_eq_true rfl⟩) (fun r_15 hr_16 => ?_)
        have q4 := hr_16
        exact rw_iret (z := r_15) (u_14, eg, fr, wt, rk, nx, nd, es, pp, qq, st, ch, bo, tp, le, sz, at_, fa, fp, nu, fm, nn, ou, om) hx hb hr hlocks hP hD hS ⟨Or.inl ⟨by omega, v1, fun q => (by rw [q4, if_pos q]; rfl), fun q => (by rw [q4, if_neg (by omega)])⟩, ⟨hM, hR, s1, s2, s3, s5, s6, t1, t2, t3, y1, y2, y3, d1⟩⟩ dX6_edges_37
      · refine z_iconst hx hb dX6_edges_18 ?_
        refine lv_goto (tgt := 23) hx hb dX6_edges_19 (by decide) ?_
        refine rw_i (wr := []) (va_runV (As := [.int (iZ 1)]) (rest := []) ⟨hx, hb, hml, hown, hts⟩ (c_X6_throwsIf l D cI cJ cB cZ h a1 a2 a3 a4 a5 a6 a7 thr eg fr wt rk nx nd es pp qq st ch bo tp le sz at_ fa fp nu fm nn ou om 1 (by omega) _) (cwV 1 hts gX6_edges_X6_throwsIf rfl rfl rfl (by decide +kernel) ⟨Nat.le_of_ble_eq_true rfl, Nat.le_of_ble_eq_true rfl⟩) (pre1V hE hP hD 0 rfl rfl) rfl rfl hl.1 rfl (lv_room (Nat.le_of_ble_eq_true rfl)) dX6_edges_23 ⟨Nat.le_of_ble_eq_true rfl, Nat.le_of_ble_eq_true rfl⟩) hP hD hS hA [0, 1, 2, 3, 4, 5, 6, 7] [] rfl rfl (by decide) (by decide) (fun r_17 u_19 H locs hr_18 hP hD hS => ?_)
        have hP := hP.sub (ws' := (wMo cI cJ cB cZ h a1 a2 a3 a4 a5 a6 a7 u_19 eg fr wt rk nx nd es pp qq st ch bo tp le sz at_ fa fp nu fm nn ou om)) [0, 1, 2, 3, 4, 5, 6, 7] rfl
        have hD := hD.sub (ws' := (wMo cI cJ cB cZ h a1 a2 a3 a4 a5 a6 a7 u_19 eg fr wt rk nx nd es pp qq st ch bo tp le sz at_ fa fp nu fm nn ou om)) [0, 1, 2, 3, 4, 5, 6, 7] (by decide) rfl
        obtain ⟨rfl, v1⟩ := hr_18
        refine z_if_eq (tgt := 31) hx hb dX6_edges_26 (by decide) (by omega) (fun c9 => absurd c9 (by decide)) (fun _ => ?_)
        refine z_iconst hx hb dX6_edges_29 ?_
        exact rw_iret (z := 0) (u_19, eg, fr, wt, rk, nx, nd, es, pp, qq, st, ch, bo, tp, le, sz, at_, fa, fp, nu, fm, nn, ou, om) hx hb hr hlocks hP hD hS ⟨Or.inr ⟨by omega, v1⟩, ⟨hM, hR, s1, s2, s3, s5, s6, t1, t2, t3, y1, y2, y3, d1⟩⟩ dX6_edges_30
set_option maxHeartbeats 4000000 in
set_option maxRecDepth 100000 in
theorem c_X6_rank (l : Launch) (D : va_G) (cI cJ cB cZ : ClassId) (h a1 a2 a3 a4 a5 a6 a7 : Nat) (thr : Int) (eg fr wt rk nx : Nat → Int) (nd es pp qq st ch bo : Int) (tp : Nat → Int) (le sz at_ fa fp nu fm nn : Int) (ou : Nat → Int) (om : Int) (N : Nat) (E : Ed) (w : Nat → Nat) (P Q : Nat) (x : Nat → Nat) (ks kc ke tl : Nat) (tf : Nat → Int) (ol : Nat) (of_ : Nat → Int) (fk : Int) (hMR : MR N E w P Q x ks kc ke tl tf ol of_ fk (thr, eg, fr, wt, rk, nx, nd, es, pp, qq, st, ch, bo, tp, le, sz, at_, fa, fp, nu, fm, nn, ou, om)) (a : Int) (ha : -2147483648 ≤ a ∧ a < 2147483648)  (sz0 : Nat) : Met l yX6_rank wsX6_rank ({ frames := 1, cells := 0, slots := 0, locals := 21 } : Room) (Pre1 D cI cJ cB cZ [.ref h, .int (iZ a)] (wMo cI cJ cB cZ h a1 a2 a3 a4 a5 a6 a7 thr eg fr wt rk nx nd es pp qq st ch bo tp le sz at_ fa fp nu fm nn ou om) sz0) (rwL (S := MT) D (fun z U => (((0 ≤ a ∧ a < (N : Int)) ∧ U.1 = 0 ∧ z = ((x a.toNat : Nat) : Int)) ∨ (¬ (0 ≤ a ∧ a < (N : Int)) ∧ U.1 = 1)) ∧ MR N E w P Q x ks kc ke tl tf ol of_ fk U) (fun u => wM cI cJ cB cZ h a1 a2 a3 a4 a5 a6 a7 u) (va_A (wMo cI cJ cB cZ h a1 a2 a3 a4 a5 a6 a7 thr eg fr wt rk nx nd es pp qq st ch bo tp le sz at_ fa fp nu fm nn ou om) sz0)) 0 0 (va_A (wMo cI cJ cB cZ h a1 a2 a3 a4 a5 a6 a7 thr eg fr wt rk nx nd es pp qq st ch bo tp le sz at_ fa fp nu fm nn ou om) sz0) := by
  refine Met.ofW (cc := cX6_rank) (maxL := 2) (ret := (some .long)) (by decide) rfl ?_
  intro p e s m args below meth c s₁ B hml hv
  obtain ⟨rfl, hsz, hP, hE, hD0⟩ := hv
  have hx := B.exec
  have hb := B.bytes
  have hr := B.returns
  have hts := atoms_spec (ws := wsX6_rank) B.pre
  have hown : s.vm.findClass RX6 = some m.cls := findClass_of_methodNamed B.named
  have hlocks := B.notSynchronized
  have hK := hE.1
  subst hsz
  have hD := hD0.self (sz := s.heap.size)
  generalize hAe : va_A (wMo cI cJ cB cZ h a1 a2 a3 a4 a5 a6 a7 thr eg fr wt rk nx nd es pp qq st ch bo tp le sz at_ fa fp nu fm nn ou om) s.heap.size = A at hD ⊢
  have hA : ∀ q : Nat, s.heap.size ≤ q → A q := fun q h => by rw [← hAe]; exact Or.inr h
  have hS : va_S A s.heap s.heap [] := va_S.rf
  have hP : va_P D vwCl (wMo cI cJ cB cZ h a1 a2 a3 a4 a5 a6 a7 thr eg fr wt rk nx nd es pp qq st ch bo tp le sz at_ fa fp nu fm nn ou om) s.heap := hP
  have hi_6 : ∀ w ∈ wsX60, w ∈ wsX6_rank := by decide +kernel
  have hw_1 := hts (.fieldLink RX6 25 "RankHouseModel" "rank" "[J") (by decide +kernel)
  have hl := lv_entry ([.ref h, .int (iZ a)]) (n := 2) (Nat.le_of_ble_eq_true rfl)
  rw [lg_entry_eq]
  generalize (lg_sl ([.ref h, .int (iZ a)]) ++ List.replicate (2 - (lg_sl ([.ref h, .int (iZ a)])).length) Slot.unset).toArray = ls at hl ⊢
  have hl : lv_has ls 2 [(0, .ref h), (1, .int (iZ a))] := hl
  obtain ⟨hM, hR, s1, s2, s3, s5, s6, t1, t2, t3, y1, y2, y3, d1⟩ := id hMR
  dsimp only at hM hR s1 s2 s3 t1 t3 y1 y3 d1
  have hM : MG N E w eg wt nd es := hM
  have hR : RK N P Q x rk pp qq := hR
  have t3 : BY tp tf tl := t3
  have y3 : BY ou of_ ol := y3
  obtain ⟨m1, m2, m3, m4, m5, m6, m7, m8, m9⟩ := id hM
  obtain ⟨k1, k2, k3, k4, k5, k6⟩ := id hR
  refine lv_aload_n hx hb dX6_rank_0 rfl (lv_at hl 0 rfl) ?_
  refine lv_aload_n hx hb dX6_rank_1 rfl (lv_at hl 0 rfl) ?_
  refine lv_iload_n hx hb dX6_rank_2 rfl (lv_at hl 1 rfl) ?_
  refine ro_i (va_runV (As := [.int (iZ a)]) (rest := [.ref h]) ⟨hx, hb, hml, hown, hts⟩ (c_X6_no l D cI cJ cB cZ h a1 a2 a3 a4 a5 a6 a7 thr eg fr wt rk nx nd es pp qq st ch bo tp le sz at_ fa fp nu fm nn ou om a ha N (by omega) m5) (cwV 1 hts gX6_rank_X6_no rfl rfl rfl (by decide +kernel) ⟨Nat.le_of_ble_eq_true rfl, Nat.le_of_ble_eq_true rfl⟩) (pre0V hE hP 0 rfl rfl) rfl rfl hl.1 rfl (lv_room (Nat.le_of_ble_eq_true rfl)) dX6_rank_3 ⟨Nat.le_of_ble_eq_true rfl, Nat.le_of_ble_eq_true rfl⟩) (fun r_1 hr_2 => ?_)
  rcases hr_2 with ⟨rfl, hq_3⟩ | ⟨rfl, hq_3⟩
  · have n1 := hq_3
    refine rw_i (wr := []) (va_runV (As := [.int (iZ 1)]) (rest := []) ⟨hx, hb, hml, hown, hts⟩ (c_X6_throwsIf l D cI cJ cB cZ h a1 a2 a3 a4 a5 a6 a7 thr eg fr wt rk nx nd es pp qq st ch bo tp le sz at_ fa fp nu fm nn ou om 1 (by omega) _) (cwV 1 hts gX6_rank_X6_throwsIf rfl rfl rfl (by decide +kernel) ⟨Nat.le_of_ble_eq_true rfl, Nat.le_of_ble_eq_true rfl⟩) (pre1V hE hP hD 0 rfl rfl) rfl rfl hl.1 rfl (lv_room (Nat.le_of_ble_eq_true rfl)) dX6_rank_6 ⟨Nat.le_of_ble_eq_true rfl, Nat.le_of_ble_eq_true rfl⟩) hP hD hS hA [0, 1, 2, 3, 4, 5, 6, 7] [] rfl rfl (by decide) (by decide) (fun r_4 u_6 H locs hr_5 hP hD hS => ?_)
    have hP := hP.sub (ws' := (wMo cI cJ cB cZ h a1 a2 a3 a4 a5 a6 a7 u_6 eg fr wt rk nx nd es pp qq st ch bo tp le sz at_ fa fp nu fm nn ou om)) [0, 1, 2, 3, 4, 5, 6, 7] rfl
    have hD := hD.sub (ws' := (wMo cI cJ cB cZ h a1 a2 a3 a4 a5 a6 a7 u_6 eg fr wt rk nx nd es pp qq st ch bo tp le sz at_ fa fp nu fm nn ou om)) [0, 1, 2, 3, 4, 5, 6, 7] (by decide) rfl
    obtain ⟨rfl, v1⟩ := hr_5
    refine z_if_eq (tgt := 16) hx hb dX6_rank_9 (by decide) (by omega) (fun c9 => absurd c9 (by decide)) (fun _ => ?_)
    refine z_lconst hx hb 0  dX6_rank_12 rfl ?_
    refine lv_goto (tgt := 22) hx hb dX6_rank_13 (by decide) ?_
    exact rw_lret (z := 0) (u_6, eg, fr, wt, rk, nx, nd, es, pp, qq, st, ch, bo, tp, le, sz, at_, fa, fp, nu, fm, nn, ou, om) hx hb hr hlocks hP hD hS ⟨Or.inr ⟨n1, v1⟩, ⟨hM, hR, s1, s2, s3, s5, s6, t1, t2, t3, y1, y2, y3, d1⟩⟩ dX6_rank_22
  · have n1 := hq_3
    refine rw_i (wr := []) (va_runV (As := [.int (iZ 0)]) (rest := []) ⟨hx, hb, hml, hown, hts⟩ (c_X6_throwsIf l D cI cJ cB cZ h a1 a2 a3 a4 a5 a6 a7 thr eg fr wt rk nx nd es pp qq st ch bo tp le sz at_ fa fp nu fm nn ou om 0 (by omega) _) (cwV 1 hts gX6_rank_X6_throwsIf rfl rfl rfl (by decide +kernel) ⟨Nat.le_of_ble_eq_true rfl, Nat.le_of_ble_eq_true rfl⟩) (pre1V hE hP hD 0 rfl rfl) rfl rfl hl.1 rfl (lv_room (Nat.le_of_ble_eq_true rfl)) dX6_rank_6 ⟨Nat.le_of_ble_eq_true rfl, Nat.le_of_ble_eq_true rfl⟩) hP hD hS hA [0, 1, 2, 3, 4, 5, 6, 7] [] rfl rfl (by decide) (by decide) (fun r_7 u_9 H locs hr_8 hP hD hS => ?_)
    have hP := hP.sub (ws' := (wMo cI cJ cB cZ h a1 a2 a3 a4 a5 a6 a7 u_9 eg fr wt rk nx nd es pp qq st ch bo tp le sz at_ fa fp nu fm nn ou om)) [0, 1, 2, 3, 4, 5, 6, 7] rfl
    have hD := hD.sub (ws' := (wMo cI cJ cB cZ h a1 a2 a3 a4 a5 a6 a7 u_9 eg fr wt rk nx nd es pp qq st ch bo tp le sz at_ fa fp nu fm nn ou om)) [0, 1, 2, 3, 4, 5, 6, 7] (by decide) rfl
    obtain ⟨rfl, v1⟩ := hr_8
    refine z_if_eq (tgt := 16) hx hb dX6_rank_9 (by decide) (by omega) (fun _ => ?_) (fun c9 => absurd c9 (by decide))
    refine lv_aload_n hx hb dX6_rank_16 rfl (lv_at hl 0 rfl) ?_
    refine va_get (v := .ref a4) (C := RX6) (T := TX6) (N := 24) (ci := 6) hx hb hts hi_6 hown hK hP 0 rfl rfl 4 (by decide) hw_1 (fun _ h9 => h9) rfl dX6_rank_17 ?_
    refine lv_iload_n hx hb dX6_rank_20 rfl (lv_at hl 1 rfl) ?_
    refine z_lald hx hb hK hP 4 1 rfl rfl a.toNat (by omega) (by omega) (by omega) dX6_rank_21 ?_
    exact rw_lret (z := rk a.toNat) (u_9, eg, fr, wt, rk, nx, nd, es, pp, qq, st, ch, bo, tp, le, sz, at_, fa, fp, nu, fm, nn, ou, om) hx hb hr hlocks hP hD hS ⟨Or.inl ⟨n1, v1, k5 a.toNat (by omega)⟩, ⟨hM, hR, s1, s2, s3, s5, s6, t1, t2, t3, y1, y2, y3, d1⟩⟩ dX6_rank_22
set_option maxHeartbeats 4000000 in
set_option maxRecDepth 100000 in
theorem c_X6_octet (l : Launch) (D : va_G) (cI cJ cB cZ : ClassId) (h a1 a2 a3 a4 a5 a6 a7 : Nat) (thr : Int) (eg fr wt rk nx : Nat → Int) (nd es pp qq st ch bo : Int) (tp : Nat → Int) (le sz at_ fa fp nu fm nn : Int) (ou : Nat → Int) (om : Int) (N : Nat) (E : Ed) (w : Nat → Nat) (P Q : Nat) (x : Nat → Nat) (ks kc ke tl : Nat) (tf : Nat → Int) (ol : Nat) (of_ : Nat → Int) (fk : Int) (hMR : MR N E w P Q x ks kc ke tl tf ol of_ fk (thr, eg, fr, wt, rk, nx, nd, es, pp, qq, st, ch, bo, tp, le, sz, at_, fa, fp, nu, fm, nn, ou, om)) (a : Int) (ha : -2147483648 ≤ a ∧ a < 2147483648)  (sz0 : Nat) : Met l yX6_octet wsX6_octet ({ frames := 1, cells := 0, slots := 0, locals := 21 } : Room) (Pre1 D cI cJ cB cZ [.ref h, .int (iZ a)] (wMo cI cJ cB cZ h a1 a2 a3 a4 a5 a6 a7 thr eg fr wt rk nx nd es pp qq st ch bo tp le sz at_ fa fp nu fm nn ou om) sz0) (rwI (S := MT) D (fun z U => (((0 ≤ a ∧ a < (ol : Int)) ∧ U.1 = 0 ∧ z = of_ a.toNat) ∨ (¬ (0 ≤ a ∧ a < (ol : Int)) ∧ U.1 = 1)) ∧ MR N E w P Q x ks kc ke tl tf ol of_ fk U) (fun u => wM cI cJ cB cZ h a1 a2 a3 a4 a5 a6 a7 u) (va_A (wMo cI cJ cB cZ h a1 a2 a3 a4 a5 a6 a7 thr eg fr wt rk nx nd es pp qq st ch bo tp le sz at_ fa fp nu fm nn ou om) sz0)) 0 0 (va_A (wMo cI cJ cB cZ h a1 a2 a3 a4 a5 a6 a7 thr eg fr wt rk nx nd es pp qq st ch bo tp le sz at_ fa fp nu fm nn ou om) sz0) := by
  refine Met.ofW (cc := cX6_octet) (maxL := 2) (ret := (some .int)) (by decide) rfl ?_
  intro p e s m args below meth c s₁ B hml hv
  obtain ⟨rfl, hsz, hP, hE, hD0⟩ := hv
  have hx := B.exec
  have hb := B.bytes
  have hr := B.returns
  have hts := atoms_spec (ws := wsX6_octet) B.pre
  have hown : s.vm.findClass RX6 = some m.cls := findClass_of_methodNamed B.named
  have hlocks := B.notSynchronized
  have hK := hE.1
  subst hsz
  have hD := hD0.self (sz := s.heap.size)
  generalize hAe : va_A (wMo cI cJ cB cZ h a1 a2 a3 a4 a5 a6 a7 thr eg fr wt rk nx nd es pp qq st ch bo tp le sz at_ fa fp nu fm nn ou om) s.heap.size = A at hD ⊢
  have hA : ∀ q : Nat, s.heap.size ≤ q → A q := fun q h => by rw [← hAe]; exact Or.inr h
  have hS : va_S A s.heap s.heap [] := va_S.rf
  have hP : va_P D vwCl (wMo cI cJ cB cZ h a1 a2 a3 a4 a5 a6 a7 thr eg fr wt rk nx nd es pp qq st ch bo tp le sz at_ fa fp nu fm nn ou om) s.heap := hP
  have hi_6 : ∀ w ∈ wsX60, w ∈ wsX6_octet := by decide +kernel
  have hw_1 := hts (.fieldLink RX6 146 "RankHouseModel" "outMany" "I") (by decide +kernel)
  have hw_2 := hts (.fieldLink RX6 45 "RankHouseModel" "out" "[B") (by decide +kernel)
  have hl := lv_entry ([.ref h, .int (iZ a)]) (n := 2) (Nat.le_of_ble_eq_true rfl)
  rw [lg_entry_eq]
  generalize (lg_sl ([.ref h, .int (iZ a)]) ++ List.replicate (2 - (lg_sl ([.ref h, .int (iZ a)])).length) Slot.unset).toArray = ls at hl ⊢
  have hl : lv_has ls 2 [(0, .ref h), (1, .int (iZ a))] := hl
  obtain ⟨hM, hR, s1, s2, s3, s5, s6, t1, t2, t3, y1, y2, y3, d1⟩ := id hMR
  dsimp only at hM hR s1 s2 s3 t1 t3 y1 y3 d1
  have hM : MG N E w eg wt nd es := hM
  have hR : RK N P Q x rk pp qq := hR
  have t3 : BY tp tf tl := t3
  have y3 : BY ou of_ ol := y3
  obtain ⟨m1, m2, m3, m4, m5, m6, m7, m8, m9⟩ := id hM
  obtain ⟨k1, k2, k3, k4, k5, k6⟩ := id hR
  refine lv_aload_n hx hb dX6_octet_0 rfl (lv_at hl 0 rfl) ?_
  refine lv_iload_n hx hb dX6_octet_1 rfl (lv_at hl 1 rfl) ?_
  refine z_if_lt (tgt := 13) hx hb dX6_octet_2 (by decide) (by omega) (fun c_1 => ?_) (fun c_1 => ?_)
  · refine z_iconst hx hb dX6_octet_13 ?_
    refine lv_goto (tgt := 18) hx hb dX6_octet_14 (by decide) ?_
    refine rw_i (wr := []) (va_runV (As := [.int (iZ 1)]) (rest := []) ⟨hx, hb, hml, hown, hts⟩ (c_X6_throwsIf l D cI cJ cB cZ h a1 a2 a3 a4 a5 a6 a7 thr eg fr wt rk nx nd es pp qq st ch bo tp le sz at_ fa fp nu fm nn ou om 1 (by omega) _) (cwV 1 hts gX6_octet_X6_throwsIf rfl rfl rfl (by decide +kernel) ⟨Nat.le_of_ble_eq_true rfl, Nat.le_of_ble_eq_true rfl⟩) (pre1V hE hP hD 0 rfl rfl) rfl rfl hl.1 rfl (lv_room (Nat.le_of_ble_eq_true rfl)) dX6_octet_18 ⟨Nat.le_of_ble_eq_true rfl, Nat.le_of_ble_eq_true rfl⟩) hP hD hS hA [0, 1, 2, 3, 4, 5, 6, 7] [] rfl rfl (by decide) (by decide) (fun r_2 u_4 H locs hr_3 hP hD hS => ?_)
    have hP := hP.sub (ws' := (wMo cI cJ cB cZ h a1 a2 a3 a4 a5 a6 a7 u_4 eg fr wt rk nx nd es pp qq st ch bo tp le sz at_ fa fp nu fm nn ou om)) [0, 1, 2, 3, 4, 5, 6, 7] rfl
    have hD := hD.sub (ws' := (wMo cI cJ cB cZ h a1 a2 a3 a4 a5 a6 a7 u_4 eg fr wt rk nx nd es pp qq st ch bo tp le sz at_ fa fp nu fm nn ou om)) [0, 1, 2, 3, 4, 5, 6, 7] (by decide) rfl
    obtain ⟨rfl, v1⟩ := hr_3
    refine z_if_eq (tgt := 28) hx hb dX6_octet_21 (by decide) (by omega) (fun c9 => absurd c9 (by decide)) (fun _ => ?_)
    refine z_iconst hx hb dX6_octet_24 ?_
    refine lv_goto (tgt := 38) hx hb dX6_octet_25 (by decide) ?_
    exact rw_iret (z := 0) (u_4, eg, fr, wt, rk, nx, nd, es, pp, qq, st, ch, bo, tp, le, sz, at_, fa, fp, nu, fm, nn, ou, om) hx hb hr hlocks hP hD hS ⟨Or.inr ⟨by omega, v1⟩, ⟨hM, hR, s1, s2, s3, s5, s6, t1, t2, t3, y1, y2, y3, d1⟩⟩ dX6_octet_38
  · refine lv_iload_n hx hb dX6_octet_5 rfl (lv_at hl 1 rfl) ?_
    refine lv_aload_n hx hb dX6_octet_6 rfl (lv_at hl 0 rfl) ?_
    refine va_get (v := .int (iZ om)) (C := RX6) (T := TX6) (N := 24) (ci := 6) hx hb hts hi_6 hown hK hP 0 rfl rfl 23 (by decide) hw_1 (fun _ h9 => h9) rfl dX6_octet_7 ?_
    refine z_icmp_lt (tgt := 17) hx hb dX6_octet_10 (by decide) (by omega) (by omega) (fun c_5 => ?_) (fun c_5 => ?_)
    · refine z_iconst hx hb dX6_octet_17 ?_
      refine rw_i (wr := []) (va_runV (As := [.int (iZ 0)]) (rest := []) ⟨hx, hb, hml, hown, hts⟩ (c_X6_throwsIf l D cI cJ cB cZ h a1 a2 a3 a4 a5 a6 a7 thr eg fr wt rk nx nd es pp qq st ch bo tp le sz at_ fa fp nu fm nn ou om 0 (by omega) _) (cwV 1 hts gX6_octet_X6_throwsIf rfl rfl rfl (by decide +kernel) ⟨Nat.le_of_ble_eq_true rfl, Nat.le_of_ble_eq_true rfl⟩) (pre1V hE hP hD 0 rfl rfl) rfl rfl hl.1 rfl (lv_room (Nat.le_of_ble_eq_true rfl)) dX6_octet_18 ⟨Nat.le_of_ble_eq_true rfl, Nat.le_of_ble_eq_true rfl⟩) hP hD hS hA [0, 1, 2, 3, 4, 5, 6, 7] [] rfl rfl (by decide) (by decide) (fun r_6 u_8 H locs hr_7 hP hD hS => ?_)
      have hP := hP.sub (ws' := (wMo cI cJ cB cZ h a1 a2 a3 a4 a5 a6 a7 u_8 eg fr wt rk nx nd es pp qq st ch bo tp le sz at_ fa fp nu fm nn ou om)) [0, 1, 2, 3, 4, 5, 6, 7] rfl
      have hD := hD.sub (ws' := (wMo cI cJ cB cZ h a1 a2 a3 a4 a5 a6 a7 u_8 eg fr wt rk nx nd es pp qq st ch bo tp le sz at_ fa fp nu fm nn ou om)) [0, 1, 2, 3, 4, 5, 6, 7] (by decide) rfl
      obtain ⟨rfl, v1⟩ := hr_7
      refine z_if_eq (tgt := 28) hx hb dX6_octet_21 (by decide) (by omega) (fun _ => ?_) (fun c9 => absurd c9 (by decide))
      have q3 := y3 a.toNat (by omega)
      refine lv_aload_n hx hb dX6_octet_28 rfl (lv_at hl 0 rfl) ?_
      refine va_get (v := .ref a7) (C := RX6) (T := TX6) (N := 24) (ci := 6) hx hb hts hi_6 hown hK hP 0 rfl rfl 22 (by decide) hw_2 (fun _ h9 => h9) rfl dX6_octet_29 ?_
      refine lv_iload_n hx hb dX6_octet_32 rfl (lv_at hl 1 rfl) ?_
      refine z_bald hx hb hK hP 7 2 rfl rfl a.toNat (by omega) (by omega) (by omega) dX6_octet_33 ?_
      refine z_sipush hx hb dX6_octet_34 (by decide) ?_
      refine z_iand ((ou a.toNat) % 256) hx hb dX6_octet_37 (iZ_and255 _) ?_
      exact rw_iret (z := (ou a.toNat) % 256) (u_8, eg, fr, wt, rk, nx, nd, es, pp, qq, st, ch, bo, tp, le, sz, at_, fa, fp, nu, fm, nn, ou, om) hx hb hr hlocks hP hD hS ⟨Or.inl ⟨by omega, v1, (by rw [q3.1]; exact sb_255 q3.2)⟩, ⟨hM, hR, s1, s2, s3, s5, s6, t1, t2, t3, y1, y2, y3, d1⟩⟩ dX6_octet_38
    · refine z_iconst hx hb dX6_octet_13 ?_
      refine lv_goto (tgt := 18) hx hb dX6_octet_14 (by decide) ?_
      refine rw_i (wr := []) (va_runV (As := [.int (iZ 1)]) (rest := []) ⟨hx, hb, hml, hown, hts⟩ (c_X6_throwsIf l D cI cJ cB cZ h a1 a2 a3 a4 a5 a6 a7 thr eg fr wt rk nx nd es pp qq st ch bo tp le sz at_ fa fp nu fm nn ou om 1 (by omega) _) (cwV 1 hts gX6_octet_X6_throwsIf rfl rfl rfl (by decide +kernel) ⟨Nat.le_of_ble_eq_true rfl, Nat.le_of_ble_eq_true rfl⟩) (pre1V hE hP hD 0 rfl rfl) rfl rfl hl.1 rfl (lv_room (Nat.le_of_ble_eq_true rfl)) dX6_octet_18 ⟨Nat.le_of_ble_eq_true rfl, Nat.le_of_ble_eq_true rfl⟩) hP hD hS hA [0, 1, 2, 3, 4, 5, 6, 7] [] rfl rfl (by decide) (by decide) (fun r_9 u_11 H locs hr_10 hP hD hS => ?_)
      have hP := hP.sub (ws' := (wMo cI cJ cB cZ h a1 a2 a3 a4 a5 a6 a7 u_11 eg fr wt rk nx nd es pp qq st ch bo tp le sz at_ fa fp nu fm nn ou om)) [0, 1, 2, 3, 4, 5, 6, 7] rfl
      have hD := hD.sub (ws' := (wMo cI cJ cB cZ h a1 a2 a3 a4 a5 a6 a7 u_11 eg fr wt rk nx nd es pp qq st ch bo tp le sz at_ fa fp nu fm nn ou om)) [0, 1, 2, 3, 4, 5, 6, 7] (by decide) rfl
      obtain ⟨rfl, v1⟩ := hr_10
      refine z_if_eq (tgt := 28) hx hb dX6_octet_21 (by decide) (by omega) (fun c9 => absurd c9 (by decide)) (fun _ => ?_)
      refine z_iconst hx hb dX6_octet_24 ?_
      refine lv_goto (tgt := 38) hx hb dX6_octet_25 (by decide) ?_
      exact rw_iret (z := 0) (u_11, eg, fr, wt, rk, nx, nd, es, pp, qq, st, ch, bo, tp, le, sz, at_, fa, fp, nu, fm, nn, ou, om) hx hb hr hlocks hP hD hS ⟨Or.inr ⟨by omega, v1⟩, ⟨hM, hR, s1, s2, s3, s5, s6, t1, t2, t3, y1, y2, y3, d1⟩⟩ dX6_octet_38
