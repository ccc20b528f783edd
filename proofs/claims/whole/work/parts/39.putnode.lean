theorem wV_ok2 {E : Ed} {N u : Nat} (hu : u < N) (hN : N ≤ 250) {s : WS} (hs : s.2.2 = -1) (h0 : 0 ≤ s.2.1) (hb : bR s.1 s.2.1) (m : Nat) (hm : m ≤ N) : s.2.1 ≤ (wV E u m s).2.1 ∧ (wV E u m s).2.1 ≤ s.2.1 + (fb_ct (E u) m : Int) + (if 0 ≤ (wV E u m s).2.2 then 1 else 0) + (if 129 ≤ (wV E u m s).2.2 then 1 else 0) ∧ -1 ≤ (wV E u m s).2.2 ∧ (wV E u m s).2.2 < (m : Int) := by
  rcases wV_ok (E := E) hu hN hs h0 hb m hm with h | h
  · exact h
  · subst h
    have e0 : wV E u 0 s = s := rfl
    rw [e0, hs, if_neg (by decide), if_neg (by decide)]
    have : (0 : Int) ≤ (fb_ct (E u) 0 : Int) := Int.natCast_nonneg _
    refine ⟨Int.le_refl _, by omega, by omega, by omega⟩
set_option maxHeartbeats 4000000 in
set_option maxRecDepth 100000 in
theorem c_X5_putNode (l : Launch) (D : va_G) (cI cJ cB cZ : ClassId) (h ta ou de ra od gr ob b1 b2 b3 : Nat) (oF : Nat → Int) (oL : Int) (f1 f2 f3 : Nat → Int) (n sz wh : Int) (N : Nat) (E : Ed) (w : Nat → Nat) (hG : GR N E w f1 f2 f3 n sz wh) (U0 : Nat) (hU : U0 < N) (ho : 0 ≤ oL ∧ oL + 4 + (dgr E N U0 : Int) ≤ 3502) (hbr : bR oF oL)  (sz0 : Nat) : Met l yX5_putNode wsX5_putNode ({ frames := 3, cells := 0, slots := 0, locals := 64 } : Room) (Pre1 D cI cJ cB cZ [.ref h, .int (iZ ((U0 : Nat) : Int))] (wHo h ta ou de ra od gr ++ wBR 3502 cI ou ob oF oL ++ wGr cI gr b1 b2 b3 f1 f2 f3 n sz wh) sz0) (rwV (S := (Nat → Int) × Int) D (fun U => U = wN E N U0 (oF, oL)) (fun u => wHo h ta ou de ra od gr ++ wBR 3502 cI ou ob u.1 u.2 ++ wGr cI gr b1 b2 b3 f1 f2 f3 n sz wh) (va_A (wHo h ta ou de ra od gr ++ wBR 3502 cI ou ob oF oL ++ wGr cI gr b1 b2 b3 f1 f2 f3 n sz wh) sz0)) 0 0 (va_A (wHo h ta ou de ra od gr ++ wBR 3502 cI ou ob oF oL ++ wGr cI gr b1 b2 b3 f1 f2 f3 n sz wh) sz0) := by
  refine Met.ofW (cc := cX5_putNode) (maxL := 6) (ret := none) (by decide) rfl ?_
  intro p e s m args below meth c s₁ B hml hv
  obtain ⟨rfl, hsz, hP, hE, hD0⟩ := hv
  have hx := B.exec
  have hb := B.bytes
  have hr := B.returns
  have hts := atoms_spec (ws := wsX5_putNode) B.pre
  have hown : s.vm.findClass RX5 = some m.cls := findClass_of_methodNamed B.named
  have hlocks := B.notSynchronized
  have hK := hE.1
  subst hsz
  have hD := hD0.self (sz := s.heap.size)
  generalize hAe : va_A (wHo h ta ou de ra od gr ++ wBR 3502 cI ou ob oF oL ++ wGr cI gr b1 b2 b3 f1 f2 f3 n sz wh) s.heap.size = A at hD ⊢
  have hA : ∀ q : Nat, s.heap.size ≤ q → A q := fun q h => by rw [← hAe]; exact Or.inr h
  have hS : va_S A s.heap s.heap [] := va_S.rf
  have hP : va_P D vwCl (wHo h ta ou de ra od gr ++ wBR 3502 cI ou ob oF oL ++ wGr cI gr b1 b2 b3 f1 f2 f3 n sz wh) s.heap := hP
  have hi_5 : ∀ w ∈ wsX50, w ∈ wsX5_putNode := by decide +kernel
  have hw_1 := hts (.fieldLink RX5 45 "RankHouse" "graph" "LRankHouse$Graph;") (by decide +kernel)
  have hw_2 := hts (.fieldLink RX5 18 "RankHouse" "out" "LRankHouse$ByteRow;") (by decide +kernel)
  have hl := lv_entry ([.ref h, .int (iZ ((U0 : Nat) : Int))]) (n := 6) (Nat.le_of_ble_eq_true rfl)
  rw [lg_entry_eq]
  generalize (lg_sl ([.ref h, .int (iZ ((U0 : Nat) : Int))]) ++ List.replicate (6 - (lg_sl ([.ref h, .int (iZ ((U0 : Nat) : Int))])).length) Slot.unset).toArray = ls at hl ⊢
  have hl : lv_has ls 6 [(0, .ref h), (1, .int (iZ ((U0 : Nat) : Int)))] := hl
  obtain ⟨g1, g2, g3, g4, g5, g6, g7, g8, g9, g10, g11⟩ := id hG
  have d1 := dgr_le E N U0
  have l1 := lU_r (dgr E N U0 : Int)
  have p1 := pU_r (o := (dgr E N U0 : Int)) ho.1 (by omega) hbr
  obtain ⟨s0, hs0⟩ : ∃ s0 : WS, s0 = (pU oF oL.toNat (dgr E N U0 : Int), oL + lU (dgr E N U0 : Int), -1) := ⟨_, rfl⟩
  have e1 : s0.2.2 = -1 := by rw [hs0]
  have e2 : s0.2.1 = oL + lU (dgr E N U0 : Int) := by rw [hs0]
  have e0 : s0.1 = pU oF oL.toNat (dgr E N U0 : Int) := by rw [hs0]
  have e3 : bR s0.1 s0.2.1 := by rw [e0, e2]; exact p1
  have cN : fb_ct (E U0) N = dgr E N U0 := rfl
  refine lv_aload_n hx hb dX5_putNode_0 rfl (lv_at hl 0 rfl) ?_
  refine va_get (v := .ref gr) (C := RX5) (T := TX5) (N := 6) (ci := 5) hx hb hts hi_5 hown hK hP 0 rfl rfl 5 (by decide) hw_1 (fun _ h9 => h9) rfl dX5_putNode_1 ?_
  refine lv_iload_n hx hb dX5_putNode_4 rfl (lv_at hl 1 rfl) ?_
  refine ro_i (va_runV (As := [.int (iZ ((U0 : Nat) : Int))]) (rest := []) ⟨hx, hb, hml, hown, hts⟩ (c_X2_outOf l D cI cJ cB cZ gr b1 b2 b3 f1 f2 f3 n sz wh N E w hG ((U0 : Nat) : Int) (by omega)) (cwV 1 hts gX5_putNode_X2_outOf rfl rfl rfl (by decide +kernel) ⟨Nat.le_of_ble_eq_true rfl, Nat.le_of_ble_eq_true rfl⟩) (pre0V hE (hP.sub (ws' := (wGr cI gr b1 b2 b3 f1 f2 f3 n sz wh)) [3, 4, 5, 6] rfl) 0 rfl rfl) rfl rfl hl.1 rfl (lv_room (Nat.le_of_ble_eq_true rfl)) dX5_putNode_5 ⟨Nat.le_of_ble_eq_true rfl, Nat.le_of_ble_eq_true rfl⟩) (fun r_1 hr_2 => ?_)
  have q4 := hr_2.1 (by omega)
  rw [Int.toNat_natCast] at q4
  refine lv_istore_n (lv' := [(2, .int (iZ r_1)), (0, .ref h), (1, .int (iZ ((U0 : Nat) : Int)))]) hx hb dX5_putNode_8 rfl hl (by decide) rfl (fun ls hl => ?_)
  refine lv_aload_n hx hb dX5_putNode_9 rfl (lv_at hl 1 rfl) ?_
  refine va_get (v := .ref ou) (C := RX5) (T := TX5) (N := 6) (ci := 5) hx hb hts hi_5 hown hK hP 0 rfl rfl 1 (by decide) hw_2 (fun _ h9 => h9) rfl dX5_putNode_10 ?_
  refine lv_iload_n hx hb dX5_putNode_13 rfl (lv_at hl 0 rfl) ?_
  refine rw_v (wr := [(h, .inr (5, [.ref ta, .ref ou, .ref de, .ref ra, .ref od, .ref gr])), (gr, .inr (2, [.ref b1, .ref b2, .ref b3, .int (iZ n), .int (iZ sz), .int (iZ wh)])), (b1, .inl (cI, 251, .inl (aI f1))), (b2, .inl (cI, 2500, .inl (aI f2))), (b3, .inl (cI, 250, .inl (aI f3)))]) (va_runV (As := [.int (iZ r_1)]) (rest := []) ⟨hx, hb, hml, hown, hts⟩ (c_X0_putUnsigned l D cI cJ cB cZ 3502 ou ob oF oL r_1 (by omega) (by omega) (by rw [q4]; omega) _) (cwV 1 hts gX5_putNode_X0_putUnsigned rfl rfl rfl (by decide +kernel) ⟨Nat.le_of_ble_eq_true rfl, Nat.le_of_ble_eq_true rfl⟩) (pre1V hE (hP.sub (ws' := (wBR 3502 cI ou ob oF oL)) [1, 2] rfl) (hD.sub (ws' := (wBR 3502 cI ou ob oF oL)) [1, 2] (by decide) rfl) 0 rfl rfl) rfl rfl hl.1 rfl (lv_room (Nat.le_of_ble_eq_true rfl)) dX5_putNode_14 ⟨Nat.le_of_ble_eq_true rfl, Nat.le_of_ble_eq_true rfl⟩) hP hD hS hA [1, 2] [0, 3, 4, 5, 6] rfl rfl (by decide) (by decide) (fun u_5 H locs hr_4 hP hD hS => ?_)
  subst hr_4
  have hP := hP.sub (ws' := (wHo h ta ou de ra od gr ++ wBR 3502 cI ou ob (pU oF oL.toNat r_1) (oL + lU r_1) ++ wGr cI gr b1 b2 b3 f1 f2 f3 n sz wh)) [0, 5, 6, 1, 2, 3, 4] rfl
  have hD := hD.sub (ws' := (wHo h ta ou de ra od gr ++ wBR 3502 cI ou ob (pU oF oL.toNat r_1) (oL + lU r_1) ++ wGr cI gr b1 b2 b3 f1 f2 f3 n sz wh)) [0, 5, 6, 1, 2, 3, 4] (by decide) rfl
  refine z_iconst hx hb dX5_putNode_17 ?_
  refine lv_istore_n (lv' := [(3, .int (iZ (-1))), (2, .int (iZ r_1)), (0, .ref h), (1, .int (iZ ((U0 : Nat) : Int)))]) hx hb dX5_putNode_18 rfl hl (by decide) rfl (fun ls hl => ?_)
  refine z_iconst hx hb dX5_putNode_19 ?_
  refine lv_istore (lv' := [(4, .int (iZ 0)), (3, .int (iZ (-1))), (2, .int (iZ r_1)), (0, .ref h), (1, .int (iZ ((U0 : Nat) : Int)))]) hx hb dX5_putNode_20 hl (by decide) rfl (fun ls hl => ?_)
  refine w_loop (fun kf H locs ls => ∃ (i T : Nat), ∃ (gf : Nat → Int), ∃ (gl la : Int), kf = dgr E N U0 - i ∧ (i ≤ dgr E N U0 ∧ T ≤ N ∧ fb_ct (E U0) T = i ∧ wV E U0 T s0 = (gf, gl, la)) ∧ va_P D vwCl (wHo h ta ou de ra od gr ++ wBR 3502 cI ou ob gf gl ++ wGr cI gr b1 b2 b3 f1 f2 f3 n sz wh) H ∧ va_D A (wHo h ta ou de ra od gr ++ wBR 3502 cI ou ob gf gl ++ wGr cI gr b1 b2 b3 f1 f2 f3 n sz wh) ∧ va_S A s.heap H locs ∧ lv_has ls 6 [(0, .ref h), (1, .int (iZ ((U0 : Nat) : Int))), (2, .int (iZ r_1)), (3, .int (iZ la)), (4, .int (iZ ↑i))]) ?_ _ ⟨0, 0, (pU oF oL.toNat r_1), (oL + lU r_1), (-1), rfl, ⟨by omega, by omega, rfl, (by show s0 = _; rw [hs0, q4])⟩, hP, hD, hS, lv_sub hl [3, 4, 2, 1, 0] rfl⟩
  rintro kf H locs ls ⟨i, T, gf, gl, la, hk, ⟨i1, i2, i3, i4⟩, hP, hD, hS, hl⟩ ih
  refine lv_iload hx hb dX5_putNode_22 (lv_at hl 4 rfl) ?_
  refine lv_iload_n hx hb dX5_putNode_24 rfl (lv_at hl 2 rfl) ?_
  refine z_icmp_ge (tgt := 100) hx hb dX5_putNode_25 (by decide) (by omega) (by omega) (fun c_6 => ?_) (fun c_6 => ?_)
  · exact rw_vret (gf, gl) hx hb hr hlocks hP hD hS (by have q9 := wV_ct (E := E) (u := U0) (s := s0) N T i2 (by omega); rw [i4] at q9; have q8 : wN E N U0 (oF, oL) = ((wV E U0 N s0).1, (wV E U0 N s0).2.1) := (by rw [hs0]; first | done | rfl); rw [q8, q9]) dX5_putNode_100
  · have la1 := wV_la (E := E) (u := U0) e1 T
    have ok1 := wV_ok2 (E := E) hU g2 e1 (by omega) e3 T (by omega)
    rw [i4] at la1 ok1
    dsimp only at la1 ok1
    refine lv_aload_n hx hb dX5_putNode_28 rfl (lv_at hl 0 rfl) ?_
    refine va_get (v := .ref gr) (C := RX5) (T := TX5) (N := 6) (ci := 5) hx hb hts hi_5 hown hK hP 0 rfl rfl 5 (by decide) hw_1 (fun _ h9 => h9) rfl dX5_putNode_29 ?_
    refine lv_iload_n hx hb dX5_putNode_32 rfl (lv_at hl 1 rfl) ?_
    refine lv_iload hx hb dX5_putNode_33 (lv_at hl 4 rfl) ?_
    refine ro_i (va_runV (As := [.int (iZ ((U0 : Nat) : Int)), .int (iZ ↑i)]) (rest := []) ⟨hx, hb, hml, hown, hts⟩ (c_X2_target l D cI cJ cB cZ gr b1 b2 b3 f1 f2 f3 n sz wh N E w hG ((U0 : Nat) : Int) (↑i) (by omega) (by omega)) (cwV 2 hts gX5_putNode_X2_target rfl rfl rfl (by decide +kernel) ⟨Nat.le_of_ble_eq_true rfl, Nat.le_of_ble_eq_true rfl⟩) (pre0V hE (hP.sub (ws' := (wGr cI gr b1 b2 b3 f1 f2 f3 n sz wh)) [3, 4, 5, 6] rfl) 0 rfl rfl) rfl rfl hl.1 rfl (lv_room (Nat.le_of_ble_eq_true rfl)) dX5_putNode_35 ⟨Nat.le_of_ble_eq_true rfl, Nat.le_of_ble_eq_true rfl⟩) (fun r_7 hr_8 => ?_)
    have hz9 := hr_8
    rw [pout_in (by omega), Int.toNat_natCast] at hz9
    obtain ⟨t, r1, r2, r3, r4⟩ : ∃ t : Nat, t < N ∧ E U0 t = true ∧ fb_ct (E U0) t = i ∧ r_7 = (t : Int) := by rcases hz9 with ⟨t, b1, b2, b3, b4⟩ | ⟨_, b4⟩; exact ⟨t, b1, b2, by omega, b4⟩; exact absurd ⟨by omega, by omega⟩ b4
    have r5 : T ≤ t := by rcases Nat.lt_or_ge t T with q | q; (have q9 := (row_lt r2).mp q; omega); exact q
    have r6 := row_in r2 r1
    refine lv_istore (lv' := [(5, .int (iZ r_7)), (0, .ref h), (1, .int (iZ ((U0 : Nat) : Int))), (2, .int (iZ r_1)), (3, .int (iZ la)), (4, .int (iZ ↑i))]) hx hb dX5_putNode_38 hl (by decide) rfl (fun ls hl => ?_)
    refine lv_iload hx hb dX5_putNode_40 (lv_at hl 5 rfl) ?_
    refine z_if_le (tgt := 61) hx hb dX5_putNode_42 (by decide) (by omega) (fun c_9 => ?_) (fun c_9 => ?_)
    · refine lv_aload_n hx hb dX5_putNode_61 rfl (lv_at hl 1 rfl) ?_
      refine va_get (v := .ref ou) (C := RX5) (T := TX5) (N := 6) (ci := 5) hx hb hts hi_5 hown hK hP 0 rfl rfl 1 (by decide) hw_2 (fun _ h9 => h9) rfl dX5_putNode_62 ?_
      refine lv_iload hx hb dX5_putNode_65 (lv_at hl 0 rfl) ?_
      refine lv_iload_n hx hb dX5_putNode_67 rfl (lv_at hl 2 rfl) ?_
      refine z_icmp_ge (tgt := 82) hx hb dX5_putNode_68 (by decide) (by omega) (by omega) (fun c_10 => ?_) (fun c_10 => ?_)
      · refine z_iconst hx hb dX5_putNode_82 ?_
        refine lv_iload hx hb dX5_putNode_83 (lv_at hl 0 rfl) ?_
        refine lv_iload_n hx hb dX5_putNode_85 rfl (lv_at hl 2 rfl) ?_
        refine z_isub hx hb dX5_putNode_86 ?_
        refine z_imul hx hb dX5_putNode_87 ?_
        have hcd : (2 * (r_7 - ((U0 : Nat) : Int))) = cod U0 t la := by unfold cod; (repeat' split) <;> omega
        have hcr := cod_r hU r1 g2 (show -1 ≤ la by omega) (show la < (t : Int) by omega)
        rw [← hcd] at hcr
        have ok2 := wV_ok2 (E := E) hU g2 e1 (by omega) e3 (t + 1) (by omega)
        rw [wV, if_pos r2, wV_ct t T r5 (by omega), i4, ct_yes r2] at ok2
        simp only [wP] at ok2
        rw [← hcd] at ok2
        have ok3 : gl + lU (2 * (r_7 - ((U0 : Nat) : Int))) ≤ oL + 4 + (dgr E N U0 : Int) := by (repeat' split at ok2) <;> omega
        refine rw_v (wr := [(h, .inr (5, [.ref ta, .ref ou, .ref de, .ref ra, .ref od, .ref gr])), (gr, .inr (2, [.ref b1, .ref b2, .ref b3, .int (iZ n), .int (iZ sz), .int (iZ wh)])), (b1, .inl (cI, 251, .inl (aI f1))), (b2, .inl (cI, 2500, .inl (aI f2))), (b3, .inl (cI, 250, .inl (aI f3)))]) (va_runV (As := [.int (iZ (2 * (r_7 - ((U0 : Nat) : Int))))]) (rest := []) ⟨hx, hb, hml, hown, hts⟩ (c_X0_putUnsigned l D cI cJ cB cZ 3502 ou ob gf gl (2 * (r_7 - ((U0 : Nat) : Int))) (by omega) (by omega) (by omega) _) (cwV 1 hts gX5_putNode_X0_putUnsigned rfl rfl rfl (by decide +kernel) ⟨Nat.le_of_ble_eq_true rfl, Nat.le_of_ble_eq_true rfl⟩) (pre1V hE (hP.sub (ws' := (wBR 3502 cI ou ob gf gl)) [1, 2] rfl) (hD.sub (ws' := (wBR 3502 cI ou ob gf gl)) [1, 2] (by decide) rfl) 0 rfl rfl) rfl rfl hl.1 rfl (lv_room (Nat.le_of_ble_eq_true rfl)) dX5_putNode_88 ⟨Nat.le_of_ble_eq_true rfl, Nat.le_of_ble_eq_true rfl⟩) hP hD hS hA [1, 2] [0, 3, 4, 5, 6] rfl rfl (by decide) (by decide) (fun u_13 H locs hr_12 hP hD hS => ?_)
        subst hr_12
        have hP := hP.sub (ws' := (wHo h ta ou de ra od gr ++ wBR 3502 cI ou ob (pU gf gl.toNat (2 * (r_7 - ((U0 : Nat) : Int)))) (gl + lU (2 * (r_7 - ((U0 : Nat) : Int)))) ++ wGr cI gr b1 b2 b3 f1 f2 f3 n sz wh)) [0, 5, 6, 1, 2, 3, 4] rfl
        have hD := hD.sub (ws' := (wHo h ta ou de ra od gr ++ wBR 3502 cI ou ob (pU gf gl.toNat (2 * (r_7 - ((U0 : Nat) : Int)))) (gl + lU (2 * (r_7 - ((U0 : Nat) : Int)))) ++ wGr cI gr b1 b2 b3 f1 f2 f3 n sz wh)) [0, 5, 6, 1, 2, 3, 4] (by decide) rfl
        refine lv_iload hx hb dX5_putNode_91 (lv_at hl 0 rfl) ?_
        refine lv_istore_n (lv' := [(3, .int (iZ r_7)), (5, .int (iZ r_7)), (0, .ref h), (1, .int (iZ ((U0 : Nat) : Int))), (2, .int (iZ r_1)), (4, .int (iZ ↑i))]) hx hb dX5_putNode_93 rfl hl (by decide) rfl (fun ls hl => ?_)
        refine lv_iinc (v := iZ (↑i + 1)) (lv' := [(4, .int (iZ (↑i + 1))), (3, .int (iZ r_7)), (5, .int (iZ r_7)), (0, .ref h), (1, .int (iZ ((U0 : Nat) : Int))), (2, .int (iZ r_1))]) hx hb dX5_putNode_94 hl (k := 5) rfl (show iZ ↑i + iZ 1 = _ from iZ_add _ _) (by decide) rfl (fun ls hl => ?_)
        refine lv_goto (tgt := 22) hx hb dX5_putNode_97 (by decide) ?_
        exact ih _ _ _ _ (by omega) ⟨(i + 1), (t + 1), (pU gf gl.toNat (2 * (r_7 - ((U0 : Nat) : Int)))), (gl + lU (2 * (r_7 - ((U0 : Nat) : Int)))), r_7, rfl, ⟨by omega, by omega, (by rw [ct_yes r2, r3]), (by rw [wV, if_pos r2, wV_ct t T r5 (by omega), i4]; simp only [wP]; rw [← hcd, r4])⟩, hP, hD, hS, lv_sub hl [3, 4, 5, 1, 0] rfl⟩
      · refine z_iconst hx hb dX5_putNode_71 ?_
        refine lv_iload_n hx hb dX5_putNode_72 rfl (lv_at hl 2 rfl) ?_
        refine lv_iload hx hb dX5_putNode_73 (lv_at hl 0 rfl) ?_
        refine z_isub hx hb dX5_putNode_75 ?_
        refine z_imul hx hb dX5_putNode_76 ?_
        refine z_iconst hx hb dX5_putNode_77 ?_
        refine z_isub hx hb dX5_putNode_78 ?_
        refine lv_goto (tgt := 88) hx hb dX5_putNode_79 (by decide) ?_
        have hcd : ((2 * (((U0 : Nat) : Int) - r_7)) - 1) = cod U0 t la := by unfold cod; (repeat' split) <;> omega
        have hcr := cod_r hU r1 g2 (show -1 ≤ la by omega) (show la < (t : Int) by omega)
        rw [← hcd] at hcr
        have ok2 := wV_ok2 (E := E) hU g2 e1 (by omega) e3 (t + 1) (by omega)
        rw [wV, if_pos r2, wV_ct t T r5 (by omega), i4, ct_yes r2] at ok2
        simp only [wP] at ok2
        rw [← hcd] at ok2
        have ok3 : gl + lU ((2 * (((U0 : Nat) : Int) - r_7)) - 1) ≤ oL + 4 + (dgr E N U0 : Int) := by (repeat' split at ok2) <;> omega
        refine rw_v (wr := [(h, .inr (5, [.ref ta, .ref ou, .ref de, .ref ra, .ref od, .ref gr])), (gr, .inr (2, [.ref b1, .ref b2, .ref b3, .int (iZ n), .int (iZ sz), .int (iZ wh)])), (b1, .inl (cI, 251, .inl (aI f1))), (b2, .inl (cI, 2500, .inl (aI f2))), (b3, .inl (cI, 250, .inl (aI f3)))]) (va_runV (As := [.int (iZ ((2 * (((U0 : Nat) : Int) - r_7)) - 1))]) (rest := []) ⟨hx, hb, hml, hown, hts⟩ (c_X0_putUnsigned l D cI cJ cB cZ 3502 ou ob gf gl ((2 * (((U0 : Nat) : Int) - r_7)) - 1) (by omega) (by omega) (by omega) _) (cwV 1 hts gX5_putNode_X0_putUnsigned rfl rfl rfl (by decide +kernel) ⟨Nat.le_of_ble_eq_true rfl, Nat.le_of_ble_eq_true rfl⟩) (pre1V hE (hP.sub (ws' := (wBR 3502 cI ou ob gf gl)) [1, 2] rfl) (hD.sub (ws' := (wBR 3502 cI ou ob gf gl)) [1, 2] (by decide) rfl) 0 rfl rfl) rfl rfl hl.1 rfl (lv_room (Nat.le_of_ble_eq_true rfl)) dX5_putNode_88 ⟨Nat.le_of_ble_eq_true rfl, Nat.le_of_ble_eq_true rfl⟩) hP hD hS hA [1, 2] [0, 3, 4, 5, 6] rfl rfl (by decide) (by decide) (fun u_16 H locs hr_15 hP hD hS => ?_)
        subst hr_15
        have hP := hP.sub (ws' := (wHo h ta ou de ra od gr ++ wBR 3502 cI ou ob (pU gf gl.toNat ((2 * (((U0 : Nat) : Int) - r_7)) - 1)) (gl + lU ((2 * (((U0 : Nat) : Int) - r_7)) - 1)) ++ wGr cI gr b1 b2 b3 f1 f2 f3 n sz wh)) [0, 5, 6, 1, 2, 3, 4] rfl
        have hD := hD.sub (ws' := (wHo h ta ou de ra od gr ++ wBR 3502 cI ou ob (pU gf gl.toNat ((2 * (((U0 : Nat) : Int) - r_7)) - 1)) (gl + lU ((2 * (((U0 : Nat) : Int) - r_7)) - 1)) ++ wGr cI gr b1 b2 b3 f1 f2 f3 n sz wh)) [0, 5, 6, 1, 2, 3, 4] (by decide) rfl
        refine lv_iload hx hb dX5_putNode_91 (lv_at hl 0 rfl) ?_
        refine lv_istore_n (lv' := [(3, .int (iZ r_7)), (5, .int (iZ r_7)), (0, .ref h), (1, .int (iZ ((U0 : Nat) : Int))), (2, .int (iZ r_1)), (4, .int (iZ ↑i))]) hx hb dX5_putNode_93 rfl hl (by decide) rfl (fun ls hl => ?_)
        refine lv_iinc (v := iZ (↑i + 1)) (lv' := [(4, .int (iZ (↑i + 1))), (3, .int (iZ r_7)), (5, .int (iZ r_7)), (0, .ref h), (1, .int (iZ ((U0 : Nat) : Int))), (2, .int (iZ r_1))]) hx hb dX5_putNode_94 hl (k := 5) rfl (show iZ ↑i + iZ 1 = _ from iZ_add _ _) (by decide) rfl (fun ls hl => ?_)
        refine lv_goto (tgt := 22) hx hb dX5_putNode_97 (by decide) ?_
        exact ih _ _ _ _ (by omega) ⟨(i + 1), (t + 1), (pU gf gl.toNat ((2 * (((U0 : Nat) : Int) - r_7)) - 1)), (gl + lU ((2 * (((U0 : Nat) : Int) - r_7)) - 1)), r_7, rfl, ⟨by omega, by omega, (by rw [ct_yes r2, r3]), (by rw [wV, if_pos r2, wV_ct t T r5 (by omega), i4]; simp only [wP]; rw [← hcd, r4])⟩, hP, hD, hS, lv_sub hl [3, 4, 5, 1, 0] rfl⟩
    · refine lv_aload_n hx hb dX5_putNode_45 rfl (lv_at hl 1 rfl) ?_
      refine va_get (v := .ref ou) (C := RX5) (T := TX5) (N := 6) (ci := 5) hx hb hts hi_5 hown hK hP 0 rfl rfl 1 (by decide) hw_2 (fun _ h9 => h9) rfl dX5_putNode_46 ?_
      refine lv_iload hx hb dX5_putNode_49 (lv_at hl 0 rfl) ?_
      refine lv_iload_n hx hb dX5_putNode_51 rfl (lv_at hl 4 rfl) ?_
      refine z_isub hx hb dX5_putNode_52 ?_
      refine z_iconst hx hb dX5_putNode_53 ?_
      refine z_isub hx hb dX5_putNode_54 ?_
      have hcd : ((r_7 - la) - 1) = cod U0 t la := by unfold cod; (repeat' split) <;> omega
      have hcr := cod_r hU r1 g2 (show -1 ≤ la by omega) (show la < (t : Int) by omega)
      rw [← hcd] at hcr
      have ok2 := wV_ok2 (E := E) hU g2 e1 (by omega) e3 (t + 1) (by omega)
      rw [wV, if_pos r2, wV_ct t T r5 (by omega), i4, ct_yes r2] at ok2
      simp only [wP] at ok2
      rw [← hcd] at ok2
      have ok3 : gl + lU ((r_7 - la) - 1) ≤ oL + 4 + (dgr E N U0 : Int) := by (repeat' split at ok2) <;> omega
      refine rw_v (wr := [(h, .inr (5, [.ref ta, .ref ou, .ref de, .ref ra, .ref od, .ref gr])), (gr, .inr (2, [.ref b1, .ref b2, .ref b3, .int (iZ n), .int (iZ sz), .int (iZ wh)])), (b1, .inl (cI, 251, .inl (aI f1))), (b2, .inl (cI, 2500, .inl (aI f2))), (b3, .inl (cI, 250, .inl (aI f3)))]) (va_runV (As := [.int (iZ ((r_7 - la) - 1))]) (rest := []) ⟨hx, hb, hml, hown, hts⟩ (c_X0_putUnsigned l D cI cJ cB cZ 3502 ou ob gf gl ((r_7 - la) - 1) (by omega) (by omega) (by omega) _) (cwV 1 hts gX5_putNode_X0_putUnsigned rfl rfl rfl (by decide +kernel) ⟨Nat.le_of_ble_eq_true rfl, Nat.le_of_ble_eq_true rfl⟩) (pre1V hE (hP.sub (ws' := (wBR 3502 cI ou ob gf gl)) [1, 2] rfl) (hD.sub (ws' := (wBR 3502 cI ou ob gf gl)) [1, 2] (by decide) rfl) 0 rfl rfl) rfl rfl hl.1 rfl (lv_room (Nat.le_of_ble_eq_true rfl)) dX5_putNode_55 ⟨Nat.le_of_ble_eq_true rfl, Nat.le_of_ble_eq_true rfl⟩) hP hD hS hA [1, 2] [0, 3, 4, 5, 6] rfl rfl (by decide) (by decide) (fun u_19 H locs hr_18 hP hD hS => ?_)
      subst hr_18
      have hP := hP.sub (ws' := (wHo h ta ou de ra od gr ++ wBR 3502 cI ou ob (pU gf gl.toNat ((r_7 - la) - 1)) (gl + lU ((r_7 - la) - 1)) ++ wGr cI gr b1 b2 b3 f1 f2 f3 n sz wh)) [0, 5, 6, 1, 2, 3, 4] rfl
      have hD := hD.sub (ws' := (wHo h ta ou de ra od gr ++ wBR 3502 cI ou ob (pU gf gl.toNat ((r_7 - la) - 1)) (gl + lU ((r_7 - la) - 1)) ++ wGr cI gr b1 b2 b3 f1 f2 f3 n sz wh)) [0, 5, 6, 1, 2, 3, 4] (by decide) rfl
      refine lv_goto (tgt := 91) hx hb dX5_putNode_58 (by decide) ?_
      refine lv_iload hx hb dX5_putNode_91 (lv_at hl 0 rfl) ?_
      refine lv_istore_n (lv' := [(3, .int (iZ r_7)), (5, .int (iZ r_7)), (0, .ref h), (1, .int (iZ ((U0 : Nat) : Int))), (2, .int (iZ r_1)), (4, .int (iZ ↑i))]) hx hb dX5_putNode_93 rfl hl (by decide) rfl (fun ls hl => ?_)
      refine lv_iinc (v := iZ (↑i + 1)) (lv' := [(4, .int (iZ (↑i + 1))), (3, .int (iZ r_7)), (5, .int (iZ r_7)), (0, .ref h), (1, .int (iZ ((U0 : Nat) : Int))), (2, .int (iZ r_1))]) hx hb dX5_putNode_94 hl (k := 5) rfl (show iZ ↑i + iZ 1 = _ from iZ_add _ _) (by decide) rfl (fun ls hl => ?_)
      refine lv_goto (tgt := 22) hx hb dX5_putNode_97 (by decide) ?_
      exact ih _ _ _ _ (by omega) ⟨(i + 1), (t + 1), (pU gf gl.toNat ((r_7 - la) - 1)), (gl + lU ((r_7 - la) - 1)), r_7, rfl, ⟨by omega, by omega, (by rw [ct_yes r2, r3]), (by rw [wV, if_pos r2, wV_ct t T r5 (by omega), i4]; simp only [wP]; rw [← hcd, r4])⟩, hP, hD, hS, lv_sub hl [3, 4, 5, 1, 0] rfl⟩
