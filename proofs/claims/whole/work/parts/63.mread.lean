theorem ME_zero {f : Nat → Int} (h : ∀ j, j < 62500 → f j = 0) : ME (fun _ _ => false) f := by
  intro a b ha hb
  have q9 : ¬ ((fun (_ _ : Nat) => false) a b = true) := fun q => Bool.noConfusion q
  rw [if_neg q9]
  exact h _ (by omega)
theorem ME_cp {E : Ed} {f g : Nat → Int} (h : ME E f) (hg : ∀ j, j < 62500 → g j = f j) : ME E g := by
  intro a b ha hb
  rw [hg _ (by omega)]
  exact h a b ha hb
theorem ME_bit {E : Ed} {f : Nat → Int} (h : ME E f) {j : Nat} (hj : j < 62500) : f j = 0 ∨ f j = 1 := by
  have q := h (j / 250) (j % 250) (by omega) (by omega)
  rw [show 250 * (j / 250) + j % 250 = j by omega] at q
  rw [q]
  split <;> omega
theorem MG_new {N S0 : Nat} {E : Ed} (h1 : 1 ≤ N ∧ N ≤ 250) (hE : ∀ a b, E a b = true → a < N ∧ b < N) (hs : fst E N N = S0) (hs2 : S0 ≤ 2500) {eg wt : Nat → Int} {nd es : Int} (hn : nd = (N : Int)) (he : es = (S0 : Int)) (hm : ME E eg) (hw : ∀ j, j < N → wt j = 1) : MG N E (fun _ => 1) eg wt nd es := by
  have g := GR_reset (N := N) h1.1 h1.2 (f1 := fun _ => 0) (f2 := fun _ => 0) (f3 := fun _ => 1) (fun _ _ => rfl) (fun _ _ => rfl)
  obtain ⟨g1, g2, g3, g4, g5, g6, g7, g8, g9, g10, g11⟩ := g
  exact ⟨hm, hE, h1.1, h1.2, hn, by omega, by omega, fun u hu => ⟨hw u hu, show 1 ≤ 1000 by omega⟩, g10⟩
set_option maxHeartbeats 4000000 in
set_option maxRecDepth 100000 in
theorem c_X6_read (l : Launch) (D : va_G) (cI cJ cB cZ : ClassId) (h a1 a2 a3 a4 a5 a6 a7 : Nat) (thr : Int) (eg fr wt rk nx : Nat → Int) (nd es pp qq st ch bo : Int) (tp : Nat → Int) (le sz at_ fa fp nu fm nn : Int) (ou : Nat → Int) (om : Int) (N : Nat) (E : Ed) (w : Nat → Nat) (P Q : Nat) (x : Nat → Nat) (ks kc ke tl : Nat) (tf : Nat → Int) (ol : Nat) (of_ : Nat → Int) (fk : Int) (hMR : MR N E w P Q x ks kc ke tl tf ol of_ fk (thr, eg, fr, wt, rk, nx, nd, es, pp, qq, st, ch, bo, tp, le, sz, at_, fa, fp, nu, fm, nn, ou, om)) (rkk rp : Int) (rn rs : Nat) (rE : Ed) (hpa : pAll tf tl = (rkk, rp, rn, rs, rE)) (hok : rkk = 0 → 1 ≤ rn ∧ rn ≤ 250 ∧ (∀ a b, rE a b = true → a < rn ∧ b < rn) ∧ fst rE rn rn = rs ∧ rs ≤ 2500)  (sz0 : Nat) : Met l yX6_read wsX6_read ({ frames := 3, cells := 0, slots := 0, locals := 70 } : Room) (Pre1 D cI cJ cB cZ [.ref h] (wMo cI cJ cB cZ h a1 a2 a3 a4 a5 a6 a7 thr eg fr wt rk nx nd es pp qq st ch bo tp le sz at_ fa fp nu fm nn ou om) sz0) (rwI (S := MT) D (fun z U => (rkk = 0 ∧ z = (rs : Int) ∧ MR rn rE (fun _ => 1) P Q (beg rn) 0 8589934592 8589934592 0 tf ol of_ 0 U) ∨ (rkk ≠ 0 ∧ z = -1 - rp ∧ MR N E w P Q x ks kc ke 0 tf ol of_ rkk U)) (fun u => wM cI cJ cB cZ h a1 a2 a3 a4 a5 a6 a7 u) (va_A (wMo cI cJ cB cZ h a1 a2 a3 a4 a5 a6 a7 thr eg fr wt rk nx nd es pp qq st ch bo tp le sz at_ fa fp nu fm nn ou om) sz0)) 0 0 (va_A (wMo cI cJ cB cZ h a1 a2 a3 a4 a5 a6 a7 thr eg fr wt rk nx nd es pp qq st ch bo tp le sz at_ fa fp nu fm nn ou om) sz0) := by
  refine Met.ofW (cc := cX6_read) (maxL := 3) (ret := (some .int)) (by decide) rfl ?_
  intro p e s m args below meth c s₁ B hml hv
  obtain ⟨rfl, hsz, hP, hE, hD0⟩ := hv
  have hx := B.exec
  have hb := B.bytes
  have hr := B.returns
  have hts := atoms_spec (ws := wsX6_read) B.pre
  have hown : s.vm.findClass RX6 = some m.cls := findClass_of_methodNamed B.named
  have hlocks := B.notSynchronized
  have hK := hE.1
  subst hsz
  have hD := hD0.self (sz := s.heap.size)
  generalize hAe : va_A (wMo cI cJ cB cZ h a1 a2 a3 a4 a5 a6 a7 thr eg fr wt rk nx nd es pp qq st ch bo tp le sz at_ fa fp nu fm nn ou om) s.heap.size = A at hD ⊢
  have hA : ∀ q : Nat, s.heap.size ≤ q → A q := fun q h => by rw [← hAe]; exact Or.inr h
  have hS : va_S A s.heap s.heap [] := va_S.rf
  have hP : va_P D vwCl (wMo cI cJ cB cZ h a1 a2 a3 a4 a5 a6 a7 thr eg fr wt rk nx nd es pp qq st ch bo tp le sz at_ fa fp nu fm nn ou om) s.heap := hP
  have hi_6 : ∀ w ∈ wsX60, w ∈ wsX6_read := by decide +kernel
  have hw_1 := hts (.fieldLink RX6 1 "RankHouseModel" "thrown" "I") (by decide +kernel)
  have hw_2 := hts (.fieldLink RX6 65 "RankHouseModel" "length" "I") (by decide +kernel)
  have hw_3 := hts (.fieldLink RX6 87 "RankHouseModel" "size" "I") (by decide +kernel)
  have hw_4 := hts (.fieldLink RX6 78 "RankHouseModel" "at" "I") (by decide +kernel)
  have hw_5 := hts (.fieldLink RX6 72 "RankHouseModel" "fault" "I") (by decide +kernel)
  have hw_6 := hts (.constant RX6 13 (62500)) (by decide +kernel)
  have hw_7 := hts (.fieldLink RX6 99 "RankHouseModel" "newNodes" "I") (by decide +kernel)
  have hw_8 := hts (.fieldLink RX6 32 "RankHouseModel" "nodes" "I") (by decide +kernel)
  have hw_9 := hts (.fieldLink RX6 102 "RankHouseModel" "edges" "I") (by decide +kernel)
  have hw_10 := hts (.fieldLink RX6 21 "RankHouseModel" "weight" "[I") (by decide +kernel)
  have hw_11 := hts (.fieldLink RX6 14 "RankHouseModel" "edge" "[Z") (by decide +kernel)
  have hw_12 := hts (.fieldLink RX6 18 "RankHouseModel" "fresh" "[Z") (by decide +kernel)
  have hw_13 := hts (.fieldLink RX6 75 "RankHouseModel" "faultAt" "I") (by decide +kernel)
  have hl := lv_entry ([.ref h]) (n := 3) (Nat.le_of_ble_eq_true rfl)
  rw [lg_entry_eq]
  generalize (lg_sl ([.ref h]) ++ List.replicate (3 - (lg_sl ([.ref h])).length) Slot.unset).toArray = ls at hl ⊢
  have hl : lv_has ls 3 [(0, .ref h)] := hl
  obtain ⟨hM, hR, s1, s2, s3, s5, s6, t1, t2, t3, y1, y2, y3, d1⟩ := id hMR
  dsimp only at hM hR s1 s2 s3 t1 t3 y1 y3 d1
  have hM : MG N E w eg wt nd es := hM
  have hR : RK N P Q x rk pp qq := hR
  have t3 : BY tp tf tl := t3
  have y3 : BY ou of_ ol := y3
  obtain ⟨m1, m2, m3, m4, m5, m6, m7, m8, m9⟩ := id hM
  obtain ⟨k1, k2, k3, k4, k5, k6⟩ := id hR
  refine lv_aload_n hx hb dX6_read_0 rfl (lv_at hl 0 rfl) ?_
  refine z_iconst hx hb dX6_read_1 ?_
  refine va_put (v := .int (iZ 0)) (ty := .int) (C := RX6) (T := TX6) (N := 24) (ci := 6) hx hb hts hi_6 tyX6 tyX6_ok nmX6 hown hK hP hD hS 0 rfl rfl 0 (by decide) hw_1 (fun _ h9 => h9) rfl (by decide +kernel) rfl rfl (Nat.le_of_ble_eq_true rfl) dX6_read_2 (fun H locs hP hD hS => ?_)
  have hP : va_P D vwCl (wMo cI cJ cB cZ h a1 a2 a3 a4 a5 a6 a7 0 eg fr wt rk nx nd es pp qq st ch bo tp le sz at_ fa fp nu fm nn ou om) H := hP
  have hD : va_D A (wMo cI cJ cB cZ h a1 a2 a3 a4 a5 a6 a7 0 eg fr wt rk nx nd es pp qq st ch bo tp le sz at_ fa fp nu fm nn ou om) := hD
  refine lv_aload_n hx hb dX6_read_5 rfl (lv_at hl 0 rfl) ?_
  refine lv_aload_n hx hb dX6_read_6 rfl (lv_at hl 0 rfl) ?_
  refine va_get (v := .int (iZ le)) (C := RX6) (T := TX6) (N := 24) (ci := 6) hx hb hts hi_6 hown hK hP 0 rfl rfl 14 (by decide) hw_2 (fun _ h9 => h9) rfl dX6_read_7 ?_
  refine va_put (v := .int (iZ le)) (ty := .int) (C := RX6) (T := TX6) (N := 24) (ci := 6) hx hb hts hi_6 tyX6 tyX6_ok nmX6 hown hK hP hD hS 0 rfl rfl 15 (by decide) hw_3 (fun _ h9 => h9) rfl (by decide +kernel) rfl rfl (Nat.le_of_ble_eq_true rfl) dX6_read_10 (fun H locs hP hD hS => ?_)
  have hP : va_P D vwCl (wMo cI cJ cB cZ h a1 a2 a3 a4 a5 a6 a7 0 eg fr wt rk nx nd es pp qq st ch bo tp le le at_ fa fp nu fm nn ou om) H := hP
  have hD : va_D A (wMo cI cJ cB cZ h a1 a2 a3 a4 a5 a6 a7 0 eg fr wt rk nx nd es pp qq st ch bo tp le le at_ fa fp nu fm nn ou om) := hD
  refine lv_aload_n hx hb dX6_read_13 rfl (lv_at hl 0 rfl) ?_
  refine z_iconst hx hb dX6_read_14 ?_
  refine va_put (v := .int (iZ 0)) (ty := .int) (C := RX6) (T := TX6) (N := 24) (ci := 6) hx hb hts hi_6 tyX6 tyX6_ok nmX6 hown hK hP hD hS 0 rfl rfl 14 (by decide) hw_2 (fun _ h9 => h9) rfl (by decide +kernel) rfl rfl (Nat.le_of_ble_eq_true rfl) dX6_read_15 (fun H locs hP hD hS => ?_)
  have hP : va_P D vwCl (wMo cI cJ cB cZ h a1 a2 a3 a4 a5 a6 a7 0 eg fr wt rk nx nd es pp qq st ch bo tp 0 le at_ fa fp nu fm nn ou om) H := hP
  have hD : va_D A (wMo cI cJ cB cZ h a1 a2 a3 a4 a5 a6 a7 0 eg fr wt rk nx nd es pp qq st ch bo tp 0 le at_ fa fp nu fm nn ou om) := hD
  refine lv_aload_n hx hb dX6_read_18 rfl (lv_at hl 0 rfl) ?_
  refine z_iconst hx hb dX6_read_19 ?_
  refine va_put (v := .int (iZ 0)) (ty := .int) (C := RX6) (T := TX6) (N := 24) (ci := 6) hx hb hts hi_6 tyX6 tyX6_ok nmX6 hown hK hP hD hS 0 rfl rfl 16 (by decide) hw_4 (fun _ h9 => h9) rfl (by decide +kernel) rfl rfl (Nat.le_of_ble_eq_true rfl) dX6_read_20 (fun H locs hP hD hS => ?_)
  have hP : va_P D vwCl (wMo cI cJ cB cZ h a1 a2 a3 a4 a5 a6 a7 0 eg fr wt rk nx nd es pp qq st ch bo tp 0 le 0 fa fp nu fm nn ou om) H := hP
  have hD : va_D A (wMo cI cJ cB cZ h a1 a2 a3 a4 a5 a6 a7 0 eg fr wt rk nx nd es pp qq st ch bo tp 0 le 0 fa fp nu fm nn ou om) := hD
  refine lv_aload_n hx hb dX6_read_23 rfl (lv_at hl 0 rfl) ?_
  refine z_iconst hx hb dX6_read_24 ?_
  refine va_put (v := .int (iZ 0)) (ty := .int) (C := RX6) (T := TX6) (N := 24) (ci := 6) hx hb hts hi_6 tyX6 tyX6_ok nmX6 hown hK hP hD hS 0 rfl rfl 17 (by decide) hw_5 (fun _ h9 => h9) rfl (by decide +kernel) rfl rfl (Nat.le_of_ble_eq_true rfl) dX6_read_25 (fun H locs hP hD hS => ?_)
  have hP : va_P D vwCl (wMo cI cJ cB cZ h a1 a2 a3 a4 a5 a6 a7 0 eg fr wt rk nx nd es pp qq st ch bo tp 0 le 0 0 fp nu fm nn ou om) H := hP
  have hD : va_D A (wMo cI cJ cB cZ h a1 a2 a3 a4 a5 a6 a7 0 eg fr wt rk nx nd es pp qq st ch bo tp 0 le 0 0 fp nu fm nn ou om) := hD
  refine z_iconst hx hb dX6_read_28 ?_
  refine lv_istore_n (lv' := [(1, .int (iZ 0)), (0, .ref h)]) hx hb dX6_read_29 rfl hl (by decide) rfl (fun ls hl => ?_)
  refine w_loop (fun kf H locs ls => ∃ (i : Nat), ∃ (g : Nat → Int), kf = 62500 - i ∧ (i ≤ 62500 ∧ ∀ j, j < i → g j = 0) ∧ va_P D vwCl (wMo cI cJ cB cZ h a1 a2 a3 a4 a5 a6 a7 0 eg g wt rk nx nd es pp qq st ch bo tp 0 le 0 0 fp nu fm nn ou om) H ∧ va_D A (wMo cI cJ cB cZ h a1 a2 a3 a4 a5 a6 a7 0 eg g wt rk nx nd es pp qq st ch bo tp 0 le 0 0 fp nu fm nn ou om) ∧ va_S A s.heap H locs ∧ lv_has ls 3 [(0, .ref h), (1, .int (iZ ↑i))]) ?_ _ ⟨0, fr, rfl, ⟨by omega, fun j hj => absurd hj (Nat.not_lt_zero j)⟩, hP, hD, hS, lv_sub hl [1, 0] rfl⟩
  rintro kf H locs ls ⟨i, g, hk, ⟨i1, i2⟩, hP, hD, hS, hl⟩ ih
  refine lv_iload_n hx hb dX6_read_30 rfl (lv_at hl 1 rfl) ?_
  refine z_ldc hx hb (62500) hown hw_6 (by decide) dX6_read_31 ?_
  refine z_icmp_ge (tgt := 49) hx hb dX6_read_33 (by decide) (by omega) (by omega) (fun c_1 => ?_) (fun c_1 => ?_)
  · refine lv_aload_n hx hb dX6_read_49 rfl (lv_at hl 0 rfl) ?_
    refine rw_i (wr := []) (va_runV (As := []) (rest := []) ⟨hx, hb, hml, hown, hts⟩ (c_X6_graph l D cI cJ cB cZ h a1 a2 a3 a4 a5 a6 a7 0 eg g wt rk nx nd es pp qq st ch bo tp 0 le 0 0 fp nu fm nn ou om tf tl t3 t2 t1 rfl (ME_zero (fun j hj => i2 j (by omega))) _) (cwV 0 hts gX6_read_X6_graph rfl rfl rfl (by decide +kernel) ⟨Nat.le_of_ble_eq_true rfl, Nat.le_of_ble_eq_true rfl⟩) (pre1V hE hP hD 0 rfl rfl) rfl rfl hl.1 rfl (lv_room (Nat.le_of_ble_eq_true rfl)) dX6_read_50 ⟨Nat.le_of_ble_eq_true rfl, Nat.le_of_ble_eq_true rfl⟩) hP hD hS hA [0, 1, 2, 3, 4, 5, 6, 7] [] rfl rfl (by decide) (by decide) (fun r_2 u_4 H locs hr_3 hP hD hS => ?_)
    have hP := hP.sub (ws' := (wMo cI cJ cB cZ h a1 a2 a3 a4 a5 a6 a7 0 eg u_4.1 wt rk nx nd es pp qq st ch bo tp 0 le u_4.2.1 u_4.2.2.1 u_4.2.2.2.1 u_4.2.2.2.2.1 u_4.2.2.2.2.2.1 u_4.2.2.2.2.2.2 ou om)) [0, 1, 2, 3, 4, 5, 6, 7] rfl
    have hD := hD.sub (ws' := (wMo cI cJ cB cZ h a1 a2 a3 a4 a5 a6 a7 0 eg u_4.1 wt rk nx nd es pp qq st ch bo tp 0 le u_4.2.1 u_4.2.2.1 u_4.2.2.2.1 u_4.2.2.2.2.1 u_4.2.2.2.2.2.1 u_4.2.2.2.2.2.2 ou om)) [0, 1, 2, 3, 4, 5, 6, 7] (by decide) rfl
    obtain ⟨rk2, rp2, rn2, rs2, rE2, hpa2, hz9⟩ := hr_3
    rw [hpa] at hpa2
    simp only [Prod.mk.injEq] at hpa2
    obtain ⟨rfl, rfl, rfl, rfl, rfl⟩ := hpa2
    refine lv_istore_n (lv' := [(1, .int (iZ r_2)), (0, .ref h)]) hx hb dX6_read_53 rfl hl (by decide) rfl (fun ls hl => ?_)
    have hz_r : r_2 = -1 ∨ 0 ≤ r_2 := by (rcases hz9 with q | q <;> omega)
    have hz_q : r_2 ≤ 2500 := by (rcases hz9 with q | q; (have q2 := hok q.1; omega); omega)
    refine lv_iload_n hx hb dX6_read_54 rfl (lv_at hl 0 rfl) ?_
    refine z_if_ge (tgt := 65) hx hb dX6_read_55 (by decide) (by omega) (fun c_5 => ?_) (fun c_5 => ?_)
    · have hzz : rkk = 0 ∧ r_2 = (rs : Int) := by (rcases hz9 with q | q; exact ⟨q.1, q.2.1⟩; omega)
      have hz8 : ME rE u_4.1 ∧ u_4.2.2.2.2.2.2 = (rn : Int) ∧ u_4.2.2.1 = 0 := by (rcases hz9 with q | q; exact ⟨q.2.2.2.1, q.2.2.1, q.2.2.2.2⟩; exact absurd hzz.1 q.1)
      have hok2 := hok hzz.1
      refine lv_aload_n hx hb dX6_read_65 rfl (lv_at hl 1 rfl) ?_
      refine lv_aload_n hx hb dX6_read_66 rfl (lv_at hl 1 rfl) ?_
      refine va_get (v := .int (iZ u_4.2.2.2.2.2.2)) (C := RX6) (T := TX6) (N := 24) (ci := 6) hx hb hts hi_6 hown hK hP 0 rfl rfl 21 (by decide) hw_7 (fun _ h9 => h9) rfl dX6_read_67 ?_
      refine va_put (v := .int (iZ u_4.2.2.2.2.2.2)) (ty := .int) (C := RX6) (T := TX6) (N := 24) (ci := 6) hx hb hts hi_6 tyX6 tyX6_ok nmX6 hown hK hP hD hS 0 rfl rfl 6 (by decide) hw_8 (fun _ h9 => h9) rfl (by decide +kernel) rfl rfl (Nat.le_of_ble_eq_true rfl) dX6_read_70 (fun H locs hP hD hS => ?_)
      have hP : va_P D vwCl (wMo cI cJ cB cZ h a1 a2 a3 a4 a5 a6 a7 0 eg u_4.1 wt rk nx u_4.2.2.2.2.2.2 es pp qq st ch bo tp 0 le u_4.2.1 u_4.2.2.1 u_4.2.2.2.1 u_4.2.2.2.2.1 u_4.2.2.2.2.2.1 u_4.2.2.2.2.2.2 ou om) H := hP
      have hD : va_D A (wMo cI cJ cB cZ h a1 a2 a3 a4 a5 a6 a7 0 eg u_4.1 wt rk nx u_4.2.2.2.2.2.2 es pp qq st ch bo tp 0 le u_4.2.1 u_4.2.2.1 u_4.2.2.2.1 u_4.2.2.2.2.1 u_4.2.2.2.2.2.1 u_4.2.2.2.2.2.2 ou om) := hD
      refine lv_aload_n hx hb dX6_read_73 rfl (lv_at hl 1 rfl) ?_
      refine lv_iload_n hx hb dX6_read_74 rfl (lv_at hl 0 rfl) ?_
      refine va_put (v := .int (iZ r_2)) (ty := .int) (C := RX6) (T := TX6) (N := 24) (ci := 6) hx hb hts hi_6 tyX6 tyX6_ok nmX6 hown hK hP hD hS 0 rfl rfl 7 (by decide) hw_9 (fun _ h9 => h9) rfl (by decide +kernel) rfl rfl (Nat.le_of_ble_eq_true rfl) dX6_read_75 (fun H locs hP hD hS => ?_)
      have hP : va_P D vwCl (wMo cI cJ cB cZ h a1 a2 a3 a4 a5 a6 a7 0 eg u_4.1 wt rk nx u_4.2.2.2.2.2.2 r_2 pp qq st ch bo tp 0 le u_4.2.1 u_4.2.2.1 u_4.2.2.2.1 u_4.2.2.2.2.1 u_4.2.2.2.2.2.1 u_4.2.2.2.2.2.2 ou om) H := hP
      have hD : va_D A (wMo cI cJ cB cZ h a1 a2 a3 a4 a5 a6 a7 0 eg u_4.1 wt rk nx u_4.2.2.2.2.2.2 r_2 pp qq st ch bo tp 0 le u_4.2.1 u_4.2.2.1 u_4.2.2.2.1 u_4.2.2.2.2.1 u_4.2.2.2.2.2.1 u_4.2.2.2.2.2.2 ou om) := hD
      refine z_iconst hx hb dX6_read_78 ?_
      refine lv_istore_n (lv' := [(2, .int (iZ 0)), (1, .int (iZ r_2)), (0, .ref h)]) hx hb dX6_read_79 rfl hl (by decide) rfl (fun ls hl => ?_)
      refine w_loop (fun kf H locs ls => ∃ (i3 : Nat), ∃ (g3_ : Nat → Int), kf = 62500 - i3 ∧ (i3 ≤ 62500 ∧ ∀ j, j < i3 → g3_ j = u_4.1 j) ∧ va_P D vwCl (wMo cI cJ cB cZ h a1 a2 a3 a4 a5 a6 a7 0 g3_ u_4.1 wt rk nx u_4.2.2.2.2.2.2 r_2 pp qq st ch bo tp 0 le u_4.2.1 u_4.2.2.1 u_4.2.2.2.1 u_4.2.2.2.2.1 u_4.2.2.2.2.2.1 u_4.2.2.2.2.2.2 ou om) H ∧ va_D A (wMo cI cJ cB cZ h a1 a2 a3 a4 a5 a6 a7 0 g3_ u_4.1 wt rk nx u_4.2.2.2.2.2.2 r_2 pp qq st ch bo tp 0 le u_4.2.1 u_4.2.2.1 u_4.2.2.2.1 u_4.2.2.2.2.1 u_4.2.2.2.2.2.1 u_4.2.2.2.2.2.2 ou om) ∧ va_S A s.heap H locs ∧ lv_has ls 3 [(0, .ref h), (1, .int (iZ r_2)), (2, .int (iZ ↑i3))]) ?_ _ ⟨0, eg, rfl, ⟨by omega, fun j hj => absurd hj (Nat.not_lt_zero j)⟩, hP, hD, hS, lv_sub hl [2, 1, 0] rfl⟩
      rintro kf H locs ls ⟨i3, g3_, hk, ⟨i4, i5⟩, hP, hD, hS, hl⟩ ih
      refine lv_iload_n hx hb dX6_read_80 rfl (lv_at hl 2 rfl) ?_
      refine z_ldc hx hb (62500) hown hw_6 (by decide) dX6_read_81 ?_
      refine z_icmp_ge (tgt := 104) hx hb dX6_read_83 (by decide) (by omega) (by omega) (fun c_6 => ?_) (fun c_6 => ?_)
      · refine z_iconst hx hb dX6_read_104 ?_
        refine lv_istore_n (lv' := [(2, .int (iZ 0)), (0, .ref h), (1, .int (iZ r_2))]) hx hb dX6_read_105 rfl hl (by decide) rfl (fun ls hl => ?_)
        refine w_loop (fun kf H locs ls => ∃ (i6 : Nat), ∃ (g6 : Nat → Int), kf = rn - i6 ∧ (i6 ≤ rn ∧ ∀ j, j < i6 → g6 j = 1) ∧ va_P D vwCl (wMo cI cJ cB cZ h a1 a2 a3 a4 a5 a6 a7 0 g3_ u_4.1 g6 rk nx u_4.2.2.2.2.2.2 r_2 pp qq st ch bo tp 0 le u_4.2.1 u_4.2.2.1 u_4.2.2.2.1 u_4.2.2.2.2.1 u_4.2.2.2.2.2.1 u_4.2.2.2.2.2.2 ou om) H ∧ va_D A (wMo cI cJ cB cZ h a1 a2 a3 a4 a5 a6 a7 0 g3_ u_4.1 g6 rk nx u_4.2.2.2.2.2.2 r_2 pp qq st ch bo tp 0 le u_4.2.1 u_4.2.2.1 u_4.2.2.2.1 u_4.2.2.2.2.1 u_4.2.2.2.2.2.1 u_4.2.2.2.2.2.2 ou om) ∧ va_S A s.heap H locs ∧ lv_has ls 3 [(0, .ref h), (1, .int (iZ r_2)), (2, .int (iZ ↑i6))]) ?_ _ ⟨0, wt, rfl, ⟨by omega, fun j hj => absurd hj (Nat.not_lt_zero j)⟩, hP, hD, hS, lv_sub hl [1, 2, 0] rfl⟩
        rintro kf H locs ls ⟨i6, g6, hk, ⟨i7, i8⟩, hP, hD, hS, hl⟩ ih
        refine lv_iload_n hx hb dX6_read_106 rfl (lv_at hl 2 rfl) ?_
        refine lv_aload_n hx hb dX6_read_107 rfl (lv_at hl 0 rfl) ?_
        refine va_get (v := .int (iZ u_4.2.2.2.2.2.2)) (C := RX6) (T := TX6) (N := 24) (ci := 6) hx hb hts hi_6 hown hK hP 0 rfl rfl 6 (by decide) hw_8 (fun _ h9 => h9) rfl dX6_read_108 ?_
        refine z_icmp_ge (tgt := 127) hx hb dX6_read_111 (by decide) (by omega) (by omega) (fun c_7 => ?_) (fun c_7 => ?_)
        · refine lv_aload_n hx hb dX6_read_127 rfl (lv_at hl 0 rfl) ?_
          refine rw_v (wr := []) (va_runV (As := []) (rest := []) ⟨hx, hb, hml, hown, hts⟩ (c_X6_begin l D cI cJ cB cZ h a1 a2 a3 a4 a5 a6 a7 0 g3_ u_4.1 g6 rk nx u_4.2.2.2.2.2.2 r_2 pp qq st ch bo tp 0 le u_4.2.1 u_4.2.2.1 u_4.2.2.2.1 u_4.2.2.2.2.1 u_4.2.2.2.2.2.1 u_4.2.2.2.2.2.2 ou om rn (by omega) (by omega) _) (cwV 0 hts gX6_read_X6_begin rfl rfl rfl (by decide +kernel) ⟨Nat.le_of_ble_eq_true rfl, Nat.le_of_ble_eq_true rfl⟩) (pre1V hE hP hD 0 rfl rfl) rfl rfl hl.1 rfl (lv_room (Nat.le_of_ble_eq_true rfl)) dX6_read_128 ⟨Nat.le_of_ble_eq_true rfl, Nat.le_of_ble_eq_true rfl⟩) hP hD hS hA [0, 1, 2, 3, 4, 5, 6, 7] [] rfl rfl (by decide) (by decide) (fun u_10 H locs hr_9 hP hD hS => ?_)
          have hP := hP.sub (ws' := (wMo cI cJ cB cZ h a1 a2 a3 a4 a5 a6 a7 0 g3_ u_4.1 g6 u_10.1 nx u_4.2.2.2.2.2.2 r_2 pp qq u_10.2.1 u_10.2.2.1 u_10.2.2.2 tp 0 le u_4.2.1 u_4.2.2.1 u_4.2.2.2.1 u_4.2.2.2.2.1 u_4.2.2.2.2.2.1 u_4.2.2.2.2.2.2 ou om)) [0, 1, 2, 3, 4, 5, 6, 7] rfl
          have hD := hD.sub (ws' := (wMo cI cJ cB cZ h a1 a2 a3 a4 a5 a6 a7 0 g3_ u_4.1 g6 u_10.1 nx u_4.2.2.2.2.2.2 r_2 pp qq u_10.2.1 u_10.2.2.1 u_10.2.2.2 tp 0 le u_4.2.1 u_4.2.2.1 u_4.2.2.2.1 u_4.2.2.2.2.1 u_4.2.2.2.2.2.1 u_4.2.2.2.2.2.2 ou om)) [0, 1, 2, 3, 4, 5, 6, 7] (by decide) rfl
          obtain ⟨hb9, hb8⟩ := hr_9
          have hb7 := congrArg Prod.fst hb8
          have hb6 := congrArg (fun q => q.2.1) hb8
          have hb5 := congrArg (fun q => q.2.2) hb8
          refine lv_aload_n hx hb dX6_read_131 rfl (lv_at hl 0 rfl) ?_
          refine va_get (v := .int (iZ r_2)) (C := RX6) (T := TX6) (N := 24) (ci := 6) hx hb hts hi_6 hown hK hP 0 rfl rfl 7 (by decide) hw_9 (fun _ h9 => h9) rfl dX6_read_132 ?_
          exact rw_iret (z := r_2) (0, g3_, u_4.1, g6, u_10.1, nx, u_4.2.2.2.2.2.2, r_2, pp, qq, u_10.2.1, u_10.2.2.1, u_10.2.2.2, tp, 0, le, u_4.2.1, u_4.2.2.1, u_4.2.2.2.1, u_4.2.2.2.2.1, u_4.2.2.2.2.2.1, u_4.2.2.2.2.2.2, ou, om) hx hb hr hlocks hP hD hS (Or.inl ⟨hzz.1, hzz.2, ⟨(MG_new ⟨hok2.1, hok2.2.1⟩ hok2.2.2.1 hok2.2.2.2.1 hok2.2.2.2.2 hz8.2.1 hzz.2 (ME_cp hz8.1 (fun j hj => i5 j (by omega))) (fun j hj => i8 j (by omega))), (RK_beg (by omega) hR hb9), hb7, hb6, hb5, (Nat.le_refl _), (Nat.le_refl _), rfl, (by omega), (fun j hj => absurd hj (Nat.not_lt_zero j)), y1, y2, y3, hz8.2.2⟩⟩) dX6_read_135
        · refine lv_aload_n hx hb dX6_read_114 rfl (lv_at hl 0 rfl) ?_
          refine va_get (v := .ref a3) (C := RX6) (T := TX6) (N := 24) (ci := 6) hx hb hts hi_6 hown hK hP 0 rfl rfl 3 (by decide) hw_10 (fun _ h9 => h9) rfl dX6_read_115 ?_
          refine lv_iload_n hx hb dX6_read_118 rfl (lv_at hl 2 rfl) ?_
          refine z_iconst hx hb dX6_read_119 ?_
          refine z_iast hx hb hK hP hD hS 3 0 rfl rfl i6 (by omega) (by omega) (by omega) dX6_read_120 (fun H locs hP hD hS => ?_)
          have hP : va_P D vwCl (wMo cI cJ cB cZ h a1 a2 a3 a4 a5 a6 a7 0 g3_ u_4.1 (uZ g6 i6 1) rk nx u_4.2.2.2.2.2.2 r_2 pp qq st ch bo tp 0 le u_4.2.1 u_4.2.2.1 u_4.2.2.2.1 u_4.2.2.2.2.1 u_4.2.2.2.2.2.1 u_4.2.2.2.2.2.2 ou om) H := hP
          have hD : va_D A (wMo cI cJ cB cZ h a1 a2 a3 a4 a5 a6 a7 0 g3_ u_4.1 (uZ g6 i6 1) rk nx u_4.2.2.2.2.2.2 r_2 pp qq st ch bo tp 0 le u_4.2.1 u_4.2.2.1 u_4.2.2.2.1 u_4.2.2.2.2.1 u_4.2.2.2.2.2.1 u_4.2.2.2.2.2.2 ou om) := hD
          refine lv_iinc (v := iZ (↑i6 + 1)) (lv' := [(2, .int (iZ (↑i6 + 1))), (0, .ref h), (1, .int (iZ r_2))]) hx hb dX6_read_121 hl (k := 2) rfl (show iZ ↑i6 + iZ 1 = _ from iZ_add _ _) (by decide) rfl (fun ls hl => ?_)
          refine lv_goto (tgt := 106) hx hb dX6_read_124 (by decide) ?_
          exact ih _ _ _ _ (by omega) ⟨(i6 + 1), (uZ g6 i6 1), rfl, ⟨by omega, reset_step (f := eg) i8⟩, hP, hD, hS, lv_sub hl [1, 2, 0] rfl⟩
      · have hbit := ME_bit hz8.1 (show i3 < 62500 by omega)
        refine lv_aload_n hx hb dX6_read_86 rfl (lv_at hl 0 rfl) ?_
        refine va_get (v := .ref a1) (C := RX6) (T := TX6) (N := 24) (ci := 6) hx hb hts hi_6 hown hK hP 0 rfl rfl 1 (by decide) hw_11 (fun _ h9 => h9) rfl dX6_read_87 ?_
        refine lv_iload_n hx hb dX6_read_90 rfl (lv_at hl 2 rfl) ?_
        refine lv_aload_n hx hb dX6_read_91 rfl (lv_at hl 0 rfl) ?_
        refine va_get (v := .ref a2) (C := RX6) (T := TX6) (N := 24) (ci := 6) hx hb hts hi_6 hown hK hP 0 rfl rfl 2 (by decide) hw_12 (fun _ h9 => h9) rfl dX6_read_92 ?_
        refine lv_iload_n hx hb dX6_read_95 rfl (lv_at hl 2 rfl) ?_
        refine z_zald hx hb hK hP 2 3 rfl rfl i3 (by omega) (by omega) (by omega) dX6_read_96 ?_
        refine z_zast hx hb hK hP hD hS 1 3 rfl rfl (u_4.1 i3) (by rcases hbit with q | q <;> rw [q] <;> rfl) i3 (by omega) (by omega) (by omega) dX6_read_97 (fun H locs hP hD hS => ?_)
        have hP : va_P D vwCl (wMo cI cJ cB cZ h a1 a2 a3 a4 a5 a6 a7 0 (uZ g3_ i3 (u_4.1 i3)) u_4.1 wt rk nx u_4.2.2.2.2.2.2 r_2 pp qq st ch bo tp 0 le u_4.2.1 u_4.2.2.1 u_4.2.2.2.1 u_4.2.2.2.2.1 u_4.2.2.2.2.2.1 u_4.2.2.2.2.2.2 ou om) H := hP
        have hD : va_D A (wMo cI cJ cB cZ h a1 a2 a3 a4 a5 a6 a7 0 (uZ g3_ i3 (u_4.1 i3)) u_4.1 wt rk nx u_4.2.2.2.2.2.2 r_2 pp qq st ch bo tp 0 le u_4.2.1 u_4.2.2.1 u_4.2.2.2.1 u_4.2.2.2.2.1 u_4.2.2.2.2.2.1 u_4.2.2.2.2.2.2 ou om) := hD
        refine lv_iinc (v := iZ (↑i3 + 1)) (lv' := [(2, .int (iZ (↑i3 + 1))), (0, .ref h), (1, .int (iZ r_2))]) hx hb dX6_read_98 hl (k := 2) rfl (show iZ ↑i3 + iZ 1 = _ from iZ_add _ _) (by decide) rfl (fun ls hl => ?_)
        refine lv_goto (tgt := 80) hx hb dX6_read_101 (by decide) ?_
        exact ih _ _ _ _ (by omega) ⟨(i3 + 1), (uZ g3_ i3 (u_4.1 i3)), rfl, ⟨by omega, fun j hj => by by_cases q : j = i3; (rw [q, uZ_s]); (rw [uZ_n q]; exact i5 j (by omega))⟩, hP, hD, hS, lv_sub hl [1, 2, 0] rfl⟩
    · have hzz : rkk ≠ 0 ∧ u_4.2.2.1 = rkk ∧ u_4.2.2.2.1 = rp := by (rcases hz9 with q | q; omega; exact ⟨q.1, q.2.2.1, q.2.2.2⟩)
      refine z_iconst hx hb dX6_read_58 ?_
      refine lv_aload_n hx hb dX6_read_59 rfl (lv_at hl 1 rfl) ?_
      refine va_get (v := .int (iZ u_4.2.2.2.1)) (C := RX6) (T := TX6) (N := 24) (ci := 6) hx hb hts hi_6 hown hK hP 0 rfl rfl 18 (by decide) hw_13 (fun _ h9 => h9) rfl dX6_read_60 ?_
      refine z_isub hx hb dX6_read_63 ?_
      exact rw_iret (z := (-1) - u_4.2.2.2.1) (0, eg, u_4.1, wt, rk, nx, nd, es, pp, qq, st, ch, bo, tp, 0, le, u_4.2.1, u_4.2.2.1, u_4.2.2.2.1, u_4.2.2.2.2.1, u_4.2.2.2.2.2.1, u_4.2.2.2.2.2.2, ou, om) hx hb hr hlocks hP hD hS (Or.inr ⟨hzz.1, (by rw [hzz.2.2]), ⟨hM, hR, s1, s2, s3, s5, s6, rfl, (by omega), (fun j hj => absurd hj (Nat.not_lt_zero j)), y1, y2, y3, hzz.2.1⟩⟩) dX6_read_64
  · refine lv_aload_n hx hb dX6_read_36 rfl (lv_at hl 0 rfl) ?_
    refine va_get (v := .ref a2) (C := RX6) (T := TX6) (N := 24) (ci := 6) hx hb hts hi_6 hown hK hP 0 rfl rfl 2 (by decide) hw_12 (fun _ h9 => h9) rfl dX6_read_37 ?_
    refine lv_iload_n hx hb dX6_read_40 rfl (lv_at hl 1 rfl) ?_
    refine z_iconst hx hb dX6_read_41 ?_
    refine z_zast hx hb hK hP hD hS 2 3 rfl rfl 0 rfl i (by omega) (by omega) (by omega) dX6_read_42 (fun H locs hP hD hS => ?_)
    have hP : va_P D vwCl (wMo cI cJ cB cZ h a1 a2 a3 a4 a5 a6 a7 0 eg (uZ g i 0) wt rk nx nd es pp qq st ch bo tp 0 le 0 0 fp nu fm nn ou om) H := hP
    have hD : va_D A (wMo cI cJ cB cZ h a1 a2 a3 a4 a5 a6 a7 0 eg (uZ g i 0) wt rk nx nd es pp qq st ch bo tp 0 le 0 0 fp nu fm nn ou om) := hD
    refine lv_iinc (v := iZ (↑i + 1)) (lv' := [(1, .int (iZ (↑i + 1))), (0, .ref h)]) hx hb dX6_read_43 hl (k := 1) rfl (show iZ ↑i + iZ 1 = _ from iZ_add _ _) (by decide) rfl (fun ls hl => ?_)
    refine lv_goto (tgt := 30) hx hb dX6_read_46 (by decide) ?_
    exact ih _ _ _ _ (by omega) ⟨(i + 1), (uZ g i 0), rfl, ⟨by omega, reset_step (f := eg) i2⟩, hP, hD, hS, lv_sub hl [1, 0] rfl⟩
