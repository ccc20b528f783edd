set_option maxHeartbeats 4000000 in
set_option maxRecDepth 100000 in
theorem c_X1_decode1 (l : Launch) (D : va_G) (cI cJ cB cZ : ClassId) (hd ht ta h a1 a2 a3 : Nat) (nx nd sz kd pl : Int) (tf : Nat → Int) (len : Int) (f1 f2 f3 : Nat → Int) (n sz2 wh : Int) (hT : ∀ j, j < len.toNat → 0 ≤ tf j ∧ tf j < 256) (hL : 0 ≤ len ∧ len ≤ 2000) (hok : (pAll tf len.toNat).1 = 0)  (sz0 : Nat) : Met l yX1_decode wsX1_decode ({ frames := 4, cells := 0, slots := 0, locals := 97 } : Room) (Pre1 D cI cJ cB cZ [.ref hd, .ref ht, .ref h] (wDe hd nx nd sz kd pl ++ wBR 2000 cI ht ta tf len ++ wGr cI h a1 a2 a3 f1 f2 f3 n sz2 wh) sz0) (rwI (S := Int × Int × Int × Int × Int × GT) D (fun z U => z = 1 ∧ U.2.2.2.1 = 0 ∧ ∃ (rp : Int) (rn rs : Nat) (rE : Ed), pAll tf len.toNat = (0, rp, rn, rs, rE) ∧ GRu rn rE (fun _ => 1) U.2.2.2.2.2 ∧ fst rE rn rn = rs) (fun u => wDe hd u.1 u.2.1 u.2.2.1 u.2.2.2.1 u.2.2.2.2.1 ++ wBR 2000 cI ht ta tf len ++ wG cI h a1 a2 a3 u.2.2.2.2.2) (va_A (wDe hd nx nd sz kd pl ++ wBR 2000 cI ht ta tf len ++ wGr cI h a1 a2 a3 f1 f2 f3 n sz2 wh) sz0)) 0 0 (va_A (wDe hd nx nd sz kd pl ++ wBR 2000 cI ht ta tf len ++ wGr cI h a1 a2 a3 f1 f2 f3 n sz2 wh) sz0) := by
  refine Met.ofW (cc := cX1_decode) (maxL := 4) (ret := (some .boolean)) (by decide) rfl ?_
  intro p e s m args below meth c s₁ B hml hv
  obtain ⟨rfl, hsz, hP, hE, hD0⟩ := hv
  have hx := B.exec
  have hb := B.bytes
  have hr := B.returns
  have hts := atoms_spec (ws := wsX1_decode) B.pre
  have hown : s.vm.findClass RX1 = some m.cls := findClass_of_methodNamed B.named
  have hlocks := B.notSynchronized
  have hK := hE.1
  subst hsz
  have hD := hD0.self (sz := s.heap.size)
  generalize hAe : va_A (wDe hd nx nd sz kd pl ++ wBR 2000 cI ht ta tf len ++ wGr cI h a1 a2 a3 f1 f2 f3 n sz2 wh) s.heap.size = A at hD ⊢
  have hA : ∀ q : Nat, s.heap.size ≤ q → A q := fun q h => by rw [← hAe]; exact Or.inr h
  have hS : va_S A s.heap s.heap [] := va_S.rf
  have hP : va_P D vwCl (wDe hd nx nd sz kd pl ++ wBR 2000 cI ht ta tf len ++ wGr cI h a1 a2 a3 f1 f2 f3 n sz2 wh) s.heap := hP
  have hi_0 : ∀ w ∈ wsX00, w ∈ wsX1_decode := by decide +kernel
  have hi_1 : ∀ w ∈ wsX10, w ∈ wsX1_decode := by decide +kernel
  have hw_1 := hts (.fieldLink RX1 9 "RankHouse$Decoder" "next" "I") (by decide +kernel)
  have hw_2 := hts (.fieldLink RX1 21 "RankHouse$Decoder" "kind" "I") (by decide +kernel)
  have hw_3 := hts (.fieldLink RX1 18 "RankHouse$Decoder" "size" "I") (by decide +kernel)
  have hw_4 := hts (.fieldLink RX1 15 "RankHouse$Decoder" "nodes" "I") (by decide +kernel)
  have hw_5 := hE.nl (w := .fieldLinkNest RX1 49 "RankHouse$ByteRow" "length" "I" "RankHouse") (by decide +kernel) ([.ref hd, .ref ht, .ref h] : List Value).toArray
  have hl := lv_entry ([.ref hd, .ref ht, .ref h]) (n := 4) (Nat.le_of_ble_eq_true rfl)
  rw [lg_entry_eq]
  generalize (lg_sl ([.ref hd, .ref ht, .ref h]) ++ List.replicate (4 - (lg_sl ([.ref hd, .ref ht, .ref h])).length) Slot.unset).toArray = ls at hl ⊢
  have hl : lv_has ls 4 [(0, .ref hd), (1, .ref ht), (2, .ref h)] := hl
  refine lv_aload_n hx hb dX1_decode_0 rfl (lv_at hl 0 rfl) ?_
  refine z_iconst hx hb dX1_decode_1 ?_
  refine va_put (v := .int (iZ 0)) (ty := .int) (C := RX1) (T := TX1) (N := 5) (ci := 1) hx hb hts hi_1 tyX1 tyX1_ok nmX1 hown hK hP hD hS 0 rfl rfl 0 (by decide) hw_1 (fun _ h9 => h9) rfl (by decide +kernel) rfl rfl (Nat.le_of_ble_eq_true rfl) dX1_decode_2 (fun H locs hP hD hS => ?_)
  have hP : va_P D vwCl (wDe hd 0 nd sz kd pl ++ wBR 2000 cI ht ta tf len ++ wGr cI h a1 a2 a3 f1 f2 f3 n sz2 wh) H := hP
  have hD : va_D A (wDe hd 0 nd sz kd pl ++ wBR 2000 cI ht ta tf len ++ wGr cI h a1 a2 a3 f1 f2 f3 n sz2 wh) := hD
  refine lv_aload_n hx hb dX1_decode_5 rfl (lv_at hl 0 rfl) ?_
  refine z_iconst hx hb dX1_decode_6 ?_
  refine va_put (v := .int (iZ 0)) (ty := .int) (C := RX1) (T := TX1) (N := 5) (ci := 1) hx hb hts hi_1 tyX1 tyX1_ok nmX1 hown hK hP hD hS 0 rfl rfl 3 (by decide) hw_2 (fun _ h9 => h9) rfl (by decide +kernel) rfl rfl (Nat.le_of_ble_eq_true rfl) dX1_decode_7 (fun H locs hP hD hS => ?_)
  have hP : va_P D vwCl (wDe hd 0 nd sz 0 pl ++ wBR 2000 cI ht ta tf len ++ wGr cI h a1 a2 a3 f1 f2 f3 n sz2 wh) H := hP
  have hD : va_D A (wDe hd 0 nd sz 0 pl ++ wBR 2000 cI ht ta tf len ++ wGr cI h a1 a2 a3 f1 f2 f3 n sz2 wh) := hD
  refine lv_aload_n hx hb dX1_decode_10 rfl (lv_at hl 0 rfl) ?_
  refine z_iconst hx hb dX1_decode_11 ?_
  refine va_put (v := .int (iZ 0)) (ty := .int) (C := RX1) (T := TX1) (N := 5) (ci := 1) hx hb hts hi_1 tyX1 tyX1_ok nmX1 hown hK hP hD hS 0 rfl rfl 2 (by decide) hw_3 (fun _ h9 => h9) rfl (by decide +kernel) rfl rfl (Nat.le_of_ble_eq_true rfl) dX1_decode_12 (fun H locs hP hD hS => ?_)
  have hP : va_P D vwCl (wDe hd 0 nd 0 0 pl ++ wBR 2000 cI ht ta tf len ++ wGr cI h a1 a2 a3 f1 f2 f3 n sz2 wh) H := hP
  have hD : va_D A (wDe hd 0 nd 0 0 pl ++ wBR 2000 cI ht ta tf len ++ wGr cI h a1 a2 a3 f1 f2 f3 n sz2 wh) := hD
  refine lv_aload_n hx hb dX1_decode_15 rfl (lv_at hl 0 rfl) ?_
  refine lv_aload_n hx hb dX1_decode_16 rfl (lv_at hl 0 rfl) ?_
  refine lv_aload_n hx hb dX1_decode_17 rfl (lv_at hl 1 rfl) ?_
  refine rw_i (wr := [(h, .inr (2, [.ref a1, .ref a2, .ref a3, .int (iZ n), .int (iZ sz2), .int (iZ wh)])), (a1, .inl (cI, 251, .inl (aI f1))), (a2, .inl (cI, 2500, .inl (aI f2))), (a3, .inl (cI, 250, .inl (aI f3)))]) (va_runV (As := [.ref ht]) (rest := [.ref hd]) ⟨hx, hb, hml, hown, hts⟩ (c_X1_unsigned l D cI cJ cB cZ hd ht ta 0 nd 0 0 pl tf len hT hL (by omega) _) (cwV 1 hts gX1_decode_X1_unsigned rfl rfl rfl (by decide +kernel) ⟨Nat.le_of_ble_eq_true rfl, Nat.le_of_ble_eq_true rfl⟩) (pre1V hE (hP.sub (ws' := (wDe hd 0 nd 0 0 pl ++ wBR 2000 cI ht ta tf len)) [0, 1, 2] rfl) (hD.sub (ws' := (wDe hd 0 nd 0 0 pl ++ wBR 2000 cI ht ta tf len)) [0, 1, 2] (by decide) rfl) 0 rfl rfl) rfl rfl hl.1 rfl (lv_room (Nat.le_of_ble_eq_true rfl)) dX1_decode_18 ⟨Nat.le_of_ble_eq_true rfl, Nat.le_of_ble_eq_true rfl⟩) hP hD hS hA [0, 1, 2] [3, 4, 5, 6] rfl rfl (by decide) (by decide) (fun r_1 u_3 H locs hr_2 hP hD hS => ?_)
  have hP := hP.sub (ws' := (wDe hd u_3.1 nd 0 u_3.2.1 u_3.2.2 ++ wBR 2000 cI ht ta tf len ++ wGr cI h a1 a2 a3 f1 f2 f3 n sz2 wh)) [4, 5, 6, 0, 1, 2, 3] rfl
  have hD := hD.sub (ws' := (wDe hd u_3.1 nd 0 u_3.2.1 u_3.2.2 ++ wBR 2000 cI ht ta tf len ++ wGr cI h a1 a2 a3 f1 f2 f3 n sz2 wh)) [4, 5, 6, 0, 1, 2, 3] (by decide) rfl
  obtain ⟨⟨qk, qv, qp⟩, hq⟩ : ∃ q, q = uns tf len.toNat (0 : Int).toNat := ⟨_, rfl⟩
  rw [← hq] at hr_2
  have w1 := uns_ok hq (by omega) hT
  dsimp only [uR] at hr_2
  refine va_put (v := .int (iZ r_1)) (ty := .int) (C := RX1) (T := TX1) (N := 5) (ci := 1) hx hb hts hi_1 tyX1 tyX1_ok nmX1 hown hK hP hD hS 0 rfl rfl 1 (by decide) hw_4 (fun _ h9 => h9) rfl (by decide +kernel) rfl rfl (Nat.le_of_ble_eq_true rfl) dX1_decode_21 (fun H locs hP hD hS => ?_)
  have hP : va_P D vwCl (wDe hd u_3.1 r_1 0 u_3.2.1 u_3.2.2 ++ wBR 2000 cI ht ta tf len ++ wGr cI h a1 a2 a3 f1 f2 f3 n sz2 wh) H := hP
  have hD : va_D A (wDe hd u_3.1 r_1 0 u_3.2.1 u_3.2.2 ++ wBR 2000 cI ht ta tf len ++ wGr cI h a1 a2 a3 f1 f2 f3 n sz2 wh) := hD
  refine lv_aload_n hx hb dX1_decode_24 rfl (lv_at hl 0 rfl) ?_
  refine va_get (v := .int (iZ r_1)) (C := RX1) (T := TX1) (N := 5) (ci := 1) hx hb hts hi_1 hown hK hP 0 rfl rfl 1 (by decide) hw_4 (fun _ h9 => h9) rfl dX1_decode_25 ?_
  refine z_iconst hx hb dX1_decode_28 ?_
  refine z_icmp_ne (tgt := 34) hx hb dX1_decode_29 (by decide) (by omega) (by omega) (fun c_4 => ?_) (fun c_4 => ?_)
  · obtain rfl : qv = r_1 := by omega
    refine lv_aload_n hx hb dX1_decode_34 rfl (lv_at hl 0 rfl) ?_
    refine va_get (v := .int (iZ qv)) (C := RX1) (T := TX1) (N := 5) (ci := 1) hx hb hts hi_1 hown hK hP 0 rfl rfl 1 (by decide) hw_4 (fun _ h9 => h9) rfl dX1_decode_35 ?_
    refine ro_i (va_runS (As := [.int (iZ qv)]) (rest := []) ⟨hx, hb, hml, hown, hts⟩ (c_X2_canHave l D cI cJ cB cZ qv (by omega)) (va_cwS 1 hts gX1_decode_X2_canHave rfl rfl rfl (by decide +kernel) ⟨Nat.le_of_ble_eq_true rfl, Nat.le_of_ble_eq_true rfl⟩) (pre0S hE (hP.sub (ws' := []) [] rfl)) rfl rfl hl.1 rfl (lv_room (Nat.le_of_ble_eq_true rfl)) dX1_decode_38 ⟨Nat.le_of_ble_eq_true rfl, Nat.le_of_ble_eq_true rfl⟩) (fun r_5 hr_6 => ?_)
    rcases hr_6 with ⟨rfl, hq_7⟩ | ⟨rfl, hq_7⟩
    · refine z_if_ne (tgt := 51) hx hb dX1_decode_41 (by decide) (by omega) (fun _ => ?_) (fun c9 => absurd c9 (by decide))
      have hokN : (pNodes tf len.toNat qv.toNat qv.toNat 0 qp 0 (fun _ _ => false)).1 = 0 := (by obtain ⟨⟨b1, b2, b3, b4⟩, hb9⟩ : ∃ q, q = pNodes tf len.toNat qv.toNat qv.toNat 0 qp 0 (fun _ _ => false) := ⟨_, rfl⟩; rw [pAll_s hq (by omega) (by omega) hb9.symm] at hok; rw [← hb9]; exact hok)
      refine lv_aload_n hx hb dX1_decode_51 rfl (lv_at hl 2 rfl) ?_
      refine lv_ifnull hx hb dX1_decode_52 ?_
      refine lv_aload_n hx hb dX1_decode_55 rfl (lv_at hl 2 rfl) ?_
      refine lv_aload_n hx hb dX1_decode_56 rfl (lv_at hl 0 rfl) ?_
      refine va_get (v := .int (iZ qv)) (C := RX1) (T := TX1) (N := 5) (ci := 1) hx hb hts hi_1 hown hK hP 0 rfl rfl 1 (by decide) hw_4 (fun _ h9 => h9) rfl dX1_decode_57 ?_
      refine rw_v (wr := [(hd, .inr (1, [.int (iZ u_3.1), .int (iZ qv), .int (iZ 0), .int (iZ u_3.2.1), .int (iZ u_3.2.2)])), (ht, .inr (0, [.ref ta, .int (iZ len)])), (ta, .inl (cI, 2000, .inl (aI tf)))]) (va_runV (As := [.int (iZ qv)]) (rest := []) ⟨hx, hb, hml, hown, hts⟩ (c_X2_reset l D cI cJ cB cZ h a1 a2 a3 f1 f2 f3 n sz2 wh qv (by omega) _) (cwV 1 hts gX1_decode_X2_reset rfl rfl rfl (by decide +kernel) ⟨Nat.le_of_ble_eq_true rfl, Nat.le_of_ble_eq_true rfl⟩) (pre1V hE (hP.sub (ws' := (wGr cI h a1 a2 a3 f1 f2 f3 n sz2 wh)) [3, 4, 5, 6] rfl) (hD.sub (ws' := (wGr cI h a1 a2 a3 f1 f2 f3 n sz2 wh)) [3, 4, 5, 6] (by decide) rfl) 0 rfl rfl) rfl rfl hl.1 rfl (lv_room (Nat.le_of_ble_eq_true rfl)) dX1_decode_60 ⟨Nat.le_of_ble_eq_true rfl, Nat.le_of_ble_eq_true rfl⟩) hP hD hS hA [3, 4, 5, 6] [0, 1, 2] rfl rfl (by decide) (by decide) (fun u_10 H locs hr_9 hP hD hS => ?_)
      have hP := hP.sub (ws' := (wDe hd u_3.1 qv 0 u_3.2.1 u_3.2.2 ++ wBR 2000 cI ht ta tf len ++ wGr cI h a1 a2 a3 u_10.1 u_10.2.1 u_10.2.2.1 u_10.2.2.2.1 u_10.2.2.2.2.1 u_10.2.2.2.2.2)) [0, 1, 2, 3, 4, 5, 6] rfl
      have hD := hD.sub (ws' := (wDe hd u_3.1 qv 0 u_3.2.1 u_3.2.2 ++ wBR 2000 cI ht ta tf len ++ wGr cI h a1 a2 a3 u_10.1 u_10.2.1 u_10.2.2.1 u_10.2.2.2.1 u_10.2.2.2.2.1 u_10.2.2.2.2.2)) [0, 1, 2, 3, 4, 5, 6] (by decide) rfl
      have j0 := hr_9
      refine z_iconst hx hb dX1_decode_63 ?_
      refine lv_istore_n (lv' := [(3, .int (iZ 0)), (0, .ref hd), (1, .ref ht), (2, .ref h)]) hx hb dX1_decode_64 rfl hl (by decide) rfl (fun ls hl => ?_)
      refine w_loop (fun kf H locs ls => ∃ (i size : Nat), ∃ (nx1 sz1 kd1 pl1 : Int), ∃ (E1 : Ed), ∃ (ga gb gc : Nat → Int), ∃ (gn gs gwh : Int), kf = qv.toNat - i ∧ (i ≤ qv.toNat ∧ 0 ≤ nx1 ∧ nx1 ≤ len ∧ sz1 = (size : Int) ∧ size ≤ 2500 ∧ kd1 = 0 ∧ pNodes tf len.toNat qv.toNat (qv.toNat - i) i nx1.toNat size E1 = pNodes tf len.toNat qv.toNat qv.toNat 0 qp 0 (fun _ _ => false) ∧ GR qv.toNat E1 (fun _ => 1) ga gb gc gn gs gwh ∧ fst E1 qv.toNat qv.toNat = size ∧ (∀ a b, E1 a b = true → a < i)) ∧ va_P D vwCl (wDe hd nx1 qv sz1 kd1 pl1 ++ wBR 2000 cI ht ta tf len ++ wGr cI h a1 a2 a3 ga gb gc gn gs gwh) H ∧ va_D A (wDe hd nx1 qv sz1 kd1 pl1 ++ wBR 2000 cI ht ta tf len ++ wGr cI h a1 a2 a3 ga gb gc gn gs gwh) ∧ va_S A s.heap H locs ∧ lv_has ls 4 [(0, .ref hd), (1, .ref ht), (2, .ref h), (3, .int (iZ ↑i))]) ?_ _ ⟨0, 0, u_3.1, 0, u_3.2.1, u_3.2.2, (fun _ _ => false), u_10.1, u_10.2.1, u_10.2.2.1, u_10.2.2.2.1, u_10.2.2.2.2.1, u_10.2.2.2.2.2, rfl, ⟨by omega, by omega, by omega, rfl, by omega, by omega, (by rw [show (u_3.1).toNat = qp by omega]; rfl), j0, (by have q9 := j0.2.2.2.2.1; have q8 := GR_fst0 qv.toNat; exact q8), fun a b hab => by cases hab⟩, hP, hD, hS, lv_sub hl [1, 2, 3, 0] rfl⟩
      rintro kf H locs ls ⟨i, size, nx1, sz1, kd1, pl1, E1, ga, gb, gc, gn, gs, gwh, hk, ⟨i1, i2, i3, i4, i5, i6, i7, j1, j2, j3⟩, hP, hD, hS, hl⟩ ih
      refine lv_iload_n hx hb dX1_decode_65 rfl (lv_at hl 3 rfl) ?_
      refine lv_aload_n hx hb dX1_decode_66 rfl (lv_at hl 0 rfl) ?_
      refine va_get (v := .int (iZ qv)) (C := RX1) (T := TX1) (N := 5) (ci := 1) hx hb hts hi_1 hown hK hP 0 rfl rfl 1 (by decide) hw_4 (fun _ h9 => h9) rfl dX1_decode_67 ?_
      refine z_icmp_ge (tgt := 91) hx hb dX1_decode_70 (by decide) (by omega) (by omega) (fun c_11 => ?_) (fun c_11 => ?_)
      · refine lv_aload_n hx hb dX1_decode_91 rfl (lv_at hl 0 rfl) ?_
        refine va_get (v := .int (iZ nx1)) (C := RX1) (T := TX1) (N := 5) (ci := 1) hx hb hts hi_1 hown hK hP 0 rfl rfl 0 (by decide) hw_1 (fun _ h9 => h9) rfl dX1_decode_92 ?_
        refine lv_aload_n hx hb dX1_decode_95 rfl (lv_at hl 1 rfl) ?_
        refine va_getN (v := .int (iZ len)) (C := RX0) (T := TX0) (N := 2) (ci := 0) hx hb hts hi_0 hown hK hP 1 rfl rfl 1 (by decide) hw_5 (fun _ h9 => h9) rfl dX1_decode_96 ?_
        refine z_icmp_ge (tgt := 114) hx hb dX1_decode_99 (by decide) (by omega) (by omega) (fun c_12 => ?_) (fun c_12 => ?_)
        · refine z_iconst hx hb dX1_decode_114 ?_
          refine lv_goto (tgt := 119) hx hb dX1_decode_115 (by decide) ?_
          exact rw_zret (z := 1) (nx1, qv, sz1, kd1, pl1, ga, gb, gc, gn, gs, gwh) hx hb hr hlocks (Or.inr rfl) hP hD hS ⟨rfl, by first | omega | (dsimp only; omega), 0, qv.toNat, size, E1, pAll_s hq (by omega) (by omega) (by rw [← i7, show qv.toNat - i = 0 by omega, pNodes, if_neg (by omega)]), j1, j2⟩ dX1_decode_119
        · exact absurd hokN (by rw [← i7, show qv.toNat - i = 0 by omega, pNodes, if_pos (by omega)]; dsimp only; omega)
      · have hpk := (by have z8 : (pNodes tf len.toNat qv.toNat (qv.toNat - i) i nx1.toNat size E1).1 = 0 := (by rw [i7]; exact hokN); rw [show qv.toNat - i = (qv.toNat - (i + 1)) + 1 by omega] at z8; by_cases z7 : (pNode tf len.toNat qv.toNat i size nx1.toNat E1).1 = 0; exact z7; (exfalso; obtain ⟨⟨b1, b2, b3, b4, b5⟩, hb9⟩ : ∃ q, q = pNode tf len.toNat qv.toNat i size nx1.toNat E1 := ⟨_, rfl⟩; rw [← hb9] at z7; rw [pNodes_f hb9.symm z7] at z8; exact z7 z8))
        refine lv_aload_n hx hb dX1_decode_73 rfl (lv_at hl 0 rfl) ?_
        refine lv_aload_n hx hb dX1_decode_74 rfl (lv_at hl 1 rfl) ?_
        refine lv_aload_n hx hb dX1_decode_75 rfl (lv_at hl 2 rfl) ?_
        refine lv_iload_n hx hb dX1_decode_76 rfl (lv_at hl 3 rfl) ?_
        refine rw_i (wr := []) (va_runV (As := [.ref ht, .ref h, .int (iZ ↑i)]) (rest := []) ⟨hx, hb, hml, hown, hts⟩ (c_X1_decodeNode1 l D cI cJ cB cZ hd ht ta h a1 a2 a3 nx1 qv sz1 kd1 pl1 tf len ga gb gc gn gs gwh hT hL (by omega) qv.toNat i size E1 (by omega) (by omega) (by omega) (by omega) (by omega) hpk j1 j2 j3 _) (cwV 3 hts gX1_decode_X1_decodeNode rfl rfl rfl (by decide +kernel) ⟨Nat.le_of_ble_eq_true rfl, Nat.le_of_ble_eq_true rfl⟩) (pre1V hE hP hD 0 rfl rfl) rfl rfl hl.1 rfl (lv_room (Nat.le_of_ble_eq_true rfl)) dX1_decode_77 ⟨Nat.le_of_ble_eq_true rfl, Nat.le_of_ble_eq_true rfl⟩) hP hD hS hA [0, 1, 2, 3, 4, 5, 6] [] rfl rfl (by decide) (by decide) (fun r_13 u_15 H locs hr_14 hP hD hS => ?_)
        have hP := hP.sub (ws' := (wDe hd u_15.1 qv u_15.2.1 u_15.2.2.1 u_15.2.2.2.1 ++ wBR 2000 cI ht ta tf len ++ wGr cI h a1 a2 a3 u_15.2.2.2.2.1 u_15.2.2.2.2.2.1 u_15.2.2.2.2.2.2.1 u_15.2.2.2.2.2.2.2.1 u_15.2.2.2.2.2.2.2.2.1 u_15.2.2.2.2.2.2.2.2.2)) [0, 1, 2, 3, 4, 5, 6] rfl
        have hD := hD.sub (ws' := (wDe hd u_15.1 qv u_15.2.1 u_15.2.2.1 u_15.2.2.2.1 ++ wBR 2000 cI ht ta tf len ++ wGr cI h a1 a2 a3 u_15.2.2.2.2.1 u_15.2.2.2.2.2.1 u_15.2.2.2.2.2.2.1 u_15.2.2.2.2.2.2.2.1 u_15.2.2.2.2.2.2.2.2.1 u_15.2.2.2.2.2.2.2.2.2)) [0, 1, 2, 3, 4, 5, 6] (by decide) rfl
        obtain ⟨rfl, rp, rq, rn, rE, hpn, m1, m2, m3, m4, m5, m6, m7, m8⟩ := hr_14
        refine z_if_ne (tgt := 85) hx hb dX1_decode_80 (by decide) (by omega) (fun _ => ?_) (fun c9 => absurd c9 (by decide))
        refine lv_iinc (v := iZ (↑i + 1)) (lv' := [(3, .int (iZ (↑i + 1))), (0, .ref hd), (1, .ref ht), (2, .ref h)]) hx hb dX1_decode_85 hl (k := 3) rfl (show iZ ↑i + iZ 1 = _ from iZ_add _ _) (by decide) rfl (fun ls hl => ?_)
        refine lv_goto (tgt := 65) hx hb dX1_decode_88 (by decide) ?_
        exact ih _ _ _ _ (by omega) ⟨(i + 1), (size + rn), u_15.1, u_15.2.1, u_15.2.2.1, u_15.2.2.2.1, rE, u_15.2.2.2.2.1, u_15.2.2.2.2.2.1, u_15.2.2.2.2.2.2.1, u_15.2.2.2.2.2.2.2.1, u_15.2.2.2.2.2.2.2.2.1, u_15.2.2.2.2.2.2.2.2.2, rfl, ⟨by omega, by omega, by omega, by omega, by omega, by omega, (by rw [← i7, show qv.toNat - i = (qv.toNat - (i + 1)) + 1 by omega, pNodes_s hpn rfl, show (u_15.1).toNat = rq by omega]), m6, m7, m8⟩, hP, hD, hS, lv_sub hl [1, 2, 3, 0] rfl⟩
    · refine z_if_ne (tgt := 51) hx hb dX1_decode_41 (by decide) (by omega) (fun c9 => absurd c9 (by decide)) (fun _ => ?_)
      exact absurd hok (by rw [pAll_o hq (by omega) (by omega)]; dsimp only; omega)
  · exact absurd hok (by rw [pAll_f hq (by omega)]; dsimp only; omega)
