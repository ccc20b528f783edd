set_option maxHeartbeats 4000000 in
set_option maxRecDepth 100000 in
theorem c_X1_decodeNode1 (l : Launch) (D : va_G) (cI cJ cB cZ : ClassId) (hd ht ta h a1 a2 a3 : Nat) (nx nd sz kd pl : Int) (tf : Nat → Int) (len : Int) (f1 f2 f3 : Nat → Int) (n sz2 wh : Int) (hT : ∀ j, j < len.toNat → 0 ≤ tf j ∧ tf j < 256) (hL : 0 ≤ len ∧ len ≤ 2000) (hnx : 0 ≤ nx ∧ nx ≤ len) (N U0 size : Nat) (E : Ed) (hN : 1 ≤ N ∧ N ≤ 250) (hnd : nd = (N : Int)) (hU : U0 < N) (hsz : sz = (size : Int)) (hs2 : size ≤ 2500) (hok : (pNode tf len.toNat N U0 size nx.toNat E).1 = 0) (hG : GR N E (fun _ => 1) f1 f2 f3 n sz2 wh) (hfs : fst E N N = size) (hrow : ∀ a b, E a b = true → a < U0)  (sz0 : Nat) : Met l yX1_decodeNode wsX1_decodeNode ({ frames := 3, cells := 0, slots := 0, locals := 69 } : Room) (Pre1 D cI cJ cB cZ [.ref hd, .ref ht, .ref h, .int (iZ ((U0 : Nat) : Int))] (wDe hd nx nd sz kd pl ++ wBR 2000 cI ht ta tf len ++ wGr cI h a1 a2 a3 f1 f2 f3 n sz2 wh) sz0) (rwI (S := Int × Int × Int × Int × GT) D (fun z U => z = 1 ∧ ∃ (rp : Int) (rq rn : Nat) (rE : Ed), pNode tf len.toNat N U0 size nx.toNat E = (0, rp, rq, rn, rE) ∧ U.1 = (rq : Int) ∧ U.2.1 = sz + (rn : Int) ∧ U.2.2.1 = kd ∧ rq ≤ len.toNat ∧ size + rn ≤ 2500 ∧ GRu N rE (fun _ => 1) U.2.2.2.2 ∧ fst rE N N = size + rn ∧ (∀ a b, rE a b = true → a < U0 + 1)) (fun u => wDe hd u.1 nd u.2.1 u.2.2.1 u.2.2.2.1 ++ wBR 2000 cI ht ta tf len ++ wG cI h a1 a2 a3 u.2.2.2.2) (va_A (wDe hd nx nd sz kd pl ++ wBR 2000 cI ht ta tf len ++ wGr cI h a1 a2 a3 f1 f2 f3 n sz2 wh) sz0)) 0 0 (va_A (wDe hd nx nd sz kd pl ++ wBR 2000 cI ht ta tf len ++ wGr cI h a1 a2 a3 f1 f2 f3 n sz2 wh) sz0) := by
  refine Met.ofW (cc := cX1_decodeNode) (maxL := 9) (ret := (some .boolean)) (by decide) rfl ?_
  intro p e s m args below meth c s₁ B hml hv
  obtain ⟨rfl, hsz, hP, hE, hD0⟩ := hv
  have hx := B.exec
  have hb := B.bytes
  have hr := B.returns
  have hts := atoms_spec (ws := wsX1_decodeNode) B.pre
  have hown : s.vm.findClass RX1 = some m.cls := findClass_of_methodNamed B.named
  have hlocks := B.notSynchronized
  have hK := hE.1
  subst hsz
  have hD := hD0.self (sz := s.heap.size)
  generalize hAe : va_A (wDe hd nx nd sz kd pl ++ wBR 2000 cI ht ta tf len ++ wGr cI h a1 a2 a3 f1 f2 f3 n sz2 wh) s.heap.size = A at hD ⊢
  have hA : ∀ q : Nat, s.heap.size ≤ q → A q := fun q h => by rw [← hAe]; exact Or.inr h
  have hS : va_S A s.heap s.heap [] := va_S.rf
  have hP : va_P D vwCl (wDe hd nx nd sz kd pl ++ wBR 2000 cI ht ta tf len ++ wGr cI h a1 a2 a3 f1 f2 f3 n sz2 wh) s.heap := hP
  have hi_1 : ∀ w ∈ wsX10, w ∈ wsX1_decodeNode := by decide +kernel
  have hw_1 := hts (.fieldLink RX1 9 "RankHouse$Decoder" "next" "I") (by decide +kernel)
  have hw_2 := hts (.fieldLink RX1 15 "RankHouse$Decoder" "nodes" "I") (by decide +kernel)
  have hw_3 := hts (.fieldLink RX1 18 "RankHouse$Decoder" "size" "I") (by decide +kernel)
  have hl := lv_entry ([.ref hd, .ref ht, .ref h, .int (iZ ((U0 : Nat) : Int))]) (n := 9) (Nat.le_of_ble_eq_true rfl)
  rw [lg_entry_eq]
  generalize (lg_sl ([.ref hd, .ref ht, .ref h, .int (iZ ((U0 : Nat) : Int))]) ++ List.replicate (9 - (lg_sl ([.ref hd, .ref ht, .ref h, .int (iZ ((U0 : Nat) : Int))])).length) Slot.unset).toArray = ls at hl ⊢
  have hl : lv_has ls 9 [(0, .ref hd), (1, .ref ht), (2, .ref h), (3, .int (iZ ((U0 : Nat) : Int)))] := hl
  refine lv_aload_n hx hb dX1_decodeNode_0 rfl (lv_at hl 0 rfl) ?_
  refine va_get (v := .int (iZ nx)) (C := RX1) (T := TX1) (N := 5) (ci := 1) hx hb hts hi_1 hown hK hP 0 rfl rfl 0 (by decide) hw_1 (fun _ h9 => h9) rfl dX1_decodeNode_1 ?_
  refine lv_istore (lv' := [(4, .int (iZ nx)), (0, .ref hd), (1, .ref ht), (2, .ref h), (3, .int (iZ ((U0 : Nat) : Int)))]) hx hb dX1_decodeNode_4 hl (by decide) rfl (fun ls hl => ?_)
  refine lv_aload_n hx hb dX1_decodeNode_6 rfl (lv_at hl 1 rfl) ?_
  refine lv_aload_n hx hb dX1_decodeNode_7 rfl (lv_at hl 2 rfl) ?_
  refine rw_i (wr := [(h, .inr (2, [.ref a1, .ref a2, .ref a3, .int (iZ n), .int (iZ sz2), .int (iZ wh)])), (a1, .inl (cI, 251, .inl (aI f1))), (a2, .inl (cI, 2500, .inl (aI f2))), (a3, .inl (cI, 250, .inl (aI f3)))]) (va_runV (As := [.ref ht]) (rest := []) ⟨hx, hb, hml, hown, hts⟩ (c_X1_unsigned l D cI cJ cB cZ hd ht ta nx nd sz kd pl tf len hT hL hnx _) (cwV 1 hts gX1_decodeNode_X1_unsigned rfl rfl rfl (by decide +kernel) ⟨Nat.le_of_ble_eq_true rfl, Nat.le_of_ble_eq_true rfl⟩) (pre1V hE (hP.sub (ws' := (wDe hd nx nd sz kd pl ++ wBR 2000 cI ht ta tf len)) [0, 1, 2] rfl) (hD.sub (ws' := (wDe hd nx nd sz kd pl ++ wBR 2000 cI ht ta tf len)) [0, 1, 2] (by decide) rfl) 0 rfl rfl) rfl rfl hl.1 rfl (lv_room (Nat.le_of_ble_eq_true rfl)) dX1_decodeNode_8 ⟨Nat.le_of_ble_eq_true rfl, Nat.le_of_ble_eq_true rfl⟩) hP hD hS hA [0, 1, 2] [3, 4, 5, 6] rfl rfl (by decide) (by decide) (fun r_1 u_3 H locs hr_2 hP hD hS => ?_)
  have hP := hP.sub (ws' := (wDe hd u_3.1 nd sz u_3.2.1 u_3.2.2 ++ wBR 2000 cI ht ta tf len ++ wGr cI h a1 a2 a3 f1 f2 f3 n sz2 wh)) [4, 5, 6, 0, 1, 2, 3] rfl
  have hD := hD.sub (ws' := (wDe hd u_3.1 nd sz u_3.2.1 u_3.2.2 ++ wBR 2000 cI ht ta tf len ++ wGr cI h a1 a2 a3 f1 f2 f3 n sz2 wh)) [4, 5, 6, 0, 1, 2, 3] (by decide) rfl
  obtain ⟨⟨qk, qv, qp⟩, hq⟩ : ∃ q, q = uns tf len.toNat nx.toNat := ⟨_, rfl⟩
  rw [← hq] at hr_2
  have w1 := uns_ok hq (by omega) hT
  dsimp only [uR] at hr_2
  refine lv_istore (lv' := [(5, .int (iZ r_1)), (4, .int (iZ nx)), (0, .ref hd), (1, .ref ht), (2, .ref h), (3, .int (iZ ((U0 : Nat) : Int)))]) hx hb dX1_decodeNode_11 hl (by decide) rfl (fun ls hl => ?_)
  refine lv_iload hx hb dX1_decodeNode_13 (lv_at hl 0 rfl) ?_
  refine z_iconst hx hb dX1_decodeNode_15 ?_
  refine z_icmp_ne (tgt := 21) hx hb dX1_decodeNode_16 (by decide) (by omega) (by omega) (fun c_4 => ?_) (fun c_4 => ?_)
  · obtain rfl : qv = r_1 := by omega
    refine lv_iload hx hb dX1_decodeNode_21 (lv_at hl 0 rfl) ?_
    refine lv_aload_n hx hb dX1_decodeNode_23 rfl (lv_at hl 2 rfl) ?_
    refine va_get (v := .int (iZ nd)) (C := RX1) (T := TX1) (N := 5) (ci := 1) hx hb hts hi_1 hown hK hP 0 rfl rfl 1 (by decide) hw_2 (fun _ h9 => h9) rfl dX1_decodeNode_24 ?_
    refine z_icmp_gt (tgt := 43) hx hb dX1_decodeNode_27 (by decide) (by omega) (by omega) (fun c_5 => ?_) (fun c_5 => ?_)
    · exact absurd hok (by rw [pNode_o hq (by omega) (by omega)]; dsimp only; omega)
    · refine lv_iload hx hb dX1_decodeNode_30 (lv_at hl 0 rfl) ?_
      refine z_sipush hx hb dX1_decodeNode_32 (by decide) ?_
      refine lv_aload_n hx hb dX1_decodeNode_35 rfl (lv_at hl 2 rfl) ?_
      refine va_get (v := .int (iZ sz)) (C := RX1) (T := TX1) (N := 5) (ci := 1) hx hb hts hi_1 hown hK hP 0 rfl rfl 2 (by decide) hw_3 (fun _ h9 => h9) rfl dX1_decodeNode_36 ?_
      refine z_isub hx hb dX1_decodeNode_39 ?_
      refine z_icmp_le (tgt := 51) hx hb dX1_decodeNode_40 (by decide) (by omega) (by omega) (fun c_6 => ?_) (fun c_6 => ?_)
      · refine lv_aload_n hx hb dX1_decodeNode_51 rfl (lv_at hl 2 rfl) ?_
        refine lv_dup hx hb dX1_decodeNode_52 rfl ?_
        refine va_get (v := .int (iZ sz)) (C := RX1) (T := TX1) (N := 5) (ci := 1) hx hb hts hi_1 hown hK hP 0 rfl rfl 2 (by decide) hw_3 (fun _ h9 => h9) rfl dX1_decodeNode_53 ?_
        refine lv_iload hx hb dX1_decodeNode_56 (lv_at hl 0 rfl) ?_
        refine z_iadd hx hb dX1_decodeNode_58 ?_
        refine va_put (v := .int (iZ (sz + qv))) (ty := .int) (C := RX1) (T := TX1) (N := 5) (ci := 1) hx hb hts hi_1 tyX1 tyX1_ok nmX1 hown hK hP hD hS 0 rfl rfl 2 (by decide) hw_3 (fun _ h9 => h9) rfl (by decide +kernel) rfl rfl (Nat.le_of_ble_eq_true rfl) dX1_decodeNode_59 (fun H locs hP hD hS => ?_)
        have hP : va_P D vwCl (wDe hd u_3.1 nd (sz + qv) u_3.2.1 u_3.2.2 ++ wBR 2000 cI ht ta tf len ++ wGr cI h a1 a2 a3 f1 f2 f3 n sz2 wh) H := hP
        have hD : va_D A (wDe hd u_3.1 nd (sz + qv) u_3.2.1 u_3.2.2 ++ wBR 2000 cI ht ta tf len ++ wGr cI h a1 a2 a3 f1 f2 f3 n sz2 wh) := hD
        refine z_iconst hx hb dX1_decodeNode_62 ?_
        refine lv_istore (lv' := [(6, .int (iZ (-1))), (5, .int (iZ qv)), (4, .int (iZ nx)), (0, .ref hd), (1, .ref ht), (2, .ref h), (3, .int (iZ ((U0 : Nat) : Int)))]) hx hb dX1_decodeNode_63 hl (by decide) rfl (fun ls hl => ?_)
        refine z_iconst hx hb dX1_decodeNode_65 ?_
        refine lv_istore (lv' := [(7, .int (iZ 0)), (6, .int (iZ (-1))), (5, .int (iZ qv)), (4, .int (iZ nx)), (0, .ref hd), (1, .ref ht), (2, .ref h), (3, .int (iZ ((U0 : Nat) : Int)))]) hx hb dX1_decodeNode_66 hl (by decide) rfl (fun ls hl => ?_)
        refine w_loop (fun kf H locs ls => ∃ (i : Nat), ∃ (v nx1 kd1 pl1 : Int), ∃ (E1 : Ed), ∃ (ga gb gc : Nat → Int), ∃ (gn gs gwh : Int), kf = qv.toNat - i ∧ (i ≤ qv.toNat ∧ 0 ≤ nx1 ∧ nx1 ≤ len ∧ kd1 = kd ∧ -1 ≤ v ∧ v < (N : Int) ∧ pRow tf len.toNat N U0 (qv.toNat - i) (decide (i = 0)) v nx1.toNat E1 = pRow tf len.toNat N U0 qv.toNat true 0 qp E ∧ GR N E1 (fun _ => 1) ga gb gc gn gs gwh ∧ fst E1 N N = size + i ∧ (∀ a b, E1 a b = true → a < U0 ∨ (a = U0 ∧ 0 < i ∧ (b : Int) ≤ v))) ∧ va_P D vwCl (wDe hd nx1 nd (sz + qv) kd1 pl1 ++ wBR 2000 cI ht ta tf len ++ wGr cI h a1 a2 a3 ga gb gc gn gs gwh) H ∧ va_D A (wDe hd nx1 nd (sz + qv) kd1 pl1 ++ wBR 2000 cI ht ta tf len ++ wGr cI h a1 a2 a3 ga gb gc gn gs gwh) ∧ va_S A s.heap H locs ∧ lv_has ls 9 [(0, .ref hd), (1, .ref ht), (2, .ref h), (3, .int (iZ ((U0 : Nat) : Int))), (5, .int (iZ qv)), (6, .int (iZ v)), (7, .int (iZ ↑i))]) ?_ _ ⟨0, (-1), u_3.1, u_3.2.1, u_3.2.2, E, f1, f2, f3, n, sz2, wh, rfl, ⟨by omega, by omega, by omega, by omega, by omega, by omega, (by rw [show (u_3.1).toNat = qp by omega]; exact pRow_v), hG, by omega, fun a b hab => Or.inl (hrow a b hab)⟩, hP, hD, hS, lv_sub hl [4, 5, 6, 7, 2, 1, 0] rfl⟩
        rintro kf H locs ls ⟨i, v, nx1, kd1, pl1, E1, ga, gb, gc, gn, gs, gwh, hk, ⟨i1, i2, i3, i4, i5, i6, i7, j1, j2, j3⟩, hP, hD, hS, hl⟩ ih
        refine lv_iload hx hb dX1_decodeNode_68 (lv_at hl 6 rfl) ?_
        refine lv_iload hx hb dX1_decodeNode_70 (lv_at hl 4 rfl) ?_
        refine z_icmp_ge (tgt := 160) hx hb dX1_decodeNode_72 (by decide) (by omega) (by omega) (fun c_7 => ?_) (fun c_7 => ?_)
        · refine z_iconst hx hb dX1_decodeNode_160 ?_
          exact rw_zret (z := 1) (nx1, sz + qv, kd1, pl1, ga, gb, gc, gn, gs, gwh) hx hb hr hlocks (Or.inr rfl) hP hD hS ⟨rfl, 0, nx1.toNat, qv.toNat, E1, pNode_s hq (by omega) (by omega) (by rw [← i7, show qv.toNat - i = 0 by omega]; rfl), by first | omega | (dsimp only; omega), by first | omega | (dsimp only; omega), by first | omega | (dsimp only; omega), by omega, by omega, j1, by omega, (fun a b hab => by have q9 := j3 a b hab; omega)⟩ dX1_decodeNode_161
        · refine lv_aload_n hx hb dX1_decodeNode_75 rfl (lv_at hl 0 rfl) ?_
          refine va_get (v := .int (iZ nx1)) (C := RX1) (T := TX1) (N := 5) (ci := 1) hx hb hts hi_1 hown hK hP 0 rfl rfl 0 (by decide) hw_1 (fun _ h9 => h9) rfl dX1_decodeNode_76 ?_
          refine lv_istore (lv' := [(4, .int (iZ nx1)), (0, .ref hd), (1, .ref ht), (2, .ref h), (3, .int (iZ ((U0 : Nat) : Int))), (5, .int (iZ qv)), (6, .int (iZ v)), (7, .int (iZ ↑i))]) hx hb dX1_decodeNode_79 hl (by decide) rfl (fun ls hl => ?_)
          refine lv_aload_n hx hb dX1_decodeNode_81 rfl (lv_at hl 1 rfl) ?_
          refine lv_aload_n hx hb dX1_decodeNode_82 rfl (lv_at hl 2 rfl) ?_
          refine rw_i (wr := [(h, .inr (2, [.ref a1, .ref a2, .ref a3, .int (iZ gn), .int (iZ gs), .int (iZ gwh)])), (a1, .inl (cI, 251, .inl (aI ga))), (a2, .inl (cI, 2500, .inl (aI gb))), (a3, .inl (cI, 250, .inl (aI gc)))]) (va_runV (As := [.ref ht]) (rest := []) ⟨hx, hb, hml, hown, hts⟩ (c_X1_unsigned l D cI cJ cB cZ hd ht ta nx1 nd (sz + qv) kd1 pl1 tf len hT hL (by omega) _) (cwV 1 hts gX1_decodeNode_X1_unsigned rfl rfl rfl (by decide +kernel) ⟨Nat.le_of_ble_eq_true rfl, Nat.le_of_ble_eq_true rfl⟩) (pre1V hE (hP.sub (ws' := (wDe hd nx1 nd (sz + qv) kd1 pl1 ++ wBR 2000 cI ht ta tf len)) [0, 1, 2] rfl) (hD.sub (ws' := (wDe hd nx1 nd (sz + qv) kd1 pl1 ++ wBR 2000 cI ht ta tf len)) [0, 1, 2] (by decide) rfl) 0 rfl rfl) rfl rfl hl.1 rfl (lv_room (Nat.le_of_ble_eq_true rfl)) dX1_decodeNode_83 ⟨Nat.le_of_ble_eq_true rfl, Nat.le_of_ble_eq_true rfl⟩) hP hD hS hA [0, 1, 2] [3, 4, 5, 6] rfl rfl (by decide) (by decide) (fun r_8 u_10 H locs hr_9 hP hD hS => ?_)
          have hP := hP.sub (ws' := (wDe hd u_10.1 nd (sz + qv) u_10.2.1 u_10.2.2 ++ wBR 2000 cI ht ta tf len ++ wGr cI h a1 a2 a3 ga gb gc gn gs gwh)) [4, 5, 6, 0, 1, 2, 3] rfl
          have hD := hD.sub (ws' := (wDe hd u_10.1 nd (sz + qv) u_10.2.1 u_10.2.2 ++ wBR 2000 cI ht ta tf len ++ wGr cI h a1 a2 a3 ga gb gc gn gs gwh)) [4, 5, 6, 0, 1, 2, 3] (by decide) rfl
          obtain ⟨⟨qk2, qv2, qp2⟩, hq2⟩ : ∃ q, q = uns tf len.toNat nx1.toNat := ⟨_, rfl⟩
          rw [← hq2] at hr_9
          have w2 := uns_ok hq2 (by omega) hT
          dsimp only [uR] at hr_9
          refine lv_istore (lv' := [(8, .int (iZ r_8)), (4, .int (iZ nx1)), (0, .ref hd), (1, .ref ht), (2, .ref h), (3, .int (iZ ((U0 : Nat) : Int))), (5, .int (iZ qv)), (6, .int (iZ v)), (7, .int (iZ ↑i))]) hx hb dX1_decodeNode_86 hl (by decide) rfl (fun ls hl => ?_)
          refine lv_iload hx hb dX1_decodeNode_88 (lv_at hl 0 rfl) ?_
          refine z_iconst hx hb dX1_decodeNode_90 ?_
          refine z_icmp_ne (tgt := 96) hx hb dX1_decodeNode_91 (by decide) (by omega) (by omega) (fun c_11 => ?_) (fun c_11 => ?_)
          · obtain rfl : qv2 = r_8 := by omega
            refine lv_iload hx hb dX1_decodeNode_96 (lv_at hl 8 rfl) ?_
            refine z_if_le (tgt := 111) hx hb dX1_decodeNode_98 (by decide) (by omega) (fun c_12 => ?_) (fun c_12 => ?_)
            · refine lv_iload_n hx hb dX1_decodeNode_111 rfl (lv_at hl 5 rfl) ?_
              refine lv_iload hx hb dX1_decodeNode_112 (lv_at hl 0 rfl) ?_
              refine ro_i (va_runS (As := [.int (iZ qv2)]) (rest := [.int (iZ ((U0 : Nat) : Int))]) ⟨hx, hb, hml, hown, hts⟩ (c_X1_signed l D cI cJ cB cZ qv2 (by omega)) (va_cwS 1 hts gX1_decodeNode_X1_signed rfl rfl rfl (by decide +kernel) ⟨Nat.le_of_ble_eq_true rfl, Nat.le_of_ble_eq_true rfl⟩) (pre0S hE (hP.sub (ws' := []) [] rfl)) rfl rfl hl.1 rfl (lv_room (Nat.le_of_ble_eq_true rfl)) dX1_decodeNode_114 ⟨Nat.le_of_ble_eq_true rfl, Nat.le_of_ble_eq_true rfl⟩) (fun r_13 hr_14 => ?_)
              subst hr_14
              refine z_iadd hx hb dX1_decodeNode_117 ?_
              have hv : (((U0 : Nat) : Int) + (sg qv2)) = if decide (i = 0) = true then ((U0 : Nat) : Int) + sg qv2 else v + 1 + qv2 := by rw [if_pos (decide_eq_true (show i = 0 by omega))]
              have hsg := sg_r (show 0 ≤ qv2 ∧ qv2 ≤ 65535 by omega)
              refine lv_istore (lv' := [(6, .int (iZ (((U0 : Nat) : Int) + (sg qv2)))), (8, .int (iZ qv2)), (4, .int (iZ nx1)), (0, .ref hd), (1, .ref ht), (2, .ref h), (3, .int (iZ ((U0 : Nat) : Int))), (5, .int (iZ qv)), (7, .int (iZ ↑i))]) hx hb dX1_decodeNode_118 hl (by decide) rfl (fun ls hl => ?_)
              refine lv_iload hx hb dX1_decodeNode_120 (lv_at hl 0 rfl) ?_
              refine z_if_lt (tgt := 134) hx hb dX1_decodeNode_122 (by decide) (by omega) (fun c_15 => ?_) (fun c_15 => ?_)
              · exact absurd hok (by have z9 : pRow tf len.toNat N U0 qv.toNat true 0 qp E = (3, ((nx1.toNat : Nat) : Int), qp2, E1) := (by rw [← i7, show qv.toNat - i = (qv.toNat - (i + 1)) + 1 by omega]; exact pRow_o hq2 (by omega) hv (by omega)); rw [pNode_s hq (by omega) (by omega) z9]; dsimp only; omega)
              · refine lv_iload hx hb dX1_decodeNode_125 (lv_at hl 0 rfl) ?_
                refine lv_aload_n hx hb dX1_decodeNode_127 rfl (lv_at hl 3 rfl) ?_
                refine va_get (v := .int (iZ nd)) (C := RX1) (T := TX1) (N := 5) (ci := 1) hx hb hts hi_1 hown hK hP 0 rfl rfl 1 (by decide) hw_2 (fun _ h9 => h9) rfl dX1_decodeNode_128 ?_
                refine z_icmp_lt (tgt := 142) hx hb dX1_decodeNode_131 (by decide) (by omega) (by omega) (fun c_16 => ?_) (fun c_16 => ?_)
                · refine lv_aload_n hx hb dX1_decodeNode_142 rfl (lv_at hl 5 rfl) ?_
                  refine lv_ifnull hx hb dX1_decodeNode_143 ?_
                  obtain ⟨gg1, gg2, gg3, -, gg5, gg6, -⟩ := id j1
                  have hfree : E1 U0 (((U0 : Nat) : Int) + (sg qv2)).toNat = false := Bool.eq_false_iff.mpr (fun q => by have q9 := j3 _ _ q; omega)
                  refine lv_aload_n hx hb dX1_decodeNode_146 rfl (lv_at hl 5 rfl) ?_
                  refine lv_iload_n hx hb dX1_decodeNode_147 rfl (lv_at hl 6 rfl) ?_
                  refine lv_iload hx hb dX1_decodeNode_148 (lv_at hl 0 rfl) ?_
                  refine rw_i (wr := [(hd, .inr (1, [.int (iZ u_10.1), .int (iZ nd), .int (iZ (sz + qv)), .int (iZ u_10.2.1), .int (iZ u_10.2.2)])), (ht, .inr (0, [.ref ta, .int (iZ len)])), (ta, .inl (cI, 2000, .inl (aI tf)))]) (va_runV (As := [.int (iZ ((U0 : Nat) : Int)), .int (iZ (((U0 : Nat) : Int) + (sg qv2)))]) (rest := []) ⟨hx, hb, hml, hown, hts⟩ (c_X2_join l D cI cJ cB cZ h a1 a2 a3 ga gb gc gn gs gwh N E1 (fun _ => 1) j1 ((U0 : Nat) : Int) (((U0 : Nat) : Int) + (sg qv2)) (by omega) (by omega) _) (cwV 2 hts gX1_decodeNode_X2_join rfl rfl rfl (by decide +kernel) ⟨Nat.le_of_ble_eq_true rfl, Nat.le_of_ble_eq_true rfl⟩) (pre1V hE (hP.sub (ws' := (wGr cI h a1 a2 a3 ga gb gc gn gs gwh)) [3, 4, 5, 6] rfl) (hD.sub (ws' := (wGr cI h a1 a2 a3 ga gb gc gn gs gwh)) [3, 4, 5, 6] (by decide) rfl) 0 rfl rfl) rfl rfl hl.1 rfl (lv_room (Nat.le_of_ble_eq_true rfl)) dX1_decodeNode_150 ⟨Nat.le_of_ble_eq_true rfl, Nat.le_of_ble_eq_true rfl⟩) hP hD hS hA [3, 4, 5, 6] [0, 1, 2] rfl rfl (by decide) (by decide) (fun r_17 u_19 H locs hr_18 hP hD hS => ?_)
                  have hP := hP.sub (ws' := (wDe hd u_10.1 nd (sz + qv) u_10.2.1 u_10.2.2 ++ wBR 2000 cI ht ta tf len ++ wGr cI h a1 a2 a3 u_19.1 u_19.2.1 u_19.2.2.1 u_19.2.2.2.1 u_19.2.2.2.2.1 u_19.2.2.2.2.2)) [0, 1, 2, 3, 4, 5, 6] rfl
                  have hD := hD.sub (ws' := (wDe hd u_10.1 nd (sz + qv) u_10.2.1 u_10.2.2 ++ wBR 2000 cI ht ta tf len ++ wGr cI h a1 a2 a3 u_19.1 u_19.2.1 u_19.2.2.1 u_19.2.2.2.1 u_19.2.2.2.2.1 u_19.2.2.2.2.2)) [0, 1, 2, 3, 4, 5, 6] (by decide) rfl
                  rcases hr_18 with ⟨rfl, hq_20⟩ | ⟨rfl, hq_20⟩
                  · have j4 := hq_20.2
                    rw [Int.toNat_natCast] at j4
                    have j5 := fst_in (n := N) hfree (show (((U0 : Nat) : Int) + (sg qv2)).toNat < N by omega) N
                    rw [if_pos hU] at j5
                    refine lv_pop hx hb dX1_decodeNode_153 rfl ?_
                    refine lv_iinc (v := iZ (↑i + 1)) (lv' := [(7, .int (iZ (↑i + 1))), (6, .int (iZ (((U0 : Nat) : Int) + (sg qv2)))), (8, .int (iZ qv2)), (4, .int (iZ nx1)), (0, .ref hd), (1, .ref ht), (2, .ref h), (3, .int (iZ ((U0 : Nat) : Int))), (5, .int (iZ qv))]) hx hb dX1_decodeNode_154 hl (k := 8) rfl (show iZ ↑i + iZ 1 = _ from iZ_add _ _) (by decide) rfl (fun ls hl => ?_)
                    refine lv_goto (tgt := 68) hx hb dX1_decodeNode_157 (by decide) ?_
                    exact ih _ _ _ _ (by omega) ⟨(i + 1), (((U0 : Nat) : Int) + (sg qv2)), u_10.1, u_10.2.1, u_10.2.2, (uE E1 U0 (((U0 : Nat) : Int) + (sg qv2)).toNat true), u_19.1, u_19.2.1, u_19.2.2.1, u_19.2.2.2.1, u_19.2.2.2.2.1, u_19.2.2.2.2.2, rfl, ⟨by omega, by omega, by omega, by omega, by omega, by omega, (by rw [← i7, show qv.toNat - i = (qv.toNat - (i + 1)) + 1 by omega, pRow_s hq2 (by omega) hv (by omega), show (u_10.1).toNat = qp2 by omega]; rfl), j4, by omega, (fun a b hab => by by_cases e9 : a = U0 ∧ b = (((U0 : Nat) : Int) + (sg qv2)).toNat; (right; omega); (simp only [uE, if_neg e9] at hab; have q9 := j3 a b hab; omega))⟩, hP, hD, hS, lv_sub hl [4, 5, 6, 7, 8, 1, 0] rfl⟩
                  · exact absurd ⟨by omega, by omega, by omega, by omega, by omega, by rw [Int.toNat_natCast]; exact hfree⟩ hq_20.1
                · exact absurd hok (by have z9 : pRow tf len.toNat N U0 qv.toNat true 0 qp E = (3, ((nx1.toNat : Nat) : Int), qp2, E1) := (by rw [← i7, show qv.toNat - i = (qv.toNat - (i + 1)) + 1 by omega]; exact pRow_o hq2 (by omega) hv (by omega)); rw [pNode_s hq (by omega) (by omega) z9]; dsimp only; omega)
            · refine lv_iload hx hb dX1_decodeNode_101 (lv_at hl 7 rfl) ?_
              refine z_iconst hx hb dX1_decodeNode_103 ?_
              refine z_iadd hx hb dX1_decodeNode_104 ?_
              refine lv_iload hx hb dX1_decodeNode_105 (lv_at hl 0 rfl) ?_
              refine z_iadd hx hb dX1_decodeNode_107 ?_
              refine lv_goto (tgt := 118) hx hb dX1_decodeNode_108 (by decide) ?_
              have hv : ((v + 1) + qv2) = if decide (i = 0) = true then ((U0 : Nat) : Int) + sg qv2 else v + 1 + qv2 := by rw [if_neg (by simp; omega)]
              refine lv_istore (lv' := [(6, .int (iZ ((v + 1) + qv2))), (8, .int (iZ qv2)), (4, .int (iZ nx1)), (0, .ref hd), (1, .ref ht), (2, .ref h), (3, .int (iZ ((U0 : Nat) : Int))), (5, .int (iZ qv)), (7, .int (iZ ↑i))]) hx hb dX1_decodeNode_118 hl (by decide) rfl (fun ls hl => ?_)
              refine lv_iload hx hb dX1_decodeNode_120 (lv_at hl 0 rfl) ?_
              refine z_if_lt (tgt := 134) hx hb dX1_decodeNode_122 (by decide) (by omega) (fun c_21 => ?_) (fun c_21 => ?_)
              · exact absurd hok (by have z9 : pRow tf len.toNat N U0 qv.toNat true 0 qp E = (3, ((nx1.toNat : Nat) : Int), qp2, E1) := (by rw [← i7, show qv.toNat - i = (qv.toNat - (i + 1)) + 1 by omega]; exact pRow_o hq2 (by omega) hv (by omega)); rw [pNode_s hq (by omega) (by omega) z9]; dsimp only; omega)
              · refine lv_iload hx hb dX1_decodeNode_125 (lv_at hl 0 rfl) ?_
                refine lv_aload_n hx hb dX1_decodeNode_127 rfl (lv_at hl 3 rfl) ?_
                refine va_get (v := .int (iZ nd)) (C := RX1) (T := TX1) (N := 5) (ci := 1) hx hb hts hi_1 hown hK hP 0 rfl rfl 1 (by decide) hw_2 (fun _ h9 => h9) rfl dX1_decodeNode_128 ?_
                refine z_icmp_lt (tgt := 142) hx hb dX1_decodeNode_131 (by decide) (by omega) (by omega) (fun c_22 => ?_) (fun c_22 => ?_)
                · refine lv_aload_n hx hb dX1_decodeNode_142 rfl (lv_at hl 5 rfl) ?_
                  refine lv_ifnull hx hb dX1_decodeNode_143 ?_
                  obtain ⟨gg1, gg2, gg3, -, gg5, gg6, -⟩ := id j1
                  have hfree : E1 U0 ((v + 1) + qv2).toNat = false := Bool.eq_false_iff.mpr (fun q => by have q9 := j3 _ _ q; omega)
                  refine lv_aload_n hx hb dX1_decodeNode_146 rfl (lv_at hl 5 rfl) ?_
                  refine lv_iload_n hx hb dX1_decodeNode_147 rfl (lv_at hl 6 rfl) ?_
                  refine lv_iload hx hb dX1_decodeNode_148 (lv_at hl 0 rfl) ?_
                  refine rw_i (wr := [(hd, .inr (1, [.int (iZ u_10.1), .int (iZ nd), .int (iZ (sz + qv)), .int (iZ u_10.2.1), .int (iZ u_10.2.2)])), (ht, .inr (0, [.ref ta, .int (iZ len)])), (ta, .inl (cI, 2000, .inl (aI tf)))]) (va_runV (As := [.int (iZ ((U0 : Nat) : Int)), .int (iZ ((v + 1) + qv2))]) (rest := []) ⟨hx, hb, hml, hown, hts⟩ (c_X2_join l D cI cJ cB cZ h a1 a2 a3 ga gb gc gn gs gwh N E1 (fun _ => 1) j1 ((U0 : Nat) : Int) ((v + 1) + qv2) (by omega) (by omega) _) (cwV 2 hts gX1_decodeNode_X2_join rfl rfl rfl (by decide +kernel) ⟨Nat.le_of_ble_eq_true rfl, Nat.le_of_ble_eq_true rfl⟩) (pre1V hE (hP.sub (ws' := (wGr cI h a1 a2 a3 ga gb gc gn gs gwh)) [3, 4, 5, 6] rfl) (hD.sub (ws' := (wGr cI h a1 a2 a3 ga gb gc gn gs gwh)) [3, 4, 5, 6] (by decide) rfl) 0 rfl rfl) rfl rfl hl.1 rfl (lv_room (Nat.le_of_ble_eq_true rfl)) dX1_decodeNode_150 ⟨Nat.le_of_ble_eq_true rfl, Nat.le_of_ble_eq_true rfl⟩) hP hD hS hA [3, 4, 5, 6] [0, 1, 2] rfl rfl (by decide) (by decide) (fun r_23 u_25 H locs hr_24 hP hD hS => ?_)
                  have hP := hP.sub (ws' := (wDe hd u_10.1 nd (sz + qv) u_10.2.1 u_10.2.2 ++ wBR 2000 cI ht ta tf len ++ wGr cI h a1 a2 a3 u_25.1 u_25.2.1 u_25.2.2.1 u_25.2.2.2.1 u_25.2.2.2.2.1 u_25.2.2.2.2.2)) [0, 1, 2, 3, 4, 5, 6] rfl
                  have hD := hD.sub (ws' := (wDe hd u_10.1 nd (sz + qv) u_10.2.1 u_10.2.2 ++ wBR 2000 cI ht ta tf len ++ wGr cI h a1 a2 a3 u_25.1 u_25.2.1 u_25.2.2.1 u_25.2.2.2.1 u_25.2.2.2.2.1 u_25.2.2.2.2.2)) [0, 1, 2, 3, 4, 5, 6] (by decide) rfl
                  rcases hr_24 with ⟨rfl, hq_26⟩ | ⟨rfl, hq_26⟩
                  · have j4 := hq_26.2
                    rw [Int.toNat_natCast] at j4
                    have j5 := fst_in (n := N) hfree (show ((v + 1) + qv2).toNat < N by omega) N
                    rw [if_pos hU] at j5
                    refine lv_pop hx hb dX1_decodeNode_153 rfl ?_
                    refine lv_iinc (v := iZ (↑i + 1)) (lv' := [(7, .int (iZ (↑i + 1))), (6, .int (iZ ((v + 1) + qv2))), (8, .int (iZ qv2)), (4, .int (iZ nx1)), (0, .ref hd), (1, .ref ht), (2, .ref h), (3, .int (iZ ((U0 : Nat) : Int))), (5, .int (iZ qv))]) hx hb dX1_decodeNode_154 hl (k := 8) rfl (show iZ ↑i + iZ 1 = _ from iZ_add _ _) (by decide) rfl (fun ls hl => ?_)
                    refine lv_goto (tgt := 68) hx hb dX1_decodeNode_157 (by decide) ?_
                    exact ih _ _ _ _ (by omega) ⟨(i + 1), ((v + 1) + qv2), u_10.1, u_10.2.1, u_10.2.2, (uE E1 U0 ((v + 1) + qv2).toNat true), u_25.1, u_25.2.1, u_25.2.2.1, u_25.2.2.2.1, u_25.2.2.2.2.1, u_25.2.2.2.2.2, rfl, ⟨by omega, by omega, by omega, by omega, by omega, by omega, (by rw [← i7, show qv.toNat - i = (qv.toNat - (i + 1)) + 1 by omega, pRow_s hq2 (by omega) hv (by omega), show (u_10.1).toNat = qp2 by omega]; rfl), j4, by omega, (fun a b hab => by by_cases e9 : a = U0 ∧ b = ((v + 1) + qv2).toNat; (right; omega); (simp only [uE, if_neg e9] at hab; have q9 := j3 a b hab; omega))⟩, hP, hD, hS, lv_sub hl [4, 5, 6, 7, 8, 1, 0] rfl⟩
                  · exact absurd ⟨by omega, by omega, by omega, by omega, by omega, by rw [Int.toNat_natCast]; exact hfree⟩ hq_26.1
                · exact absurd hok (by have z9 : pRow tf len.toNat N U0 qv.toNat true 0 qp E = (3, ((nx1.toNat : Nat) : Int), qp2, E1) := (by rw [← i7, show qv.toNat - i = (qv.toNat - (i + 1)) + 1 by omega]; exact pRow_o hq2 (by omega) hv (by omega)); rw [pNode_s hq (by omega) (by omega) z9]; dsimp only; omega)
          · exact absurd hok (by have z9 : pRow tf len.toNat N U0 qv.toNat true 0 qp E = (qk2, qv2, qp2, E1) := (by rw [← i7, show qv.toNat - i = (qv.toNat - (i + 1)) + 1 by omega]; exact pRow_f hq2 (by omega)); rw [pNode_s hq (by omega) (by omega) z9]; dsimp only; omega)
      · exact absurd hok (by rw [pNode_o hq (by omega) (by omega)]; dsimp only; omega)
  · exact absurd hok (by rw [pNode_f hq (by omega)]; dsimp only; omega)
