theorem GR_fst0 (N : Nat) : fst (fun _ _ => false) N N = 0 := by
  have z : ∀ j, fst (fun _ _ => false) N j = 0 := by
    intro j
    induction j with
    | zero => rfl
    | succ j ih => rw [fst_succ, ih, dgr, ct_false N (fun _ => rfl)]
  exact z N
set_option maxHeartbeats 4000000 in
set_option maxRecDepth 100000 in
theorem c_X1_decodeNode0 (l : Launch) (D : va_G) (cI cJ cB cZ : ClassId) (hd ht ta : Nat) (nx nd sz kd pl : Int) (tf : Nat → Int) (len : Int) (hT : ∀ j, j < len.toNat → 0 ≤ tf j ∧ tf j < 256) (hL : 0 ≤ len ∧ len ≤ 2000) (hnx : 0 ≤ nx ∧ nx ≤ len) (N U0 size : Nat) (E : Ed) (hN : 1 ≤ N ∧ N ≤ 250) (hnd : nd = (N : Int)) (hU : U0 < N) (hsz : sz = (size : Int)) (hs2 : size ≤ 2500)  (sz0 : Nat) : Met l yX1_decodeNode wsX1_decodeNode ({ frames := 3, cells := 0, slots := 0, locals := 69 } : Room) (Pre1 D cI cJ cB cZ [.ref hd, .ref ht, .null, .int (iZ ((U0 : Nat) : Int))] (wDe hd nx nd sz kd pl ++ wBR 2000 cI ht ta tf len) sz0) (rwI (S := Int × Int × Int × Int) D (fun z U => ∃ (rk rp : Int) (rq rn : Nat) (rE : Ed), pNode tf len.toNat N U0 size nx.toNat E = (rk, rp, rq, rn, rE) ∧ ((z = 1 ∧ rk = 0 ∧ U.1 = (rq : Int) ∧ U.2.1 = sz + (rn : Int) ∧ U.2.2.1 = kd ∧ rq ≤ len.toNat ∧ size + rn ≤ 2500) ∨ (z = 0 ∧ rk ≠ 0 ∧ U.2.2.1 = rk ∧ U.2.2.2 = rp))) (fun u => wDe hd u.1 nd u.2.1 u.2.2.1 u.2.2.2 ++ wBR 2000 cI ht ta tf len) (va_A (wDe hd nx nd sz kd pl ++ wBR 2000 cI ht ta tf len) sz0)) 0 0 (va_A (wDe hd nx nd sz kd pl ++ wBR 2000 cI ht ta tf len) sz0) := by
  refine Met.ofW (cc := cX1_decodeNode) (maxL := 9) (ret := (some .boolean)) (by decide) rfl ?_
  intro p e s m args below meth c s₁ B hml hv
  obtain ⟨rfl, hsz, hP, hE, hD0⟩ := hv
  have hx := B.exec
  have hb := B.bytes
  have hr := B.returns
  have hts := atoms_spec (ws := wsX1_decodeNode) B.pre
  have hown : s.vm.findClass RX1 = some m.cls := findClass_of_methodNamed B.named
  have hlocks := B.notSynchronized
  have hK := hE.1
  subst hsz
  have hD := hD0.self (sz := s.heap.size)
  generalize hAe : va_A (wDe hd nx nd sz kd pl ++ wBR 2000 cI ht ta tf len) s.heap.size = A at hD ⊢
  have hA : ∀ q : Nat, s.heap.size ≤ q → A q := fun q h => by rw [← hAe]; exact Or.inr h
  have hS : va_S A s.heap s.heap [] := va_S.rf
  have hP : va_P D vwCl (wDe hd nx nd sz kd pl ++ wBR 2000 cI ht ta tf len) s.heap := hP
  have hi_1 : ∀ w ∈ wsX10, w ∈ wsX1_decodeNode := by decide +kernel
  have hw_1 := hts (.fieldLink RX1 9 "RankHouse$Decoder" "next" "I") (by decide +kernel)
  have hw_2 := hts (.fieldLink RX1 15 "RankHouse$Decoder" "nodes" "I") (by decide +kernel)
  have hw_3 := hts (.fieldLink RX1 18 "RankHouse$Decoder" "size" "I") (by decide +kernel)
  have hl := lv_entry ([.ref hd, .ref ht, .null, .int (iZ ((U0 : Nat) : Int))]) (n := 9) (Nat.le_of_ble_eq_true rfl)
  rw [lg_entry_eq]
  generalize (lg_sl ([.ref hd, .ref ht, .null, .int (iZ ((U0 : Nat) : Int))]) ++ List.replicate (9 - (lg_sl ([.ref hd, .ref ht, .null, .int (iZ ((U0 : Nat) : Int))])).length) Slot.unset).toArray = ls at hl ⊢
  have hl : lv_has ls 9 [(0, .ref hd), (1, .ref ht), (2, .null), (3, .int (iZ ((U0 : Nat) : Int)))] := hl
  refine lv_aload_n hx hb dX1_decodeNode_0 rfl (lv_at hl 0 rfl) ?_
  refine va_get (v := .int (iZ nx)) (C := RX1) (T := TX1) (N := 5) (ci := 1) hx hb hts hi_1 hown hK hP 0 rfl rfl 0 (by decide) hw_1 (fun _ h9 => h9) rfl dX1_decodeNode_1 ?_
  refine lv_istore (lv' := [(4, .int (iZ nx)), (0, .ref hd), (1, .ref ht), (2, .null), (3, .int (iZ ((U0 : Nat) : Int)))]) hx hb dX1_decodeNode_4 hl (by decide) rfl (fun ls hl => ?_)
  refine lv_aload_n hx hb dX1_decodeNode_6 rfl (lv_at hl 1 rfl) ?_
  refine lv_aload_n hx hb dX1_decodeNode_7 rfl (lv_at hl 2 rfl) ?_
  refine rw_i (wr := []) (va_runV (As := [.ref ht]) (rest := []) ⟨hx, hb, hml, hown, hts⟩ (c_X1_unsigned l D cI cJ cB cZ hd ht ta nx nd sz kd pl tf len hT hL hnx _) (cwV 1 hts gX1_decodeNode_X1_unsigned rfl rfl rfl (by decide +kernel) ⟨Nat.le_of_ble_eq_true rfl, Nat.le_of_ble_eq_true rfl⟩) (pre1V hE hP hD 0 rfl rfl) rfl rfl hl.1 rfl (lv_room (Nat.le_of_ble_eq_true rfl)) dX1_decodeNode_8 ⟨Nat.le_of_ble_eq_true rfl, Nat.le_of_ble_eq_true rfl⟩) hP hD hS hA [0, 1, 2] [] rfl rfl (by decide) (by decide) (fun r_1 u_3 H locs hr_2 hP hD hS => ?_)
  have hP := hP.sub (ws' := (wDe hd u_3.1 nd sz u_3.2.1 u_3.2.2 ++ wBR 2000 cI ht ta tf len)) [0, 1, 2] rfl
  have hD := hD.sub (ws' := (wDe hd u_3.1 nd sz u_3.2.1 u_3.2.2 ++ wBR 2000 cI ht ta tf len)) [0, 1, 2] (by decide) rfl
  obtain ⟨⟨qk, qv, qp⟩, hq⟩ : ∃ q, q = uns tf len.toNat nx.toNat := ⟨_, rfl⟩
  rw [← hq] at hr_2
  have w1 := uns_ok hq (by omega) hT
  dsimp only [uR] at hr_2
  refine lv_istore (lv' := [(5, .int (iZ r_1)), (4, .int (iZ nx)), (0, .ref hd), (1, .ref ht), (2, .null), (3, .int (iZ ((U0 : Nat) : Int)))]) hx hb dX1_decodeNode_11 hl (by decide) rfl (fun ls hl => ?_)
  refine lv_iload hx hb dX1_decodeNode_13 (lv_at hl 0 rfl) ?_
  refine z_iconst hx hb dX1_decodeNode_15 ?_
  refine z_icmp_ne (tgt := 21) hx hb dX1_decodeNode_16 (by decide) (by omega) (by omega) (fun c_4 => ?_) (fun c_4 => ?_)
  · obtain rfl : qv = r_1 := by omega
    refine lv_iload hx hb dX1_decodeNode_21 (lv_at hl 0 rfl) ?_
    refine lv_aload_n hx hb dX1_decodeNode_23 rfl (lv_at hl 2 rfl) ?_
    refine va_get (v := .int (iZ nd)) (C := RX1) (T := TX1) (N := 5) (ci := 1) hx hb hts hi_1 hown hK hP 0 rfl rfl 1 (by decide) hw_2 (fun _ h9 => h9) rfl dX1_decodeNode_24 ?_
    refine z_icmp_gt (tgt := 43) hx hb dX1_decodeNode_27 (by decide) (by omega) (by omega) (fun c_5 => ?_) (fun c_5 => ?_)
    · refine lv_aload_n hx hb dX1_decodeNode_43 rfl (lv_at hl 2 rfl) ?_
      refine z_iconst hx hb dX1_decodeNode_44 ?_
      refine lv_iload hx hb dX1_decodeNode_45 (lv_at hl 1 rfl) ?_
      refine rw_i (wr := [(ht, .inr (0, [.ref ta, .int (iZ len)])), (ta, .inl (cI, 2000, .inl (aI tf)))]) (va_runV (As := [.int (iZ 3), .int (iZ nx)]) (rest := []) ⟨hx, hb, hml, hown, hts⟩ (c_X1_refuse l D cI cJ cB cZ hd u_3.1 nd sz u_3.2.1 u_3.2.2 3 nx _) (cwV 2 hts gX1_decodeNode_X1_refuse rfl rfl rfl (by decide +kernel) ⟨Nat.le_of_ble_eq_true rfl, Nat.le_of_ble_eq_true rfl⟩) (pre1V hE (hP.sub (ws' := (wDe hd u_3.1 nd sz u_3.2.1 u_3.2.2)) [0] rfl) (hD.sub (ws' := (wDe hd u_3.1 nd sz u_3.2.1 u_3.2.2)) [0] (by decide) rfl) 0 rfl rfl) rfl rfl hl.1 rfl (lv_room (Nat.le_of_ble_eq_true rfl)) dX1_decodeNode_47 ⟨Nat.le_of_ble_eq_true rfl, Nat.le_of_ble_eq_true rfl⟩) hP hD hS hA [0] [1, 2] rfl rfl (by decide) (by decide) (fun r_6 u_8 H locs hr_7 hP hD hS => ?_)
      obtain ⟨rfl, rfl⟩ := hr_7
      have hP := hP.sub (ws' := (wDe hd u_3.1 nd sz 3 nx ++ wBR 2000 cI ht ta tf len)) [2, 0, 1] rfl
      have hD := hD.sub (ws' := (wDe hd u_3.1 nd sz 3 nx ++ wBR 2000 cI ht ta tf len)) [2, 0, 1] (by decide) rfl
      exact rw_zret (z := 0) (u_3.1, sz, 3, nx) hx hb hr hlocks (Or.inl rfl) hP hD hS ⟨3, _, qp, 0, E, pNode_o hq (by omega) (by omega), Or.inr ⟨rfl, by first | omega | (dsimp only; omega), rfl, by first | omega | (dsimp only; omega)⟩⟩ dX1_decodeNode_50
    · refine lv_iload hx hb dX1_decodeNode_30 (lv_at hl 0 rfl) ?_
      refine z_sipush hx hb dX1_decodeNode_32 (by decide) ?_
      refine lv_aload_n hx hb dX1_decodeNode_35 rfl (lv_at hl 2 rfl) ?_
      refine va_get (v := .int (iZ sz)) (C := RX1) (T := TX1) (N := 5) (ci := 1) hx hb hts hi_1 hown hK hP 0 rfl rfl 2 (by decide) hw_3 (fun _ h9 => h9) rfl dX1_decodeNode_36 ?_
      refine z_isub hx hb dX1_decodeNode_39 ?_
      refine z_icmp_le (tgt := 51) hx hb dX1_decodeNode_40 (by decide) (by omega) (by omega) (fun c_9 => ?_) (fun c_9 => ?_)
      · refine lv_aload_n hx hb dX1_decodeNode_51 rfl (lv_at hl 2 rfl) ?_
        refine lv_dup hx hb dX1_decodeNode_52 rfl ?_
        refine va_get (v := .int (iZ sz)) (C := RX1) (T := TX1) (N := 5) (ci := 1) hx hb hts hi_1 hown hK hP 0 rfl rfl 2 (by decide) hw_3 (fun _ h9 => h9) rfl dX1_decodeNode_53 ?_
        refine lv_iload hx hb dX1_decodeNode_56 (lv_at hl 0 rfl) ?_
        refine z_iadd hx hb dX1_decodeNode_58 ?_
        refine va_put (v := .int (iZ (sz + qv))) (ty := .int) (C := RX1) (T := TX1) (N := 5) (ci := 1) hx hb hts hi_1 tyX1 tyX1_ok nmX1 hown hK hP hD hS 0 rfl rfl 2 (by decide) hw_3 (fun _ h9 => h9) rfl (by decide +kernel) rfl rfl (Nat.le_of_ble_eq_true rfl) dX1_decodeNode_59 (fun H locs hP hD hS => ?_)
        have hP : va_P D vwCl (wDe hd u_3.1 nd (sz + qv) u_3.2.1 u_3.2.2 ++ wBR 2000 cI ht ta tf len) H := hP
        have hD : va_D A (wDe hd u_3.1 nd (sz + qv) u_3.2.1 u_3.2.2 ++ wBR 2000 cI ht ta tf len) := hD
        refine z_iconst hx hb dX1_decodeNode_62 ?_
        refine lv_istore (lv' := [(6, .int (iZ (-1))), (5, .int (iZ qv)), (4, .int (iZ nx)), (0, .ref hd), (1, .ref ht), (2, .null), (3, .int (iZ ((U0 : Nat) : Int)))]) hx hb dX1_decodeNode_63 hl (by decide) rfl (fun ls hl => ?_)
        refine z_iconst hx hb dX1_decodeNode_65 ?_
        refine lv_istore (lv' := [(7, .int (iZ 0)), (6, .int (iZ (-1))), (5, .int (iZ qv)), (4, .int (iZ nx)), (0, .ref hd), (1, .ref ht), (2, .null), (3, .int (iZ ((U0 : Nat) : Int)))]) hx hb dX1_decodeNode_66 hl (by decide) rfl (fun ls hl => ?_)
        refine w_loop (fun kf H locs ls => ∃ (i : Nat), ∃ (v nx1 kd1 pl1 : Int), ∃ (E1 : Ed), kf = qv.toNat - i ∧ (i ≤ qv.toNat ∧ 0 ≤ nx1 ∧ nx1 ≤ len ∧ kd1 = kd ∧ -1 ≤ v ∧ v < (N : Int) ∧ pRow tf len.toNat N U0 (qv.toNat - i) (decide (i = 0)) v nx1.toNat E1 = pRow tf len.toNat N U0 qv.toNat true 0 qp E) ∧ va_P D vwCl (wDe hd nx1 nd (sz + qv) kd1 pl1 ++ wBR 2000 cI ht ta tf len) H ∧ va_D A (wDe hd nx1 nd (sz + qv) kd1 pl1 ++ wBR 2000 cI ht ta tf len) ∧ va_S A s.heap H locs ∧ lv_has ls 9 [(0, .ref hd), (1, .ref ht), (2, .null), (3, .int (iZ ((U0 : Nat) : Int))), (5, .int (iZ qv)), (6, .int (iZ v)), (7, .int (iZ ↑i))]) ?_ _ ⟨0, (-1), u_3.1, u_3.2.1, u_3.2.2, E, rfl, ⟨by omega, by omega, by omega, by omega, by omega, by omega, (by rw [show (u_3.1).toNat = qp by omega]; exact pRow_v)⟩, hP, hD, hS, lv_sub hl [4, 5, 6, 7, 2, 1, 0] rfl⟩
        rintro kf H locs ls ⟨i, v, nx1, kd1, pl1, E1, hk, ⟨i1, i2, i3, i4, i5, i6, i7⟩, hP, hD, hS, hl⟩ ih
        refine lv_iload hx hb dX1_decodeNode_68 (lv_at hl 6 rfl) ?_
        refine lv_iload hx hb dX1_decodeNode_70 (lv_at hl 4 rfl) ?_
        refine z_icmp_ge (tgt := 160) hx hb dX1_decodeNode_72 (by decide) (by omega) (by omega) (fun c_10 => ?_) (fun c_10 => ?_)
        · refine z_iconst hx hb dX1_decodeNode_160 ?_
          exact rw_zret (z := 1) (nx1, sz + qv, kd1, pl1) hx hb hr hlocks (Or.inr rfl) hP hD hS ⟨0, 0, nx1.toNat, qv.toNat, E1, pNode_s hq (by omega) (by omega) (by rw [← i7, show qv.toNat - i = 0 by omega]; rfl), Or.inl ⟨rfl, rfl, by first | omega | (dsimp only; omega), by first | omega | (dsimp only; omega), by first | omega | (dsimp only; omega), by first | omega | (dsimp only; omega), by first | omega | (dsimp only; omega)⟩⟩ dX1_decodeNode_161
        · refine lv_aload_n hx hb dX1_decodeNode_75 rfl (lv_at hl 0 rfl) ?_
          refine va_get (v := .int (iZ nx1)) (C := RX1) (T := TX1) (N := 5) (ci := 1) hx hb hts hi_1 hown hK hP 0 rfl rfl 0 (by decide) hw_1 (fun _ h9 => h9) rfl dX1_decodeNode_76 ?_
          refine lv_istore (lv' := [(4, .int (iZ nx1)), (0, .ref hd), (1, .ref ht), (2, .null), (3, .int (iZ ((U0 : Nat) : Int))), (5, .int (iZ qv)), (6, .int (iZ v)), (7, .int (iZ ↑i))]) hx hb dX1_decodeNode_79 hl (by decide) rfl (fun ls hl => ?_)
          refine lv_aload_n hx hb dX1_decodeNode_81 rfl (lv_at hl 1 rfl) ?_
          refine lv_aload_n hx hb dX1_decodeNode_82 rfl (lv_at hl 2 rfl) ?_
          refine rw_i (wr := []) (va_runV (As := [.ref ht]) (rest := []) ⟨hx, hb, hml, hown, hts⟩ (c_X1_unsigned l D cI cJ cB cZ hd ht ta nx1 nd (sz + qv) kd1 pl1 tf len hT hL (by omega) _) (cwV 1 hts gX1_decodeNode_X1_unsigned rfl rfl rfl (by decide +kernel) ⟨Nat.le_of_ble_eq_true rfl, Nat.le_of_ble_eq_true rfl⟩) (pre1V hE hP hD 0 rfl rfl) rfl rfl hl.1 rfl (lv_room (Nat.le_of_ble_eq_true rfl)) dX1_decodeNode_83 ⟨Nat.le_of_ble_eq_true rfl, Nat.le_of_ble_eq_true rfl⟩) hP hD hS hA [0, 1, 2] [] rfl rfl (by decide) (by decide) (fun r_11 u_13 H locs hr_12 hP hD hS => ?_)
          have hP := hP.sub (ws' := (wDe hd u_13.1 nd (sz + qv) u_13.2.1 u_13.2.2 ++ wBR 2000 cI ht ta tf len)) [0, 1, 2] rfl
          have hD := hD.sub (ws' := (wDe hd u_13.1 nd (sz + qv) u_13.2.1 u_13.2.2 ++ wBR 2000 cI ht ta tf len)) [0, 1, 2] (by decide) rfl
          obtain ⟨⟨qk2, qv2, qp2⟩, hq2⟩ : ∃ q, q = uns tf len.toNat nx1.toNat := ⟨_, rfl⟩
          rw [← hq2] at hr_12
          have w2 := uns_ok hq2 (by omega) hT
          dsimp only [uR] at hr_12
          refine lv_istore (lv' := [(8, .int (iZ r_11)), (4, .int (iZ nx1)), (0, .ref hd), (1, .ref ht), (2, .null), (3, .int (iZ ((U0 : Nat) : Int))), (5, .int (iZ qv)), (6, .int (iZ v)), (7, .int (iZ ↑i))]) hx hb dX1_decodeNode_86 hl (by decide) rfl (fun ls hl => ?_)
          refine lv_iload hx hb dX1_decodeNode_88 (lv_at hl 0 rfl) ?_
          refine z_iconst hx hb dX1_decodeNode_90 ?_
          refine z_icmp_ne (tgt := 96) hx hb dX1_decodeNode_91 (by decide) (by omega) (by omega) (fun c_14 => ?_) (fun c_14 => ?_)
          · obtain rfl : qv2 = r_11 := by omega
            refine lv_iload hx hb dX1_decodeNode_96 (lv_at hl 8 rfl) ?_
            refine z_if_le (tgt := 111) hx hb dX1_decodeNode_98 (by decide) (by omega) (fun c_15 => ?_) (fun c_15 => ?_)
            · refine lv_iload_n hx hb dX1_decodeNode_111 rfl (lv_at hl 5 rfl) ?_
              refine lv_iload hx hb dX1_decodeNode_112 (lv_at hl 0 rfl) ?_
              refine ro_i (va_runS (As := [.int (iZ qv2)]) (rest := [.int (iZ ((U0 : Nat) : Int))]) ⟨hx, hb, hml, hown, hts⟩ (c_X1_signed l D cI cJ cB cZ qv2 (by omega)) (va_cwS 1 hts gX1_decodeNode_X1_signed rfl rfl rfl (by decide +kernel) ⟨Nat.le_of_ble_eq_true rfl, Nat.le_of_ble_eq_true rfl⟩) (pre0S hE (hP.sub (ws' := []) [] rfl)) rfl rfl hl.1 rfl (lv_room (Nat.le_of_ble_eq_true rfl)) dX1_decodeNode_114 ⟨Nat.le_of_ble_eq_true rfl, Nat.le_of_ble_eq_true rfl⟩) (fun r_16 hr_17 => ?_)
              subst hr_17
              refine z_iadd hx hb dX1_decodeNode_117 ?_
              have hv : (((U0 : Nat) : Int) + (sg qv2)) = if decide (i = 0) = true then ((U0 : Nat) : Int) + sg qv2 else v + 1 + qv2 := by rw [if_pos (decide_eq_true (show i = 0 by omega))]
              have hsg := sg_r (show 0 ≤ qv2 ∧ qv2 ≤ 65535 by omega)
              refine lv_istore (lv' := [(6, .int (iZ (((U0 : Nat) : Int) + (sg qv2)))), (8, .int (iZ qv2)), (4, .int (iZ nx1)), (0, .ref hd), (1, .ref ht), (2, .null), (3, .int (iZ ((U0 : Nat) : Int))), (5, .int (iZ qv)), (7, .int (iZ ↑i))]) hx hb dX1_decodeNode_118 hl (by decide) rfl (fun ls hl => ?_)
              refine lv_iload hx hb dX1_decodeNode_120 (lv_at hl 0 rfl) ?_
              refine z_if_lt (tgt := 134) hx hb dX1_decodeNode_122 (by decide) (by omega) (fun c_18 => ?_) (fun c_18 => ?_)
              · refine lv_aload_n hx hb dX1_decodeNode_134 rfl (lv_at hl 3 rfl) ?_
                refine z_iconst hx hb dX1_decodeNode_135 ?_
                refine lv_iload hx hb dX1_decodeNode_136 (lv_at hl 2 rfl) ?_
                refine rw_i (wr := [(ht, .inr (0, [.ref ta, .int (iZ len)])), (ta, .inl (cI, 2000, .inl (aI tf)))]) (va_runV (As := [.int (iZ 3), .int (iZ nx1)]) (rest := []) ⟨hx, hb, hml, hown, hts⟩ (c_X1_refuse l D cI cJ cB cZ hd u_13.1 nd (sz + qv) u_13.2.1 u_13.2.2 3 nx1 _) (cwV 2 hts gX1_decodeNode_X1_refuse rfl rfl rfl (by decide +kernel) ⟨Nat.le_of_ble_eq_true rfl, Nat.le_of_ble_eq_true rfl⟩) (pre1V hE (hP.sub (ws' := (wDe hd u_13.1 nd (sz + qv) u_13.2.1 u_13.2.2)) [0] rfl) (hD.sub (ws' := (wDe hd u_13.1 nd (sz + qv) u_13.2.1 u_13.2.2)) [0] (by decide) rfl) 0 rfl rfl) rfl rfl hl.1 rfl (lv_room (Nat.le_of_ble_eq_true rfl)) dX1_decodeNode_138 ⟨Nat.le_of_ble_eq_true rfl, Nat.le_of_ble_eq_true rfl⟩) hP hD hS hA [0] [1, 2] rfl rfl (by decide) (by decide) (fun r_19 u_21 H locs hr_20 hP hD hS => ?_)
                obtain ⟨rfl, rfl⟩ := hr_20
                have hP := hP.sub (ws' := (wDe hd u_13.1 nd (sz + qv) 3 nx1 ++ wBR 2000 cI ht ta tf len)) [2, 0, 1] rfl
                have hD := hD.sub (ws' := (wDe hd u_13.1 nd (sz + qv) 3 nx1 ++ wBR 2000 cI ht ta tf len)) [2, 0, 1] (by decide) rfl
                exact rw_zret (z := 0) (u_13.1, sz + qv, 3, nx1) hx hb hr hlocks (Or.inl rfl) hP hD hS ⟨3, _, qp2, qv.toNat, E1, pNode_s hq (by omega) (by omega) (by rw [← i7, show qv.toNat - i = (qv.toNat - (i + 1)) + 1 by omega]; exact pRow_o hq2 (by omega) hv (by omega)), Or.inr ⟨rfl, by first | omega | (dsimp only; omega), rfl, by first | omega | (dsimp only; omega)⟩⟩ dX1_decodeNode_141
              · refine lv_iload hx hb dX1_decodeNode_125 (lv_at hl 0 rfl) ?_
                refine lv_aload_n hx hb dX1_decodeNode_127 rfl (lv_at hl 3 rfl) ?_
                refine va_get (v := .int (iZ nd)) (C := RX1) (T := TX1) (N := 5) (ci := 1) hx hb hts hi_1 hown hK hP 0 rfl rfl 1 (by decide) hw_2 (fun _ h9 => h9) rfl dX1_decodeNode_128 ?_
                refine z_icmp_lt (tgt := 142) hx hb dX1_decodeNode_131 (by decide) (by omega) (by omega) (fun c_22 => ?_) (fun c_22 => ?_)
                · refine lv_aload_nN hx hb dX1_decodeNode_142 rfl (lv_at hl 5 rfl) ?_
                  refine lv_ifnullN (tgt := 154) hx hb dX1_decodeNode_143 (by decide) ?_
                  refine lv_iinc (v := iZ (↑i + 1)) (lv' := [(7, .int (iZ (↑i + 1))), (6, .int (iZ (((U0 : Nat) : Int) + (sg qv2)))), (8, .int (iZ qv2)), (4, .int (iZ nx1)), (0, .ref hd), (1, .ref ht), (2, .null), (3, .int (iZ ((U0 : Nat) : Int))), (5, .int (iZ qv))]) hx hb dX1_decodeNode_154 hl (k := 8) rfl (show iZ ↑i + iZ 1 = _ from iZ_add _ _) (by decide) rfl (fun ls hl => ?_)
                  refine lv_goto (tgt := 68) hx hb dX1_decodeNode_157 (by decide) ?_
                  exact ih _ _ _ _ (by omega) ⟨(i + 1), (((U0 : Nat) : Int) + (sg qv2)), u_13.1, u_13.2.1, u_13.2.2, (uE E1 U0 (((U0 : Nat) : Int) + (sg qv2)).toNat true), rfl, ⟨by omega, by omega, by omega, by omega, by omega, by omega, (by rw [← i7, show qv.toNat - i = (qv.toNat - (i + 1)) + 1 by omega, pRow_s hq2 (by omega) hv (by omega), show (u_13.1).toNat = qp2 by omega]; rfl)⟩, hP, hD, hS, lv_sub hl [4, 5, 6, 7, 8, 1, 0] rfl⟩
                · refine lv_aload_n hx hb dX1_decodeNode_134 rfl (lv_at hl 3 rfl) ?_
                  refine z_iconst hx hb dX1_decodeNode_135 ?_
                  refine lv_iload hx hb dX1_decodeNode_136 (lv_at hl 2 rfl) ?_
                  refine rw_i (wr := [(ht, .inr (0, [.ref ta, .int (iZ len)])), (ta, .inl (cI, 2000, .inl (aI tf)))]) (va_runV (As := [.int (iZ 3), .int (iZ nx1)]) (rest := []) ⟨hx, hb, hml, hown, hts⟩ (c_X1_refuse l D cI cJ cB cZ hd u_13.1 nd (sz + qv) u_13.2.1 u_13.2.2 3 nx1 _) (cwV 2 hts gX1_decodeNode_X1_refuse rfl rfl rfl (by decide +kernel) ⟨Nat.le_of_ble_eq_true rfl, Nat.le_of_ble_eq_true rfl⟩) (pre1V hE (hP.sub (ws' := (wDe hd u_13.1 nd (sz + qv) u_13.2.1 u_13.2.2)) [0] rfl) (hD.sub (ws' := (wDe hd u_13.1 nd (sz + qv) u_13.2.1 u_13.2.2)) [0] (by decide) rfl) 0 rfl rfl) rfl rfl hl.1 rfl (lv_room (Nat.le_of_ble_eq_true rfl)) dX1_decodeNode_138 ⟨Nat.le_of_ble_eq_true rfl, Nat.le_of_ble_eq_true rfl⟩) hP hD hS hA [0] [1, 2] rfl rfl (by decide) (by decide) (fun r_23 u_25 H locs hr_24 hP hD hS => ?_)
                  obtain ⟨rfl, rfl⟩ := hr_24
                  have hP := hP.sub (ws' := (wDe hd u_13.1 nd (sz + qv) 3 nx1 ++ wBR 2000 cI ht ta tf len)) [2, 0, 1] rfl
                  have hD := hD.sub (ws' := (wDe hd u_13.1 nd (sz + qv) 3 nx1 ++ wBR 2000 cI ht ta tf len)) [2, 0, 1] (by decide) rfl
                  exact rw_zret (z := 0) (u_13.1, sz + qv, 3, nx1) hx hb hr hlocks (Or.inl rfl) hP hD hS ⟨3, _, qp2, qv.toNat, E1, pNode_s hq (by omega) (by omega) (by rw [← i7, show qv.toNat - i = (qv.toNat - (i + 1)) + 1 by omega]; exact pRow_o hq2 (by omega) hv (by omega)), Or.inr ⟨rfl, by first | omega | (dsimp only; omega), rfl, by first | omega | (dsimp only; omega)⟩⟩ dX1_decodeNode_141
            · refine lv_iload hx hb dX1_decodeNode_101 (lv_at hl 7 rfl) ?_
              refine z_iconst hx hb dX1_decodeNode_103 ?_
              refine z_iadd hx hb dX1_decodeNode_104 ?_
              refine lv_iload hx hb dX1_decodeNode_105 (lv_at hl 0 rfl) ?_
              refine z_iadd hx hb dX1_decodeNode_107 ?_
              refine lv_goto (tgt := 118) hx hb dX1_decodeNode_108 (by decide) ?_
              have hv : ((v + 1) + qv2) = if decide (i = 0) = true then ((U0 : Nat) : Int) + sg qv2 else v + 1 + qv2 := by rw [if_neg (by simp; omega)]
              refine lv_istore (lv' := [(6, .int (iZ ((v + 1) + qv2))), (8, .int (iZ qv2)), (4, .int (iZ nx1)), (0, .ref hd), (1, .ref ht), (2, .null), (3, .int (iZ ((U0 : Nat) : Int))), (5, .int (iZ qv)), (7, .int (iZ ↑i))]) hx hb dX1_decodeNode_118 hl (by decide) rfl (fun ls hl => ?_)
              refine lv_iload hx hb dX1_decodeNode_120 (lv_at hl 0 rfl) ?_
              refine z_if_lt (tgt := 134) hx hb dX1_decodeNode_122 (by decide) (by omega) (fun c_26 => ?_) (fun c_26 => ?_)
              · refine lv_aload_n hx hb dX1_decodeNode_134 rfl (lv_at hl 3 rfl) ?_
                refine z_iconst hx hb dX1_decodeNode_135 ?_
                refine lv_iload hx hb dX1_decodeNode_136 (lv_at hl 2 rfl) ?_
                refine rw_i (wr := [(ht, .inr (0, [.ref ta, .int (iZ len)])), (ta, .inl (cI, 2000, .inl (aI tf)))]) (va_runV (As := [.int (iZ 3), .int (iZ nx1)]) (rest := []) ⟨hx, hb, hml, hown, hts⟩ (c_X1_refuse l D cI cJ cB cZ hd u_13.1 nd (sz + qv) u_13.2.1 u_13.2.2 3 nx1 _) (cwV 2 hts gX1_decodeNode_X1_refuse rfl rfl rfl (by decide +kernel) ⟨Nat.le_of_ble_eq_true rfl, Nat.le_of_ble_eq_true rfl⟩) (pre1V hE (hP.sub (ws' := (wDe hd u_13.1 nd (sz + qv) u_13.2.1 u_13.2.2)) [0] rfl) (hD.sub (ws' := (wDe hd u_13.1 nd (sz + qv) u_13.2.1 u_13.2.2)) [0] (by decide) rfl) 0 rfl rfl) rfl rfl hl.1 rfl (lv_room (Nat.le_of_ble_eq_true rfl)) dX1_decodeNode_138 ⟨Nat.le_of_ble_eq_true rfl, Nat.le_of_ble_eq_true rfl⟩) hP hD hS hA [0] [1, 2] rfl rfl (by decide) (by decide) (fun r_27 u_29 H locs hr_28 hP hD hS => ?_)
                obtain ⟨rfl, rfl⟩ := hr_28
                have hP := hP.sub (ws' := (wDe hd u_13.1 nd (sz + qv) 3 nx1 ++ wBR 2000 cI ht ta tf len)) [2, 0, 1] rfl
                have hD := hD.sub (ws' := (wDe hd u_13.1 nd (sz + qv) 3 nx1 ++ wBR 2000 cI ht ta tf len)) [2, 0, 1] (by decide) rfl
                exact rw_zret (z := 0) (u_13.1, sz + qv, 3, nx1) hx hb hr hlocks (Or.inl rfl) hP hD hS ⟨3, _, qp2, qv.toNat, E1, pNode_s hq (by omega) (by omega) (by rw [← i7, show qv.toNat - i = (qv.toNat - (i + 1)) + 1 by omega]; exact pRow_o hq2 (by omega) hv (by omega)), Or.inr ⟨rfl, by first | omega | (dsimp only; omega), rfl, by first | omega | (dsimp only; omega)⟩⟩ dX1_decodeNode_141
              · refine lv_iload hx hb dX1_decodeNode_125 (lv_at hl 0 rfl) ?_
                refine lv_aload_n hx hb dX1_decodeNode_127 rfl (lv_at hl 3 rfl) ?_
                refine va_get (v := .int (iZ nd)) (C := RX1) (T := TX1) (N := 5) (ci := 1) hx hb hts hi_1 hown hK hP 0 rfl rfl 1 (by decide) hw_2 (fun _ h9 => h9) rfl dX1_decodeNode_128 ?_
                refine z_icmp_lt (tgt := 142) hx hb dX1_decodeNode_131 (by decide) (by omega) (by omega) (fun c_30 => ?_) (fun c_30 => ?_)
                · refine lv_aload_nN hx hb dX1_decodeNode_142 rfl (lv_at hl 5 rfl) ?_
                  refine lv_ifnullN (tgt := 154) hx hb dX1_decodeNode_143 (by decide) ?_
                  refine lv_iinc (v := iZ (↑i + 1)) (lv' := [(7, .int (iZ (↑i + 1))), (6, .int (iZ ((v + 1) + qv2))), (8, .int (iZ qv2)), (4, .int (iZ nx1)), (0, .ref hd), (1, .ref ht), (2, .null), (3, .int (iZ ((U0 : Nat) : Int))), (5, .int (iZ qv))]) hx hb dX1_decodeNode_154 hl (k := 8) rfl (show iZ ↑i + iZ 1 = _ from iZ_add _ _) (by decide) rfl (fun ls hl => ?_)
                  refine lv_goto (tgt := 68) hx hb dX1_decodeNode_157 (by decide) ?_
                  exact ih _ _ _ _ (by omega) ⟨(i + 1), ((v + 1) + qv2), u_13.1, u_13.2.1, u_13.2.2, (uE E1 U0 ((v + 1) + qv2).toNat true), rfl, ⟨by omega, by omega, by omega, by omega, by omega, by omega, (by rw [← i7, show qv.toNat - i = (qv.toNat - (i + 1)) + 1 by omega, pRow_s hq2 (by omega) hv (by omega), show (u_13.1).toNat = qp2 by omega]; rfl)⟩, hP, hD, hS, lv_sub hl [4, 5, 6, 7, 8, 1, 0] rfl⟩
                · refine lv_aload_n hx hb dX1_decodeNode_134 rfl (lv_at hl 3 rfl) ?_
                  refine z_iconst hx hb dX1_decodeNode_135 ?_
                  refine lv_iload hx hb dX1_decodeNode_136 (lv_at hl 2 rfl) ?_
                  refine rw_i (wr := [(ht, .inr (0, [.ref ta, .int (iZ len)])), (ta, .inl (cI, 2000, .inl (aI tf)))]) (va_runV (As := [.int (iZ 3), .int (iZ nx1)]) (rest := []) ⟨hx, hb, hml, hown, hts⟩ (c_X1_refuse l D cI cJ cB cZ hd u_13.1 nd (sz + qv) u_13.2.1 u_13.2.2 3 nx1 _) (cwV 2 hts gX1_decodeNode_X1_refuse rfl rfl rfl (by decide +kernel) ⟨Nat.le_of_ble_eq_true rfl, Nat.le_of_ble_eq_true rfl⟩) (pre1V hE (hP.sub (ws' := (wDe hd u_13.1 nd (sz + qv) u_13.2.1 u_13.2.2)) [0] rfl) (hD.sub (ws' := (wDe hd u_13.1 nd (sz + qv) u_13.2.1 u_13.2.2)) [0] (by decide) rfl) 0 rfl rfl) rfl rfl hl.1 rfl (lv_room (Nat.le_of_ble_eq_true rfl)) dX1_decodeNode_138 ⟨Nat.le_of_ble_eq_true rfl, Nat.le_of_ble_eq_true rfl⟩) hP hD hS hA [0] [1, 2] rfl rfl (by decide) (by decide) (fun r_31 u_33 H locs hr_32 hP hD hS => ?_)
                  obtain ⟨rfl, rfl⟩ := hr_32
                  have hP := hP.sub (ws' := (wDe hd u_13.1 nd (sz + qv) 3 nx1 ++ wBR 2000 cI ht ta tf len)) [2, 0, 1] rfl
                  have hD := hD.sub (ws' := (wDe hd u_13.1 nd (sz + qv) 3 nx1 ++ wBR 2000 cI ht ta tf len)) [2, 0, 1] (by decide) rfl
                  exact rw_zret (z := 0) (u_13.1, sz + qv, 3, nx1) hx hb hr hlocks (Or.inl rfl) hP hD hS ⟨3, _, qp2, qv.toNat, E1, pNode_s hq (by omega) (by omega) (by rw [← i7, show qv.toNat - i = (qv.toNat - (i + 1)) + 1 by omega]; exact pRow_o hq2 (by omega) hv (by omega)), Or.inr ⟨rfl, by first | omega | (dsimp only; omega), rfl, by first | omega | (dsimp only; omega)⟩⟩ dX1_decodeNode_141
          · refine z_iconst hx hb dX1_decodeNode_94 ?_
            exact rw_zret (z := 0) (u_13.1, sz + qv, u_13.2.1, u_13.2.2) hx hb hr hlocks (Or.inl rfl) hP hD hS ⟨qk2, qv2, qp2, qv.toNat, E1, pNode_s hq (by omega) (by omega) (by rw [← i7, show qv.toNat - i = (qv.toNat - (i + 1)) + 1 by omega]; exact pRow_f hq2 (by omega)), Or.inr ⟨rfl, by first | omega | (dsimp only; omega), by first | omega | (dsimp only; omega), by first | omega | (dsimp only; omega)⟩⟩ dX1_decodeNode_95
      · refine lv_aload_n hx hb dX1_decodeNode_43 rfl (lv_at hl 2 rfl) ?_
        refine z_iconst hx hb dX1_decodeNode_44 ?_
        refine lv_iload hx hb dX1_decodeNode_45 (lv_at hl 1 rfl) ?_
        refine rw_i (wr := [(ht, .inr (0, [.ref ta, .int (iZ len)])), (ta, .inl (cI, 2000, .inl (aI tf)))]) (va_runV (As := [.int (iZ 3), .int (iZ nx)]) (rest := []) ⟨hx, hb, hml, hown, hts⟩ (c_X1_refuse l D cI cJ cB cZ hd u_3.1 nd sz u_3.2.1 u_3.2.2 3 nx _) (cwV 2 hts gX1_decodeNode_X1_refuse rfl rfl rfl (by decide +kernel) ⟨Nat.le_of_ble_eq_true rfl, Nat.le_of_ble_eq_true rfl⟩) (pre1V hE (hP.sub (ws' := (wDe hd u_3.1 nd sz u_3.2.1 u_3.2.2)) [0] rfl) (hD.sub (ws' := (wDe hd u_3.1 nd sz u_3.2.1 u_3.2.2)) [0] (by decide) rfl) 0 rfl rfl) rfl rfl hl.1 rfl (lv_room (Nat.le_of_ble_eq_true rfl)) dX1_decodeNode_47 ⟨Nat.le_of_ble_eq_true rfl, Nat.le_of_ble_eq_true rfl⟩) hP hD hS hA [0] [1, 2] rfl rfl (by decide) (by decide) (fun r_34 u_36 H locs hr_35 hP hD hS => ?_)
        obtain ⟨rfl, rfl⟩ := hr_35
        have hP := hP.sub (ws' := (wDe hd u_3.1 nd sz 3 nx ++ wBR 2000 cI ht ta tf len)) [2, 0, 1] rfl
        have hD := hD.sub (ws' := (wDe hd u_3.1 nd sz 3 nx ++ wBR 2000 cI ht ta tf len)) [2, 0, 1] (by decide) rfl
        exact rw_zret (z := 0) (u_3.1, sz, 3, nx) hx hb hr hlocks (Or.inl rfl) hP hD hS ⟨3, _, qp, 0, E, pNode_o hq (by omega) (by omega), Or.inr ⟨rfl, by first | omega | (dsimp only; omega), rfl, by first | omega | (dsimp only; omega)⟩⟩ dX1_decodeNode_50
  · refine z_iconst hx hb dX1_decodeNode_19 ?_
    exact rw_zret (z := 0) (u_3.1, sz, u_3.2.1, u_3.2.2) hx hb hr hlocks (Or.inl rfl) hP hD hS ⟨qk, qv, qp, 0, E, pNode_f hq (by omega), Or.inr ⟨rfl, by first | omega | (dsimp only; omega), by first | omega | (dsimp only; omega), by first | omega | (dsimp only; omega)⟩⟩ dX1_decodeNode_20
