set_option maxHeartbeats 4000000 in
set_option maxRecDepth 100000 in
theorem c_X6_graph (l : Launch) (D : va_G) (cI cJ cB cZ : ClassId) (h a1 a2 a3 a4 a5 a6 a7 : Nat) (thr : Int) (eg fr wt rk nx : Nat → Int) (nd es pp qq st ch bo : Int) (tp : Nat → Int) (le sz at_ fa fp nu fm nn : Int) (ou : Nat → Int) (om : Int) (tf : Nat → Int) (L : Nat) (hT : ∀ j, j < L → tp j = sb (tf j) ∧ 0 ≤ tf j ∧ tf j < 256) (hL : L ≤ 2000) (hsz : sz = (L : Int)) (hat : at_ = 0) (hfr : ME (fun _ _ => false) fr)  (sz0 : Nat) : Met l yX6_graph wsX6_graph ({ frames := 2, cells := 0, slots := 0, locals := 44 } : Room) (Pre1 D cI cJ cB cZ [.ref h] (wMo cI cJ cB cZ h a1 a2 a3 a4 a5 a6 a7 thr eg fr wt rk nx nd es pp qq st ch bo tp le sz at_ fa fp nu fm nn ou om) sz0) (rwI (S := (Nat → Int) × Int × Int × Int × Int × Int × Int) D (fun z U => ∃ (rk rp : Int) (rn rs : Nat) (rE : Ed), pAll tf L = (rk, rp, rn, rs, rE) ∧ ((rk = 0 ∧ z = (rs : Int) ∧ U.2.2.2.2.2.2 = (rn : Int) ∧ ME rE U.1 ∧ U.2.2.1 = fa) ∨ (rk ≠ 0 ∧ z = -1 ∧ U.2.2.1 = rk ∧ U.2.2.2.1 = rp))) (fun u => wMo cI cJ cB cZ h a1 a2 a3 a4 a5 a6 a7 thr eg u.1 wt rk nx nd es pp qq st ch bo tp le sz u.2.1 u.2.2.1 u.2.2.2.1 u.2.2.2.2.1 u.2.2.2.2.2.1 u.2.2.2.2.2.2 ou om) (va_A (wMo cI cJ cB cZ h a1 a2 a3 a4 a5 a6 a7 thr eg fr wt rk nx nd es pp qq st ch bo tp le sz at_ fa fp nu fm nn ou om) sz0)) 0 0 (va_A (wMo cI cJ cB cZ h a1 a2 a3 a4 a5 a6 a7 thr eg fr wt rk nx nd es pp qq st ch bo tp le sz at_ fa fp nu fm nn ou om) sz0) := by
  refine Met.ofW (cc := cX6_graph) (maxL := 7) (ret := (some .int)) (by decide) rfl ?_
  intro p e s m args below meth c s₁ B hml hv
  obtain ⟨rfl, hsz, hP, hE, hD0⟩ := hv
  have hx := B.exec
  have hb := B.bytes
  have hr := B.returns
  have hts := atoms_spec (ws := wsX6_graph) B.pre
  have hown : s.vm.findClass RX6 = some m.cls := findClass_of_methodNamed B.named
  have hlocks := B.notSynchronized
  have hK := hE.1
  subst hsz
  have hD := hD0.self (sz := s.heap.size)
  generalize hAe : va_A (wMo cI cJ cB cZ h a1 a2 a3 a4 a5 a6 a7 thr eg fr wt rk nx nd es pp qq st ch bo tp le sz at_ fa fp nu fm nn ou om) s.heap.size = A at hD ⊢
  have hA : ∀ q : Nat, s.heap.size ≤ q → A q := fun q h => by rw [← hAe]; exact Or.inr h
  have hS : va_S A s.heap s.heap [] := va_S.rf
  have hP : va_P D vwCl (wMo cI cJ cB cZ h a1 a2 a3 a4 a5 a6 a7 thr eg fr wt rk nx nd es pp qq st ch bo tp le sz at_ fa fp nu fm nn ou om) s.heap := hP
  have hi_6 : ∀ w ∈ wsX60, w ∈ wsX6_graph := by decide +kernel
  have hw_1 := hts (.fieldLink RX6 84 "RankHouseModel" "number" "I") (by decide +kernel)
  have hw_2 := hts (.fieldLink RX6 81 "RankHouseModel" "from" "I") (by decide +kernel)
  have hw_3 := hts (.fieldLink RX6 99 "RankHouseModel" "newNodes" "I") (by decide +kernel)
  have hw_4 := hts (.fieldLink RX6 78 "RankHouseModel" "at" "I") (by decide +kernel)
  have hw_5 := hts (.fieldLink RX6 87 "RankHouseModel" "size" "I") (by decide +kernel)
  have hw_6 := hts (.fieldLink RX6 18 "RankHouseModel" "fresh" "[Z") (by decide +kernel)
  have hl := lv_entry ([.ref h]) (n := 7) (Nat.le_of_ble_eq_true rfl)
  rw [lg_entry_eq]
  generalize (lg_sl ([.ref h]) ++ List.replicate (7 - (lg_sl ([.ref h])).length) Slot.unset).toArray = ls at hl ⊢
  have hl : lv_has ls 7 [(0, .ref h)] := hl
  refine lv_aload_n hx hb dX6_graph_0 rfl (lv_at hl 0 rfl) ?_
  refine rw_i (wr := []) (va_runV (As := []) (rest := []) ⟨hx, hb, hml, hown, hts⟩ (c_X6_reads l D cI cJ cB cZ h a1 a2 a3 a4 a5 a6 a7 thr eg fr wt rk nx nd es pp qq st ch bo tp le sz at_ fa fp nu fm nn ou om tf L hT hL hsz (by omega) _) (cwV 0 hts gX6_graph_X6_reads rfl rfl rfl (by decide +kernel) ⟨Nat.le_of_ble_eq_true rfl, Nat.le_of_ble_eq_true rfl⟩) (pre1V hE hP hD 0 rfl rfl) rfl rfl hl.1 rfl (lv_room (Nat.le_of_ble_eq_true rfl)) dX6_graph_1 ⟨Nat.le_of_ble_eq_true rfl, Nat.le_of_ble_eq_true rfl⟩) hP hD hS hA [0, 1, 2, 3, 4, 5, 6, 7] [] rfl rfl (by decide) (by decide) (fun r_1 u_3 H locs hr_2 hP hD hS => ?_)
  have hP := hP.sub (ws' := (wMo cI cJ cB cZ h a1 a2 a3 a4 a5 a6 a7 thr eg fr wt rk nx nd es pp qq st ch bo tp le sz u_3.1 u_3.2.1 u_3.2.2.1 u_3.2.2.2.1 u_3.2.2.2.2 nn ou om)) [0, 1, 2, 3, 4, 5, 6, 7] rfl
  have hD := hD.sub (ws' := (wMo cI cJ cB cZ h a1 a2 a3 a4 a5 a6 a7 thr eg fr wt rk nx nd es pp qq st ch bo tp le sz u_3.1 u_3.2.1 u_3.2.2.1 u_3.2.2.2.1 u_3.2.2.2.2 nn ou om)) [0, 1, 2, 3, 4, 5, 6, 7] (by decide) rfl
  obtain ⟨⟨qk, qv, qp⟩, hq⟩ : ∃ q, q = uns tf L at_.toNat := ⟨_, rfl⟩
  have w1 := uns_ok hq (by omega) (fun j hj => (hT j hj).2)
  rw [← hq] at hr_2
  dsimp only [mR] at hr_2
  have hz_qk : (r_1 = 1 ∧ (qk = 0 ∧ u_3.1 = (qp : Int) ∧ u_3.2.1 = fa ∧ u_3.2.2.2.1 = qv ∧ u_3.2.2.2.2 = ((at_.toNat : Nat) : Int))) ∨ (r_1 = 0 ∧ (qk ≠ 0 ∧ u_3.2.1 = qk ∧ u_3.2.2.1 = qv)) := by omega
  rcases hz_qk with ⟨rfl, hq_4⟩ | ⟨rfl, hq_4⟩
  · have hy_qk := hq_4
    refine z_if_ne (tgt := 9) hx hb dX6_graph_4 (by decide) (by omega) (fun _ => ?_) (fun c9 => absurd c9 (by decide))
    refine lv_aload_n hx hb dX6_graph_9 rfl (lv_at hl 0 rfl) ?_
    refine va_get (v := .int (iZ u_3.2.2.2.1)) (C := RX6) (T := TX6) (N := 24) (ci := 6) hx hb hts hi_6 hown hK hP 0 rfl rfl 19 (by decide) hw_1 (fun _ h9 => h9) rfl dX6_graph_10 ?_
    refine z_if_eq (tgt := 26) hx hb dX6_graph_13 (by decide) (by omega) (fun c_5 => ?_) (fun c_5 => ?_)
    · refine lv_aload_n hx hb dX6_graph_26 rfl (lv_at hl 0 rfl) ?_
      refine z_iconst hx hb dX6_graph_27 ?_
      refine lv_aload_n hx hb dX6_graph_28 rfl (lv_at hl 0 rfl) ?_
      refine va_get (v := .int (iZ u_3.2.2.2.2)) (C := RX6) (T := TX6) (N := 24) (ci := 6) hx hb hts hi_6 hown hK hP 0 rfl rfl 20 (by decide) hw_2 (fun _ h9 => h9) rfl dX6_graph_29 ?_
      refine rw_i (wr := []) (va_runV (As := [.int (iZ 3), .int (iZ u_3.2.2.2.2)]) (rest := []) ⟨hx, hb, hml, hown, hts⟩ (c_X6_bad l D cI cJ cB cZ h a1 a2 a3 a4 a5 a6 a7 thr eg fr wt rk nx nd es pp qq st ch bo tp le sz u_3.1 u_3.2.1 u_3.2.2.1 u_3.2.2.2.1 u_3.2.2.2.2 nn ou om 3 u_3.2.2.2.2 _) (cwV 2 hts gX6_graph_X6_bad rfl rfl rfl (by decide +kernel) ⟨Nat.le_of_ble_eq_true rfl, Nat.le_of_ble_eq_true rfl⟩) (pre1V hE hP hD 0 rfl rfl) rfl rfl hl.1 rfl (lv_room (Nat.le_of_ble_eq_true rfl)) dX6_graph_32 ⟨Nat.le_of_ble_eq_true rfl, Nat.le_of_ble_eq_true rfl⟩) hP hD hS hA [0, 1, 2, 3, 4, 5, 6, 7] [] rfl rfl (by decide) (by decide) (fun r_6 u_8 H locs hr_7 hP hD hS => ?_)
      obtain ⟨rfl, rfl⟩ := hr_7
      have hP := hP.sub (ws' := (wMo cI cJ cB cZ h a1 a2 a3 a4 a5 a6 a7 thr eg fr wt rk nx nd es pp qq st ch bo tp le sz u_3.1 3 u_3.2.2.2.2 u_3.2.2.2.1 u_3.2.2.2.2 nn ou om)) [0, 1, 2, 3, 4, 5, 6, 7] rfl
      have hD := hD.sub (ws' := (wMo cI cJ cB cZ h a1 a2 a3 a4 a5 a6 a7 thr eg fr wt rk nx nd es pp qq st ch bo tp le sz u_3.1 3 u_3.2.2.2.2 u_3.2.2.2.1 u_3.2.2.2.2 nn ou om)) [0, 1, 2, 3, 4, 5, 6, 7] (by decide) rfl
      exact rw_iret (z := (-1)) (fr, u_3.1, 3, u_3.2.2.2.2, u_3.2.2.2.1, u_3.2.2.2.2, nn) hx hb hr hlocks hP hD hS ⟨3, 0, 0, 0, (fun _ _ => false), (by have q0 := hq; rw [hat] at q0; exact pAll_o q0 (by omega) (by omega)), Or.inr ⟨by omega, rfl, rfl, (by first | omega | (dsimp only; omega))⟩⟩ dX6_graph_35
    · refine lv_aload_n hx hb dX6_graph_16 rfl (lv_at hl 0 rfl) ?_
      refine va_get (v := .int (iZ u_3.2.2.2.1)) (C := RX6) (T := TX6) (N := 24) (ci := 6) hx hb hts hi_6 hown hK hP 0 rfl rfl 19 (by decide) hw_1 (fun _ h9 => h9) rfl dX6_graph_17 ?_
      refine z_sipush hx hb dX6_graph_20 (by decide) ?_
      refine z_icmp_le (tgt := 36) hx hb dX6_graph_23 (by decide) (by omega) (by omega) (fun c_9 => ?_) (fun c_9 => ?_)
      · refine lv_aload_n hx hb dX6_graph_36 rfl (lv_at hl 0 rfl) ?_
        refine va_get (v := .int (iZ u_3.2.2.2.1)) (C := RX6) (T := TX6) (N := 24) (ci := 6) hx hb hts hi_6 hown hK hP 0 rfl rfl 19 (by decide) hw_1 (fun _ h9 => h9) rfl dX6_graph_37 ?_
        refine z_toi (qv) (by omega) ?_
        refine lv_istore_n (lv' := [(1, .int (iZ qv)), (0, .ref h)]) hx hb dX6_graph_40 rfl hl (by decide) rfl (fun ls hl => ?_)
        refine lv_aload_n hx hb dX6_graph_41 rfl (lv_at hl 1 rfl) ?_
        refine lv_iload_n hx hb dX6_graph_42 rfl (lv_at hl 0 rfl) ?_
        refine va_put (v := .int (iZ qv)) (ty := .int) (C := RX6) (T := TX6) (N := 24) (ci := 6) hx hb hts hi_6 tyX6 tyX6_ok nmX6 hown hK hP hD hS 0 rfl rfl 21 (by decide) hw_3 (fun _ h9 => h9) rfl (by decide +kernel) rfl rfl (Nat.le_of_ble_eq_true rfl) dX6_graph_43 (fun H locs hP hD hS => ?_)
        have hP : va_P D vwCl (wMo cI cJ cB cZ h a1 a2 a3 a4 a5 a6 a7 thr eg fr wt rk nx nd es pp qq st ch bo tp le sz u_3.1 u_3.2.1 u_3.2.2.1 u_3.2.2.2.1 u_3.2.2.2.2 qv ou om) H := hP
        have hD : va_D A (wMo cI cJ cB cZ h a1 a2 a3 a4 a5 a6 a7 thr eg fr wt rk nx nd es pp qq st ch bo tp le sz u_3.1 u_3.2.1 u_3.2.2.1 u_3.2.2.2.1 u_3.2.2.2.2 qv ou om) := hD
        refine z_iconst hx hb dX6_graph_46 ?_
        refine lv_istore_n (lv' := [(2, .int (iZ 0)), (1, .int (iZ qv)), (0, .ref h)]) hx hb dX6_graph_47 rfl hl (by decide) rfl (fun ls hl => ?_)
        refine z_iconst hx hb dX6_graph_48 ?_
        refine lv_istore_n (lv' := [(3, .int (iZ 0)), (2, .int (iZ 0)), (1, .int (iZ qv)), (0, .ref h)]) hx hb dX6_graph_49 rfl hl (by decide) rfl (fun ls hl => ?_)
        refine w_loop (fun kf H locs ls => ∃ (i size : Nat), ∃ (gr : Nat → Int), ∃ (at1 fa1 fp1 nu1 fm1 : Int), ∃ (E1 : Ed), kf = qv.toNat - i ∧ (i ≤ qv.toNat ∧ 0 ≤ at1 ∧ at1 ≤ (L : Int) ∧ size ≤ 2500 ∧ fa1 = fa ∧ ME E1 gr ∧ pNodes tf L qv.toNat (qv.toNat - i) i at1.toNat size E1 = pNodes tf L qv.toNat qv.toNat 0 qp 0 (fun _ _ => false)) ∧ va_P D vwCl (wMo cI cJ cB cZ h a1 a2 a3 a4 a5 a6 a7 thr eg gr wt rk nx nd es pp qq st ch bo tp le sz at1 fa1 fp1 nu1 fm1 qv ou om) H ∧ va_D A (wMo cI cJ cB cZ h a1 a2 a3 a4 a5 a6 a7 thr eg gr wt rk nx nd es pp qq st ch bo tp le sz at1 fa1 fp1 nu1 fm1 qv ou om) ∧ va_S A s.heap H locs ∧ lv_has ls 7 [(0, .ref h), (1, .int (iZ qv)), (2, .int (iZ ↑size)), (3, .int (iZ ↑i))]) ?_ _ ⟨0, 0, fr, u_3.1, u_3.2.1, u_3.2.2.1, u_3.2.2.2.1, u_3.2.2.2.2, (fun _ _ => false), rfl, ⟨by omega, by omega, by omega, by omega, by omega, hfr, (by rw [show (u_3.1).toNat = qp by omega]; rfl)⟩, hP, hD, hS, lv_sub hl [3, 2, 1, 0] rfl⟩
        rintro kf H locs ls ⟨i, size, gr, at1, fa1, fp1, nu1, fm1, E1, hk, ⟨i1, i2, i3, i4, i5, i6, i7⟩, hP, hD, hS, hl⟩ ih1
        refine lv_iload_n hx hb dX6_graph_50 rfl (lv_at hl 3 rfl) ?_
        refine lv_iload_n hx hb dX6_graph_51 rfl (lv_at hl 1 rfl) ?_
        refine z_icmp_ge (tgt := 225) hx hb dX6_graph_52 (by decide) (by omega) (by omega) (fun c_10 => ?_) (fun c_10 => ?_)
        · refine lv_aload_n hx hb dX6_graph_225 rfl (lv_at hl 0 rfl) ?_
          refine va_get (v := .int (iZ at1)) (C := RX6) (T := TX6) (N := 24) (ci := 6) hx hb hts hi_6 hown hK hP 0 rfl rfl 16 (by decide) hw_4 (fun _ h9 => h9) rfl dX6_graph_226 ?_
          refine lv_aload_n hx hb dX6_graph_229 rfl (lv_at hl 0 rfl) ?_
          refine va_get (v := .int (iZ sz)) (C := RX6) (T := TX6) (N := 24) (ci := 6) hx hb hts hi_6 hown hK hP 0 rfl rfl 15 (by decide) hw_5 (fun _ h9 => h9) rfl dX6_graph_230 ?_
          refine z_icmp_ge (tgt := 248) hx hb dX6_graph_233 (by decide) (by omega) (by omega) (fun c_11 => ?_) (fun c_11 => ?_)
          · refine lv_iload_n hx hb dX6_graph_248 rfl (lv_at hl 2 rfl) ?_
            exact rw_iret (z := ↑size) (gr, at1, fa1, fp1, nu1, fm1, qv) hx hb hr hlocks hP hD hS ⟨0, 0, qv.toNat, size, E1, (by have q0 := hq; rw [hat] at q0; exact pAll_s q0 (by omega) (by omega) (by rw [← i7, show qv.toNat - i = 0 by omega, pNodes, if_neg (by omega)])), Or.inl ⟨rfl, rfl, (by first | omega | (dsimp only; omega)), i6, i5⟩⟩ dX6_graph_249
          · refine lv_aload_n hx hb dX6_graph_236 rfl (lv_at hl 0 rfl) ?_
            refine z_iconst hx hb dX6_graph_237 ?_
            refine lv_aload_n hx hb dX6_graph_238 rfl (lv_at hl 0 rfl) ?_
            refine va_get (v := .int (iZ at1)) (C := RX6) (T := TX6) (N := 24) (ci := 6) hx hb hts hi_6 hown hK hP 0 rfl rfl 16 (by decide) hw_4 (fun _ h9 => h9) rfl dX6_graph_239 ?_
            refine rw_i (wr := []) (va_runV (As := [.int (iZ 4), .int (iZ at1)]) (rest := []) ⟨hx, hb, hml, hown, hts⟩ (c_X6_bad l D cI cJ cB cZ h a1 a2 a3 a4 a5 a6 a7 thr eg gr wt rk nx nd es pp qq st ch bo tp le sz at1 fa1 fp1 nu1 fm1 qv ou om 4 at1 _) (cwV 2 hts gX6_graph_X6_bad rfl rfl rfl (by decide +kernel) ⟨Nat.le_of_ble_eq_true rfl, Nat.le_of_ble_eq_true rfl⟩) (pre1V hE hP hD 0 rfl rfl) rfl rfl hl.1 rfl (lv_room (Nat.le_of_ble_eq_true rfl)) dX6_graph_242 ⟨Nat.le_of_ble_eq_true rfl, Nat.le_of_ble_eq_true rfl⟩) hP hD hS hA [0, 1, 2, 3, 4, 5, 6, 7] [] rfl rfl (by decide) (by decide) (fun r_12 u_14 H locs hr_13 hP hD hS => ?_)
            obtain ⟨rfl, rfl⟩ := hr_13
            have hP := hP.sub (ws' := (wMo cI cJ cB cZ h a1 a2 a3 a4 a5 a6 a7 thr eg gr wt rk nx nd es pp qq st ch bo tp le sz at1 4 at1 nu1 fm1 qv ou om)) [0, 1, 2, 3, 4, 5, 6, 7] rfl
            have hD := hD.sub (ws' := (wMo cI cJ cB cZ h a1 a2 a3 a4 a5 a6 a7 thr eg gr wt rk nx nd es pp qq st ch bo tp le sz at1 4 at1 nu1 fm1 qv ou om)) [0, 1, 2, 3, 4, 5, 6, 7] (by decide) rfl
            refine lv_goto (tgt := 249) hx hb dX6_graph_245 (by decide) ?_
            exact rw_iret (z := (-1)) (gr, at1, 4, at1, nu1, fm1, qv) hx hb hr hlocks hP hD hS ⟨4, ((at1.toNat : Nat) : Int), qv.toNat, size, E1, (by have q0 := hq; rw [hat] at q0; exact pAll_s q0 (by omega) (by omega) (by rw [← i7, show qv.toNat - i = 0 by omega, pNodes, if_pos (by omega)])), Or.inr ⟨by omega, rfl, rfl, (by first | omega | (dsimp only; omega))⟩⟩ dX6_graph_249
        · refine lv_aload_n hx hb dX6_graph_55 rfl (lv_at hl 0 rfl) ?_
          refine rw_i (wr := []) (va_runV (As := []) (rest := []) ⟨hx, hb, hml, hown, hts⟩ (c_X6_reads l D cI cJ cB cZ h a1 a2 a3 a4 a5 a6 a7 thr eg gr wt rk nx nd es pp qq st ch bo tp le sz at1 fa1 fp1 nu1 fm1 qv ou om tf L hT hL hsz (by omega) _) (cwV 0 hts gX6_graph_X6_reads rfl rfl rfl (by decide +kernel) ⟨Nat.le_of_ble_eq_true rfl, Nat.le_of_ble_eq_true rfl⟩) (pre1V hE hP hD 0 rfl rfl) rfl rfl hl.1 rfl (lv_room (Nat.le_of_ble_eq_true rfl)) dX6_graph_56 ⟨Nat.le_of_ble_eq_true rfl, Nat.le_of_ble_eq_true rfl⟩) hP hD hS hA [0, 1, 2, 3, 4, 5, 6, 7] [] rfl rfl (by decide) (by decide) (fun r_15 u_17 H locs hr_16 hP hD hS => ?_)
          have hP := hP.sub (ws' := (wMo cI cJ cB cZ h a1 a2 a3 a4 a5 a6 a7 thr eg gr wt rk nx nd es pp qq st ch bo tp le sz u_17.1 u_17.2.1 u_17.2.2.1 u_17.2.2.2.1 u_17.2.2.2.2 qv ou om)) [0, 1, 2, 3, 4, 5, 6, 7] rfl
          have hD := hD.sub (ws' := (wMo cI cJ cB cZ h a1 a2 a3 a4 a5 a6 a7 thr eg gr wt rk nx nd es pp qq st ch bo tp le sz u_17.1 u_17.2.1 u_17.2.2.1 u_17.2.2.2.1 u_17.2.2.2.2 qv ou om)) [0, 1, 2, 3, 4, 5, 6, 7] (by decide) rfl
          obtain ⟨⟨qk2, qv2, qp2⟩, hq2⟩ : ∃ q, q = uns tf L at1.toNat := ⟨_, rfl⟩
          have w2 := uns_ok hq2 (by omega) (fun j hj => (hT j hj).2)
          rw [← hq2] at hr_16
          dsimp only [mR] at hr_16
          have hz_qk2 : (r_15 = 1 ∧ (qk2 = 0 ∧ u_17.1 = (qp2 : Int) ∧ u_17.2.1 = fa1 ∧ u_17.2.2.2.1 = qv2 ∧ u_17.2.2.2.2 = ((at1.toNat : Nat) : Int))) ∨ (r_15 = 0 ∧ (qk2 ≠ 0 ∧ u_17.2.1 = qk2 ∧ u_17.2.2.1 = qv2)) := by omega
          rcases hz_qk2 with ⟨rfl, hq_18⟩ | ⟨rfl, hq_18⟩
          · have hy_qk2 := hq_18
            refine z_if_ne (tgt := 64) hx hb dX6_graph_59 (by decide) (by omega) (fun _ => ?_) (fun c9 => absurd c9 (by decide))
            refine lv_aload_n hx hb dX6_graph_64 rfl (lv_at hl 0 rfl) ?_
            refine va_get (v := .int (iZ u_17.2.2.2.1)) (C := RX6) (T := TX6) (N := 24) (ci := 6) hx hb hts hi_6 hown hK hP 0 rfl rfl 19 (by decide) hw_1 (fun _ h9 => h9) rfl dX6_graph_65 ?_
            refine lv_iload_n hx hb dX6_graph_68 rfl (lv_at hl 1 rfl) ?_
            refine z_icmp_gt (tgt := 84) hx hb dX6_graph_69 (by decide) (by omega) (by omega) (fun c_19 => ?_) (fun c_19 => ?_)
            · refine lv_aload_n hx hb dX6_graph_84 rfl (lv_at hl 0 rfl) ?_
              refine z_iconst hx hb dX6_graph_85 ?_
              refine lv_aload_n hx hb dX6_graph_86 rfl (lv_at hl 0 rfl) ?_
              refine va_get (v := .int (iZ u_17.2.2.2.2)) (C := RX6) (T := TX6) (N := 24) (ci := 6) hx hb hts hi_6 hown hK hP 0 rfl rfl 20 (by decide) hw_2 (fun _ h9 => h9) rfl dX6_graph_87 ?_
              refine rw_i (wr := []) (va_runV (As := [.int (iZ 3), .int (iZ u_17.2.2.2.2)]) (rest := []) ⟨hx, hb, hml, hown, hts⟩ (c_X6_bad l D cI cJ cB cZ h a1 a2 a3 a4 a5 a6 a7 thr eg gr wt rk nx nd es pp qq st ch bo tp le sz u_17.1 u_17.2.1 u_17.2.2.1 u_17.2.2.2.1 u_17.2.2.2.2 qv ou om 3 u_17.2.2.2.2 _) (cwV 2 hts gX6_graph_X6_bad rfl rfl rfl (by decide +kernel) ⟨Nat.le_of_ble_eq_true rfl, Nat.le_of_ble_eq_true rfl⟩) (pre1V hE hP hD 0 rfl rfl) rfl rfl hl.1 rfl (lv_room (Nat.le_of_ble_eq_true rfl)) dX6_graph_90 ⟨Nat.le_of_ble_eq_true rfl, Nat.le_of_ble_eq_true rfl⟩) hP hD hS hA [0, 1, 2, 3, 4, 5, 6, 7] [] rfl rfl (by decide) (by decide) (fun r_20 u_22 H locs hr_21 hP hD hS => ?_)
              obtain ⟨rfl, rfl⟩ := hr_21
              have hP := hP.sub (ws' := (wMo cI cJ cB cZ h a1 a2 a3 a4 a5 a6 a7 thr eg gr wt rk nx nd es pp qq st ch bo tp le sz u_17.1 3 u_17.2.2.2.2 u_17.2.2.2.1 u_17.2.2.2.2 qv ou om)) [0, 1, 2, 3, 4, 5, 6, 7] rfl
              have hD := hD.sub (ws' := (wMo cI cJ cB cZ h a1 a2 a3 a4 a5 a6 a7 thr eg gr wt rk nx nd es pp qq st ch bo tp le sz u_17.1 3 u_17.2.2.2.2 u_17.2.2.2.1 u_17.2.2.2.2 qv ou om)) [0, 1, 2, 3, 4, 5, 6, 7] (by decide) rfl
              exact rw_iret (z := (-1)) (gr, u_17.1, 3, u_17.2.2.2.2, u_17.2.2.2.1, u_17.2.2.2.2, qv) hx hb hr hlocks hP hD hS ⟨3, ((at1.toNat : Nat) : Int), qv.toNat, size, E1, (by have q0 := hq; rw [hat] at q0; exact pAll_s q0 (by omega) (by omega) (by rw [← i7, show qv.toNat - i = (qv.toNat - (i + 1)) + 1 by omega]; exact pNodes_f (pNode_o hq2 (by omega) (by omega)) (by omega))), Or.inr ⟨by omega, rfl, rfl, (by first | omega | (dsimp only; omega))⟩⟩ dX6_graph_93
            · refine lv_iload_n hx hb dX6_graph_72 rfl (lv_at hl 2 rfl) ?_
              refine lv_aload_n hx hb dX6_graph_73 rfl (lv_at hl 0 rfl) ?_
              refine va_get (v := .int (iZ u_17.2.2.2.1)) (C := RX6) (T := TX6) (N := 24) (ci := 6) hx hb hts hi_6 hown hK hP 0 rfl rfl 19 (by decide) hw_1 (fun _ h9 => h9) rfl dX6_graph_74 ?_
              refine z_iadd hx hb dX6_graph_77 ?_
              refine z_sipush hx hb dX6_graph_78 (by decide) ?_
              refine z_icmp_le (tgt := 94) hx hb dX6_graph_81 (by decide) (by omega) (by omega) (fun c_23 => ?_) (fun c_23 => ?_)
              · refine lv_aload_n hx hb dX6_graph_94 rfl (lv_at hl 0 rfl) ?_
                refine va_get (v := .int (iZ u_17.2.2.2.1)) (C := RX6) (T := TX6) (N := 24) (ci := 6) hx hb hts hi_6 hown hK hP 0 rfl rfl 19 (by decide) hw_1 (fun _ h9 => h9) rfl dX6_graph_95 ?_
                refine z_toi (qv2) (by omega) ?_
                refine lv_istore (lv' := [(4, .int (iZ qv2)), (0, .ref h), (1, .int (iZ qv)), (2, .int (iZ ↑size)), (3, .int (iZ ↑i))]) hx hb dX6_graph_98 hl (by decide) rfl (fun ls hl => ?_)
                refine lv_iload_n hx hb dX6_graph_100 rfl (lv_at hl 3 rfl) ?_
                refine lv_iload hx hb dX6_graph_101 (lv_at hl 0 rfl) ?_
                refine z_iadd hx hb dX6_graph_103 ?_
                refine z_toi (((size + qv2.toNat : Nat) : Int)) (by omega) ?_
                refine lv_istore_n (lv' := [(2, .int (iZ ((size + qv2.toNat : Nat) : Int))), (4, .int (iZ qv2)), (0, .ref h), (1, .int (iZ qv)), (3, .int (iZ ↑i))]) hx hb dX6_graph_104 rfl hl (by decide) rfl (fun ls hl => ?_)
                refine z_iconst hx hb dX6_graph_105 ?_
                refine lv_istore (lv' := [(5, .int (iZ 0)), (2, .int (iZ ((size + qv2.toNat : Nat) : Int))), (4, .int (iZ qv2)), (0, .ref h), (1, .int (iZ qv)), (3, .int (iZ ↑i))]) hx hb dX6_graph_106 hl (by decide) rfl (fun ls hl => ?_)
                refine z_iconst hx hb dX6_graph_108 ?_
                refine lv_istore (lv' := [(6, .int (iZ 0)), (5, .int (iZ 0)), (2, .int (iZ ((size + qv2.toNat : Nat) : Int))), (4, .int (iZ qv2)), (0, .ref h), (1, .int (iZ qv)), (3, .int (iZ ↑i))]) hx hb dX6_graph_109 hl (by decide) rfl (fun ls hl => ?_)
                refine w_loop (fun kf H locs ls => ∃ (k : Nat), ∃ (v : Int), ∃ (gr2 : Nat → Int), ∃ (at2 fa2 fp2 nu2 fm2 : Int), ∃ (E2 : Ed), kf = qv2.toNat - k ∧ (k ≤ qv2.toNat ∧ 0 ≤ at2 ∧ at2 ≤ (L : Int) ∧ fa2 = fa ∧ 0 ≤ v ∧ v < qv ∧ pRow tf L qv.toNat i (qv2.toNat - k) (decide (k = 0)) v at2.toNat E2 = pRow tf L qv.toNat i qv2.toNat true 0 qp2 E1 ∧ ME E2 gr2) ∧ va_P D vwCl (wMo cI cJ cB cZ h a1 a2 a3 a4 a5 a6 a7 thr eg gr2 wt rk nx nd es pp qq st ch bo tp le sz at2 fa2 fp2 nu2 fm2 qv ou om) H ∧ va_D A (wMo cI cJ cB cZ h a1 a2 a3 a4 a5 a6 a7 thr eg gr2 wt rk nx nd es pp qq st ch bo tp le sz at2 fa2 fp2 nu2 fm2 qv ou om) ∧ va_S A s.heap H locs ∧ lv_has ls 7 [(0, .ref h), (1, .int (iZ qv)), (2, .int (iZ ((size + qv2.toNat : Nat) : Int))), (3, .int (iZ ↑i)), (4, .int (iZ qv2)), (5, .int (iZ v)), (6, .int (iZ ↑k))]) ?_ _ ⟨0, 0, gr, u_17.1, u_17.2.1, u_17.2.2.1, u_17.2.2.2.1, u_17.2.2.2.2, E1, rfl, ⟨by omega, by omega, by omega, by omega, by omega, by omega, (by rw [show (u_17.1).toNat = qp2 by omega]; rfl), i6⟩, hP, hD, hS, lv_sub hl [4, 5, 2, 6, 3, 1, 0] rfl⟩
                rintro kf H locs ls ⟨k, v, gr2, at2, fa2, fp2, nu2, fm2, E2, hk, ⟨j1, j2, j3, j4, j5, j6, j7, j8⟩, hP, hD, hS, hl⟩ ih2
                refine lv_iload hx hb dX6_graph_111 (lv_at hl 6 rfl) ?_
                refine lv_iload hx hb dX6_graph_113 (lv_at hl 4 rfl) ?_
                refine z_icmp_ge (tgt := 219) hx hb dX6_graph_115 (by decide) (by omega) (by omega) (fun c_24 => ?_) (fun c_24 => ?_)
                · refine lv_iinc (v := iZ (↑i + 1)) (lv' := [(3, .int (iZ (↑i + 1))), (0, .ref h), (1, .int (iZ qv)), (2, .int (iZ ((size + qv2.toNat : Nat) : Int))), (4, .int (iZ qv2)), (5, .int (iZ v)), (6, .int (iZ ↑k))]) hx hb dX6_graph_219 hl (k := 3) rfl (show iZ ↑i + iZ 1 = _ from iZ_add _ _) (by decide) rfl (fun ls hl => ?_)
                  refine lv_goto (tgt := 50) hx hb dX6_graph_222 (by decide) ?_
                  exact ih1 _ _ _ _ (by omega) ⟨(i + 1), (size + qv2.toNat), gr2, at2, fa2, fp2, nu2, fm2, E2, rfl, ⟨by omega, by omega, by omega, by omega, by omega, j8, (by rw [← i7, show qv.toNat - i = (qv.toNat - (i + 1)) + 1 by omega, pNodes_s (pNode_s hq2 (by omega) (by omega) (rk := 0) (rp := 0) (rq := at2.toNat) (rE := E2) (by rw [← j7, show qv2.toNat - k = 0 by omega]; rfl)) rfl])⟩, hP, hD, hS, lv_sub hl [1, 2, 3, 0] rfl⟩
                · refine lv_aload_n hx hb dX6_graph_118 rfl (lv_at hl 0 rfl) ?_
                  refine rw_i (wr := []) (va_runV (As := []) (rest := []) ⟨hx, hb, hml, hown, hts⟩ (c_X6_reads l D cI cJ cB cZ h a1 a2 a3 a4 a5 a6 a7 thr eg gr2 wt rk nx nd es pp qq st ch bo tp le sz at2 fa2 fp2 nu2 fm2 qv ou om tf L hT hL hsz (by omega) _) (cwV 0 hts gX6_graph_X6_reads rfl rfl rfl (by decide +kernel) ⟨Nat.le_of_ble_eq_true rfl, Nat.le_of_ble_eq_true rfl⟩) (pre1V hE hP hD 0 rfl rfl) rfl rfl hl.1 rfl (lv_room (Nat.le_of_ble_eq_true rfl)) dX6_graph_119 ⟨Nat.le_of_ble_eq_true rfl, Nat.le_of_ble_eq_true rfl⟩) hP hD hS hA [0, 1, 2, 3, 4, 5, 6, 7] [] rfl rfl (by decide) (by decide) (fun r_25 u_27 H locs hr_26 hP hD hS => ?_)
                  have hP := hP.sub (ws' := (wMo cI cJ cB cZ h a1 a2 a3 a4 a5 a6 a7 thr eg gr2 wt rk nx nd es pp qq st ch bo tp le sz u_27.1 u_27.2.1 u_27.2.2.1 u_27.2.2.2.1 u_27.2.2.2.2 qv ou om)) [0, 1, 2, 3, 4, 5, 6, 7] rfl
                  have hD := hD.sub (ws' := (wMo cI cJ cB cZ h a1 a2 a3 a4 a5 a6 a7 thr eg gr2 wt rk nx nd es pp qq st ch bo tp le sz u_27.1 u_27.2.1 u_27.2.2.1 u_27.2.2.2.1 u_27.2.2.2.2 qv ou om)) [0, 1, 2, 3, 4, 5, 6, 7] (by decide) rfl
                  obtain ⟨⟨qk3, qv3, qp3⟩, hq3⟩ : ∃ q, q = uns tf L at2.toNat := ⟨_, rfl⟩
                  have w3 := uns_ok hq3 (by omega) (fun j hj => (hT j hj).2)
                  rw [← hq3] at hr_26
                  dsimp only [mR] at hr_26
                  have hz_qk3 : (r_25 = 1 ∧ (qk3 = 0 ∧ u_27.1 = (qp3 : Int) ∧ u_27.2.1 = fa2 ∧ u_27.2.2.2.1 = qv3 ∧ u_27.2.2.2.2 = ((at2.toNat : Nat) : Int))) ∨ (r_25 = 0 ∧ (qk3 ≠ 0 ∧ u_27.2.1 = qk3 ∧ u_27.2.2.1 = qv3)) := by omega
                  rcases hz_qk3 with ⟨rfl, hq_28⟩ | ⟨rfl, hq_28⟩
                  · have hy_qk3 := hq_28
                    refine z_if_ne (tgt := 127) hx hb dX6_graph_122 (by decide) (by omega) (fun _ => ?_) (fun c9 => absurd c9 (by decide))
                    refine lv_iload hx hb dX6_graph_127 (lv_at hl 6 rfl) ?_
                    refine z_if_le (tgt := 146) hx hb dX6_graph_129 (by decide) (by omega) (fun c_29 => ?_) (fun c_29 => ?_)
                    · refine lv_aload_n hx hb dX6_graph_146 rfl (lv_at hl 0 rfl) ?_
                      refine va_get (v := .int (iZ u_27.2.2.2.1)) (C := RX6) (T := TX6) (N := 24) (ci := 6) hx hb hts hi_6 hown hK hP 0 rfl rfl 19 (by decide) hw_1 (fun _ h9 => h9) rfl dX6_graph_147 ?_
                      refine z_iconst hx hb dX6_graph_150 ?_
                      refine z_irem hx hb dX6_graph_151 (by omega) (by omega) ?_
                      refine z_if_ne (tgt := 166) hx hb dX6_graph_152 (by decide) (by omega) (fun c_30 => ?_) (fun c_30 => ?_)
                      · refine lv_iload_n hx hb dX6_graph_166 rfl (lv_at hl 3 rfl) ?_
                        refine lv_aload_n hx hb dX6_graph_167 rfl (lv_at hl 0 rfl) ?_
                        refine va_get (v := .int (iZ u_27.2.2.2.1)) (C := RX6) (T := TX6) (N := 24) (ci := 6) hx hb hts hi_6 hown hK hP 0 rfl rfl 19 (by decide) hw_1 (fun _ h9 => h9) rfl dX6_graph_168 ?_
                        refine z_iconst hx hb dX6_graph_171 ?_
                        refine z_iadd hx hb dX6_graph_172 ?_
                        refine z_iconst hx hb dX6_graph_173 ?_
                        refine z_idiv hx hb dX6_graph_174 (by omega) (by omega) ?_
                        refine z_isub hx hb dX6_graph_175 ?_
                        refine lv_istore (lv' := [(5, .int (iZ (↑i - ((u_27.2.2.2.1 + 1) / 2)))), (0, .ref h), (1, .int (iZ qv)), (2, .int (iZ ((size + qv2.toNat : Nat) : Int))), (3, .int (iZ ↑i)), (4, .int (iZ qv2)), (6, .int (iZ ↑k))]) hx hb dX6_graph_176 hl (by decide) rfl (fun ls hl => ?_)
                        have hv : (↑i - ((u_27.2.2.2.1 + 1) / 2)) = if decide (k = 0) = true then ((i : Nat) : Int) + sg qv3 else v + 1 + qv3 := by rw [if_pos (decide_eq_true (show k = 0 by omega)), sg]; (first | rw [if_pos (by omega)] | rw [if_neg (by omega)]); omega
                        have hsg := sg_r (show 0 ≤ qv3 ∧ qv3 ≤ 65535 by omega)
                        refine lv_iload hx hb dX6_graph_178 (lv_at hl 0 rfl) ?_
                        refine z_if_lt (tgt := 189) hx hb dX6_graph_180 (by decide) (by omega) (fun c_31 => ?_) (fun c_31 => ?_)
                        · refine lv_aload_n hx hb dX6_graph_189 rfl (lv_at hl 1 rfl) ?_
                          refine z_iconst hx hb dX6_graph_190 ?_
                          refine lv_aload_n hx hb dX6_graph_191 rfl (lv_at hl 1 rfl) ?_
                          refine va_get (v := .int (iZ u_27.2.2.2.2)) (C := RX6) (T := TX6) (N := 24) (ci := 6) hx hb hts hi_6 hown hK hP 0 rfl rfl 20 (by decide) hw_2 (fun _ h9 => h9) rfl dX6_graph_192 ?_
                          refine rw_i (wr := []) (va_runV (As := [.int (iZ 3), .int (iZ u_27.2.2.2.2)]) (rest := []) ⟨hx, hb, hml, hown, hts⟩ (c_X6_bad l D cI cJ cB cZ h a1 a2 a3 a4 a5 a6 a7 thr eg gr2 wt rk nx nd es pp qq st ch bo tp le sz u_27.1 u_27.2.1 u_27.2.2.1 u_27.2.2.2.1 u_27.2.2.2.2 qv ou om 3 u_27.2.2.2.2 _) (cwV 2 hts gX6_graph_X6_bad rfl rfl rfl (by decide +kernel) ⟨Nat.le_of_ble_eq_true rfl, Nat.le_of_ble_eq_true rfl⟩) (pre1V hE hP hD 0 rfl rfl) rfl rfl hl.1 rfl (lv_room (Nat.le_of_ble_eq_true rfl)) dX6_graph_195 ⟨Nat.le_of_ble_eq_true rfl, Nat.le_of_ble_eq_true rfl⟩) hP hD hS hA [0, 1, 2, 3, 4, 5, 6, 7] [] rfl rfl (by decide) (by decide) (fun r_32 u_34 H locs hr_33 hP hD hS => ?_)
                          obtain ⟨rfl, rfl⟩ := hr_33
                          have hP := hP.sub (ws' := (wMo cI cJ cB cZ h a1 a2 a3 a4 a5 a6 a7 thr eg gr2 wt rk nx nd es pp qq st ch bo tp le sz u_27.1 3 u_27.2.2.2.2 u_27.2.2.2.1 u_27.2.2.2.2 qv ou om)) [0, 1, 2, 3, 4, 5, 6, 7] rfl
                          have hD := hD.sub (ws' := (wMo cI cJ cB cZ h a1 a2 a3 a4 a5 a6 a7 thr eg gr2 wt rk nx nd es pp qq st ch bo tp le sz u_27.1 3 u_27.2.2.2.2 u_27.2.2.2.1 u_27.2.2.2.2 qv ou om)) [0, 1, 2, 3, 4, 5, 6, 7] (by decide) rfl
                          exact rw_iret (z := (-1)) (gr2, u_27.1, 3, u_27.2.2.2.2, u_27.2.2.2.1, u_27.2.2.2.2, qv) hx hb hr hlocks hP hD hS ⟨3, ((at2.toNat : Nat) : Int), qv.toNat, size, E1, (by have q0 := hq; rw [hat] at q0; exact pAll_s q0 (by omega) (by omega) (by rw [← i7, show qv.toNat - i = (qv.toNat - (i + 1)) + 1 by omega]; exact pNodes_f (pNode_s hq2 (by omega) (by omega) (by rw [← j7, show qv2.toNat - k = (qv2.toNat - (k + 1)) + 1 by omega]; exact pRow_o hq3 (by omega) hv (by omega))) (by omega))), Or.inr ⟨by omega, rfl, rfl, (by first | omega | (dsimp only; omega))⟩⟩ dX6_graph_198
                        · refine lv_iload hx hb dX6_graph_183 (lv_at hl 0 rfl) ?_
                          refine lv_iload_n hx hb dX6_graph_185 rfl (lv_at hl 2 rfl) ?_
                          refine z_icmp_lt (tgt := 199) hx hb dX6_graph_186 (by decide) (by omega) (by omega) (fun c_35 => ?_) (fun c_35 => ?_)
                          · refine lv_aload_n hx hb dX6_graph_199 rfl (lv_at hl 1 rfl) ?_
                            refine va_get (v := .ref a2) (C := RX6) (T := TX6) (N := 24) (ci := 6) hx hb hts hi_6 hown hK hP 0 rfl rfl 2 (by decide) hw_6 (fun _ h9 => h9) rfl dX6_graph_200 ?_
                            refine z_sipush hx hb dX6_graph_203 (by decide) ?_
                            refine lv_iload_n hx hb dX6_graph_206 rfl (lv_at hl 4 rfl) ?_
                            refine z_imul hx hb dX6_graph_207 ?_
                            refine lv_iload hx hb dX6_graph_208 (lv_at hl 0 rfl) ?_
                            refine z_iadd hx hb dX6_graph_210 ?_
                            refine z_iconst hx hb dX6_graph_211 ?_
                            refine z_zast hx hb hK hP hD hS 2 3 rfl rfl 1 rfl (250 * i + (↑i - ((u_27.2.2.2.1 + 1) / 2)).toNat) (by omega) (by omega) (by omega) dX6_graph_212 (fun H locs hP hD hS => ?_)
                            have hP : va_P D vwCl (wMo cI cJ cB cZ h a1 a2 a3 a4 a5 a6 a7 thr eg (uZ gr2 (250 * i + (↑i - ((u_27.2.2.2.1 + 1) / 2)).toNat) 1) wt rk nx nd es pp qq st ch bo tp le sz u_27.1 u_27.2.1 u_27.2.2.1 u_27.2.2.2.1 u_27.2.2.2.2 qv ou om) H := hP
                            have hD : va_D A (wMo cI cJ cB cZ h a1 a2 a3 a4 a5 a6 a7 thr eg (uZ gr2 (250 * i + (↑i - ((u_27.2.2.2.1 + 1) / 2)).toNat) 1) wt rk nx nd es pp qq st ch bo tp le sz u_27.1 u_27.2.1 u_27.2.2.1 u_27.2.2.2.1 u_27.2.2.2.2 qv ou om) := hD
                            refine lv_iinc (v := iZ (↑k + 1)) (lv' := [(6, .int (iZ (↑k + 1))), (5, .int (iZ (↑i - ((u_27.2.2.2.1 + 1) / 2)))), (0, .ref h), (1, .int (iZ qv)), (2, .int (iZ ((size + qv2.toNat : Nat) : Int))), (3, .int (iZ ↑i)), (4, .int (iZ qv2))]) hx hb dX6_graph_213 hl (k := 6) rfl (show iZ ↑k + iZ 1 = _ from iZ_add _ _) (by decide) rfl (fun ls hl => ?_)
                            refine lv_goto (tgt := 111) hx hb dX6_graph_216 (by decide) ?_
                            exact ih2 _ _ _ _ (by omega) ⟨(k + 1), (↑i - ((u_27.2.2.2.1 + 1) / 2)), (uZ gr2 (250 * i + (↑i - ((u_27.2.2.2.1 + 1) / 2)).toNat) 1), u_27.1, u_27.2.1, u_27.2.2.1, u_27.2.2.2.1, u_27.2.2.2.2, (uE E2 i (↑i - ((u_27.2.2.2.1 + 1) / 2)).toNat true), rfl, ⟨by omega, by omega, by omega, by omega, by omega, by omega, (by rw [← j7, show qv2.toNat - k = (qv2.toNat - (k + 1)) + 1 by omega, pRow_s hq3 (by omega) hv (by omega), show (u_27.1).toNat = qp3 by omega]; rfl), ME_up j8 (show (↑i - ((u_27.2.2.2.1 + 1) / 2)).toNat < 250 by omega) true⟩, hP, hD, hS, lv_sub hl [2, 3, 4, 5, 6, 1, 0] rfl⟩
                          · refine lv_aload_n hx hb dX6_graph_189 rfl (lv_at hl 1 rfl) ?_
                            refine z_iconst hx hb dX6_graph_190 ?_
                            refine lv_aload_n hx hb dX6_graph_191 rfl (lv_at hl 1 rfl) ?_
                            refine va_get (v := .int (iZ u_27.2.2.2.2)) (C := RX6) (T := TX6) (N := 24) (ci := 6) hx hb hts hi_6 hown hK hP 0 rfl rfl 20 (by decide) hw_2 (fun _ h9 => h9) rfl dX6_graph_192 ?_
                            refine rw_i (wr := []) (va_runV (As := [.int (iZ 3), .int (iZ u_27.2.2.2.2)]) (rest := []) ⟨hx, hb, hml, hown, hts⟩ (c_X6_bad l D cI cJ cB cZ h a1 a2 a3 a4 a5 a6 a7 thr eg gr2 wt rk nx nd es pp qq st ch bo tp le sz u_27.1 u_27.2.1 u_27.2.2.1 u_27.2.2.2.1 u_27.2.2.2.2 qv ou om 3 u_27.2.2.2.2 _) (cwV 2 hts gX6_graph_X6_bad rfl rfl rfl (by decide +kernel) ⟨Nat.le_of_ble_eq_true rfl, Nat.le_of_ble_eq_true rfl⟩) (pre1V hE hP hD 0 rfl rfl) rfl rfl hl.1 rfl (lv_room (Nat.le_of_ble_eq_true rfl)) dX6_graph_195 ⟨Nat.le_of_ble_eq_true rfl, Nat.le_of_ble_eq_true rfl⟩) hP hD hS hA [0, 1, 2, 3, 4, 5, 6, 7] [] rfl rfl (by decide) (by decide) (fun r_36 u_38 H locs hr_37 hP hD hS => ?_)
                            obtain ⟨rfl, rfl⟩ := hr_37
                            have hP := hP.sub (ws' := (wMo cI cJ cB cZ h a1 a2 a3 a4 a5 a6 a7 thr eg gr2 wt rk nx nd es pp qq st ch bo tp le sz u_27.1 3 u_27.2.2.2.2 u_27.2.2.2.1 u_27.2.2.2.2 qv ou om)) [0, 1, 2, 3, 4, 5, 6, 7] rfl
                            have hD := hD.sub (ws' := (wMo cI cJ cB cZ h a1 a2 a3 a4 a5 a6 a7 thr eg gr2 wt rk nx nd es pp qq st ch bo tp le sz u_27.1 3 u_27.2.2.2.2 u_27.2.2.2.1 u_27.2.2.2.2 qv ou om)) [0, 1, 2, 3, 4, 5, 6, 7] (by decide) rfl
                            exact rw_iret (z := (-1)) (gr2, u_27.1, 3, u_27.2.2.2.2, u_27.2.2.2.1, u_27.2.2.2.2, qv) hx hb hr hlocks hP hD hS ⟨3, ((at2.toNat : Nat) : Int), qv.toNat, size, E1, (by have q0 := hq; rw [hat] at q0; exact pAll_s q0 (by omega) (by omega) (by rw [← i7, show qv.toNat - i = (qv.toNat - (i + 1)) + 1 by omega]; exact pNodes_f (pNode_s hq2 (by omega) (by omega) (by rw [← j7, show qv2.toNat - k = (qv2.toNat - (k + 1)) + 1 by omega]; exact pRow_o hq3 (by omega) hv (by omega))) (by omega))), Or.inr ⟨by omega, rfl, rfl, (by first | omega | (dsimp only; omega))⟩⟩ dX6_graph_198
                      · refine lv_iload_n hx hb dX6_graph_155 rfl (lv_at hl 3 rfl) ?_
                        refine lv_aload_n hx hb dX6_graph_156 rfl (lv_at hl 0 rfl) ?_
                        refine va_get (v := .int (iZ u_27.2.2.2.1)) (C := RX6) (T := TX6) (N := 24) (ci := 6) hx hb hts hi_6 hown hK hP 0 rfl rfl 19 (by decide) hw_1 (fun _ h9 => h9) rfl dX6_graph_157 ?_
                        refine z_iconst hx hb dX6_graph_160 ?_
                        refine z_idiv hx hb dX6_graph_161 (by omega) (by omega) ?_
                        refine z_iadd hx hb dX6_graph_162 ?_
                        refine lv_goto (tgt := 176) hx hb dX6_graph_163 (by decide) ?_
                        refine lv_istore (lv' := [(5, .int (iZ (↑i + (u_27.2.2.2.1 / 2)))), (0, .ref h), (1, .int (iZ qv)), (2, .int (iZ ((size + qv2.toNat : Nat) : Int))), (3, .int (iZ ↑i)), (4, .int (iZ qv2)), (6, .int (iZ ↑k))]) hx hb dX6_graph_176 hl (by decide) rfl (fun ls hl => ?_)
                        have hv : (↑i + (u_27.2.2.2.1 / 2)) = if decide (k = 0) = true then ((i : Nat) : Int) + sg qv3 else v + 1 + qv3 := by rw [if_pos (decide_eq_true (show k = 0 by omega)), sg]; (first | rw [if_pos (by omega)] | rw [if_neg (by omega)]); omega
                        have hsg := sg_r (show 0 ≤ qv3 ∧ qv3 ≤ 65535 by omega)
                        refine lv_iload hx hb dX6_graph_178 (lv_at hl 0 rfl) ?_
                        refine z_if_lt (tgt := 189) hx hb dX6_graph_180 (by decide) (by omega) (fun c_39 => ?_) (fun c_39 => ?_)
                        · refine lv_aload_n hx hb dX6_graph_189 rfl (lv_at hl 1 rfl) ?_
                          refine z_iconst hx hb dX6_graph_190 ?_
                          refine lv_aload_n hx hb dX6_graph_191 rfl (lv_at hl 1 rfl) ?_
                          refine va_get (v := .int (iZ u_27.2.2.2.2)) (C := RX6) (T := TX6) (N := 24) (ci := 6) hx hb hts hi_6 hown hK hP 0 rfl rfl 20 (by decide) hw_2 (fun _ h9 => h9) rfl dX6_graph_192 ?_
                          refine rw_i (wr := []) (va_runV (As := [.int (iZ 3), .int (iZ u_27.2.2.2.2)]) (rest := []) ⟨hx, hb, hml, hown, hts⟩ (c_X6_bad l D cI cJ cB cZ h a1 a2 a3 a4 a5 a6 a7 thr eg gr2 wt rk nx nd es pp qq st ch bo tp le sz u_27.1 u_27.2.1 u_27.2.2.1 u_27.2.2.2.1 u_27.2.2.2.2 qv ou om 3 u_27.2.2.2.2 _) (cwV 2 hts gX6_graph_X6_bad rfl rfl rfl (by decide +kernel) ⟨Nat.le_of_ble_eq_true rfl, Nat.le_of_ble_eq_true rfl⟩) (pre1V hE hP hD 0 rfl rfl) rfl rfl hl.1 rfl (lv_room (Nat.le_of_ble_eq_true rfl)) dX6_graph_195 ⟨Nat.le_of_ble_eq_true rfl, Nat.le_of_ble_eq_true rfl⟩) hP hD hS hA [0, 1, 2, 3, 4, 5, 6, 7] [] rfl rfl (by decide) (by decide) (fun r_40 u_42 H locs hr_41 hP hD hS => ?_)
                          obtain ⟨rfl, rfl⟩ := hr_41
                          have hP := hP.sub (ws' := (wMo cI cJ cB cZ h a1 a2 a3 a4 a5 a6 a7 thr eg gr2 wt rk nx nd es pp qq st ch bo tp le sz u_27.1 3 u_27.2.2.2.2 u_27.2.2.2.1 u_27.2.2.2.2 qv ou om)) [0, 1, 2, 3, 4, 5, 6, 7] rfl
                          have hD := hD.sub (ws' := (wMo cI cJ cB cZ h a1 a2 a3 a4 a5 a6 a7 thr eg gr2 wt rk nx nd es pp qq st ch bo tp le sz u_27.1 3 u_27.2.2.2.2 u_27.2.2.2.1 u_27.2.2.2.2 qv ou om)) [0, 1, 2, 3, 4, 5, 6, 7] (by decide) rfl
                          exact rw_iret (z := (-1)) (gr2, u_27.1, 3, u_27.2.2.2.2, u_27.2.2.2.1, u_27.2.2.2.2, qv) hx hb hr hlocks hP hD hS ⟨3, ((at2.toNat : Nat) : Int), qv.toNat, size, E1, (by have q0 := hq; rw [hat] at q0; exact pAll_s q0 (by omega) (by omega) (by rw [← i7, show qv.toNat - i = (qv.toNat - (i + 1)) + 1 by omega]; exact pNodes_f (pNode_s hq2 (by omega) (by omega) (by rw [← j7, show qv2.toNat - k = (qv2.toNat - (k + 1)) + 1 by omega]; exact pRow_o hq3 (by omega) hv (by omega))) (by omega))), Or.inr ⟨by omega, rfl, rfl, (by first | omega | (dsimp only; omega))⟩⟩ dX6_graph_198
                        · refine lv_iload hx hb dX6_graph_183 (lv_at hl 0 rfl) ?_
                          refine lv_iload_n hx hb dX6_graph_185 rfl (lv_at hl 2 rfl) ?_
                          refine z_icmp_lt (tgt := 199) hx hb dX6_graph_186 (by decide) (by omega) (by omega) (fun c_43 => ?_) (fun c_43 => ?_)
                          · refine lv_aload_n hx hb dX6_graph_199 rfl (lv_at hl 1 rfl) ?_
                            refine va_get (v := .ref a2) (C := RX6) (T := TX6) (N := 24) (ci := 6) hx hb hts hi_6 hown hK hP 0 rfl rfl 2 (by decide) hw_6 (fun _ h9 => h9) rfl dX6_graph_200 ?_
                            refine z_sipush hx hb dX6_graph_203 (by decide) ?_
                            refine lv_iload_n hx hb dX6_graph_206 rfl (lv_at hl 4 rfl) ?_
                            refine z_imul hx hb dX6_graph_207 ?_
                            refine lv_iload hx hb dX6_graph_208 (lv_at hl 0 rfl) ?_
                            refine z_iadd hx hb dX6_graph_210 ?_
                            refine z_iconst hx hb dX6_graph_211 ?_
                            refine z_zast hx hb hK hP hD hS 2 3 rfl rfl 1 rfl (250 * i + (↑i + (u_27.2.2.2.1 / 2)).toNat) (by omega) (by omega) (by omega) dX6_graph_212 (fun H locs hP hD hS => ?_)
                            have hP : va_P D vwCl (wMo cI cJ cB cZ h a1 a2 a3 a4 a5 a6 a7 thr eg (uZ gr2 (250 * i + (↑i + (u_27.2.2.2.1 / 2)).toNat) 1) wt rk nx nd es pp qq st ch bo tp le sz u_27.1 u_27.2.1 u_27.2.2.1 u_27.2.2.2.1 u_27.2.2.2.2 qv ou om) H := hP
                            have hD : va_D A (wMo cI cJ cB cZ h a1 a2 a3 a4 a5 a6 a7 thr eg (uZ gr2 (250 * i + (↑i + (u_27.2.2.2.1 / 2)).toNat) 1) wt rk nx nd es pp qq st ch bo tp le sz u_27.1 u_27.2.1 u_27.2.2.1 u_27.2.2.2.1 u_27.2.2.2.2 qv ou om) := hD
                            refine lv_iinc (v := iZ (↑k + 1)) (lv' := [(6, .int (iZ (↑k + 1))), (5, .int (iZ (↑i + (u_27.2.2.2.1 / 2)))), (0, .ref h), (1, .int (iZ qv)), (2, .int (iZ ((size + qv2.toNat : Nat) : Int))), (3, .int (iZ ↑i)), (4, .int (iZ qv2))]) hx hb dX6_graph_213 hl (k := 6) rfl (show iZ ↑k + iZ 1 = _ from iZ_add _ _) (by decide) rfl (fun ls hl => ?_)
                            refine lv_goto (tgt := 111) hx hb dX6_graph_216 (by decide) ?_
                            exact ih2 _ _ _ _ (by omega) ⟨(k + 1), (↑i + (u_27.2.2.2.1 / 2)), (uZ gr2 (250 * i + (↑i + (u_27.2.2.2.1 / 2)).toNat) 1), u_27.1, u_27.2.1, u_27.2.2.1, u_27.2.2.2.1, u_27.2.2.2.2, (uE E2 i (↑i + (u_27.2.2.2.1 / 2)).toNat true), rfl, ⟨by omega, by omega, by omega, by omega, by omega, by omega, (by rw [← j7, show qv2.toNat - k = (qv2.toNat - (k + 1)) + 1 by omega, pRow_s hq3 (by omega) hv (by omega), show (u_27.1).toNat = qp3 by omega]; rfl), ME_up j8 (show (↑i + (u_27.2.2.2.1 / 2)).toNat < 250 by omega) true⟩, hP, hD, hS, lv_sub hl [2, 3, 4, 5, 6, 1, 0] rfl⟩
                          · refine lv_aload_n hx hb dX6_graph_189 rfl (lv_at hl 1 rfl) ?_
                            refine z_iconst hx hb dX6_graph_190 ?_
                            refine lv_aload_n hx hb dX6_graph_191 rfl (lv_at hl 1 rfl) ?_
                            refine va_get (v := .int (iZ u_27.2.2.2.2)) (C := RX6) (T := TX6) (N := 24) (ci := 6) hx hb hts hi_6 hown hK hP 0 rfl rfl 20 (by decide) hw_2 (fun _ h9 => h9) rfl dX6_graph_192 ?_
                            refine rw_i (wr := []) (va_runV (As := [.int (iZ 3), .int (iZ u_27.2.2.2.2)]) (rest := []) ⟨hx, hb, hml, hown, hts⟩ (c_X6_bad l D cI cJ cB cZ h a1 a2 a3 a4 a5 a6 a7 thr eg gr2 wt rk nx nd es pp qq st ch bo tp le sz u_27.1 u_27.2.1 u_27.2.2.1 u_27.2.2.2.1 u_27.2.2.2.2 qv ou om 3 u_27.2.2.2.2 _) (cwV 2 hts gX6_graph_X6_bad rfl rfl rfl (by decide +kernel) ⟨Nat.le_of_ble_eq_true rfl, Nat.le_of_ble_eq_true rfl⟩) (pre1V hE hP hD 0 rfl rfl) rfl rfl hl.1 rfl (lv_room (Nat.le_of_ble_eq_true rfl)) dX6_graph_195 ⟨Nat.le_of_ble_eq_true rfl, Nat.le_of_ble_eq_true rfl⟩) hP hD hS hA [0, 1, 2, 3, 4, 5, 6, 7] [] rfl rfl (by decide) (by decide) (fun r_44 u_46 H locs hr_45 hP hD hS => ?_)
                            obtain ⟨rfl, rfl⟩ := hr_45
                            have hP := hP.sub (ws' := (wMo cI cJ cB cZ h a1 a2 a3 a4 a5 a6 a7 thr eg gr2 wt rk nx nd es pp qq st ch bo tp le sz u_27.1 3 u_27.2.2.2.2 u_27.2.2.2.1 u_27.2.2.2.2 qv ou om)) [0, 1, 2, 3, 4, 5, 6, 7] rfl
                            have hD := hD.sub (ws' := (wMo cI cJ cB cZ h a1 a2 a3 a4 a5 a6 a7 thr eg gr2 wt rk nx nd es pp qq st ch bo tp le sz u_27.1 3 u_27.2.2.2.2 u_27.2.2.2.1 u_27.2.2.2.2 qv ou om)) [0, 1, 2, 3, 4, 5, 6, 7] (by decide) rfl
                            exact rw_iret (z := (-1)) (gr2, u_27.1, 3, u_27.2.2.2.2, u_27.2.2.2.1, u_27.2.2.2.2, qv) hx hb hr hlocks hP hD hS ⟨3, ((at2.toNat : Nat) : Int), qv.toNat, size, E1, (by have q0 := hq; rw [hat] at q0; exact pAll_s q0 (by omega) (by omega) (by rw [← i7, show qv.toNat - i = (qv.toNat - (i + 1)) + 1 by omega]; exact pNodes_f (pNode_s hq2 (by omega) (by omega) (by rw [← j7, show qv2.toNat - k = (qv2.toNat - (k + 1)) + 1 by omega]; exact pRow_o hq3 (by omega) hv (by omega))) (by omega))), Or.inr ⟨by omega, rfl, rfl, (by first | omega | (dsimp only; omega))⟩⟩ dX6_graph_198
                    · refine lv_iload hx hb dX6_graph_132 (lv_at hl 5 rfl) ?_
                      refine lv_aload_n hx hb dX6_graph_134 rfl (lv_at hl 0 rfl) ?_
                      refine va_get (v := .int (iZ u_27.2.2.2.1)) (C := RX6) (T := TX6) (N := 24) (ci := 6) hx hb hts hi_6 hown hK hP 0 rfl rfl 19 (by decide) hw_1 (fun _ h9 => h9) rfl dX6_graph_135 ?_
                      refine z_iadd hx hb dX6_graph_138 ?_
                      refine z_iconst hx hb dX6_graph_139 ?_
                      refine z_iadd hx hb dX6_graph_140 ?_
                      refine lv_istore (lv' := [(5, .int (iZ ((v + u_27.2.2.2.1) + 1))), (0, .ref h), (1, .int (iZ qv)), (2, .int (iZ ((size + qv2.toNat : Nat) : Int))), (3, .int (iZ ↑i)), (4, .int (iZ qv2)), (6, .int (iZ ↑k))]) hx hb dX6_graph_141 hl (by decide) rfl (fun ls hl => ?_)
                      refine lv_goto (tgt := 178) hx hb dX6_graph_143 (by decide) ?_
                      have hv : ((v + u_27.2.2.2.1) + 1) = if decide (k = 0) = true then ((i : Nat) : Int) + sg qv3 else v + 1 + qv3 := by rw [if_neg (by simp; omega)]; omega
                      have hsg := sg_r (show 0 ≤ qv3 ∧ qv3 ≤ 65535 by omega)
                      refine lv_iload hx hb dX6_graph_178 (lv_at hl 0 rfl) ?_
                      refine z_if_lt (tgt := 189) hx hb dX6_graph_180 (by decide) (by omega) (fun c_47 => ?_) (fun c_47 => ?_)
                      · refine lv_aload_n hx hb dX6_graph_189 rfl (lv_at hl 1 rfl) ?_
                        refine z_iconst hx hb dX6_graph_190 ?_
                        refine lv_aload_n hx hb dX6_graph_191 rfl (lv_at hl 1 rfl) ?_
                        refine va_get (v := .int (iZ u_27.2.2.2.2)) (C := RX6) (T := TX6) (N := 24) (ci := 6) hx hb hts hi_6 hown hK hP 0 rfl rfl 20 (by decide) hw_2 (fun _ h9 => h9) rfl dX6_graph_192 ?_
                        refine rw_i (wr := []) (va_runV (As := [.int (iZ 3), .int (iZ u_27.2.2.2.2)]) (rest := []) ⟨hx, hb, hml, hown, hts⟩ (c_X6_bad l D cI cJ cB cZ h a1 a2 a3 a4 a5 a6 a7 thr eg gr2 wt rk nx nd es pp qq st ch bo tp le sz u_27.1 u_27.2.1 u_27.2.2.1 u_27.2.2.2.1 u_27.2.2.2.2 qv ou om 3 u_27.2.2.2.2 _) (cwV 2 hts gX6_graph_X6_bad rfl rfl rfl (by decide +kernel) ⟨Nat.le_of_ble_eq_true rfl, Nat.le_of_ble_eq_true rfl⟩) (pre1V hE hP hD 0 rfl rfl) rfl rfl hl.1 rfl (lv_room (Nat.le_of_ble_eq_true rfl)) dX6_graph_195 ⟨Nat.le_of_ble_eq_true rfl, Nat.le_of_ble_eq_true rfl⟩) hP hD hS hA [0, 1, 2, 3, 4, 5, 6, 7] [] rfl rfl (by decide) (by decide) (fun r_48 u_50 H locs hr_49 hP hD hS => ?_)
                        obtain ⟨rfl, rfl⟩ := hr_49
                        have hP := hP.sub (ws' := (wMo cI cJ cB cZ h a1 a2 a3 a4 a5 a6 a7 thr eg gr2 wt rk nx nd es pp qq st ch bo tp le sz u_27.1 3 u_27.2.2.2.2 u_27.2.2.2.1 u_27.2.2.2.2 qv ou om)) [0, 1, 2, 3, 4, 5, 6, 7] rfl
                        have hD := hD.sub (ws' := (wMo cI cJ cB cZ h a1 a2 a3 a4 a5 a6 a7 thr eg gr2 wt rk nx nd es pp qq st ch bo tp le sz u_27.1 3 u_27.2.2.2.2 u_27.2.2.2.1 u_27.2.2.2.2 qv ou om)) [0, 1, 2, 3, 4, 5, 6, 7] (by decide) rfl
                        exact rw_iret (z := (-1)) (gr2, u_27.1, 3, u_27.2.2.2.2, u_27.2.2.2.1, u_27.2.2.2.2, qv) hx hb hr hlocks hP hD hS ⟨3, ((at2.toNat : Nat) : Int), qv.toNat, size, E1, (by have q0 := hq; rw [hat] at q0; exact pAll_s q0 (by omega) (by omega) (by rw [← i7, show qv.toNat - i = (qv.toNat - (i + 1)) + 1 by omega]; exact pNodes_f (pNode_s hq2 (by omega) (by omega) (by rw [← j7, show qv2.toNat - k = (qv2.toNat - (k + 1)) + 1 by omega]; exact pRow_o hq3 (by omega) hv (by omega))) (by omega))), Or.inr ⟨by omega, rfl, rfl, (by first | omega | (dsimp only; omega))⟩⟩ dX6_graph_198
                      · refine lv_iload hx hb dX6_graph_183 (lv_at hl 0 rfl) ?_
                        refine lv_iload_n hx hb dX6_graph_185 rfl (lv_at hl 2 rfl) ?_
                        refine z_icmp_lt (tgt := 199) hx hb dX6_graph_186 (by decide) (by omega) (by omega) (fun c_51 => ?_) (fun c_51 => ?_)
                        · refine lv_aload_n hx hb dX6_graph_199 rfl (lv_at hl 1 rfl) ?_
                          refine va_get (v := .ref a2) (C := RX6) (T := TX6) (N := 24) (ci := 6) hx hb hts hi_6 hown hK hP 0 rfl rfl 2 (by decide) hw_6 (fun _ h9 => h9) rfl dX6_graph_200 ?_
                          refine z_sipush hx hb dX6_graph_203 (by decide) ?_
                          refine lv_iload_n hx hb dX6_graph_206 rfl (lv_at hl 4 rfl) ?_
                          refine z_imul hx hb dX6_graph_207 ?_
                          refine lv_iload hx hb dX6_graph_208 (lv_at hl 0 rfl) ?_
                          refine z_iadd hx hb dX6_graph_210 ?_
                          refine z_iconst hx hb dX6_graph_211 ?_
                          refine z_zast hx hb hK hP hD hS 2 3 rfl rfl 1 rfl (250 * i + ((v + u_27.2.2.2.1) + 1).toNat) (by omega) (by omega) (by omega) dX6_graph_212 (fun H locs hP hD hS => ?_)
                          have hP : va_P D vwCl (wMo cI cJ cB cZ h a1 a2 a3 a4 a5 a6 a7 thr eg (uZ gr2 (250 * i + ((v + u_27.2.2.2.1) + 1).toNat) 1) wt rk nx nd es pp qq st ch bo tp le sz u_27.1 u_27.2.1 u_27.2.2.1 u_27.2.2.2.1 u_27.2.2.2.2 qv ou om) H := hP
                          have hD : va_D A (wMo cI cJ cB cZ h a1 a2 a3 a4 a5 a6 a7 thr eg (uZ gr2 (250 * i + ((v + u_27.2.2.2.1) + 1).toNat) 1) wt rk nx nd es pp qq st ch bo tp le sz u_27.1 u_27.2.1 u_27.2.2.1 u_27.2.2.2.1 u_27.2.2.2.2 qv ou om) := hD
                          refine lv_iinc (v := iZ (↑k + 1)) (lv' := [(6, .int (iZ (↑k + 1))), (5, .int (iZ ((v + u_27.2.2.2.1) + 1))), (0, .ref h), (1, .int (iZ qv)), (2, .int (iZ ((size + qv2.toNat : Nat) : Int))), (3, .int (iZ ↑i)), (4, .int (iZ qv2))]) hx hb dX6_graph_213 hl (k := 6) rfl (show iZ ↑k + iZ 1 = _ from iZ_add _ _) (by decide) rfl (fun ls hl => ?_)
                          refine lv_goto (tgt := 111) hx hb dX6_graph_216 (by decide) ?_
                          exact ih2 _ _ _ _ (by omega) ⟨(k + 1), ((v + u_27.2.2.2.1) + 1), (uZ gr2 (250 * i + ((v + u_27.2.2.2.1) + 1).toNat) 1), u_27.1, u_27.2.1, u_27.2.2.1, u_27.2.2.2.1, u_27.2.2.2.2, (uE E2 i ((v + u_27.2.2.2.1) + 1).toNat true), rfl, ⟨by omega, by omega, by omega, by omega, by omega, by omega, (by rw [← j7, show qv2.toNat - k = (qv2.toNat - (k + 1)) + 1 by omega, pRow_s hq3 (by omega) hv (by omega), show (u_27.1).toNat = qp3 by omega]; rfl), ME_up j8 (show ((v + u_27.2.2.2.1) + 1).toNat < 250 by omega) true⟩, hP, hD, hS, lv_sub hl [2, 3, 4, 5, 6, 1, 0] rfl⟩
                        · refine lv_aload_n hx hb dX6_graph_189 rfl (lv_at hl 1 rfl) ?_
                          refine z_iconst hx hb dX6_graph_190 ?_
                          refine lv_aload_n hx hb dX6_graph_191 rfl (lv_at hl 1 rfl) ?_
                          refine va_get (v := .int (iZ u_27.2.2.2.2)) (C := RX6) (T := TX6) (N := 24) (ci := 6) hx hb hts hi_6 hown hK hP 0 rfl rfl 20 (by decide) hw_2 (fun _ h9 => h9) rfl dX6_graph_192 ?_
                          refine rw_i (wr := []) (va_runV (As := [.int (iZ 3), .int (iZ u_27.2.2.2.2)]) (rest := []) ⟨hx, hb, hml, hown, hts⟩ (c_X6_bad l D cI cJ cB cZ h a1 a2 a3 a4 a5 a6 a7 thr eg gr2 wt rk nx nd es pp qq st ch bo tp le sz u_27.1 u_27.2.1 u_27.2.2.1 u_27.2.2.2.1 u_27.2.2.2.2 qv ou om 3 u_27.2.2.2.2 _) (cwV 2 hts gX6_graph_X6_bad rfl rfl rfl (by decide +kernel) ⟨Nat.le_of_ble_eq_true rfl, Nat.le_of_ble_eq_true rfl⟩) (pre1V hE hP hD 0 rfl rfl) rfl rfl hl.1 rfl (lv_room (Nat.le_of_ble_eq_true rfl)) dX6_graph_195 ⟨Nat.le_of_ble_eq_true rfl, Nat.le_of_ble_eq_true rfl⟩) hP hD hS hA [0, 1, 2, 3, 4, 5, 6, 7] [] rfl rfl (by decide) (by decide) (fun r_52 u_54 H locs hr_53 hP hD hS => ?_)
                          obtain ⟨rfl, rfl⟩ := hr_53
                          have hP := hP.sub (ws' := (wMo cI cJ cB cZ h a1 a2 a3 a4 a5 a6 a7 thr eg gr2 wt rk nx nd es pp qq st ch bo tp le sz u_27.1 3 u_27.2.2.2.2 u_27.2.2.2.1 u_27.2.2.2.2 qv ou om)) [0, 1, 2, 3, 4, 5, 6, 7] rfl
                          have hD := hD.sub (ws' := (wMo cI cJ cB cZ h a1 a2 a3 a4 a5 a6 a7 thr eg gr2 wt rk nx nd es pp qq st ch bo tp le sz u_27.1 3 u_27.2.2.2.2 u_27.2.2.2.1 u_27.2.2.2.2 qv ou om)) [0, 1, 2, 3, 4, 5, 6, 7] (by decide) rfl
                          exact rw_iret (z := (-1)) (gr2, u_27.1, 3, u_27.2.2.2.2, u_27.2.2.2.1, u_27.2.2.2.2, qv) hx hb hr hlocks hP hD hS ⟨3, ((at2.toNat : Nat) : Int), qv.toNat, size, E1, (by have q0 := hq; rw [hat] at q0; exact pAll_s q0 (by omega) (by omega) (by rw [← i7, show qv.toNat - i = (qv.toNat - (i + 1)) + 1 by omega]; exact pNodes_f (pNode_s hq2 (by omega) (by omega) (by rw [← j7, show qv2.toNat - k = (qv2.toNat - (k + 1)) + 1 by omega]; exact pRow_o hq3 (by omega) hv (by omega))) (by omega))), Or.inr ⟨by omega, rfl, rfl, (by first | omega | (dsimp only; omega))⟩⟩ dX6_graph_198
                  · have hy_qk3 := hq_28
                    refine z_if_ne (tgt := 127) hx hb dX6_graph_122 (by decide) (by omega) (fun c9 => absurd c9 (by decide)) (fun _ => ?_)
                    refine z_iconst hx hb dX6_graph_125 ?_
                    exact rw_iret (z := (-1)) (gr2, u_27.1, u_27.2.1, u_27.2.2.1, u_27.2.2.2.1, u_27.2.2.2.2, qv) hx hb hr hlocks hP hD hS ⟨qk3, qv3, qv.toNat, size, E1, (by have q0 := hq; rw [hat] at q0; exact pAll_s q0 (by omega) (by omega) (by rw [← i7, show qv.toNat - i = (qv.toNat - (i + 1)) + 1 by omega]; exact pNodes_f (pNode_s hq2 (by omega) (by omega) (by rw [← j7, show qv2.toNat - k = (qv2.toNat - (k + 1)) + 1 by omega]; exact pRow_f hq3 (by omega))) (by omega))), Or.inr ⟨by omega, rfl, (by first | omega | (dsimp only; omega)), (by first | omega | (dsimp only; omega))⟩⟩ dX6_graph_126
              · refine lv_aload_n hx hb dX6_graph_84 rfl (lv_at hl 0 rfl) ?_
                refine z_iconst hx hb dX6_graph_85 ?_
                refine lv_aload_n hx hb dX6_graph_86 rfl (lv_at hl 0 rfl) ?_
                refine va_get (v := .int (iZ u_17.2.2.2.2)) (C := RX6) (T := TX6) (N := 24) (ci := 6) hx hb hts hi_6 hown hK hP 0 rfl rfl 20 (by decide) hw_2 (fun _ h9 => h9) rfl dX6_graph_87 ?_
                refine rw_i (wr := []) (va_runV (As := [.int (iZ 3), .int (iZ u_17.2.2.2.2)]) (rest := []) ⟨hx, hb, hml, hown, hts⟩ (c_X6_bad l D cI cJ cB cZ h a1 a2 a3 a4 a5 a6 a7 thr eg gr wt rk nx nd es pp qq st ch bo tp le sz u_17.1 u_17.2.1 u_17.2.2.1 u_17.2.2.2.1 u_17.2.2.2.2 qv ou om 3 u_17.2.2.2.2 _) (cwV 2 hts gX6_graph_X6_bad rfl rfl rfl (by decide +kernel) ⟨Nat.le_of_ble_eq_true rfl, Nat.le_of_ble_eq_true rfl⟩) (pre1V hE hP hD 0 rfl rfl) rfl rfl hl.1 rfl (lv_room (Nat.le_of_ble_eq_true rfl)) dX6_graph_90 ⟨Nat.le_of_ble_eq_true rfl, Nat.le_of_ble_eq_true rfl⟩) hP hD hS hA [0, 1, 2, 3, 4, 5, 6, 7] [] rfl rfl (by decide) (by decide) (fun r_55 u_57 H locs hr_56 hP hD hS => ?_)
                obtain ⟨rfl, rfl⟩ := hr_56
                have hP := hP.sub (ws' := (wMo cI cJ cB cZ h a1 a2 a3 a4 a5 a6 a7 thr eg gr wt rk nx nd es pp qq st ch bo tp le sz u_17.1 3 u_17.2.2.2.2 u_17.2.2.2.1 u_17.2.2.2.2 qv ou om)) [0, 1, 2, 3, 4, 5, 6, 7] rfl
                have hD := hD.sub (ws' := (wMo cI cJ cB cZ h a1 a2 a3 a4 a5 a6 a7 thr eg gr wt rk nx nd es pp qq st ch bo tp le sz u_17.1 3 u_17.2.2.2.2 u_17.2.2.2.1 u_17.2.2.2.2 qv ou om)) [0, 1, 2, 3, 4, 5, 6, 7] (by decide) rfl
                exact rw_iret (z := (-1)) (gr, u_17.1, 3, u_17.2.2.2.2, u_17.2.2.2.1, u_17.2.2.2.2, qv) hx hb hr hlocks hP hD hS ⟨3, ((at1.toNat : Nat) : Int), qv.toNat, size, E1, (by have q0 := hq; rw [hat] at q0; exact pAll_s q0 (by omega) (by omega) (by rw [← i7, show qv.toNat - i = (qv.toNat - (i + 1)) + 1 by omega]; exact pNodes_f (pNode_o hq2 (by omega) (by omega)) (by omega))), Or.inr ⟨by omega, rfl, rfl, (by first | omega | (dsimp only; omega))⟩⟩ dX6_graph_93
          · have hy_qk2 := hq_18
            refine z_if_ne (tgt := 64) hx hb dX6_graph_59 (by decide) (by omega) (fun c9 => absurd c9 (by decide)) (fun _ => ?_)
            refine z_iconst hx hb dX6_graph_62 ?_
            exact rw_iret (z := (-1)) (gr, u_17.1, u_17.2.1, u_17.2.2.1, u_17.2.2.2.1, u_17.2.2.2.2, qv) hx hb hr hlocks hP hD hS ⟨qk2, qv2, qv.toNat, size, E1, (by have q0 := hq; rw [hat] at q0; exact pAll_s q0 (by omega) (by omega) (by rw [← i7, show qv.toNat - i = (qv.toNat - (i + 1)) + 1 by omega]; exact pNodes_f (pNode_f hq2 (by omega)) (by omega))), Or.inr ⟨by omega, rfl, (by first | omega | (dsimp only; omega)), (by first | omega | (dsimp only; omega))⟩⟩ dX6_graph_63
      · refine lv_aload_n hx hb dX6_graph_26 rfl (lv_at hl 0 rfl) ?_
        refine z_iconst hx hb dX6_graph_27 ?_
        refine lv_aload_n hx hb dX6_graph_28 rfl (lv_at hl 0 rfl) ?_
        refine va_get (v := .int (iZ u_3.2.2.2.2)) (C := RX6) (T := TX6) (N := 24) (ci := 6) hx hb hts hi_6 hown hK hP 0 rfl rfl 20 (by decide) hw_2 (fun _ h9 => h9) rfl dX6_graph_29 ?_
        refine rw_i (wr := []) (va_runV (As := [.int (iZ 3), .int (iZ u_3.2.2.2.2)]) (rest := []) ⟨hx, hb, hml, hown, hts⟩ (c_X6_bad l D cI cJ cB cZ h a1 a2 a3 a4 a5 a6 a7 thr eg fr wt rk nx nd es pp qq st ch bo tp le sz u_3.1 u_3.2.1 u_3.2.2.1 u_3.2.2.2.1 u_3.2.2.2.2 nn ou om 3 u_3.2.2.2.2 _) (cwV 2 hts gX6_graph_X6_bad rfl rfl rfl (by decide +kernel) ⟨Nat.le_of_ble_eq_true rfl, Nat.le_of_ble_eq_true rfl⟩) (pre1V hE hP hD 0 rfl rfl) rfl rfl hl.1 rfl (lv_room (Nat.le_of_ble_eq_true rfl)) dX6_graph_32 ⟨Nat.le_of_ble_eq_true rfl, Nat.le_of_ble_eq_true rfl⟩) hP hD hS hA [0, 1, 2, 3, 4, 5, 6, 7] [] rfl rfl (by decide) (by decide) (fun r_58 u_60 H locs hr_59 hP hD hS => ?_)
        obtain ⟨rfl, rfl⟩ := hr_59
        have hP := hP.sub (ws' := (wMo cI cJ cB cZ h a1 a2 a3 a4 a5 a6 a7 thr eg fr wt rk nx nd es pp qq st ch bo tp le sz u_3.1 3 u_3.2.2.2.2 u_3.2.2.2.1 u_3.2.2.2.2 nn ou om)) [0, 1, 2, 3, 4, 5, 6, 7] rfl
        have hD := hD.sub (ws' := (wMo cI cJ cB cZ h a1 a2 a3 a4 a5 a6 a7 thr eg fr wt rk nx nd es pp qq st ch bo tp le sz u_3.1 3 u_3.2.2.2.2 u_3.2.2.2.1 u_3.2.2.2.2 nn ou om)) [0, 1, 2, 3, 4, 5, 6, 7] (by decide) rfl
        exact rw_iret (z := (-1)) (fr, u_3.1, 3, u_3.2.2.2.2, u_3.2.2.2.1, u_3.2.2.2.2, nn) hx hb hr hlocks hP hD hS ⟨3, 0, 0, 0, (fun _ _ => false), (by have q0 := hq; rw [hat] at q0; exact pAll_o q0 (by omega) (by omega)), Or.inr ⟨by omega, rfl, rfl, (by first | omega | (dsimp only; omega))⟩⟩ dX6_graph_35
  · have hy_qk := hq_4
    refine z_if_ne (tgt := 9) hx hb dX6_graph_4 (by decide) (by omega) (fun c9 => absurd c9 (by decide)) (fun _ => ?_)
    refine z_iconst hx hb dX6_graph_7 ?_
    exact rw_iret (z := (-1)) (fr, u_3.1, u_3.2.1, u_3.2.2.1, u_3.2.2.2.1, u_3.2.2.2.2, nn) hx hb hr hlocks hP hD hS ⟨qk, qv, 0, 0, (fun _ _ => false), (by have q0 := hq; rw [hat] at q0; exact pAll_f q0 (by omega)), Or.inr ⟨by omega, rfl, (by first | omega | (dsimp only; omega)), (by first | omega | (dsimp only; omega))⟩⟩ dX6_graph_8
