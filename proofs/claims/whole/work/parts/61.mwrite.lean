set_option maxHeartbeats 4000000 in
set_option maxRecDepth 100000 in
theorem c_X6_put (l : Launch) (D : va_G) (cI cJ cB cZ : ClassId) (h a1 a2 a3 a4 a5 a6 a7 : Nat) (thr : Int) (eg fr wt rk nx : Nat → Int) (nd es pp qq st ch bo : Int) (tp : Nat → Int) (le sz at_ fa fp nu fm nn : Int) (ou : Nat → Int) (om : Int) (v : Int) (hv0 : 0 ≤ v ∧ v < 16384) (hom : 0 ≤ om ∧ om + 2 ≤ 6000)  (sz0 : Nat) : Met l yX6_put wsX6_put ({ frames := 0, cells := 0, slots := 0, locals := 0 } : Room) (Pre1 D cI cJ cB cZ [.ref h, .int (iZ v)] (wMo cI cJ cB cZ h a1 a2 a3 a4 a5 a6 a7 thr eg fr wt rk nx nd es pp qq st ch bo tp le sz at_ fa fp nu fm nn ou om) sz0) (rwV (S := (Nat → Int) × Int) D (fun U => U = (mU ou om.toNat v, om + lU v)) (fun u => wMo cI cJ cB cZ h a1 a2 a3 a4 a5 a6 a7 thr eg fr wt rk nx nd es pp qq st ch bo tp le sz at_ fa fp nu fm nn u.1 u.2) (va_A (wMo cI cJ cB cZ h a1 a2 a3 a4 a5 a6 a7 thr eg fr wt rk nx nd es pp qq st ch bo tp le sz at_ fa fp nu fm nn ou om) sz0)) 0 0 (va_A (wMo cI cJ cB cZ h a1 a2 a3 a4 a5 a6 a7 thr eg fr wt rk nx nd es pp qq st ch bo tp le sz at_ fa fp nu fm nn ou om) sz0) := by
  refine Met.ofW (cc := cX6_put) (maxL := 3) (ret := none) (by decide) rfl ?_
  intro p e s m args below meth c s₁ B hml hv
  obtain ⟨rfl, hsz, hP, hE, hD0⟩ := hv
  have hx := B.exec
  have hb := B.bytes
  have hr := B.returns
  have hts := atoms_spec (ws := wsX6_put) B.pre
  have hown : s.vm.findClass RX6 = some m.cls := findClass_of_methodNamed B.named
  have hlocks := B.notSynchronized
  have hK := hE.1
  subst hsz
  have hD := hD0.self (sz := s.heap.size)
  generalize hAe : va_A (wMo cI cJ cB cZ h a1 a2 a3 a4 a5 a6 a7 thr eg fr wt rk nx nd es pp qq st ch bo tp le sz at_ fa fp nu fm nn ou om) s.heap.size = A at hD ⊢
  have hA : ∀ q : Nat, s.heap.size ≤ q → A q := fun q h => by rw [← hAe]; exact Or.inr h
  have hS : va_S A s.heap s.heap [] := va_S.rf
  have hP : va_P D vwCl (wMo cI cJ cB cZ h a1 a2 a3 a4 a5 a6 a7 thr eg fr wt rk nx nd es pp qq st ch bo tp le sz at_ fa fp nu fm nn ou om) s.heap := hP
  have hi_6 : ∀ w ∈ wsX60, w ∈ wsX6_put := by decide +kernel
  have hw_1 := hts (.fieldLink RX6 45 "RankHouseModel" "out" "[B") (by decide +kernel)
  have hw_2 := hts (.fieldLink RX6 146 "RankHouseModel" "outMany" "I") (by decide +kernel)
  have hl := lv_entry ([.ref h, .int (iZ v)]) (n := 3) (Nat.le_of_ble_eq_true rfl)
  rw [lg_entry_eq]
  generalize (lg_sl ([.ref h, .int (iZ v)]) ++ List.replicate (3 - (lg_sl ([.ref h, .int (iZ v)])).length) Slot.unset).toArray = ls at hl ⊢
  have hl : lv_has ls 3 [(0, .ref h), (1, .int (iZ v))] := hl
  refine lv_iload_n hx hb dX6_put_0 rfl (lv_at hl 1 rfl) ?_
  refine lv_istore_n (lv' := [(2, .int (iZ v)), (0, .ref h), (1, .int (iZ v))]) hx hb dX6_put_1 rfl hl (by decide) rfl (fun ls hl => ?_)
  refine lv_iload_n hx hb dX6_put_2 rfl (lv_at hl 0 rfl) ?_
  refine z_bipush hx hb dX6_put_3 (by decide) ?_
  refine z_icmp_le (tgt := 44) hx hb dX6_put_5 (by decide) (by omega) (by omega) (fun c_1 => ?_) (fun c_1 => ?_)
  · refine lv_aload_n hx hb dX6_put_44 rfl (lv_at hl 1 rfl) ?_
    refine va_get (v := .ref a7) (C := RX6) (T := TX6) (N := 24) (ci := 6) hx hb hts hi_6 hown hK hP 0 rfl rfl 22 (by decide) hw_1 (fun _ h9 => h9) rfl dX6_put_45 ?_
    refine lv_aload_n hx hb dX6_put_48 rfl (lv_at hl 1 rfl) ?_
    refine va_get (v := .int (iZ om)) (C := RX6) (T := TX6) (N := 24) (ci := 6) hx hb hts hi_6 hown hK hP 0 rfl rfl 23 (by decide) hw_2 (fun _ h9 => h9) rfl dX6_put_49 ?_
    refine lv_iload_n hx hb dX6_put_52 rfl (lv_at hl 0 rfl) ?_
    refine z_i2b ((v).bmod 256) hx hb dX6_put_53 (iZ_i2b _) ?_
    refine z_bast hx hb hK hP hD hS 7 2 rfl rfl ((v).bmod 256) (nar_byte (bm_r _)) om.toNat (by omega) (by omega) (by omega) dX6_put_54 (fun H locs hP hD hS => ?_)
    have hP : va_P D vwCl (wMo cI cJ cB cZ h a1 a2 a3 a4 a5 a6 a7 thr eg fr wt rk nx nd es pp qq st ch bo tp le sz at_ fa fp nu fm nn (uZ ou om.toNat ((v).bmod 256)) om) H := hP
    have hD : va_D A (wMo cI cJ cB cZ h a1 a2 a3 a4 a5 a6 a7 thr eg fr wt rk nx nd es pp qq st ch bo tp le sz at_ fa fp nu fm nn (uZ ou om.toNat ((v).bmod 256)) om) := hD
    refine lv_aload_n hx hb dX6_put_55 rfl (lv_at hl 1 rfl) ?_
    refine lv_dup hx hb dX6_put_56 rfl ?_
    refine va_get (v := .int (iZ om)) (C := RX6) (T := TX6) (N := 24) (ci := 6) hx hb hts hi_6 hown hK hP 0 rfl rfl 23 (by decide) hw_2 (fun _ h9 => h9) rfl dX6_put_57 ?_
    refine z_iconst hx hb dX6_put_60 ?_
    refine z_iadd hx hb dX6_put_61 ?_
    refine va_put (v := .int (iZ (om + 1))) (ty := .int) (C := RX6) (T := TX6) (N := 24) (ci := 6) hx hb hts hi_6 tyX6 tyX6_ok nmX6 hown hK hP hD hS 0 rfl rfl 23 (by decide) hw_2 (fun _ h9 => h9) rfl (by decide +kernel) rfl rfl (Nat.le_of_ble_eq_true rfl) dX6_put_62 (fun H locs hP hD hS => ?_)
    have hP : va_P D vwCl (wMo cI cJ cB cZ h a1 a2 a3 a4 a5 a6 a7 thr eg fr wt rk nx nd es pp qq st ch bo tp le sz at_ fa fp nu fm nn (uZ ou om.toNat ((v).bmod 256)) (om + 1)) H := hP
    have hD : va_D A (wMo cI cJ cB cZ h a1 a2 a3 a4 a5 a6 a7 thr eg fr wt rk nx nd es pp qq st ch bo tp le sz at_ fa fp nu fm nn (uZ ou om.toNat ((v).bmod 256)) (om + 1)) := hD
    exact rw_vret (uZ ou om.toNat ((v).bmod 256), om + 1) hx hb hr hlocks hP hD hS (mU_1 (by omega)) dX6_put_65
  · refine lv_aload_n hx hb dX6_put_8 rfl (lv_at hl 1 rfl) ?_
    refine va_get (v := .ref a7) (C := RX6) (T := TX6) (N := 24) (ci := 6) hx hb hts hi_6 hown hK hP 0 rfl rfl 22 (by decide) hw_1 (fun _ h9 => h9) rfl dX6_put_9 ?_
    refine lv_aload_n hx hb dX6_put_12 rfl (lv_at hl 1 rfl) ?_
    refine va_get (v := .int (iZ om)) (C := RX6) (T := TX6) (N := 24) (ci := 6) hx hb hts hi_6 hown hK hP 0 rfl rfl 23 (by decide) hw_2 (fun _ h9 => h9) rfl dX6_put_13 ?_
    refine lv_iload_n hx hb dX6_put_16 rfl (lv_at hl 0 rfl) ?_
    refine z_bipush hx hb dX6_put_17 (by decide) ?_
    refine z_iand (v % 128) hx hb dX6_put_19 (iZ_and127 _) ?_
    refine z_sipush hx hb dX6_put_20 (by decide) ?_
    refine z_ior ((v % 128) + 128) hx hb dX6_put_23 (iZ_or128' (by omega)) ?_
    refine z_i2b (((v % 128) + 128).bmod 256) hx hb dX6_put_24 (iZ_i2b _) ?_
    refine z_bast hx hb hK hP hD hS 7 2 rfl rfl (((v % 128) + 128).bmod 256) (nar_byte (bm_r _)) om.toNat (by omega) (by omega) (by omega) dX6_put_25 (fun H locs hP hD hS => ?_)
    have hP : va_P D vwCl (wMo cI cJ cB cZ h a1 a2 a3 a4 a5 a6 a7 thr eg fr wt rk nx nd es pp qq st ch bo tp le sz at_ fa fp nu fm nn (uZ ou om.toNat (((v % 128) + 128).bmod 256)) om) H := hP
    have hD : va_D A (wMo cI cJ cB cZ h a1 a2 a3 a4 a5 a6 a7 thr eg fr wt rk nx nd es pp qq st ch bo tp le sz at_ fa fp nu fm nn (uZ ou om.toNat (((v % 128) + 128).bmod 256)) om) := hD
    refine lv_aload_n hx hb dX6_put_26 rfl (lv_at hl 1 rfl) ?_
    refine lv_dup hx hb dX6_put_27 rfl ?_
    refine va_get (v := .int (iZ om)) (C := RX6) (T := TX6) (N := 24) (ci := 6) hx hb hts hi_6 hown hK hP 0 rfl rfl 23 (by decide) hw_2 (fun _ h9 => h9) rfl dX6_put_28 ?_
    refine z_iconst hx hb dX6_put_31 ?_
    refine z_iadd hx hb dX6_put_32 ?_
    refine va_put (v := .int (iZ (om + 1))) (ty := .int) (C := RX6) (T := TX6) (N := 24) (ci := 6) hx hb hts hi_6 tyX6 tyX6_ok nmX6 hown hK hP hD hS 0 rfl rfl 23 (by decide) hw_2 (fun _ h9 => h9) rfl (by decide +kernel) rfl rfl (Nat.le_of_ble_eq_true rfl) dX6_put_33 (fun H locs hP hD hS => ?_)
    have hP : va_P D vwCl (wMo cI cJ cB cZ h a1 a2 a3 a4 a5 a6 a7 thr eg fr wt rk nx nd es pp qq st ch bo tp le sz at_ fa fp nu fm nn (uZ ou om.toNat (((v % 128) + 128).bmod 256)) (om + 1)) H := hP
    have hD : va_D A (wMo cI cJ cB cZ h a1 a2 a3 a4 a5 a6 a7 thr eg fr wt rk nx nd es pp qq st ch bo tp le sz at_ fa fp nu fm nn (uZ ou om.toNat (((v % 128) + 128).bmod 256)) (om + 1)) := hD
    refine lv_iload_n hx hb dX6_put_36 rfl (lv_at hl 0 rfl) ?_
    refine z_bipush hx hb dX6_put_37 (by decide) ?_
    refine z_ishr (v / 2 ^ 7) hx hb dX6_put_39 (iZ_shr 7 (by omega) rfl) ?_
    refine lv_istore_n (lv' := [(2, .int (iZ (v / 2 ^ 7))), (0, .ref h), (1, .int (iZ v))]) hx hb dX6_put_40 rfl hl (by decide) rfl (fun ls hl => ?_)
    refine lv_goto (tgt := 2) hx hb dX6_put_41 (by decide) ?_
    refine lv_iload_n hx hb dX6_put_2 rfl (lv_at hl 0 rfl) ?_
    refine z_bipush hx hb dX6_put_3 (by decide) ?_
    refine z_icmp_le (tgt := 44) hx hb dX6_put_5 (by decide) (by omega) (by omega) (fun c_2 => ?_) (fun c_2 => absurd c_2 (by omega))
    refine lv_aload_n hx hb dX6_put_44 rfl (lv_at hl 1 rfl) ?_
    refine va_get (v := .ref a7) (C := RX6) (T := TX6) (N := 24) (ci := 6) hx hb hts hi_6 hown hK hP 0 rfl rfl 22 (by decide) hw_1 (fun _ h9 => h9) rfl dX6_put_45 ?_
    refine lv_aload_n hx hb dX6_put_48 rfl (lv_at hl 1 rfl) ?_
    refine va_get (v := .int (iZ (om + 1))) (C := RX6) (T := TX6) (N := 24) (ci := 6) hx hb hts hi_6 hown hK hP 0 rfl rfl 23 (by decide) hw_2 (fun _ h9 => h9) rfl dX6_put_49 ?_
    refine lv_iload_n hx hb dX6_put_52 rfl (lv_at hl 0 rfl) ?_
    refine z_i2b ((v / 2 ^ 7).bmod 256) hx hb dX6_put_53 (iZ_i2b _) ?_
    refine z_bast hx hb hK hP hD hS 7 2 rfl rfl ((v / 2 ^ 7).bmod 256) (nar_byte (bm_r _)) ((om + 1).toNat) (by omega) (by omega) (by omega) dX6_put_54 (fun H locs hP hD hS => ?_)
    have hP : va_P D vwCl (wMo cI cJ cB cZ h a1 a2 a3 a4 a5 a6 a7 thr eg fr wt rk nx nd es pp qq st ch bo tp le sz at_ fa fp nu fm nn (uZ (uZ ou om.toNat (((v % 128) + 128).bmod 256)) ((om + 1).toNat) ((v / 2 ^ 7).bmod 256)) (om + 1)) H := hP
    have hD : va_D A (wMo cI cJ cB cZ h a1 a2 a3 a4 a5 a6 a7 thr eg fr wt rk nx nd es pp qq st ch bo tp le sz at_ fa fp nu fm nn (uZ (uZ ou om.toNat (((v % 128) + 128).bmod 256)) ((om + 1).toNat) ((v / 2 ^ 7).bmod 256)) (om + 1)) := hD
    refine lv_aload_n hx hb dX6_put_55 rfl (lv_at hl 1 rfl) ?_
    refine lv_dup hx hb dX6_put_56 rfl ?_
    refine va_get (v := .int (iZ (om + 1))) (C := RX6) (T := TX6) (N := 24) (ci := 6) hx hb hts hi_6 hown hK hP 0 rfl rfl 23 (by decide) hw_2 (fun _ h9 => h9) rfl dX6_put_57 ?_
    refine z_iconst hx hb dX6_put_60 ?_
    refine z_iadd hx hb dX6_put_61 ?_
    refine va_put (v := .int (iZ ((om + 1) + 1))) (ty := .int) (C := RX6) (T := TX6) (N := 24) (ci := 6) hx hb hts hi_6 tyX6 tyX6_ok nmX6 hown hK hP hD hS 0 rfl rfl 23 (by decide) hw_2 (fun _ h9 => h9) rfl (by decide +kernel) rfl rfl (Nat.le_of_ble_eq_true rfl) dX6_put_62 (fun H locs hP hD hS => ?_)
    have hP : va_P D vwCl (wMo cI cJ cB cZ h a1 a2 a3 a4 a5 a6 a7 thr eg fr wt rk nx nd es pp qq st ch bo tp le sz at_ fa fp nu fm nn (uZ (uZ ou om.toNat (((v % 128) + 128).bmod 256)) ((om + 1).toNat) ((v / 2 ^ 7).bmod 256)) ((om + 1) + 1)) H := hP
    have hD : va_D A (wMo cI cJ cB cZ h a1 a2 a3 a4 a5 a6 a7 thr eg fr wt rk nx nd es pp qq st ch bo tp le sz at_ fa fp nu fm nn (uZ (uZ ou om.toNat (((v % 128) + 128).bmod 256)) ((om + 1).toNat) ((v / 2 ^ 7).bmod 256)) ((om + 1) + 1)) := hD
    exact rw_vret (uZ (uZ ou om.toNat (((v % 128) + 128).bmod 256)) ((om + 1).toNat) ((v / 2 ^ 7).bmod 256), (om + 1) + 1) hx hb hr hlocks hP hD hS (mU_2 (by omega) (by omega)) dX6_put_65
set_option maxHeartbeats 4000000 in
set_option maxRecDepth 100000 in
theorem c_X6_write (l : Launch) (D : va_G) (cI cJ cB cZ : ClassId) (h a1 a2 a3 a4 a5 a6 a7 : Nat) (thr : Int) (eg fr wt rk nx : Nat → Int) (nd es pp qq st ch bo : Int) (tp : Nat → Int) (le sz at_ fa fp nu fm nn : Int) (ou : Nat → Int) (om : Int) (N : Nat) (E : Ed) (w : Nat → Nat) (P Q : Nat) (x : Nat → Nat) (ks kc ke tl : Nat) (tf : Nat → Int) (ol : Nat) (of_ : Nat → Int) (fk : Int) (hMR : MR N E w P Q x ks kc ke tl tf ol of_ fk (thr, eg, fr, wt, rk, nx, nd, es, pp, qq, st, ch, bo, tp, le, sz, at_, fa, fp, nu, fm, nn, ou, om))  (sz0 : Nat) : Met l yX6_write wsX6_write ({ frames := 2, cells := 0, slots := 0, locals := 46 } : Room) (Pre1 D cI cJ cB cZ [.ref h] (wMo cI cJ cB cZ h a1 a2 a3 a4 a5 a6 a7 thr eg fr wt rk nx nd es pp qq st ch bo tp le sz at_ fa fp nu fm nn ou om) sz0) (rwI (S := MT) D (fun z U => z = (wA E N N (pU of_ 0 (N : Int), lU (N : Int))).2 ∧ MR N E w P Q x ks kc ke tl tf ((wA E N N (pU of_ 0 (N : Int), lU (N : Int))).2.toNat) ((wA E N N (pU of_ 0 (N : Int), lU (N : Int))).1) fk U) (fun u => wM cI cJ cB cZ h a1 a2 a3 a4 a5 a6 a7 u) (va_A (wMo cI cJ cB cZ h a1 a2 a3 a4 a5 a6 a7 thr eg fr wt rk nx nd es pp qq st ch bo tp le sz at_ fa fp nu fm nn ou om) sz0)) 0 0 (va_A (wMo cI cJ cB cZ h a1 a2 a3 a4 a5 a6 a7 thr eg fr wt rk nx nd es pp qq st ch bo tp le sz at_ fa fp nu fm nn ou om) sz0) := by
  refine Met.ofW (cc := cX6_write) (maxL := 4) (ret := (some .int)) (by decide) rfl ?_
  intro p e s m args below meth c s₁ B hml hv
  obtain ⟨rfl, hsz, hP, hE, hD0⟩ := hv
  have hx := B.exec
  have hb := B.bytes
  have hr := B.returns
  have hts := atoms_spec (ws := wsX6_write) B.pre
  have hown : s.vm.findClass RX6 = some m.cls := findClass_of_methodNamed B.named
  have hlocks := B.notSynchronized
  have hK := hE.1
  subst hsz
  have hD := hD0.self (sz := s.heap.size)
  generalize hAe : va_A (wMo cI cJ cB cZ h a1 a2 a3 a4 a5 a6 a7 thr eg fr wt rk nx nd es pp qq st ch bo tp le sz at_ fa fp nu fm nn ou om) s.heap.size = A at hD ⊢
  have hA : ∀ q : Nat, s.heap.size ≤ q → A q := fun q h => by rw [← hAe]; exact Or.inr h
  have hS : va_S A s.heap s.heap [] := va_S.rf
  have hP : va_P D vwCl (wMo cI cJ cB cZ h a1 a2 a3 a4 a5 a6 a7 thr eg fr wt rk nx nd es pp qq st ch bo tp le sz at_ fa fp nu fm nn ou om) s.heap := hP
  have hi_6 : ∀ w ∈ wsX60, w ∈ wsX6_write := by decide +kernel
  have hw_1 := hts (.fieldLink RX6 1 "RankHouseModel" "thrown" "I") (by decide +kernel)
  have hw_2 := hts (.fieldLink RX6 146 "RankHouseModel" "outMany" "I") (by decide +kernel)
  have hw_3 := hts (.fieldLink RX6 32 "RankHouseModel" "nodes" "I") (by decide +kernel)
  have hl := lv_entry ([.ref h]) (n := 4) (Nat.le_of_ble_eq_true rfl)
  rw [lg_entry_eq]
  generalize (lg_sl ([.ref h]) ++ List.replicate (4 - (lg_sl ([.ref h])).length) Slot.unset).toArray = ls at hl ⊢
  have hl : lv_has ls 4 [(0, .ref h)] := hl
  obtain ⟨hM, hR, s1, s2, s3, s5, s6, t1, t2, t3, y1, y2, y3, d1⟩ := id hMR
  dsimp only at hM hR s1 s2 s3 t1 t3 y1 y3 d1
  have hM : MG N E w eg wt nd es := hM
  have hR : RK N P Q x rk pp qq := hR
  have t3 : BY tp tf tl := t3
  have y3 : BY ou of_ ol := y3
  obtain ⟨m1, m2, m3, m4, m5, m6, m7, m8, m9⟩ := id hM
  obtain ⟨k1, k2, k3, k4, k5, k6⟩ := id hR
  have l1 := lU_r (N : Int)
  have b0 : bR (pU of_ 0 (N : Int)) (0 + lU (N : Int)) := pU_r (len := 0) (by omega) (by omega) (fun j hj => by omega)
  rw [Int.zero_add] at b0
  refine lv_aload_n hx hb dX6_write_0 rfl (lv_at hl 0 rfl) ?_
  refine z_iconst hx hb dX6_write_1 ?_
  refine va_put (v := .int (iZ 0)) (ty := .int) (C := RX6) (T := TX6) (N := 24) (ci := 6) hx hb hts hi_6 tyX6 tyX6_ok nmX6 hown hK hP hD hS 0 rfl rfl 0 (by decide) hw_1 (fun _ h9 => h9) rfl (by decide +kernel) rfl rfl (Nat.le_of_ble_eq_true rfl) dX6_write_2 (fun H locs hP hD hS => ?_)
  have hP : va_P D vwCl (wMo cI cJ cB cZ h a1 a2 a3 a4 a5 a6 a7 0 eg fr wt rk nx nd es pp qq st ch bo tp le sz at_ fa fp nu fm nn ou om) H := hP
  have hD : va_D A (wMo cI cJ cB cZ h a1 a2 a3 a4 a5 a6 a7 0 eg fr wt rk nx nd es pp qq st ch bo tp le sz at_ fa fp nu fm nn ou om) := hD
  refine lv_aload_n hx hb dX6_write_5 rfl (lv_at hl 0 rfl) ?_
  refine z_iconst hx hb dX6_write_6 ?_
  refine va_put (v := .int (iZ 0)) (ty := .int) (C := RX6) (T := TX6) (N := 24) (ci := 6) hx hb hts hi_6 tyX6 tyX6_ok nmX6 hown hK hP hD hS 0 rfl rfl 23 (by decide) hw_2 (fun _ h9 => h9) rfl (by decide +kernel) rfl rfl (Nat.le_of_ble_eq_true rfl) dX6_write_7 (fun H locs hP hD hS => ?_)
  have hP : va_P D vwCl (wMo cI cJ cB cZ h a1 a2 a3 a4 a5 a6 a7 0 eg fr wt rk nx nd es pp qq st ch bo tp le sz at_ fa fp nu fm nn ou 0) H := hP
  have hD : va_D A (wMo cI cJ cB cZ h a1 a2 a3 a4 a5 a6 a7 0 eg fr wt rk nx nd es pp qq st ch bo tp le sz at_ fa fp nu fm nn ou 0) := hD
  refine lv_aload_n hx hb dX6_write_10 rfl (lv_at hl 0 rfl) ?_
  refine lv_aload_n hx hb dX6_write_11 rfl (lv_at hl 0 rfl) ?_
  refine va_get (v := .int (iZ nd)) (C := RX6) (T := TX6) (N := 24) (ci := 6) hx hb hts hi_6 hown hK hP 0 rfl rfl 6 (by decide) hw_3 (fun _ h9 => h9) rfl dX6_write_12 ?_
  refine rw_v (wr := []) (va_runV (As := [.int (iZ nd)]) (rest := []) ⟨hx, hb, hml, hown, hts⟩ (c_X6_put l D cI cJ cB cZ h a1 a2 a3 a4 a5 a6 a7 0 eg fr wt rk nx nd es pp qq st ch bo tp le sz at_ fa fp nu fm nn ou 0 nd (by omega) (by omega) _) (cwV 1 hts gX6_write_X6_put rfl rfl rfl (by decide +kernel) ⟨Nat.le_of_ble_eq_true rfl, Nat.le_of_ble_eq_true rfl⟩) (pre1V hE hP hD 0 rfl rfl) rfl rfl hl.1 rfl (lv_room (Nat.le_of_ble_eq_true rfl)) dX6_write_15 ⟨Nat.le_of_ble_eq_true rfl, Nat.le_of_ble_eq_true rfl⟩) hP hD hS hA [0, 1, 2, 3, 4, 5, 6, 7] [] rfl rfl (by decide) (by decide) (fun u_3 H locs hr_2 hP hD hS => ?_)
  obtain rfl := hr_2
  have hP := hP.sub (ws' := (wMo cI cJ cB cZ h a1 a2 a3 a4 a5 a6 a7 0 eg fr wt rk nx nd es pp qq st ch bo tp le sz at_ fa fp nu fm nn (mU ou (0 : Int).toNat nd) (0 + lU nd))) [0, 1, 2, 3, 4, 5, 6, 7] rfl
  have hD := hD.sub (ws' := (wMo cI cJ cB cZ h a1 a2 a3 a4 a5 a6 a7 0 eg fr wt rk nx nd es pp qq st ch bo tp le sz at_ fa fp nu fm nn (mU ou (0 : Int).toNat nd) (0 + lU nd))) [0, 1, 2, 3, 4, 5, 6, 7] (by decide) rfl
  refine z_iconst hx hb dX6_write_18 ?_
  refine lv_istore_n (lv' := [(1, .int (iZ 0)), (0, .ref h)]) hx hb dX6_write_19 rfl hl (by decide) rfl (fun ls hl => ?_)
  refine w_loop (fun kf H locs ls => ∃ (i : Nat), ∃ (gm : Nat → Int), ∃ (go : Int), kf = N - i ∧ (i ≤ N ∧ go = (wA E N i (pU of_ 0 (N : Int), lU (N : Int))).2 ∧ BY gm (wA E N i (pU of_ 0 (N : Int), lU (N : Int))).1 go.toNat) ∧ va_P D vwCl (wMo cI cJ cB cZ h a1 a2 a3 a4 a5 a6 a7 0 eg fr wt rk nx nd es pp qq st ch bo tp le sz at_ fa fp nu fm nn gm go) H ∧ va_D A (wMo cI cJ cB cZ h a1 a2 a3 a4 a5 a6 a7 0 eg fr wt rk nx nd es pp qq st ch bo tp le sz at_ fa fp nu fm nn gm go) ∧ va_S A s.heap H locs ∧ lv_has ls 4 [(0, .ref h), (1, .int (iZ ↑i))]) ?_ _ ⟨0, (mU ou (0 : Int).toNat nd), (0 + lU nd), rfl, ⟨by omega, (by show 0 + lU nd = lU (N : Int); rw [m5, Int.zero_add]), (by rw [m5]; exact BY_put (L := 0) (fun j hj => absurd hj (Nat.not_lt_zero j)) (by omega) (by omega))⟩, hP, hD, hS, lv_sub hl [1, 0] rfl⟩
  rintro kf H locs ls ⟨i, gm, go, hk, ⟨i1, i2, i3⟩, hP, hD, hS, hl⟩ ih1
  refine lv_iload_n hx hb dX6_write_20 rfl (lv_at hl 1 rfl) ?_
  refine lv_aload_n hx hb dX6_write_21 rfl (lv_at hl 0 rfl) ?_
  refine va_get (v := .int (iZ nd)) (C := RX6) (T := TX6) (N := 24) (ci := 6) hx hb hts hi_6 hown hK hP 0 rfl rfl 6 (by decide) hw_3 (fun _ h9 => h9) rfl dX6_write_22 ?_
  refine z_icmp_ge (tgt := 116) hx hb dX6_write_25 (by decide) (by omega) (by omega) (fun c_4 => ?_) (fun c_4 => ?_)
  · have ok0 := wA_ok (E := E) m4 (s := (pU of_ 0 (N : Int), lU (N : Int))) (by dsimp only; omega) b0 N (Nat.le_refl N)
    have iN : i = N := by omega
    rw [iN] at i2 i3
    dsimp only at ok0
    refine lv_aload_n hx hb dX6_write_116 rfl (lv_at hl 0 rfl) ?_
    refine va_get (v := .int (iZ go)) (C := RX6) (T := TX6) (N := 24) (ci := 6) hx hb hts hi_6 hown hK hP 0 rfl rfl 23 (by decide) hw_2 (fun _ h9 => h9) rfl dX6_write_117 ?_
    exact rw_iret (z := go) (0, eg, fr, wt, rk, nx, nd, es, pp, qq, st, ch, bo, tp, le, sz, at_, fa, fp, nu, fm, nn, gm, go) hx hb hr hlocks hP hD hS ⟨i2, ⟨hM, hR, s1, s2, s3, s5, s6, t1, t2, t3, (by dsimp only; omega), (by omega), (by rw [i2] at i3; exact i3), d1⟩⟩ dX6_write_120
  · have ok0 := wA_ok (E := E) m4 (s := (pU of_ 0 (N : Int), lU (N : Int))) (by dsimp only; omega) b0 i (by omega)
    obtain ⟨A0, hA0⟩ : ∃ A0, A0 = wA E N i (pU of_ 0 (N : Int), lU (N : Int)) := ⟨_, rfl⟩
    rw [← hA0] at ok0 i2 i3
    dsimp only at ok0
    have f1_ := fst_le E (show i < N by omega)
    have d2_ := dgr_le E N i
    have l2 := lU_r (dgr E N i : Int)
    refine lv_aload_n hx hb dX6_write_28 rfl (lv_at hl 0 rfl) ?_
    refine lv_aload_n hx hb dX6_write_29 rfl (lv_at hl 0 rfl) ?_
    refine lv_iload_n hx hb dX6_write_30 rfl (lv_at hl 1 rfl) ?_
    refine z_iconst hx hb dX6_write_31 ?_
    refine ro_i (va_runV (As := [.int (iZ ↑i), .int (iZ 0)]) (rest := [.ref h]) ⟨hx, hb, hml, hown, hts⟩ (c_X6_many0 l D cI cJ cB cZ h a1 a2 a3 a4 a5 a6 a7 0 eg fr wt rk nx nd es pp qq st ch bo tp le sz at_ fa fp nu fm nn gm go (↑i) N E w hM (by omega)) (cwV 2 hts gX6_write_X6_many rfl rfl rfl (by decide +kernel) ⟨Nat.le_of_ble_eq_true rfl, Nat.le_of_ble_eq_true rfl⟩) (pre0V hE hP 0 rfl rfl) rfl rfl hl.1 rfl (lv_room (Nat.le_of_ble_eq_true rfl)) dX6_write_32 ⟨Nat.le_of_ble_eq_true rfl, Nat.le_of_ble_eq_true rfl⟩) (fun r_5 hr_6 => ?_)
    have q4 : r_5 = ((dgr E N i : Nat) : Int) := by rw [hr_6, Int.toNat_natCast]; rfl
    refine rw_v (wr := []) (va_runV (As := [.int (iZ r_5)]) (rest := []) ⟨hx, hb, hml, hown, hts⟩ (c_X6_put l D cI cJ cB cZ h a1 a2 a3 a4 a5 a6 a7 0 eg fr wt rk nx nd es pp qq st ch bo tp le sz at_ fa fp nu fm nn gm go r_5 (by omega) (by omega) _) (cwV 1 hts gX6_write_X6_put rfl rfl rfl (by decide +kernel) ⟨Nat.le_of_ble_eq_true rfl, Nat.le_of_ble_eq_true rfl⟩) (pre1V hE hP hD 0 rfl rfl) rfl rfl hl.1 rfl (lv_room (Nat.le_of_ble_eq_true rfl)) dX6_write_35 ⟨Nat.le_of_ble_eq_true rfl, Nat.le_of_ble_eq_true rfl⟩) hP hD hS hA [0, 1, 2, 3, 4, 5, 6, 7] [] rfl rfl (by decide) (by decide) (fun u_9 H locs hr_8 hP hD hS => ?_)
    obtain rfl := hr_8
    have hP := hP.sub (ws' := (wMo cI cJ cB cZ h a1 a2 a3 a4 a5 a6 a7 0 eg fr wt rk nx nd es pp qq st ch bo tp le sz at_ fa fp nu fm nn (mU gm (go : Int).toNat r_5) (go + lU r_5))) [0, 1, 2, 3, 4, 5, 6, 7] rfl
    have hD := hD.sub (ws' := (wMo cI cJ cB cZ h a1 a2 a3 a4 a5 a6 a7 0 eg fr wt rk nx nd es pp qq st ch bo tp le sz at_ fa fp nu fm nn (mU gm (go : Int).toNat r_5) (go + lU r_5))) [0, 1, 2, 3, 4, 5, 6, 7] (by decide) rfl
    obtain ⟨s0, hs0⟩ : ∃ s0 : WS, s0 = (pU A0.1 A0.2.toNat (dgr E N i : Int), A0.2 + lU (dgr E N i : Int), -1) := ⟨_, rfl⟩
    have e1 : s0.2.2 = -1 := by rw [hs0]
    have e2 : s0.2.1 = A0.2 + lU (dgr E N i : Int) := by rw [hs0]
    have e0 : s0.1 = pU A0.1 A0.2.toNat (dgr E N i : Int) := by rw [hs0]
    have e3 : bR s0.1 s0.2.1 := by rw [e0, e2]; exact pU_r (by omega) (by omega) ok0.2.2
    refine z_iconst hx hb dX6_write_38 ?_
    refine lv_istore_n (lv' := [(2, .int (iZ (-1))), (0, .ref h), (1, .int (iZ ↑i))]) hx hb dX6_write_39 rfl hl (by decide) rfl (fun ls hl => ?_)
    refine z_iconst hx hb dX6_write_40 ?_
    refine lv_istore_n (lv' := [(3, .int (iZ 0)), (2, .int (iZ (-1))), (0, .ref h), (1, .int (iZ ↑i))]) hx hb dX6_write_41 rfl hl (by decide) rfl (fun ls hl => ?_)
    refine w_loop (fun kf H locs ls => ∃ (j : Nat), ∃ (la : Int), ∃ (gm2 : Nat → Int), ∃ (go2 : Int), kf = N - j ∧ (j ≤ N ∧ go2 = (wV E i j s0).2.1 ∧ la = (wV E i j s0).2.2 ∧ BY gm2 (wV E i j s0).1 go2.toNat) ∧ va_P D vwCl (wMo cI cJ cB cZ h a1 a2 a3 a4 a5 a6 a7 0 eg fr wt rk nx nd es pp qq st ch bo tp le sz at_ fa fp nu fm nn gm2 go2) H ∧ va_D A (wMo cI cJ cB cZ h a1 a2 a3 a4 a5 a6 a7 0 eg fr wt rk nx nd es pp qq st ch bo tp le sz at_ fa fp nu fm nn gm2 go2) ∧ va_S A s.heap H locs ∧ lv_has ls 4 [(0, .ref h), (1, .int (iZ ↑i)), (2, .int (iZ la)), (3, .int (iZ ↑j))]) ?_ _ ⟨0, (-1), (mU gm (go : Int).toNat r_5), (go + lU r_5), rfl, ⟨by omega, (by show _ = s0.2.1; rw [e2, q4, i2]), e1.symm, (by show BY _ s0.1 _; rw [e0, q4, i2]; rw [i2] at i3; exact BY_put i3 (by omega) (by omega))⟩, hP, hD, hS, lv_sub hl [2, 3, 1, 0] rfl⟩
    rintro kf H locs ls ⟨j, la, gm2, go2, hk, ⟨j1, j2, j3, j4⟩, hP, hD, hS, hl⟩ ih2
    refine lv_iload_n hx hb dX6_write_42 rfl (lv_at hl 3 rfl) ?_
    refine lv_aload_n hx hb dX6_write_43 rfl (lv_at hl 0 rfl) ?_
    refine va_get (v := .int (iZ nd)) (C := RX6) (T := TX6) (N := 24) (ci := 6) hx hb hts hi_6 hown hK hP 0 rfl rfl 6 (by decide) hw_3 (fun _ h9 => h9) rfl dX6_write_44 ?_
    refine z_icmp_ge (tgt := 110) hx hb dX6_write_47 (by decide) (by omega) (by omega) (fun c_10 => ?_) (fun c_10 => ?_)
    · refine lv_iinc (v := iZ (↑i + 1)) (lv' := [(1, .int (iZ (↑i + 1))), (0, .ref h), (2, .int (iZ la)), (3, .int (iZ ↑j))]) hx hb dX6_write_110 hl (k := 1) rfl (show iZ ↑i + iZ 1 = _ from iZ_add _ _) (by decide) rfl (fun ls hl => ?_)
      refine lv_goto (tgt := 20) hx hb dX6_write_113 (by decide) ?_
      exact ih1 _ _ _ _ (by omega) ⟨(i + 1), gm2, go2, rfl, (by have w2 : wA E N (i + 1) (pU of_ 0 (N : Int), lU (N : Int)) = ((wV E i N s0).1, (wV E i N s0).2.1) := (by rw [wA, ← hA0, hs0]; rfl); have jN : j = N := (by omega); rw [jN] at j2 j4; exact ⟨by omega, by rw [w2]; exact j2, by rw [w2]; exact j4⟩), hP, hD, hS, lv_sub hl [1, 0] rfl⟩
    · have ok1 := wV_ok2 (E := E) (show i < N by omega) m4 e1 (by omega) e3 j (by omega)
      rw [← j2, ← j3] at ok1
      have ok2 : s0.2.1 ≤ go2 ∧ go2 ≤ s0.2.1 + (fb_ct (E i) j : Int) + 2 ∧ -1 ≤ la ∧ la < (j : Int) := by (have q9 := ok1; (repeat' split at q9) <;> omega)
      have cj := fb_ct_mono (E i) (show j ≤ N by omega)
      have cN : fb_ct (E i) N = dgr E N i := rfl
      refine lv_aload_n hx hb dX6_write_50 rfl (lv_at hl 0 rfl) ?_
      refine lv_iload_n hx hb dX6_write_51 rfl (lv_at hl 1 rfl) ?_
      refine lv_iload_n hx hb dX6_write_52 rfl (lv_at hl 3 rfl) ?_
      refine ro_i (va_runV (As := [.int (iZ ↑i), .int (iZ ↑j)]) (rest := []) ⟨hx, hb, hml, hown, hts⟩ (c_X6_goes l D cI cJ cB cZ h a1 a2 a3 a4 a5 a6 a7 0 eg fr wt rk nx nd es pp qq st ch bo tp le sz at_ fa fp nu fm nn gm2 go2 (↑i) (↑j) (by omega) (by omega) E m1) (cwV 2 hts gX6_write_X6_goes rfl rfl rfl (by decide +kernel) ⟨Nat.le_of_ble_eq_true rfl, Nat.le_of_ble_eq_true rfl⟩) (pre0V hE hP 0 rfl rfl) rfl rfl hl.1 rfl (lv_room (Nat.le_of_ble_eq_true rfl)) dX6_write_53 ⟨Nat.le_of_ble_eq_true rfl, Nat.le_of_ble_eq_true rfl⟩) (fun r_11 hr_12 => ?_)
      rcases hr_12 with ⟨rfl, hq_13⟩ | ⟨rfl, hq_13⟩
      · have n3 := hq_13
        rw [Int.toNat_natCast, Int.toNat_natCast] at n3
        refine z_if_ne (tgt := 62) hx hb dX6_write_56 (by decide) (by omega) (fun _ => ?_) (fun c9 => absurd c9 (by decide))
        refine lv_iload_n hx hb dX6_write_62 rfl (lv_at hl 2 rfl) ?_
        refine z_if_ge (tgt := 93) hx hb dX6_write_63 (by decide) (by omega) (fun c_14 => ?_) (fun c_14 => ?_)
        · refine lv_aload_n hx hb dX6_write_93 rfl (lv_at hl 0 rfl) ?_
          refine lv_iload_n hx hb dX6_write_94 rfl (lv_at hl 3 rfl) ?_
          refine lv_iload_n hx hb dX6_write_95 rfl (lv_at hl 2 rfl) ?_
          refine z_isub hx hb dX6_write_96 ?_
          refine z_iconst hx hb dX6_write_97 ?_
          refine z_isub hx hb dX6_write_98 ?_
          have hcd : ((↑j - la) - 1) = cod i j la := by unfold cod; (repeat' split) <;> omega
          have hcr := cod_r (u := i) (m := j) (N := N) (la := la) (by omega) (by omega) m4 (by omega) (by omega)
          rw [← hcd] at hcr
          have w1 : wV E i (j + 1) s0 = wP i j (wV E i j s0) := by rw [wV, if_pos n3]
          refine rw_v (wr := []) (va_runV (As := [.int (iZ ((↑j - la) - 1))]) (rest := []) ⟨hx, hb, hml, hown, hts⟩ (c_X6_put l D cI cJ cB cZ h a1 a2 a3 a4 a5 a6 a7 0 eg fr wt rk nx nd es pp qq st ch bo tp le sz at_ fa fp nu fm nn gm2 go2 ((↑j - la) - 1) (by omega) (by omega) _) (cwV 1 hts gX6_write_X6_put rfl rfl rfl (by decide +kernel) ⟨Nat.le_of_ble_eq_true rfl, Nat.le_of_ble_eq_true rfl⟩) (pre1V hE hP hD 0 rfl rfl) rfl rfl hl.1 rfl (lv_room (Nat.le_of_ble_eq_true rfl)) dX6_write_99 ⟨Nat.le_of_ble_eq_true rfl, Nat.le_of_ble_eq_true rfl⟩) hP hD hS hA [0, 1, 2, 3, 4, 5, 6, 7] [] rfl rfl (by decide) (by decide) (fun u_17 H locs hr_16 hP hD hS => ?_)
          obtain rfl := hr_16
          have hP := hP.sub (ws' := (wMo cI cJ cB cZ h a1 a2 a3 a4 a5 a6 a7 0 eg fr wt rk nx nd es pp qq st ch bo tp le sz at_ fa fp nu fm nn (mU gm2 (go2 : Int).toNat ((↑j - la) - 1)) (go2 + lU ((↑j - la) - 1)))) [0, 1, 2, 3, 4, 5, 6, 7] rfl
          have hD := hD.sub (ws' := (wMo cI cJ cB cZ h a1 a2 a3 a4 a5 a6 a7 0 eg fr wt rk nx nd es pp qq st ch bo tp le sz at_ fa fp nu fm nn (mU gm2 (go2 : Int).toNat ((↑j - la) - 1)) (go2 + lU ((↑j - la) - 1)))) [0, 1, 2, 3, 4, 5, 6, 7] (by decide) rfl
          refine lv_iload_n hx hb dX6_write_102 rfl (lv_at hl 3 rfl) ?_
          refine lv_istore_n (lv' := [(2, .int (iZ ↑j)), (0, .ref h), (1, .int (iZ ↑i)), (3, .int (iZ ↑j))]) hx hb dX6_write_103 rfl hl (by decide) rfl (fun ls hl => ?_)
          refine lv_iinc (v := iZ (↑j + 1)) (lv' := [(3, .int (iZ (↑j + 1))), (2, .int (iZ ↑j)), (0, .ref h), (1, .int (iZ ↑i))]) hx hb dX6_write_104 hl (k := 3) rfl (show iZ ↑j + iZ 1 = _ from iZ_add _ _) (by decide) rfl (fun ls hl => ?_)
          refine lv_goto (tgt := 42) hx hb dX6_write_107 (by decide) ?_
          exact ih2 _ _ _ _ (by omega) ⟨(j + 1), ↑j, (mU gm2 (go2 : Int).toNat ((↑j - la) - 1)), (go2 + lU ((↑j - la) - 1)), rfl, ⟨by omega, (by rw [w1]; show _ = (wV E i j s0).2.1 + lU (cod i j (wV E i j s0).2.2); rw [← j2, ← j3, hcd]), (by rw [w1]; rfl), (by rw [w1]; show BY _ (pU (wV E i j s0).1 (wV E i j s0).2.1.toNat (cod i j (wV E i j s0).2.2)) _; rw [← j2, ← j3, ← hcd]; exact BY_put j4 (by omega) hcr)⟩, hP, hD, hS, lv_sub hl [2, 3, 1, 0] rfl⟩
        · refine lv_aload_n hx hb dX6_write_66 rfl (lv_at hl 0 rfl) ?_
          refine lv_iload_n hx hb dX6_write_67 rfl (lv_at hl 3 rfl) ?_
          refine lv_iload_n hx hb dX6_write_68 rfl (lv_at hl 1 rfl) ?_
          refine z_icmp_ge (tgt := 82) hx hb dX6_write_69 (by decide) (by omega) (by omega) (fun c_18 => ?_) (fun c_18 => ?_)
          · refine z_iconst hx hb dX6_write_82 ?_
            refine lv_iload_n hx hb dX6_write_83 rfl (lv_at hl 3 rfl) ?_
            refine lv_iload_n hx hb dX6_write_84 rfl (lv_at hl 1 rfl) ?_
            refine z_isub hx hb dX6_write_85 ?_
            refine z_imul hx hb dX6_write_86 ?_
            have hcd : (2 * (↑j - ↑i)) = cod i j la := by unfold cod; (repeat' split) <;> omega
            have hcr := cod_r (u := i) (m := j) (N := N) (la := la) (by omega) (by omega) m4 (by omega) (by omega)
            rw [← hcd] at hcr
            have w1 : wV E i (j + 1) s0 = wP i j (wV E i j s0) := by rw [wV, if_pos n3]
            refine rw_v (wr := []) (va_runV (As := [.int (iZ (2 * (↑j - ↑i)))]) (rest := []) ⟨hx, hb, hml, hown, hts⟩ (c_X6_put l D cI cJ cB cZ h a1 a2 a3 a4 a5 a6 a7 0 eg fr wt rk nx nd es pp qq st ch bo tp le sz at_ fa fp nu fm nn gm2 go2 (2 * (↑j - ↑i)) (by omega) (by omega) _) (cwV 1 hts gX6_write_X6_put rfl rfl rfl (by decide +kernel) ⟨Nat.le_of_ble_eq_true rfl, Nat.le_of_ble_eq_true rfl⟩) (pre1V hE hP hD 0 rfl rfl) rfl rfl hl.1 rfl (lv_room (Nat.le_of_ble_eq_true rfl)) dX6_write_87 ⟨Nat.le_of_ble_eq_true rfl, Nat.le_of_ble_eq_true rfl⟩) hP hD hS hA [0, 1, 2, 3, 4, 5, 6, 7] [] rfl rfl (by decide) (by decide) (fun u_21 H locs hr_20 hP hD hS => ?_)
            obtain rfl := hr_20
            have hP := hP.sub (ws' := (wMo cI cJ cB cZ h a1 a2 a3 a4 a5 a6 a7 0 eg fr wt rk nx nd es pp qq st ch bo tp le sz at_ fa fp nu fm nn (mU gm2 (go2 : Int).toNat (2 * (↑j - ↑i))) (go2 + lU (2 * (↑j - ↑i))))) [0, 1, 2, 3, 4, 5, 6, 7] rfl
            have hD := hD.sub (ws' := (wMo cI cJ cB cZ h a1 a2 a3 a4 a5 a6 a7 0 eg fr wt rk nx nd es pp qq st ch bo tp le sz at_ fa fp nu fm nn (mU gm2 (go2 : Int).toNat (2 * (↑j - ↑i))) (go2 + lU (2 * (↑j - ↑i))))) [0, 1, 2, 3, 4, 5, 6, 7] (by decide) rfl
            refine lv_goto (tgt := 102) hx hb dX6_write_90 (by decide) ?_
            refine lv_iload_n hx hb dX6_write_102 rfl (lv_at hl 3 rfl) ?_
            refine lv_istore_n (lv' := [(2, .int (iZ ↑j)), (0, .ref h), (1, .int (iZ ↑i)), (3, .int (iZ ↑j))]) hx hb dX6_write_103 rfl hl (by decide) rfl (fun ls hl => ?_)
            refine lv_iinc (v := iZ (↑j + 1)) (lv' := [(3, .int (iZ (↑j + 1))), (2, .int (iZ ↑j)), (0, .ref h), (1, .int (iZ ↑i))]) hx hb dX6_write_104 hl (k := 3) rfl (show iZ ↑j + iZ 1 = _ from iZ_add _ _) (by decide) rfl (fun ls hl => ?_)
            refine lv_goto (tgt := 42) hx hb dX6_write_107 (by decide) ?_
            exact ih2 _ _ _ _ (by omega) ⟨(j + 1), ↑j, (mU gm2 (go2 : Int).toNat (2 * (↑j - ↑i))), (go2 + lU (2 * (↑j - ↑i))), rfl, ⟨by omega, (by rw [w1]; show _ = (wV E i j s0).2.1 + lU (cod i j (wV E i j s0).2.2); rw [← j2, ← j3, hcd]), (by rw [w1]; rfl), (by rw [w1]; show BY _ (pU (wV E i j s0).1 (wV E i j s0).2.1.toNat (cod i j (wV E i j s0).2.2)) _; rw [← j2, ← j3, ← hcd]; exact BY_put j4 (by omega) hcr)⟩, hP, hD, hS, lv_sub hl [2, 3, 1, 0] rfl⟩
          · refine z_iconst hx hb dX6_write_72 ?_
            refine lv_iload_n hx hb dX6_write_73 rfl (lv_at hl 1 rfl) ?_
            refine lv_iload_n hx hb dX6_write_74 rfl (lv_at hl 3 rfl) ?_
            refine z_isub hx hb dX6_write_75 ?_
            refine z_imul hx hb dX6_write_76 ?_
            refine z_iconst hx hb dX6_write_77 ?_
            refine z_isub hx hb dX6_write_78 ?_
            refine lv_goto (tgt := 87) hx hb dX6_write_79 (by decide) ?_
            have hcd : ((2 * (↑i - ↑j)) - 1) = cod i j la := by unfold cod; (repeat' split) <;> omega
            have hcr := cod_r (u := i) (m := j) (N := N) (la := la) (by omega) (by omega) m4 (by omega) (by omega)
            rw [← hcd] at hcr
            have w1 : wV E i (j + 1) s0 = wP i j (wV E i j s0) := by rw [wV, if_pos n3]
            refine rw_v (wr := []) (va_runV (As := [.int (iZ ((2 * (↑i - ↑j)) - 1))]) (rest := []) ⟨hx, hb, hml, hown, hts⟩ (c_X6_put l D cI cJ cB cZ h a1 a2 a3 a4 a5 a6 a7 0 eg fr wt rk nx nd es pp qq st ch bo tp le sz at_ fa fp nu fm nn gm2 go2 ((2 * (↑i - ↑j)) - 1) (by omega) (by omega) _) (cwV 1 hts gX6_write_X6_put rfl rfl rfl (by decide +kernel) ⟨Nat.le_of_ble_eq_true rfl, Nat.le_of_ble_eq_true rfl⟩) (pre1V hE hP hD 0 rfl rfl) rfl rfl hl.1 rfl (lv_room (Nat.le_of_ble_eq_true rfl)) dX6_write_87 ⟨Nat.le_of_ble_eq_true rfl, Nat.le_of_ble_eq_true rfl⟩) hP hD hS hA [0, 1, 2, 3, 4, 5, 6, 7] [] rfl rfl (by decide) (by decide) (fun u_24 H locs hr_23 hP hD hS => ?_)
            obtain rfl := hr_23
            have hP := hP.sub (ws' := (wMo cI cJ cB cZ h a1 a2 a3 a4 a5 a6 a7 0 eg fr wt rk nx nd es pp qq st ch bo tp le sz at_ fa fp nu fm nn (mU gm2 (go2 : Int).toNat ((2 * (↑i - ↑j)) - 1)) (go2 + lU ((2 * (↑i - ↑j)) - 1)))) [0, 1, 2, 3, 4, 5, 6, 7] rfl
            have hD := hD.sub (ws' := (wMo cI cJ cB cZ h a1 a2 a3 a4 a5 a6 a7 0 eg fr wt rk nx nd es pp qq st ch bo tp le sz at_ fa fp nu fm nn (mU gm2 (go2 : Int).toNat ((2 * (↑i - ↑j)) - 1)) (go2 + lU ((2 * (↑i - ↑j)) - 1)))) [0, 1, 2, 3, 4, 5, 6, 7] (by decide) rfl
            refine lv_goto (tgt := 102) hx hb dX6_write_90 (by decide) ?_
            refine lv_iload_n hx hb dX6_write_102 rfl (lv_at hl 3 rfl) ?_
            refine lv_istore_n (lv' := [(2, .int (iZ ↑j)), (0, .ref h), (1, .int (iZ ↑i)), (3, .int (iZ ↑j))]) hx hb dX6_write_103 rfl hl (by decide) rfl (fun ls hl => ?_)
            refine lv_iinc (v := iZ (↑j + 1)) (lv' := [(3, .int (iZ (↑j + 1))), (2, .int (iZ ↑j)), (0, .ref h), (1, .int (iZ ↑i))]) hx hb dX6_write_104 hl (k := 3) rfl (show iZ ↑j + iZ 1 = _ from iZ_add _ _) (by decide) rfl (fun ls hl => ?_)
            refine lv_goto (tgt := 42) hx hb dX6_write_107 (by decide) ?_
            exact ih2 _ _ _ _ (by omega) ⟨(j + 1), ↑j, (mU gm2 (go2 : Int).toNat ((2 * (↑i - ↑j)) - 1)), (go2 + lU ((2 * (↑i - ↑j)) - 1)), rfl, ⟨by omega, (by rw [w1]; show _ = (wV E i j s0).2.1 + lU (cod i j (wV E i j s0).2.2); rw [← j2, ← j3, hcd]), (by rw [w1]; rfl), (by rw [w1]; show BY _ (pU (wV E i j s0).1 (wV E i j s0).2.1.toNat (cod i j (wV E i j s0).2.2)) _; rw [← j2, ← j3, ← hcd]; exact BY_put j4 (by omega) hcr)⟩, hP, hD, hS, lv_sub hl [2, 3, 1, 0] rfl⟩
      · have n3 := hq_13
        rw [Int.toNat_natCast, Int.toNat_natCast] at n3
        refine z_if_ne (tgt := 62) hx hb dX6_write_56 (by decide) (by omega) (fun c9 => absurd c9 (by decide)) (fun _ => ?_)
        refine lv_goto (tgt := 104) hx hb dX6_write_59 (by decide) ?_
        refine lv_iinc (v := iZ (↑j + 1)) (lv' := [(3, .int (iZ (↑j + 1))), (0, .ref h), (1, .int (iZ ↑i)), (2, .int (iZ la))]) hx hb dX6_write_104 hl (k := 3) rfl (show iZ ↑j + iZ 1 = _ from iZ_add _ _) (by decide) rfl (fun ls hl => ?_)
        refine lv_goto (tgt := 42) hx hb dX6_write_107 (by decide) ?_
        exact ih2 _ _ _ _ (by omega) ⟨(j + 1), la, gm2, go2, rfl, ⟨by omega, (by rw [wV, if_neg n3]; exact j2), (by rw [wV, if_neg n3]; exact j3), (by rw [wV, if_neg n3]; exact j4)⟩, hP, hD, hS, lv_sub hl [1, 2, 3, 0] rfl⟩
