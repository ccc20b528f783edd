set_option maxHeartbeats 4000000 in
set_option maxRecDepth 100000 in
theorem c_X2_grow (l : Launch) (D : va_G) (cI cJ cB cZ : ClassId) (h a1 a2 a3 : Nat) (f1 f2 f3 : Nat → Int) (n sz wh : Int) (u mo : Int) (hu : 0 ≤ u ∧ u < n) (hn : n ≤ 250) (hm : -1 ≤ mo ∧ mo ≤ 1)  (sz0 : Nat) : Met l yX2_grow wsX2_grow ({ frames := 0, cells := 0, slots := 0, locals := 0 } : Room) (Pre1 D cI cJ cB cZ [.ref h, .int (iZ u), .int (iZ mo)] (wGr cI h a1 a2 a3 f1 f2 f3 n sz wh) sz0) (rwV (S := (Nat → Int) × Int) D (fun U => (∀ j, U.1 j = if u.toNat < j ∧ j < n.toNat + 1 then f1 j + mo else f1 j) ∧ U.2 = sz + mo) (fun u => wGr cI h a1 a2 a3 u.1 f2 f3 n u.2 wh) (va_A (wGr cI h a1 a2 a3 f1 f2 f3 n sz wh) sz0)) 0 0 (va_A (wGr cI h a1 a2 a3 f1 f2 f3 n sz wh) sz0) := by
  refine Met.ofW (cc := cX2_grow) (maxL := 4) (ret := none) (by decide) rfl ?_
  intro p e s m args below meth c s₁ B hml hv
  obtain ⟨rfl, hsz, hP, hE, hD0⟩ := hv
  have hx := B.exec
  have hb := B.bytes
  have hr := B.returns
  have hts := atoms_spec (ws := wsX2_grow) B.pre
  have hown : s.vm.findClass RX2 = some m.cls := findClass_of_methodNamed B.named
  have hlocks := B.notSynchronized
  have hK := hE.1
  subst hsz
  have hD := hD0.self (sz := s.heap.size)
  generalize hAe : va_A (wGr cI h a1 a2 a3 f1 f2 f3 n sz wh) s.heap.size = A at hD ⊢
  have hA : ∀ q : Nat, s.heap.size ≤ q → A q := fun q h => by rw [← hAe]; exact Or.inr h
  have hS : va_S A s.heap s.heap [] := va_S.rf
  have hP : va_P D vwCl (wGr cI h a1 a2 a3 f1 f2 f3 n sz wh) s.heap := hP
  have hi_2 : ∀ w ∈ wsX20, w ∈ wsX2_grow := by decide +kernel
  have hw_1 := hts (.fieldLink RX2 25 "RankHouse$Graph" "size" "I") (by decide +kernel)
  have hw_2 := hts (.fieldLink RX2 21 "RankHouse$Graph" "nodes" "I") (by decide +kernel)
  have hw_3 := hts (.fieldLink RX2 9 "RankHouse$Graph" "first" "[I") (by decide +kernel)
  have hl := lv_entry ([.ref h, .int (iZ u), .int (iZ mo)]) (n := 4) (Nat.le_of_ble_eq_true rfl)
  rw [lg_entry_eq]
  generalize (lg_sl ([.ref h, .int (iZ u), .int (iZ mo)]) ++ List.replicate (4 - (lg_sl ([.ref h, .int (iZ u), .int (iZ mo)])).length) Slot.unset).toArray = ls at hl ⊢
  have hl : lv_has ls 4 [(0, .ref h), (1, .int (iZ u)), (2, .int (iZ mo))] := hl
  refine lv_aload_n hx hb dX2_grow_0 rfl (lv_at hl 0 rfl) ?_
  refine lv_dup hx hb dX2_grow_1 rfl ?_
  refine va_get (v := .int (iZ sz)) (C := RX2) (T := TX2) (N := 6) (ci := 2) hx hb hts hi_2 hown hK hP 0 rfl rfl 4 (by decide) hw_1 (fun _ h9 => h9) rfl dX2_grow_2 ?_
  refine lv_iload_n hx hb dX2_grow_5 rfl (lv_at hl 2 rfl) ?_
  refine z_iadd hx hb dX2_grow_6 ?_
  refine va_put (v := .int (iZ (sz + mo))) (ty := .int) (C := RX2) (T := TX2) (N := 6) (ci := 2) hx hb hts hi_2 tyX2 tyX2_ok nmX2 hown hK hP hD hS 0 rfl rfl 4 (by decide) hw_1 (fun _ h9 => h9) rfl (by decide +kernel) rfl rfl (Nat.le_of_ble_eq_true rfl) dX2_grow_7 (fun H locs hP hD hS => ?_)
  have hP : va_P D vwCl (wGr cI h a1 a2 a3 f1 f2 f3 n (sz + mo) wh) H := hP
  have hD : va_D A (wGr cI h a1 a2 a3 f1 f2 f3 n (sz + mo) wh) := hD
  refine lv_iload_n hx hb dX2_grow_10 rfl (lv_at hl 1 rfl) ?_
  refine z_iconst hx hb dX2_grow_11 ?_
  refine z_iadd hx hb dX2_grow_12 ?_
  refine z_toi (((u.toNat + 1 : Nat) : Int)) (by omega) ?_
  refine lv_istore_n (lv' := [(3, .int (iZ ((u.toNat + 1 : Nat) : Int))), (0, .ref h), (1, .int (iZ u)), (2, .int (iZ mo))]) hx hb dX2_grow_13 rfl hl (by decide) rfl (fun ls hl => ?_)
  refine w_loop (fun kf H locs ls => ∃ (i : Nat), ∃ (g : Nat → Int), kf = n.toNat + 1 - i ∧ (u.toNat < i ∧ i ≤ n.toNat + 1 ∧ ∀ j, g j = if u.toNat < j ∧ j < i then f1 j + mo else f1 j) ∧ va_P D vwCl (wGr cI h a1 a2 a3 g f2 f3 n (sz + mo) wh) H ∧ va_D A (wGr cI h a1 a2 a3 g f2 f3 n (sz + mo) wh) ∧ va_S A s.heap H locs ∧ lv_has ls 4 [(0, .ref h), (1, .int (iZ u)), (2, .int (iZ mo)), (3, .int (iZ ↑i))]) ?_ _ ⟨(u.toNat + 1), f1, rfl, ⟨by omega, by omega, fun j => by rw [if_neg (by omega)]⟩, hP, hD, hS, lv_sub hl [1, 2, 3, 0] rfl⟩
  rintro kf H locs ls ⟨i, g, hk, ⟨i1, i2, i3⟩, hP, hD, hS, hl⟩ ih
  refine lv_iload_n hx hb dX2_grow_14 rfl (lv_at hl 3 rfl) ?_
  refine lv_aload_n hx hb dX2_grow_15 rfl (lv_at hl 0 rfl) ?_
  refine va_get (v := .int (iZ n)) (C := RX2) (T := TX2) (N := 6) (ci := 2) hx hb hts hi_2 hown hK hP 0 rfl rfl 3 (by decide) hw_2 (fun _ h9 => h9) rfl dX2_grow_16 ?_
  refine z_icmp_gt (tgt := 38) hx hb dX2_grow_19 (by decide) (by omega) (by omega) (fun c_1 => ?_) (fun c_1 => ?_)
  · exact rw_vret (g, sz + mo) hx hb hr hlocks hP hD hS ⟨by rw [show n.toNat + 1 = i by omega]; exact i3, rfl⟩ dX2_grow_38
  · refine lv_aload_n hx hb dX2_grow_22 rfl (lv_at hl 0 rfl) ?_
    refine va_get (v := .ref a1) (C := RX2) (T := TX2) (N := 6) (ci := 2) hx hb hts hi_2 hown hK hP 0 rfl rfl 0 (by decide) hw_3 (fun _ h9 => h9) rfl dX2_grow_23 ?_
    refine lv_iload_n hx hb dX2_grow_26 rfl (lv_at hl 3 rfl) ?_
    refine lv_dup2_11 hx hb dX2_grow_27 rfl rfl ?_
    refine z_iald hx hb hK hP 1 0 rfl rfl i (by omega) (by omega) (by omega) dX2_grow_28 ?_
    refine lv_iload_n hx hb dX2_grow_29 rfl (lv_at hl 2 rfl) ?_
    refine z_iadd hx hb dX2_grow_30 ?_
    refine z_iast hx hb hK hP hD hS 1 0 rfl rfl i (by omega) (by omega) (by omega) dX2_grow_31 (fun H locs hP hD hS => ?_)
    have hP : va_P D vwCl (wGr cI h a1 a2 a3 (uZ g i ((g i) + mo)) f2 f3 n (sz + mo) wh) H := hP
    have hD : va_D A (wGr cI h a1 a2 a3 (uZ g i ((g i) + mo)) f2 f3 n (sz + mo) wh) := hD
    refine lv_iinc (v := iZ (↑i + 1)) (lv' := [(3, .int (iZ (↑i + 1))), (0, .ref h), (1, .int (iZ u)), (2, .int (iZ mo))]) hx hb dX2_grow_32 hl (k := 3) rfl (show iZ ↑i + iZ 1 = _ from iZ_add _ _) (by decide) rfl (fun ls hl => ?_)
    refine lv_goto (tgt := 14) hx hb dX2_grow_35 (by decide) ?_
    exact ih _ _ _ _ (by omega) ⟨(i + 1), (uZ g i ((g i) + mo)), rfl, ⟨by omega, by omega, grow_step i1 i3⟩, hP, hD, hS, lv_sub hl [1, 2, 3, 0] rfl⟩
set_option maxHeartbeats 4000000 in
set_option maxRecDepth 100000 in
theorem c_X2_join (l : Launch) (D : va_G) (cI cJ cB cZ : ClassId) (h a1 a2 a3 : Nat) (f1 f2 f3 : Nat → Int) (n sz wh : Int) (N : Nat) (E : Ed) (w : Nat → Nat) (hG : GR N E w f1 f2 f3 n sz wh) (u v : Int) (hu : -2147483648 ≤ u ∧ u < 2147483648) (hv : -2147483648 ≤ v ∧ v < 2147483648) (sz0 : Nat) : Met l yX2_join wsX2_join ({ frames := 2, cells := 0, slots := 0, locals := 46 } : Room) (Pre1 D cI cJ cB cZ [.ref h, .int (iZ u), .int (iZ v)] (wGr cI h a1 a2 a3 f1 f2 f3 n sz wh) sz0) (rwI (S := GT) D (fun z U => (z = 1 ∧ (0 ≤ u ∧ u < n ∧ 0 ≤ v ∧ v < n ∧ sz < 2500 ∧ E u.toNat v.toNat = false) ∧ GRu N (uE E u.toNat v.toNat true) w U) ∨ (z = 0 ∧ ¬ (0 ≤ u ∧ u < n ∧ 0 ≤ v ∧ v < n ∧ sz < 2500 ∧ E u.toNat v.toNat = false) ∧ U = (f1, f2, f3, n, sz, wh))) (fun u => wG cI h a1 a2 a3 u) (va_A (wGr cI h a1 a2 a3 f1 f2 f3 n sz wh) sz0)) 0 0 (va_A (wGr cI h a1 a2 a3 f1 f2 f3 n sz wh) sz0) := by
  refine Met.ofW (cc := cX2_join) (maxL := 4) (ret := (some .boolean)) (by decide) rfl ?_
  intro p e s m args below meth c s₁ B hml hv
  obtain ⟨rfl, hsz, hP, hE, hD0⟩ := hv
  have hx := B.exec
  have hb := B.bytes
  have hr := B.returns
  have hts := atoms_spec (ws := wsX2_join) B.pre
  have hown : s.vm.findClass RX2 = some m.cls := findClass_of_methodNamed B.named
  have hlocks := B.notSynchronized
  have hK := hE.1
  subst hsz
  have hD := hD0.self (sz := s.heap.size)
  generalize hAe : va_A (wGr cI h a1 a2 a3 f1 f2 f3 n sz wh) s.heap.size = A at hD ⊢
  have hA : ∀ q : Nat, s.heap.size ≤ q → A q := fun q h => by rw [← hAe]; exact Or.inr h
  have hS : va_S A s.heap s.heap [] := va_S.rf
  have hP : va_P D vwCl (wGr cI h a1 a2 a3 f1 f2 f3 n sz wh) s.heap := hP
  have hi_2 : ∀ w ∈ wsX20, w ∈ wsX2_join := by decide +kernel
  have hw_1 := hts (.fieldLink RX2 25 "RankHouse$Graph" "size" "I") (by decide +kernel)
  have hw_2 := hts (.fieldLink RX2 15 "RankHouse$Graph" "targets" "[I") (by decide +kernel)
  have hw_3 := hts (.methodLink RX2 50 arraycopyName) (by decide +kernel)
  have hw_4 := hts (.native arraycopyName) (by decide +kernel)
  have hw_5 := hts (.static arraycopyName) (by decide +kernel)
  have hw_6 := hts (.initialized "java/lang/System") (by decide +kernel)
  have hl := lv_entry ([.ref h, .int (iZ u), .int (iZ v)]) (n := 4) (Nat.le_of_ble_eq_true rfl)
  rw [lg_entry_eq]
  generalize (lg_sl ([.ref h, .int (iZ u), .int (iZ v)]) ++ List.replicate (4 - (lg_sl ([.ref h, .int (iZ u), .int (iZ v)])).length) Slot.unset).toArray = ls at hl ⊢
  have hl : lv_has ls 4 [(0, .ref h), (1, .int (iZ u)), (2, .int (iZ v))] := hl
  obtain ⟨g1, g2, g3, g4, g5, g6, g7, g8, g9, g10, g11⟩ := id hG
  refine lv_aload_n hx hb dX2_join_0 rfl (lv_at hl 0 rfl) ?_
  refine lv_iload_n hx hb dX2_join_1 rfl (lv_at hl 1 rfl) ?_
  refine ro_i (va_runV (As := [.int (iZ u)]) (rest := []) ⟨hx, hb, hml, hown, hts⟩ (c_X2_isNode l D cI cJ cB cZ h a1 a2 a3 f1 f2 f3 n sz wh u (by omega) hu) (cwV 1 hts gX2_join_X2_isNode rfl rfl rfl (by decide +kernel) ⟨Nat.le_of_ble_eq_true rfl, Nat.le_of_ble_eq_true rfl⟩) (pre0V hE hP 0 rfl rfl) rfl rfl hl.1 rfl (lv_room (Nat.le_of_ble_eq_true rfl)) dX2_join_2 ⟨Nat.le_of_ble_eq_true rfl, Nat.le_of_ble_eq_true rfl⟩) (fun r_1 hr_2 => ?_)
  rcases hr_2 with ⟨rfl, hq_3⟩ | ⟨rfl, hq_3⟩
  · refine z_if_eq (tgt := 35) hx hb dX2_join_5 (by decide) (by omega) (fun c9 => absurd c9 (by decide)) (fun _ => ?_)
    refine lv_aload_n hx hb dX2_join_8 rfl (lv_at hl 0 rfl) ?_
    refine lv_iload_n hx hb dX2_join_9 rfl (lv_at hl 2 rfl) ?_
    refine ro_i (va_runV (As := [.int (iZ v)]) (rest := []) ⟨hx, hb, hml, hown, hts⟩ (c_X2_isNode l D cI cJ cB cZ h a1 a2 a3 f1 f2 f3 n sz wh v (by omega) (by omega)) (cwV 1 hts gX2_join_X2_isNode rfl rfl rfl (by decide +kernel) ⟨Nat.le_of_ble_eq_true rfl, Nat.le_of_ble_eq_true rfl⟩) (pre0V hE hP 0 rfl rfl) rfl rfl hl.1 rfl (lv_room (Nat.le_of_ble_eq_true rfl)) dX2_join_10 ⟨Nat.le_of_ble_eq_true rfl, Nat.le_of_ble_eq_true rfl⟩) (fun r_4 hr_5 => ?_)
    rcases hr_5 with ⟨rfl, hq_6⟩ | ⟨rfl, hq_6⟩
    · refine z_if_eq (tgt := 35) hx hb dX2_join_13 (by decide) (by omega) (fun c9 => absurd c9 (by decide)) (fun _ => ?_)
      refine lv_aload_n hx hb dX2_join_16 rfl (lv_at hl 0 rfl) ?_
      refine va_get (v := .int (iZ sz)) (C := RX2) (T := TX2) (N := 6) (ci := 2) hx hb hts hi_2 hown hK hP 0 rfl rfl 4 (by decide) hw_1 (fun _ h9 => h9) rfl dX2_join_17 ?_
      refine z_sipush hx hb dX2_join_20 (by decide) ?_
      refine z_icmp_ge (tgt := 35) hx hb dX2_join_23 (by decide) (by omega) (by omega) (fun c_7 => ?_) (fun c_7 => ?_)
      · refine z_iconst hx hb dX2_join_35 ?_
        exact rw_zret (z := 0) (f1, f2, f3, n, sz, wh) hx hb hr hlocks (Or.inl rfl) hP hD hS (Or.inr ⟨rfl, fun hc => by first | omega | exact absurd (hbad.symm.trans hc.2.2.2.2.2) (by decide), rfl⟩) dX2_join_36
      · refine lv_aload_n hx hb dX2_join_26 rfl (lv_at hl 0 rfl) ?_
        refine lv_iload_n hx hb dX2_join_27 rfl (lv_at hl 1 rfl) ?_
        refine lv_iload_n hx hb dX2_join_28 rfl (lv_at hl 2 rfl) ?_
        refine ro_i (va_runV (As := [.int (iZ u), .int (iZ v)]) (rest := []) ⟨hx, hb, hml, hown, hts⟩ (c_X2_joins l D cI cJ cB cZ h a1 a2 a3 f1 f2 f3 n sz wh N E w hG u v hu (by omega)) (cwV 2 hts gX2_join_X2_joins rfl rfl rfl (by decide +kernel) ⟨Nat.le_of_ble_eq_true rfl, Nat.le_of_ble_eq_true rfl⟩) (pre0V hE hP 0 rfl rfl) rfl rfl hl.1 rfl (lv_room (Nat.le_of_ble_eq_true rfl)) dX2_join_29 ⟨Nat.le_of_ble_eq_true rfl, Nat.le_of_ble_eq_true rfl⟩) (fun r_8 hr_9 => ?_)
        rcases hr_9 with ⟨rfl, hq_10⟩ | ⟨rfl, hq_10⟩
        · have hbad := hq_10.2.2.2.2
          refine z_if_eq (tgt := 37) hx hb dX2_join_32 (by decide) (by omega) (fun c9 => absurd c9 (by decide)) (fun _ => ?_)
          refine z_iconst hx hb dX2_join_35 ?_
          exact rw_zret (z := 0) (f1, f2, f3, n, sz, wh) hx hb hr hlocks (Or.inl rfl) hP hD hS (Or.inr ⟨rfl, fun hc => by first | omega | exact absurd (hbad.symm.trans hc.2.2.2.2.2) (by decide), rfl⟩) dX2_join_36
        · have hgood : E u.toNat v.toNat = false := Bool.eq_false_iff.mpr (fun q => hq_10 ⟨by omega, by omega, by omega, by omega, q⟩)
          refine z_if_eq (tgt := 37) hx hb dX2_join_32 (by decide) (by omega) (fun _ => ?_) (fun c9 => absurd c9 (by decide))
          have q4 := fb_ct_mono (E u.toNat) (show v.toNat ≤ N by omega)
          have q5 : fb_ct (E u.toNat) N = dgr E N u.toNat := rfl
          have q3 := fst_le E (show u.toNat < N by omega)
          refine lv_aload_n hx hb dX2_join_37 rfl (lv_at hl 0 rfl) ?_
          refine lv_iload_n hx hb dX2_join_38 rfl (lv_at hl 1 rfl) ?_
          refine lv_iload_n hx hb dX2_join_39 rfl (lv_at hl 2 rfl) ?_
          refine ro_i (va_runV (As := [.int (iZ u), .int (iZ v)]) (rest := []) ⟨hx, hb, hml, hown, hts⟩ (c_X2_spot l D cI cJ cB cZ h a1 a2 a3 f1 f2 f3 n sz wh N E w hG u v (by omega) (by omega)) (cwV 2 hts gX2_join_X2_spot rfl rfl rfl (by decide +kernel) ⟨Nat.le_of_ble_eq_true rfl, Nat.le_of_ble_eq_true rfl⟩) (pre0V hE hP 0 rfl rfl) rfl rfl hl.1 rfl (lv_room (Nat.le_of_ble_eq_true rfl)) dX2_join_40 ⟨Nat.le_of_ble_eq_true rfl, Nat.le_of_ble_eq_true rfl⟩) (fun r_11 hr_12 => ?_)
          subst hr_12
          refine lv_istore_n (lv' := [(3, .int (iZ ((fst E N u.toNat + fb_ct (E u.toNat) v.toNat : Nat) : Int))), (0, .ref h), (1, .int (iZ u)), (2, .int (iZ v))]) hx hb dX2_join_43 rfl hl (by decide) rfl (fun ls hl => ?_)
          refine lv_aload_n hx hb dX2_join_44 rfl (lv_at hl 1 rfl) ?_
          refine va_get (v := .ref a2) (C := RX2) (T := TX2) (N := 6) (ci := 2) hx hb hts hi_2 hown hK hP 0 rfl rfl 1 (by decide) hw_2 (fun _ h9 => h9) rfl dX2_join_45 ?_
          refine lv_iload_n hx hb dX2_join_48 rfl (lv_at hl 0 rfl) ?_
          refine lv_aload_n hx hb dX2_join_49 rfl (lv_at hl 1 rfl) ?_
          refine va_get (v := .ref a2) (C := RX2) (T := TX2) (N := 6) (ci := 2) hx hb hts hi_2 hown hK hP 0 rfl rfl 1 (by decide) hw_2 (fun _ h9 => h9) rfl dX2_join_50 ?_
          refine lv_iload_n hx hb dX2_join_53 rfl (lv_at hl 0 rfl) ?_
          refine z_iconst hx hb dX2_join_54 ?_
          refine z_iadd hx hb dX2_join_55 ?_
          refine lv_aload_n hx hb dX2_join_56 rfl (lv_at hl 1 rfl) ?_
          refine va_get (v := .int (iZ sz)) (C := RX2) (T := TX2) (N := 6) (ci := 2) hx hb hts hi_2 hown hK hP 0 rfl rfl 4 (by decide) hw_1 (fun _ h9 => h9) rfl dX2_join_57 ?_
          refine lv_iload_n hx hb dX2_join_60 rfl (lv_at hl 0 rfl) ?_
          refine z_isub hx hb dX2_join_61 ?_
          refine z_copyi hx hb (hml.trans hl.1.symm) hown hw_3 hw_4 hw_5 hw_6 hK hP hD hS 2 0 rfl rfl (fst E N u.toNat + fb_ct (E u.toNat) v.toNat) (fst E N u.toNat + fb_ct (E u.toNat) v.toNat + 1) (fst E N N - (fst E N u.toNat + fb_ct (E u.toNat) v.toNat)) (by omega) (by omega) (by omega) (by omega) (by omega) (by omega) (Nat.le_of_ble_eq_true rfl) (Nat.le_of_ble_eq_true rfl) dX2_join_62 (fun H locs hP hD hS => ?_)
          have hP : va_P D vwCl (wGr cI h a1 a2 a3 f1 (cpZ f2 (fst E N u.toNat + fb_ct (E u.toNat) v.toNat) (fst E N u.toNat + fb_ct (E u.toNat) v.toNat + 1) (fst E N N - (fst E N u.toNat + fb_ct (E u.toNat) v.toNat))) f3 n sz wh) H := hP
          have hD : va_D A (wGr cI h a1 a2 a3 f1 (cpZ f2 (fst E N u.toNat + fb_ct (E u.toNat) v.toNat) (fst E N u.toNat + fb_ct (E u.toNat) v.toNat + 1) (fst E N N - (fst E N u.toNat + fb_ct (E u.toNat) v.toNat))) f3 n sz wh) := hD
          refine lv_aload_n hx hb dX2_join_65 rfl (lv_at hl 1 rfl) ?_
          refine va_get (v := .ref a2) (C := RX2) (T := TX2) (N := 6) (ci := 2) hx hb hts hi_2 hown hK hP 0 rfl rfl 1 (by decide) hw_2 (fun _ h9 => h9) rfl dX2_join_66 ?_
          refine lv_iload_n hx hb dX2_join_69 rfl (lv_at hl 0 rfl) ?_
          refine lv_iload_n hx hb dX2_join_70 rfl (lv_at hl 3 rfl) ?_
          refine z_iast hx hb hK hP hD hS 2 0 rfl rfl (fst E N u.toNat + fb_ct (E u.toNat) v.toNat) (by omega) (by omega) (by omega) dX2_join_71 (fun H locs hP hD hS => ?_)
          have hP : va_P D vwCl (wGr cI h a1 a2 a3 f1 (uZ (cpZ f2 (fst E N u.toNat + fb_ct (E u.toNat) v.toNat) (fst E N u.toNat + fb_ct (E u.toNat) v.toNat + 1) (fst E N N - (fst E N u.toNat + fb_ct (E u.toNat) v.toNat))) (fst E N u.toNat + fb_ct (E u.toNat) v.toNat) v) f3 n sz wh) H := hP
          have hD : va_D A (wGr cI h a1 a2 a3 f1 (uZ (cpZ f2 (fst E N u.toNat + fb_ct (E u.toNat) v.toNat) (fst E N u.toNat + fb_ct (E u.toNat) v.toNat + 1) (fst E N N - (fst E N u.toNat + fb_ct (E u.toNat) v.toNat))) (fst E N u.toNat + fb_ct (E u.toNat) v.toNat) v) f3 n sz wh) := hD
          refine lv_aload_n hx hb dX2_join_72 rfl (lv_at hl 1 rfl) ?_
          refine lv_iload_n hx hb dX2_join_73 rfl (lv_at hl 2 rfl) ?_
          refine z_iconst hx hb dX2_join_74 ?_
          refine rw_v (wr := []) (va_runV (As := [.int (iZ u), .int (iZ 1)]) (rest := []) ⟨hx, hb, hml, hown, hts⟩ (c_X2_grow l D cI cJ cB cZ h a1 a2 a3 f1 (uZ (cpZ f2 (fst E N u.toNat + fb_ct (E u.toNat) v.toNat) (fst E N u.toNat + fb_ct (E u.toNat) v.toNat + 1) (fst E N N - (fst E N u.toNat + fb_ct (E u.toNat) v.toNat))) (fst E N u.toNat + fb_ct (E u.toNat) v.toNat) v) f3 n sz wh u 1 (by omega) (by omega) (by omega) _) (cwV 2 hts gX2_join_X2_grow rfl rfl rfl (by decide +kernel) ⟨Nat.le_of_ble_eq_true rfl, Nat.le_of_ble_eq_true rfl⟩) (pre1V hE hP hD 0 rfl rfl) rfl rfl hl.1 rfl (lv_room (Nat.le_of_ble_eq_true rfl)) dX2_join_75 ⟨Nat.le_of_ble_eq_true rfl, Nat.le_of_ble_eq_true rfl⟩) hP hD hS hA [0, 1, 2, 3] [] rfl rfl (by decide) (by decide) (fun u_15 H locs hr_14 hP hD hS => ?_)
          have hP := hP.sub (ws' := (wGr cI h a1 a2 a3 u_15.1 (uZ (cpZ f2 (fst E N u.toNat + fb_ct (E u.toNat) v.toNat) (fst E N u.toNat + fb_ct (E u.toNat) v.toNat + 1) (fst E N N - (fst E N u.toNat + fb_ct (E u.toNat) v.toNat))) (fst E N u.toNat + fb_ct (E u.toNat) v.toNat) v) f3 n u_15.2 wh)) [0, 1, 2, 3] rfl
          have hD := hD.sub (ws' := (wGr cI h a1 a2 a3 u_15.1 (uZ (cpZ f2 (fst E N u.toNat + fb_ct (E u.toNat) v.toNat) (fst E N u.toNat + fb_ct (E u.toNat) v.toNat + 1) (fst E N N - (fst E N u.toNat + fb_ct (E u.toNat) v.toNat))) (fst E N u.toNat + fb_ct (E u.toNat) v.toNat) v) f3 n u_15.2 wh)) [0, 1, 2, 3] (by decide) rfl
          obtain ⟨k1, k2⟩ := hr_14
          refine z_iconst hx hb dX2_join_78 ?_
          exact rw_zret (z := 1) (u_15.1, uZ (cpZ f2 (fst E N u.toNat + fb_ct (E u.toNat) v.toNat) (fst E N u.toNat + fb_ct (E u.toNat) v.toNat + 1) (fst E N N - (fst E N u.toNat + fb_ct (E u.toNat) v.toNat))) (fst E N u.toNat + fb_ct (E u.toNat) v.toNat) v, f3, n, u_15.2, wh) hx hb hr hlocks (Or.inr rfl) hP hD hS (Or.inl ⟨rfl, ⟨by omega, by omega, by omega, by omega, by omega, hgood⟩, GR_join hG (by omega) (by omega) hgood (by omega) (f1_grow g3 k1) (by rw [show ((v.toNat : Nat) : Int) = v by omega]; exact cp_join (by omega)) k2⟩) dX2_join_79
    · refine z_if_eq (tgt := 35) hx hb dX2_join_13 (by decide) (by omega) (fun _ => ?_) (fun c9 => absurd c9 (by decide))
      refine z_iconst hx hb dX2_join_35 ?_
      exact rw_zret (z := 0) (f1, f2, f3, n, sz, wh) hx hb hr hlocks (Or.inl rfl) hP hD hS (Or.inr ⟨rfl, fun hc => by first | omega | exact absurd (hbad.symm.trans hc.2.2.2.2.2) (by decide), rfl⟩) dX2_join_36
  · refine z_if_eq (tgt := 35) hx hb dX2_join_5 (by decide) (by omega) (fun _ => ?_) (fun c9 => absurd c9 (by decide))
    refine z_iconst hx hb dX2_join_35 ?_
    exact rw_zret (z := 0) (f1, f2, f3, n, sz, wh) hx hb hr hlocks (Or.inl rfl) hP hD hS (Or.inr ⟨rfl, fun hc => by first | omega | exact absurd (hbad.symm.trans hc.2.2.2.2.2) (by decide), rfl⟩) dX2_join_36
set_option maxHeartbeats 4000000 in
set_option maxRecDepth 100000 in
theorem c_X2_part (l : Launch) (D : va_G) (cI cJ cB cZ : ClassId) (h a1 a2 a3 : Nat) (f1 f2 f3 : Nat → Int) (n sz wh : Int) (N : Nat) (E : Ed) (w : Nat → Nat) (hG : GR N E w f1 f2 f3 n sz wh) (u v : Int) (hu : -2147483648 ≤ u ∧ u < 2147483648) (hv : -2147483648 ≤ v ∧ v < 2147483648) (sz0 : Nat) : Met l yX2_part wsX2_part ({ frames := 2, cells := 0, slots := 0, locals := 46 } : Room) (Pre1 D cI cJ cB cZ [.ref h, .int (iZ u), .int (iZ v)] (wGr cI h a1 a2 a3 f1 f2 f3 n sz wh) sz0) (rwI (S := GT) D (fun z U => (z = 1 ∧ (0 ≤ u ∧ u < n ∧ 0 ≤ v ∧ v < n ∧ E u.toNat v.toNat = true) ∧ GRu N (uE E u.toNat v.toNat false) w U) ∨ (z = 0 ∧ ¬ (0 ≤ u ∧ u < n ∧ 0 ≤ v ∧ v < n ∧ E u.toNat v.toNat = true) ∧ U = (f1, f2, f3, n, sz, wh))) (fun u => wG cI h a1 a2 a3 u) (va_A (wGr cI h a1 a2 a3 f1 f2 f3 n sz wh) sz0)) 0 0 (va_A (wGr cI h a1 a2 a3 f1 f2 f3 n sz wh) sz0) := by
  refine Met.ofW (cc := cX2_part) (maxL := 4) (ret := (some .boolean)) (by decide) rfl ?_
  intro p e s m args below meth c s₁ B hml hv
  obtain ⟨rfl, hsz, hP, hE, hD0⟩ := hv
  have hx := B.exec
  have hb := B.bytes
  have hr := B.returns
  have hts := atoms_spec (ws := wsX2_part) B.pre
  have hown : s.vm.findClass RX2 = some m.cls := findClass_of_methodNamed B.named
  have hlocks := B.notSynchronized
  have hK := hE.1
  subst hsz
  have hD := hD0.self (sz := s.heap.size)
  generalize hAe : va_A (wGr cI h a1 a2 a3 f1 f2 f3 n sz wh) s.heap.size = A at hD ⊢
  have hA : ∀ q : Nat, s.heap.size ≤ q → A q := fun q h => by rw [← hAe]; exact Or.inr h
  have hS : va_S A s.heap s.heap [] := va_S.rf
  have hP : va_P D vwCl (wGr cI h a1 a2 a3 f1 f2 f3 n sz wh) s.heap := hP
  have hi_2 : ∀ w ∈ wsX20, w ∈ wsX2_part := by decide +kernel
  have hw_1 := hts (.fieldLink RX2 15 "RankHouse$Graph" "targets" "[I") (by decide +kernel)
  have hw_2 := hts (.fieldLink RX2 25 "RankHouse$Graph" "size" "I") (by decide +kernel)
  have hw_3 := hts (.methodLink RX2 50 arraycopyName) (by decide +kernel)
  have hw_4 := hts (.native arraycopyName) (by decide +kernel)
  have hw_5 := hts (.static arraycopyName) (by decide +kernel)
  have hw_6 := hts (.initialized "java/lang/System") (by decide +kernel)
  have hl := lv_entry ([.ref h, .int (iZ u), .int (iZ v)]) (n := 4) (Nat.le_of_ble_eq_true rfl)
  rw [lg_entry_eq]
  generalize (lg_sl ([.ref h, .int (iZ u), .int (iZ v)]) ++ List.replicate (4 - (lg_sl ([.ref h, .int (iZ u), .int (iZ v)])).length) Slot.unset).toArray = ls at hl ⊢
  have hl : lv_has ls 4 [(0, .ref h), (1, .int (iZ u)), (2, .int (iZ v))] := hl
  obtain ⟨g1, g2, g3, g4, g5, g6, g7, g8, g9, g10, g11⟩ := id hG
  refine lv_aload_n hx hb dX2_part_0 rfl (lv_at hl 0 rfl) ?_
  refine lv_iload_n hx hb dX2_part_1 rfl (lv_at hl 1 rfl) ?_
  refine lv_iload_n hx hb dX2_part_2 rfl (lv_at hl 2 rfl) ?_
  refine ro_i (va_runV (As := [.int (iZ u), .int (iZ v)]) (rest := []) ⟨hx, hb, hml, hown, hts⟩ (c_X2_joins l D cI cJ cB cZ h a1 a2 a3 f1 f2 f3 n sz wh N E w hG u v hu (by omega)) (cwV 2 hts gX2_part_X2_joins rfl rfl rfl (by decide +kernel) ⟨Nat.le_of_ble_eq_true rfl, Nat.le_of_ble_eq_true rfl⟩) (pre0V hE hP 0 rfl rfl) rfl rfl hl.1 rfl (lv_room (Nat.le_of_ble_eq_true rfl)) dX2_part_3 ⟨Nat.le_of_ble_eq_true rfl, Nat.le_of_ble_eq_true rfl⟩) (fun r_1 hr_2 => ?_)
  rcases hr_2 with ⟨rfl, hq_3⟩ | ⟨rfl, hq_3⟩
  · have hj := hq_3
    have q6 := row_in hj.2.2.2.2 (show v.toNat < N by omega)
    refine z_if_ne (tgt := 11) hx hb dX2_part_6 (by decide) (by omega) (fun _ => ?_) (fun c9 => absurd c9 (by decide))
    have q4 := fb_ct_mono (E u.toNat) (show v.toNat ≤ N by omega)
    have q5 : fb_ct (E u.toNat) N = dgr E N u.toNat := rfl
    have q3 := fst_le E (show u.toNat < N by omega)
    refine lv_aload_n hx hb dX2_part_11 rfl (lv_at hl 0 rfl) ?_
    refine lv_iload_n hx hb dX2_part_12 rfl (lv_at hl 1 rfl) ?_
    refine lv_iload_n hx hb dX2_part_13 rfl (lv_at hl 2 rfl) ?_
    refine ro_i (va_runV (As := [.int (iZ u), .int (iZ v)]) (rest := []) ⟨hx, hb, hml, hown, hts⟩ (c_X2_spot l D cI cJ cB cZ h a1 a2 a3 f1 f2 f3 n sz wh N E w hG u v (by omega) (by omega)) (cwV 2 hts gX2_part_X2_spot rfl rfl rfl (by decide +kernel) ⟨Nat.le_of_ble_eq_true rfl, Nat.le_of_ble_eq_true rfl⟩) (pre0V hE hP 0 rfl rfl) rfl rfl hl.1 rfl (lv_room (Nat.le_of_ble_eq_true rfl)) dX2_part_14 ⟨Nat.le_of_ble_eq_true rfl, Nat.le_of_ble_eq_true rfl⟩) (fun r_4 hr_5 => ?_)
    subst hr_5
    refine lv_istore_n (lv' := [(3, .int (iZ ((fst E N u.toNat + fb_ct (E u.toNat) v.toNat : Nat) : Int))), (0, .ref h), (1, .int (iZ u)), (2, .int (iZ v))]) hx hb dX2_part_17 rfl hl (by decide) rfl (fun ls hl => ?_)
    refine lv_aload_n hx hb dX2_part_18 rfl (lv_at hl 1 rfl) ?_
    refine va_get (v := .ref a2) (C := RX2) (T := TX2) (N := 6) (ci := 2) hx hb hts hi_2 hown hK hP 0 rfl rfl 1 (by decide) hw_1 (fun _ h9 => h9) rfl dX2_part_19 ?_
    refine lv_iload_n hx hb dX2_part_22 rfl (lv_at hl 0 rfl) ?_
    refine z_iconst hx hb dX2_part_23 ?_
    refine z_iadd hx hb dX2_part_24 ?_
    refine lv_aload_n hx hb dX2_part_25 rfl (lv_at hl 1 rfl) ?_
    refine va_get (v := .ref a2) (C := RX2) (T := TX2) (N := 6) (ci := 2) hx hb hts hi_2 hown hK hP 0 rfl rfl 1 (by decide) hw_1 (fun _ h9 => h9) rfl dX2_part_26 ?_
    refine lv_iload_n hx hb dX2_part_29 rfl (lv_at hl 0 rfl) ?_
    refine lv_aload_n hx hb dX2_part_30 rfl (lv_at hl 1 rfl) ?_
    refine va_get (v := .int (iZ sz)) (C := RX2) (T := TX2) (N := 6) (ci := 2) hx hb hts hi_2 hown hK hP 0 rfl rfl 4 (by decide) hw_2 (fun _ h9 => h9) rfl dX2_part_31 ?_
    refine lv_iload_n hx hb dX2_part_34 rfl (lv_at hl 0 rfl) ?_
    refine z_isub hx hb dX2_part_35 ?_
    refine z_iconst hx hb dX2_part_36 ?_
    refine z_isub hx hb dX2_part_37 ?_
    refine z_copyi hx hb (hml.trans hl.1.symm) hown hw_3 hw_4 hw_5 hw_6 hK hP hD hS 2 0 rfl rfl (fst E N u.toNat + fb_ct (E u.toNat) v.toNat + 1) (fst E N u.toNat + fb_ct (E u.toNat) v.toNat) (fst E N N - (fst E N u.toNat + fb_ct (E u.toNat) v.toNat) - 1) (by omega) (by omega) (by omega) (by omega) (by omega) (by omega) (Nat.le_of_ble_eq_true rfl) (Nat.le_of_ble_eq_true rfl) dX2_part_38 (fun H locs hP hD hS => ?_)
    have hP : va_P D vwCl (wGr cI h a1 a2 a3 f1 (cpZ f2 (fst E N u.toNat + fb_ct (E u.toNat) v.toNat + 1) (fst E N u.toNat + fb_ct (E u.toNat) v.toNat) (fst E N N - (fst E N u.toNat + fb_ct (E u.toNat) v.toNat) - 1)) f3 n sz wh) H := hP
    have hD : va_D A (wGr cI h a1 a2 a3 f1 (cpZ f2 (fst E N u.toNat + fb_ct (E u.toNat) v.toNat + 1) (fst E N u.toNat + fb_ct (E u.toNat) v.toNat) (fst E N N - (fst E N u.toNat + fb_ct (E u.toNat) v.toNat) - 1)) f3 n sz wh) := hD
    refine lv_aload_n hx hb dX2_part_41 rfl (lv_at hl 1 rfl) ?_
    refine lv_iload_n hx hb dX2_part_42 rfl (lv_at hl 2 rfl) ?_
    refine z_iconst hx hb dX2_part_43 ?_
    refine rw_v (wr := []) (va_runV (As := [.int (iZ u), .int (iZ (-1))]) (rest := []) ⟨hx, hb, hml, hown, hts⟩ (c_X2_grow l D cI cJ cB cZ h a1 a2 a3 f1 (cpZ f2 (fst E N u.toNat + fb_ct (E u.toNat) v.toNat + 1) (fst E N u.toNat + fb_ct (E u.toNat) v.toNat) (fst E N N - (fst E N u.toNat + fb_ct (E u.toNat) v.toNat) - 1)) f3 n sz wh u (-1) (by omega) (by omega) (by omega) _) (cwV 2 hts gX2_part_X2_grow rfl rfl rfl (by decide +kernel) ⟨Nat.le_of_ble_eq_true rfl, Nat.le_of_ble_eq_true rfl⟩) (pre1V hE hP hD 0 rfl rfl) rfl rfl hl.1 rfl (lv_room (Nat.le_of_ble_eq_true rfl)) dX2_part_44 ⟨Nat.le_of_ble_eq_true rfl, Nat.le_of_ble_eq_true rfl⟩) hP hD hS hA [0, 1, 2, 3] [] rfl rfl (by decide) (by decide) (fun u_8 H locs hr_7 hP hD hS => ?_)
    have hP := hP.sub (ws' := (wGr cI h a1 a2 a3 u_8.1 (cpZ f2 (fst E N u.toNat + fb_ct (E u.toNat) v.toNat + 1) (fst E N u.toNat + fb_ct (E u.toNat) v.toNat) (fst E N N - (fst E N u.toNat + fb_ct (E u.toNat) v.toNat) - 1)) f3 n u_8.2 wh)) [0, 1, 2, 3] rfl
    have hD := hD.sub (ws' := (wGr cI h a1 a2 a3 u_8.1 (cpZ f2 (fst E N u.toNat + fb_ct (E u.toNat) v.toNat + 1) (fst E N u.toNat + fb_ct (E u.toNat) v.toNat) (fst E N N - (fst E N u.toNat + fb_ct (E u.toNat) v.toNat) - 1)) f3 n u_8.2 wh)) [0, 1, 2, 3] (by decide) rfl
    obtain ⟨k1, k2⟩ := hr_7
    refine z_iconst hx hb dX2_part_47 ?_
    exact rw_zret (z := 1) (u_8.1, cpZ f2 (fst E N u.toNat + fb_ct (E u.toNat) v.toNat + 1) (fst E N u.toNat + fb_ct (E u.toNat) v.toNat) (fst E N N - (fst E N u.toNat + fb_ct (E u.toNat) v.toNat) - 1), f3, n, u_8.2, wh) hx hb hr hlocks (Or.inr rfl) hP hD hS (Or.inl ⟨rfl, hj, GR_part hG (by omega) (by omega) hj.2.2.2.2 (f1_grow g3 k1) (cp_part (by omega)) k2⟩) dX2_part_48
  · have hj := hq_3
    refine z_if_ne (tgt := 11) hx hb dX2_part_6 (by decide) (by omega) (fun c9 => absurd c9 (by decide)) (fun _ => ?_)
    refine z_iconst hx hb dX2_part_9 ?_
    exact rw_zret (z := 0) (f1, f2, f3, n, sz, wh) hx hb hr hlocks (Or.inl rfl) hP hD hS (Or.inr ⟨rfl, hj, rfl⟩) dX2_part_10
set_option maxHeartbeats 4000000 in
set_option maxRecDepth 100000 in
theorem c_X2_weigh (l : Launch) (D : va_G) (cI cJ cB cZ : ClassId) (h a1 a2 a3 : Nat) (f1 f2 f3 : Nat → Int) (n sz wh : Int) (N : Nat) (E : Ed) (w : Nat → Nat) (hG : GR N E w f1 f2 f3 n sz wh) (u x : Int) (hu : -2147483648 ≤ u ∧ u < 2147483648) (hx0 : -2147483648 ≤ x ∧ x < 2147483648) (sz0 : Nat) : Met l yX2_weigh wsX2_weigh ({ frames := 1, cells := 0, slots := 0, locals := 21 } : Room) (Pre1 D cI cJ cB cZ [.ref h, .int (iZ u), .int (iZ x)] (wGr cI h a1 a2 a3 f1 f2 f3 n sz wh) sz0) (rwI (S := GT) D (fun z U => (z = 1 ∧ (0 ≤ u ∧ u < n ∧ 0 ≤ x ∧ x ≤ 1000 ∧ ¬ wh - f3 u.toNat + x = 0) ∧ GRu N E (fun k => if k = u.toNat then x.toNat else w k) U) ∨ (z = 0 ∧ ¬ (0 ≤ u ∧ u < n ∧ 0 ≤ x ∧ x ≤ 1000 ∧ ¬ wh - f3 u.toNat + x = 0) ∧ U = (f1, f2, f3, n, sz, wh))) (fun u => wG cI h a1 a2 a3 u) (va_A (wGr cI h a1 a2 a3 f1 f2 f3 n sz wh) sz0)) 0 0 (va_A (wGr cI h a1 a2 a3 f1 f2 f3 n sz wh) sz0) := by
  refine Met.ofW (cc := cX2_weigh) (maxL := 3) (ret := (some .boolean)) (by decide) rfl ?_
  intro p e s m args below meth c s₁ B hml hv
  obtain ⟨rfl, hsz, hP, hE, hD0⟩ := hv
  have hx := B.exec
  have hb := B.bytes
  have hr := B.returns
  have hts := atoms_spec (ws := wsX2_weigh) B.pre
  have hown : s.vm.findClass RX2 = some m.cls := findClass_of_methodNamed B.named
  have hlocks := B.notSynchronized
  have hK := hE.1
  subst hsz
  have hD := hD0.self (sz := s.heap.size)
  generalize hAe : va_A (wGr cI h a1 a2 a3 f1 f2 f3 n sz wh) s.heap.size = A at hD ⊢
  have hA : ∀ q : Nat, s.heap.size ≤ q → A q := fun q h => by rw [← hAe]; exact Or.inr h
  have hS : va_S A s.heap s.heap [] := va_S.rf
  have hP : va_P D vwCl (wGr cI h a1 a2 a3 f1 f2 f3 n sz wh) s.heap := hP
  have hi_2 : ∀ w ∈ wsX20, w ∈ wsX2_weigh := by decide +kernel
  have hw_1 := hts (.fieldLink RX2 28 "RankHouse$Graph" "whole" "I") (by decide +kernel)
  have hw_2 := hts (.fieldLink RX2 18 "RankHouse$Graph" "weights" "[I") (by decide +kernel)
  have hl := lv_entry ([.ref h, .int (iZ u), .int (iZ x)]) (n := 3) (Nat.le_of_ble_eq_true rfl)
  rw [lg_entry_eq]
  generalize (lg_sl ([.ref h, .int (iZ u), .int (iZ x)]) ++ List.replicate (3 - (lg_sl ([.ref h, .int (iZ u), .int (iZ x)])).length) Slot.unset).toArray = ls at hl ⊢
  have hl : lv_has ls 3 [(0, .ref h), (1, .int (iZ u)), (2, .int (iZ x))] := hl
  obtain ⟨g1, g2, g3, g4, g5, g6, g7, g8, g9, g10, g11⟩ := id hG
  refine lv_aload_n hx hb dX2_weigh_0 rfl (lv_at hl 0 rfl) ?_
  refine lv_iload_n hx hb dX2_weigh_1 rfl (lv_at hl 1 rfl) ?_
  refine ro_i (va_runV (As := [.int (iZ u)]) (rest := []) ⟨hx, hb, hml, hown, hts⟩ (c_X2_isNode l D cI cJ cB cZ h a1 a2 a3 f1 f2 f3 n sz wh u (by omega) hu) (cwV 1 hts gX2_weigh_X2_isNode rfl rfl rfl (by decide +kernel) ⟨Nat.le_of_ble_eq_true rfl, Nat.le_of_ble_eq_true rfl⟩) (pre0V hE hP 0 rfl rfl) rfl rfl hl.1 rfl (lv_room (Nat.le_of_ble_eq_true rfl)) dX2_weigh_2 ⟨Nat.le_of_ble_eq_true rfl, Nat.le_of_ble_eq_true rfl⟩) (fun r_1 hr_2 => ?_)
  rcases hr_2 with ⟨rfl, hq_3⟩ | ⟨rfl, hq_3⟩
  · refine z_if_eq (tgt := 35) hx hb dX2_weigh_5 (by decide) (by omega) (fun c9 => absurd c9 (by decide)) (fun _ => ?_)
    refine lv_iload_n hx hb dX2_weigh_8 rfl (lv_at hl 2 rfl) ?_
    refine z_if_lt (tgt := 35) hx hb dX2_weigh_9 (by decide) (by omega) (fun c_4 => ?_) (fun c_4 => ?_)
    · refine z_iconst hx hb dX2_weigh_35 ?_
      exact rw_zret (z := 0) (f1, f2, f3, n, sz, wh) hx hb hr hlocks (Or.inl rfl) hP hD hS (Or.inr ⟨rfl, by omega, rfl⟩) dX2_weigh_36
    · refine lv_iload_n hx hb dX2_weigh_12 rfl (lv_at hl 2 rfl) ?_
      refine z_sipush hx hb dX2_weigh_13 (by decide) ?_
      refine z_icmp_gt (tgt := 35) hx hb dX2_weigh_16 (by decide) (by omega) (by omega) (fun c_5 => ?_) (fun c_5 => ?_)
      · refine z_iconst hx hb dX2_weigh_35 ?_
        exact rw_zret (z := 0) (f1, f2, f3, n, sz, wh) hx hb hr hlocks (Or.inl rfl) hP hD hS (Or.inr ⟨rfl, by omega, rfl⟩) dX2_weigh_36
      · have q1 := g8 u.toNat (by omega)
        have q2 := GR_wh hG
        refine lv_aload_n hx hb dX2_weigh_19 rfl (lv_at hl 0 rfl) ?_
        refine va_get (v := .int (iZ wh)) (C := RX2) (T := TX2) (N := 6) (ci := 2) hx hb hts hi_2 hown hK hP 0 rfl rfl 5 (by decide) hw_1 (fun _ h9 => h9) rfl dX2_weigh_20 ?_
        refine lv_aload_n hx hb dX2_weigh_23 rfl (lv_at hl 0 rfl) ?_
        refine va_get (v := .ref a3) (C := RX2) (T := TX2) (N := 6) (ci := 2) hx hb hts hi_2 hown hK hP 0 rfl rfl 2 (by decide) hw_2 (fun _ h9 => h9) rfl dX2_weigh_24 ?_
        refine lv_iload_n hx hb dX2_weigh_27 rfl (lv_at hl 1 rfl) ?_
        refine z_iald hx hb hK hP 3 0 rfl rfl u.toNat (by omega) (by omega) (by omega) dX2_weigh_28 ?_
        refine z_isub hx hb dX2_weigh_29 ?_
        refine lv_iload_n hx hb dX2_weigh_30 rfl (lv_at hl 2 rfl) ?_
        refine z_iadd hx hb dX2_weigh_31 ?_
        refine z_if_ne (tgt := 37) hx hb dX2_weigh_32 (by decide) (by omega) (fun c_6 => ?_) (fun c_6 => ?_)
        · have q1 := g8 u.toNat (by omega)
          refine lv_aload_n hx hb dX2_weigh_37 rfl (lv_at hl 0 rfl) ?_
          refine lv_dup hx hb dX2_weigh_38 rfl ?_
          refine va_get (v := .int (iZ wh)) (C := RX2) (T := TX2) (N := 6) (ci := 2) hx hb hts hi_2 hown hK hP 0 rfl rfl 5 (by decide) hw_1 (fun _ h9 => h9) rfl dX2_weigh_39 ?_
          refine lv_iload_n hx hb dX2_weigh_42 rfl (lv_at hl 2 rfl) ?_
          refine lv_aload_n hx hb dX2_weigh_43 rfl (lv_at hl 0 rfl) ?_
          refine va_get (v := .ref a3) (C := RX2) (T := TX2) (N := 6) (ci := 2) hx hb hts hi_2 hown hK hP 0 rfl rfl 2 (by decide) hw_2 (fun _ h9 => h9) rfl dX2_weigh_44 ?_
          refine lv_iload_n hx hb dX2_weigh_47 rfl (lv_at hl 1 rfl) ?_
          refine z_iald hx hb hK hP 3 0 rfl rfl u.toNat (by omega) (by omega) (by omega) dX2_weigh_48 ?_
          refine z_isub hx hb dX2_weigh_49 ?_
          refine z_iadd hx hb dX2_weigh_50 ?_
          refine va_put (v := .int (iZ (wh + (x - (f3 u.toNat))))) (ty := .int) (C := RX2) (T := TX2) (N := 6) (ci := 2) hx hb hts hi_2 tyX2 tyX2_ok nmX2 hown hK hP hD hS 0 rfl rfl 5 (by decide) hw_1 (fun _ h9 => h9) rfl (by decide +kernel) rfl rfl (Nat.le_of_ble_eq_true rfl) dX2_weigh_51 (fun H locs hP hD hS => ?_)
          have hP : va_P D vwCl (wGr cI h a1 a2 a3 f1 f2 f3 n sz (wh + (x - (f3 u.toNat)))) H := hP
          have hD : va_D A (wGr cI h a1 a2 a3 f1 f2 f3 n sz (wh + (x - (f3 u.toNat)))) := hD
          refine lv_aload_n hx hb dX2_weigh_54 rfl (lv_at hl 0 rfl) ?_
          refine va_get (v := .ref a3) (C := RX2) (T := TX2) (N := 6) (ci := 2) hx hb hts hi_2 hown hK hP 0 rfl rfl 2 (by decide) hw_2 (fun _ h9 => h9) rfl dX2_weigh_55 ?_
          refine lv_iload_n hx hb dX2_weigh_58 rfl (lv_at hl 1 rfl) ?_
          refine lv_iload_n hx hb dX2_weigh_59 rfl (lv_at hl 2 rfl) ?_
          refine z_iast hx hb hK hP hD hS 3 0 rfl rfl u.toNat (by omega) (by omega) (by omega) dX2_weigh_60 (fun H locs hP hD hS => ?_)
          have hP : va_P D vwCl (wGr cI h a1 a2 a3 f1 f2 (uZ f3 u.toNat x) n sz (wh + (x - (f3 u.toNat)))) H := hP
          have hD : va_D A (wGr cI h a1 a2 a3 f1 f2 (uZ f3 u.toNat x) n sz (wh + (x - (f3 u.toNat)))) := hD
          refine z_iconst hx hb dX2_weigh_61 ?_
          exact rw_zret (z := 1) (f1, f2, uZ f3 u.toNat x, n, sz, wh + (x - (f3 u.toNat))) hx hb hr hlocks (Or.inr rfl) hP hD hS (Or.inl ⟨rfl, by omega, by have q9 : ((x.toNat : Nat) : Int) = x := (by omega); have q8 := GR_weigh hG (U := u.toNat) (x := x.toNat) (wh' := wh + (x - f3 u.toNat)) (by omega) (by omega) (by rw [q9]) (by omega); rw [q9] at q8; exact q8⟩) dX2_weigh_62
        · refine z_iconst hx hb dX2_weigh_35 ?_
          exact rw_zret (z := 0) (f1, f2, f3, n, sz, wh) hx hb hr hlocks (Or.inl rfl) hP hD hS (Or.inr ⟨rfl, by omega, rfl⟩) dX2_weigh_36
  · refine z_if_eq (tgt := 35) hx hb dX2_weigh_5 (by decide) (by omega) (fun _ => ?_) (fun c9 => absurd c9 (by decide))
    refine z_iconst hx hb dX2_weigh_35 ?_
    exact rw_zret (z := 0) (f1, f2, f3, n, sz, wh) hx hb hr hlocks (Or.inl rfl) hP hD hS (Or.inr ⟨rfl, by omega, rfl⟩) dX2_weigh_36
set_option maxHeartbeats 4000000 in
set_option maxRecDepth 100000 in
theorem c_X2_reset (l : Launch) (D : va_G) (cI cJ cB cZ : ClassId) (h a1 a2 a3 : Nat) (f1 f2 f3 : Nat → Int) (n sz wh : Int) (x : Int) (hx0 : 1 ≤ x ∧ x ≤ 250) (sz0 : Nat) : Met l yX2_reset wsX2_reset ({ frames := 1, cells := 0, slots := 0, locals := 20 } : Room) (Pre1 D cI cJ cB cZ [.ref h, .int (iZ x)] (wGr cI h a1 a2 a3 f1 f2 f3 n sz wh) sz0) (rwV (S := GT) D (fun U => GRu x.toNat (fun _ _ => false) (fun _ => 1) U) (fun u => wG cI h a1 a2 a3 u) (va_A (wGr cI h a1 a2 a3 f1 f2 f3 n sz wh) sz0)) 0 0 (va_A (wGr cI h a1 a2 a3 f1 f2 f3 n sz wh) sz0) := by
  refine Met.ofW (cc := cX2_reset) (maxL := 3) (ret := none) (by decide) rfl ?_
  intro p e s m args below meth c s₁ B hml hv
  obtain ⟨rfl, hsz, hP, hE, hD0⟩ := hv
  have hx := B.exec
  have hb := B.bytes
  have hr := B.returns
  have hts := atoms_spec (ws := wsX2_reset) B.pre
  have hown : s.vm.findClass RX2 = some m.cls := findClass_of_methodNamed B.named
  have hlocks := B.notSynchronized
  have hK := hE.1
  subst hsz
  have hD := hD0.self (sz := s.heap.size)
  generalize hAe : va_A (wGr cI h a1 a2 a3 f1 f2 f3 n sz wh) s.heap.size = A at hD ⊢
  have hA : ∀ q : Nat, s.heap.size ≤ q → A q := fun q h => by rw [← hAe]; exact Or.inr h
  have hS : va_S A s.heap s.heap [] := va_S.rf
  have hP : va_P D vwCl (wGr cI h a1 a2 a3 f1 f2 f3 n sz wh) s.heap := hP
  have hi_2 : ∀ w ∈ wsX20, w ∈ wsX2_reset := by decide +kernel
  have hw_1 := hts (.fieldLink RX2 21 "RankHouse$Graph" "nodes" "I") (by decide +kernel)
  have hw_2 := hts (.fieldLink RX2 25 "RankHouse$Graph" "size" "I") (by decide +kernel)
  have hw_3 := hts (.fieldLink RX2 28 "RankHouse$Graph" "whole" "I") (by decide +kernel)
  have hw_4 := hts (.fieldLink RX2 9 "RankHouse$Graph" "first" "[I") (by decide +kernel)
  have hw_5 := hts (.fieldLink RX2 18 "RankHouse$Graph" "weights" "[I") (by decide +kernel)
  have hl := lv_entry ([.ref h, .int (iZ x)]) (n := 3) (Nat.le_of_ble_eq_true rfl)
  rw [lg_entry_eq]
  generalize (lg_sl ([.ref h, .int (iZ x)]) ++ List.replicate (3 - (lg_sl ([.ref h, .int (iZ x)])).length) Slot.unset).toArray = ls at hl ⊢
  have hl : lv_has ls 3 [(0, .ref h), (1, .int (iZ x))] := hl
  refine lv_iload_n hx hb dX2_reset_0 rfl (lv_at hl 1 rfl) ?_
  refine ro_i (va_runS (As := [.int (iZ x)]) (rest := []) ⟨hx, hb, hml, hown, hts⟩ (c_X2_canHave l D cI cJ cB cZ x (by omega)) (va_cwS 1 hts gX2_reset_X2_canHave rfl rfl rfl (by decide +kernel) ⟨Nat.le_of_ble_eq_true rfl, Nat.le_of_ble_eq_true rfl⟩) (pre0S hE (hP.sub (ws' := []) [] rfl)) rfl rfl hl.1 rfl (lv_room (Nat.le_of_ble_eq_true rfl)) dX2_reset_1 ⟨Nat.le_of_ble_eq_true rfl, Nat.le_of_ble_eq_true rfl⟩) (fun r_1 hr_2 => ?_)
  rcases hr_2 with ⟨rfl, hq_3⟩ | ⟨rfl, hq_3⟩
  · refine z_if_ne (tgt := 8) hx hb dX2_reset_4 (by decide) (by omega) (fun _ => ?_) (fun c9 => absurd c9 (by decide))
    refine lv_aload_n hx hb dX2_reset_8 rfl (lv_at hl 0 rfl) ?_
    refine lv_iload_n hx hb dX2_reset_9 rfl (lv_at hl 1 rfl) ?_
    refine va_put (v := .int (iZ x)) (ty := .int) (C := RX2) (T := TX2) (N := 6) (ci := 2) hx hb hts hi_2 tyX2 tyX2_ok nmX2 hown hK hP hD hS 0 rfl rfl 3 (by decide) hw_1 (fun _ h9 => h9) rfl (by decide +kernel) rfl rfl (Nat.le_of_ble_eq_true rfl) dX2_reset_10 (fun H locs hP hD hS => ?_)
    have hP : va_P D vwCl (wGr cI h a1 a2 a3 f1 f2 f3 x sz wh) H := hP
    have hD : va_D A (wGr cI h a1 a2 a3 f1 f2 f3 x sz wh) := hD
    refine lv_aload_n hx hb dX2_reset_13 rfl (lv_at hl 0 rfl) ?_
    refine z_iconst hx hb dX2_reset_14 ?_
    refine va_put (v := .int (iZ 0)) (ty := .int) (C := RX2) (T := TX2) (N := 6) (ci := 2) hx hb hts hi_2 tyX2 tyX2_ok nmX2 hown hK hP hD hS 0 rfl rfl 4 (by decide) hw_2 (fun _ h9 => h9) rfl (by decide +kernel) rfl rfl (Nat.le_of_ble_eq_true rfl) dX2_reset_15 (fun H locs hP hD hS => ?_)
    have hP : va_P D vwCl (wGr cI h a1 a2 a3 f1 f2 f3 x 0 wh) H := hP
    have hD : va_D A (wGr cI h a1 a2 a3 f1 f2 f3 x 0 wh) := hD
    refine lv_aload_n hx hb dX2_reset_18 rfl (lv_at hl 0 rfl) ?_
    refine lv_iload_n hx hb dX2_reset_19 rfl (lv_at hl 1 rfl) ?_
    refine va_put (v := .int (iZ x)) (ty := .int) (C := RX2) (T := TX2) (N := 6) (ci := 2) hx hb hts hi_2 tyX2 tyX2_ok nmX2 hown hK hP hD hS 0 rfl rfl 5 (by decide) hw_3 (fun _ h9 => h9) rfl (by decide +kernel) rfl rfl (Nat.le_of_ble_eq_true rfl) dX2_reset_20 (fun H locs hP hD hS => ?_)
    have hP : va_P D vwCl (wGr cI h a1 a2 a3 f1 f2 f3 x 0 x) H := hP
    have hD : va_D A (wGr cI h a1 a2 a3 f1 f2 f3 x 0 x) := hD
    refine z_iconst hx hb dX2_reset_23 ?_
    refine lv_istore_n (lv' := [(2, .int (iZ 0)), (0, .ref h), (1, .int (iZ x))]) hx hb dX2_reset_24 rfl hl (by decide) rfl (fun ls hl => ?_)
    refine w_loop (fun kf H locs ls => ∃ (i : Nat), ∃ (g1 g3 : Nat → Int), kf = x.toNat - i ∧ (i ≤ x.toNat ∧ (∀ j, j < i → g1 j = 0) ∧ (∀ j, j < i → g3 j = 1)) ∧ va_P D vwCl (wGr cI h a1 a2 a3 g1 f2 g3 x 0 x) H ∧ va_D A (wGr cI h a1 a2 a3 g1 f2 g3 x 0 x) ∧ va_S A s.heap H locs ∧ lv_has ls 3 [(0, .ref h), (1, .int (iZ x)), (2, .int (iZ ↑i))]) ?_ _ ⟨0, f1, f3, rfl, ⟨by omega, fun j hj => absurd hj (Nat.not_lt_zero j), fun j hj => absurd hj (Nat.not_lt_zero j)⟩, hP, hD, hS, lv_sub hl [1, 2, 0] rfl⟩
    rintro kf H locs ls ⟨i, g1, g3, hk, ⟨i1, i2, i3⟩, hP, hD, hS, hl⟩ ih
    refine lv_iload_n hx hb dX2_reset_25 rfl (lv_at hl 2 rfl) ?_
    refine lv_iload_n hx hb dX2_reset_26 rfl (lv_at hl 1 rfl) ?_
    refine z_icmp_ge (tgt := 50) hx hb dX2_reset_27 (by decide) (by omega) (by omega) (fun c_4 => ?_) (fun c_4 => ?_)
    · refine lv_aload_n hx hb dX2_reset_50 rfl (lv_at hl 0 rfl) ?_
      refine va_get (v := .ref a1) (C := RX2) (T := TX2) (N := 6) (ci := 2) hx hb hts hi_2 hown hK hP 0 rfl rfl 0 (by decide) hw_4 (fun _ h9 => h9) rfl dX2_reset_51 ?_
      refine lv_iload_n hx hb dX2_reset_54 rfl (lv_at hl 1 rfl) ?_
      refine z_iconst hx hb dX2_reset_55 ?_
      refine z_iast hx hb hK hP hD hS 1 0 rfl rfl x.toNat (by omega) (by omega) (by omega) dX2_reset_56 (fun H locs hP hD hS => ?_)
      have hP : va_P D vwCl (wGr cI h a1 a2 a3 (uZ g1 x.toNat 0) f2 g3 x 0 x) H := hP
      have hD : va_D A (wGr cI h a1 a2 a3 (uZ g1 x.toNat 0) f2 g3 x 0 x) := hD
      exact rw_vret (uZ g1 x.toNat 0, f2, g3, x, 0, x) hx hb hr hlocks hP hD hS (by have q9 : ((x.toNat : Nat) : Int) = x := (by omega); have q8 := GR_reset (f2 := f2) (show 1 ≤ x.toNat by omega) (by omega) (uZ_all (show ∀ j, j < x.toNat → g1 j = 0 from fun j hj => i2 j (by omega))) (fun j hj => i3 j (by omega)); rw [q9] at q8; exact q8) dX2_reset_57
    · refine lv_aload_n hx hb dX2_reset_30 rfl (lv_at hl 0 rfl) ?_
      refine va_get (v := .ref a3) (C := RX2) (T := TX2) (N := 6) (ci := 2) hx hb hts hi_2 hown hK hP 0 rfl rfl 2 (by decide) hw_5 (fun _ h9 => h9) rfl dX2_reset_31 ?_
      refine lv_iload_n hx hb dX2_reset_34 rfl (lv_at hl 2 rfl) ?_
      refine z_iconst hx hb dX2_reset_35 ?_
      refine z_iast hx hb hK hP hD hS 3 0 rfl rfl i (by omega) (by omega) (by omega) dX2_reset_36 (fun H locs hP hD hS => ?_)
      have hP : va_P D vwCl (wGr cI h a1 a2 a3 g1 f2 (uZ g3 i 1) x 0 x) H := hP
      have hD : va_D A (wGr cI h a1 a2 a3 g1 f2 (uZ g3 i 1) x 0 x) := hD
      refine lv_aload_n hx hb dX2_reset_37 rfl (lv_at hl 0 rfl) ?_
      refine va_get (v := .ref a1) (C := RX2) (T := TX2) (N := 6) (ci := 2) hx hb hts hi_2 hown hK hP 0 rfl rfl 0 (by decide) hw_4 (fun _ h9 => h9) rfl dX2_reset_38 ?_
      refine lv_iload_n hx hb dX2_reset_41 rfl (lv_at hl 2 rfl) ?_
      refine z_iconst hx hb dX2_reset_42 ?_
      refine z_iast hx hb hK hP hD hS 1 0 rfl rfl i (by omega) (by omega) (by omega) dX2_reset_43 (fun H locs hP hD hS => ?_)
      have hP : va_P D vwCl (wGr cI h a1 a2 a3 (uZ g1 i 0) f2 (uZ g3 i 1) x 0 x) H := hP
      have hD : va_D A (wGr cI h a1 a2 a3 (uZ g1 i 0) f2 (uZ g3 i 1) x 0 x) := hD
      refine lv_iinc (v := iZ (↑i + 1)) (lv' := [(2, .int (iZ (↑i + 1))), (0, .ref h), (1, .int (iZ x))]) hx hb dX2_reset_44 hl (k := 2) rfl (show iZ ↑i + iZ 1 = _ from iZ_add _ _) (by decide) rfl (fun ls hl => ?_)
      refine lv_goto (tgt := 25) hx hb dX2_reset_47 (by decide) ?_
      exact ih _ _ _ _ (by omega) ⟨(i + 1), (uZ g1 i 0), (uZ g3 i 1), rfl, ⟨by omega, reset_step (f := f1) i2, reset_step (f := f1) i3⟩, hP, hD, hS, lv_sub hl [1, 2, 0] rfl⟩
  · exact absurd hx0 hq_3
