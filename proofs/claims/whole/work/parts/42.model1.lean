set_option maxHeartbeats 4000000 in
set_option maxRecDepth 100000 in
theorem c_X6_thrown (l : Launch) (D : va_G) (cI cJ cB cZ : ClassId) (h a1 a2 a3 a4 a5 a6 a7 : Nat) (thr : Int) (eg fr wt rk nx : Nat → Int) (nd es pp qq st ch bo : Int) (tp : Nat → Int) (le sz at_ fa fp nu fm nn : Int) (ou : Nat → Int) (om : Int)  : Met l yX6_thrown wsX6_thrown ({ frames := 0, cells := 0, slots := 0, locals := 0 } : Room) (Pre0 D cI cJ cB cZ [.ref h] (wMo cI cJ cB cZ h a1 a2 a3 a4 a5 a6 a7 thr eg fr wt rk nx nd es pp qq st ch bo tp le sz at_ fa fp nu fm nn ou om)) (roI (fun z => z = thr)) 0 0 (fun _ => False) := by
  refine Met.ofW (cc := cX6_thrown) (maxL := 1) (ret := (some .int)) (by decide) rfl ?_
  intro p e s m args below meth c s₁ B hml hv
  obtain ⟨rfl, hP, hE⟩ := hv
  have hx := B.exec
  have hb := B.bytes
  have hr := B.returns
  have hts := atoms_spec (ws := wsX6_thrown) B.pre
  have hown : s.vm.findClass RX6 = some m.cls := findClass_of_methodNamed B.named
  have hlocks := B.notSynchronized
  have hK := hE.1
  have hi_6 : ∀ w ∈ wsX60, w ∈ wsX6_thrown := by decide +kernel
  have hw_1 := hts (.fieldLink RX6 1 "RankHouseModel" "thrown" "I") (by decide +kernel)
  have hl := lv_entry ([.ref h]) (n := 1) (Nat.le_of_ble_eq_true rfl)
  rw [lg_entry_eq]
  generalize (lg_sl ([.ref h]) ++ List.replicate (1 - (lg_sl ([.ref h])).length) Slot.unset).toArray = ls at hl ⊢
  have hl : lv_has ls 1 [(0, .ref h)] := hl
  refine lv_aload_n hx hb dX6_thrown_0 rfl (lv_at hl 0 rfl) ?_
  refine va_get (v := .int (iZ thr)) (C := RX6) (T := TX6) (N := 24) (ci := 6) hx hb hts hi_6 hown hK hP 0 rfl rfl 0 (by decide) hw_1 (fun _ h9 => h9) rfl dX6_thrown_1 ?_
  exact ro_iret (z := thr) hx hb hr hlocks rfl dX6_thrown_4
set_option maxHeartbeats 4000000 in
set_option maxRecDepth 100000 in
theorem c_X6_throwsIf (l : Launch) (D : va_G) (cI cJ cB cZ : ClassId) (h a1 a2 a3 a4 a5 a6 a7 : Nat) (thr : Int) (eg fr wt rk nx : Nat → Int) (nd es pp qq st ch bo : Int) (tp : Nat → Int) (le sz at_ fa fp nu fm nn : Int) (ou : Nat → Int) (om : Int) (b : Nat) (hb0 : b ≤ 1)  (sz0 : Nat) : Met l yX6_throwsIf wsX6_throwsIf ({ frames := 0, cells := 0, slots := 0, locals := 0 } : Room) (Pre1 D cI cJ cB cZ [.ref h, .int (iZ ((b : Nat) : Int))] (wMo cI cJ cB cZ h a1 a2 a3 a4 a5 a6 a7 thr eg fr wt rk nx nd es pp qq st ch bo tp le sz at_ fa fp nu fm nn ou om) sz0) (rwI (S := Int) D (fun z U => z = (b : Int) ∧ U = (b : Int)) (fun u => wMo cI cJ cB cZ h a1 a2 a3 a4 a5 a6 a7 u eg fr wt rk nx nd es pp qq st ch bo tp le sz at_ fa fp nu fm nn ou om) (va_A (wMo cI cJ cB cZ h a1 a2 a3 a4 a5 a6 a7 thr eg fr wt rk nx nd es pp qq st ch bo tp le sz at_ fa fp nu fm nn ou om) sz0)) 0 0 (va_A (wMo cI cJ cB cZ h a1 a2 a3 a4 a5 a6 a7 thr eg fr wt rk nx nd es pp qq st ch bo tp le sz at_ fa fp nu fm nn ou om) sz0) := by
  refine Met.ofW (cc := cX6_throwsIf) (maxL := 2) (ret := (some .boolean)) (by decide) rfl ?_
  intro p e s m args below meth c s₁ B hml hv
  obtain ⟨rfl, hsz, hP, hE, hD0⟩ := hv
  have hx := B.exec
  have hb := B.bytes
  have hr := B.returns
  have hts := atoms_spec (ws := wsX6_throwsIf) B.pre
  have hown : s.vm.findClass RX6 = some m.cls := findClass_of_methodNamed B.named
  have hlocks := B.notSynchronized
  have hK := hE.1
  subst hsz
  have hD := hD0.self (sz := s.heap.size)
  generalize hAe : va_A (wMo cI cJ cB cZ h a1 a2 a3 a4 a5 a6 a7 thr eg fr wt rk nx nd es pp qq st ch bo tp le sz at_ fa fp nu fm nn ou om) s.heap.size = A at hD ⊢
  have hA : ∀ q : Nat, s.heap.size ≤ q → A q := fun q h => by rw [← hAe]; exact Or.inr h
  have hS : va_S A s.heap s.heap [] := va_S.rf
  have hP : va_P D vwCl (wMo cI cJ cB cZ h a1 a2 a3 a4 a5 a6 a7 thr eg fr wt rk nx nd es pp qq st ch bo tp le sz at_ fa fp nu fm nn ou om) s.heap := hP
  have hi_6 : ∀ w ∈ wsX60, w ∈ wsX6_throwsIf := by decide +kernel
  have hw_1 := hts (.fieldLink RX6 1 "RankHouseModel" "thrown" "I") (by decide +kernel)
  have hl := lv_entry ([.ref h, .int (iZ ((b : Nat) : Int))]) (n := 2) (Nat.le_of_ble_eq_true rfl)
  rw [lg_entry_eq]
  generalize (lg_sl ([.ref h, .int (iZ ((b : Nat) : Int))]) ++ List.replicate (2 - (lg_sl ([.ref h, .int (iZ ((b : Nat) : Int))])).length) Slot.unset).toArray = ls at hl ⊢
  have hl : lv_has ls 2 [(0, .ref h), (1, .int (iZ ((b : Nat) : Int)))] := hl
  refine lv_aload_n hx hb dX6_throwsIf_0 rfl (lv_at hl 0 rfl) ?_
  refine lv_iload_n hx hb dX6_throwsIf_1 rfl (lv_at hl 1 rfl) ?_
  refine z_if_eq (tgt := 9) hx hb dX6_throwsIf_2 (by decide) (by omega) (fun c_1 => ?_) (fun c_1 => ?_)
  · refine z_iconst hx hb dX6_throwsIf_9 ?_
    refine va_put (v := .int (iZ 0)) (ty := .int) (C := RX6) (T := TX6) (N := 24) (ci := 6) hx hb hts hi_6 tyX6 tyX6_ok nmX6 hown hK hP hD hS 0 rfl rfl 0 (by decide) hw_1 (fun _ h9 => h9) rfl (by decide +kernel) rfl rfl (Nat.le_of_ble_eq_true rfl) dX6_throwsIf_10 (fun H locs hP hD hS => ?_)
    have hP : va_P D vwCl (wMo cI cJ cB cZ h a1 a2 a3 a4 a5 a6 a7 0 eg fr wt rk nx nd es pp qq st ch bo tp le sz at_ fa fp nu fm nn ou om) H := hP
    have hD : va_D A (wMo cI cJ cB cZ h a1 a2 a3 a4 a5 a6 a7 0 eg fr wt rk nx nd es pp qq st ch bo tp le sz at_ fa fp nu fm nn ou om) := hD
    refine lv_iload_n hx hb dX6_throwsIf_13 rfl (lv_at hl 1 rfl) ?_
    exact rw_zret (z := ((b : Nat) : Int)) 0 hx hb hr hlocks (by omega) hP hD hS ⟨rfl, by omega⟩ dX6_throwsIf_14
  · refine z_iconst hx hb dX6_throwsIf_5 ?_
    refine lv_goto (tgt := 10) hx hb dX6_throwsIf_6 (by decide) ?_
    refine va_put (v := .int (iZ 1)) (ty := .int) (C := RX6) (T := TX6) (N := 24) (ci := 6) hx hb hts hi_6 tyX6 tyX6_ok nmX6 hown hK hP hD hS 0 rfl rfl 0 (by decide) hw_1 (fun _ h9 => h9) rfl (by decide +kernel) rfl rfl (Nat.le_of_ble_eq_true rfl) dX6_throwsIf_10 (fun H locs hP hD hS => ?_)
    have hP : va_P D vwCl (wMo cI cJ cB cZ h a1 a2 a3 a4 a5 a6 a7 1 eg fr wt rk nx nd es pp qq st ch bo tp le sz at_ fa fp nu fm nn ou om) H := hP
    have hD : va_D A (wMo cI cJ cB cZ h a1 a2 a3 a4 a5 a6 a7 1 eg fr wt rk nx nd es pp qq st ch bo tp le sz at_ fa fp nu fm nn ou om) := hD
    refine lv_iload_n hx hb dX6_throwsIf_13 rfl (lv_at hl 1 rfl) ?_
    exact rw_zret (z := ((b : Nat) : Int)) 1 hx hb hr hlocks (by omega) hP hD hS ⟨rfl, by omega⟩ dX6_throwsIf_14
set_option maxHeartbeats 4000000 in
set_option maxRecDepth 100000 in
theorem c_X6_no (l : Launch) (D : va_G) (cI cJ cB cZ : ClassId) (h a1 a2 a3 a4 a5 a6 a7 : Nat) (thr : Int) (eg fr wt rk nx : Nat → Int) (nd es pp qq st ch bo : Int) (tp : Nat → Int) (le sz at_ fa fp nu fm nn : Int) (ou : Nat → Int) (om : Int) (u : Int) (ru : -2147483648 ≤ u ∧ u < 2147483648) (N : Nat) (hN : N ≤ 250) (hn : nd = (N : Int))  : Met l yX6_no wsX6_no ({ frames := 0, cells := 0, slots := 0, locals := 0 } : Room) (Pre0 D cI cJ cB cZ [.ref h, .int (iZ u)] (wMo cI cJ cB cZ h a1 a2 a3 a4 a5 a6 a7 thr eg fr wt rk nx nd es pp qq st ch bo tp le sz at_ fa fp nu fm nn ou om)) (roI (fun z => (z = 1 ∧ ¬ (0 ≤ u ∧ u < (N : Int))) ∨ (z = 0 ∧ (0 ≤ u ∧ u < (N : Int))))) 0 0 (fun _ => False) := by
  refine Met.ofW (cc := cX6_no) (maxL := 2) (ret := (some .boolean)) (by decide) rfl ?_
  intro p e s m args below meth c s₁ B hml hv
  obtain ⟨rfl, hP, hE⟩ := hv
  have hx := B.exec
  have hb := B.bytes
  have hr := B.returns
  have hts := atoms_spec (ws := wsX6_no) B.pre
  have hown : s.vm.findClass RX6 = some m.cls := findClass_of_methodNamed B.named
  have hlocks := B.notSynchronized
  have hK := hE.1
  have hi_6 : ∀ w ∈ wsX60, w ∈ wsX6_no := by decide +kernel
  have hw_1 := hts (.fieldLink RX6 32 "RankHouseModel" "nodes" "I") (by decide +kernel)
  have hl := lv_entry ([.ref h, .int (iZ u)]) (n := 2) (Nat.le_of_ble_eq_true rfl)
  rw [lg_entry_eq]
  generalize (lg_sl ([.ref h, .int (iZ u)]) ++ List.replicate (2 - (lg_sl ([.ref h, .int (iZ u)])).length) Slot.unset).toArray = ls at hl ⊢
  have hl : lv_has ls 2 [(0, .ref h), (1, .int (iZ u))] := hl
  refine lv_iload_n hx hb dX6_no_0 rfl (lv_at hl 1 rfl) ?_
  refine z_if_lt (tgt := 12) hx hb dX6_no_1 (by decide) (by omega) (fun c_1 => ?_) (fun c_1 => ?_)
  · refine z_iconst hx hb dX6_no_12 ?_
    refine lv_goto (tgt := 17) hx hb dX6_no_13 (by decide) ?_
    exact ro_zret (z := 1) hx hb hr hlocks (Or.inr rfl) (by omega) dX6_no_17
  · refine lv_iload_n hx hb dX6_no_4 rfl (lv_at hl 1 rfl) ?_
    refine lv_aload_n hx hb dX6_no_5 rfl (lv_at hl 0 rfl) ?_
    refine va_get (v := .int (iZ nd)) (C := RX6) (T := TX6) (N := 24) (ci := 6) hx hb hts hi_6 hown hK hP 0 rfl rfl 6 (by decide) hw_1 (fun _ h9 => h9) rfl dX6_no_6 ?_
    refine z_icmp_lt (tgt := 16) hx hb dX6_no_9 (by decide) (by omega) (by omega) (fun c_2 => ?_) (fun c_2 => ?_)
    · refine z_iconst hx hb dX6_no_16 ?_
      exact ro_zret (z := 0) hx hb hr hlocks (Or.inl rfl) (by omega) dX6_no_17
    · refine z_iconst hx hb dX6_no_12 ?_
      refine lv_goto (tgt := 17) hx hb dX6_no_13 (by decide) ?_
      exact ro_zret (z := 1) hx hb hr hlocks (Or.inr rfl) (by omega) dX6_no_17
set_option maxHeartbeats 4000000 in
set_option maxRecDepth 100000 in
theorem c_X6_goes (l : Launch) (D : va_G) (cI cJ cB cZ : ClassId) (h a1 a2 a3 a4 a5 a6 a7 : Nat) (thr : Int) (eg fr wt rk nx : Nat → Int) (nd es pp qq st ch bo : Int) (tp : Nat → Int) (le sz at_ fa fp nu fm nn : Int) (ou : Nat → Int) (om : Int) (u v : Int) (hu : 0 ≤ u ∧ u < 250) (hv0 : 0 ≤ v ∧ v < 250) (E : Ed) (m1 : ME E eg)  : Met l yX6_goes wsX6_goes ({ frames := 0, cells := 0, slots := 0, locals := 0 } : Room) (Pre0 D cI cJ cB cZ [.ref h, .int (iZ u), .int (iZ v)] (wMo cI cJ cB cZ h a1 a2 a3 a4 a5 a6 a7 thr eg fr wt rk nx nd es pp qq st ch bo tp le sz at_ fa fp nu fm nn ou om)) (roI (fun z => (z = 1 ∧ E u.toNat v.toNat = true) ∨ (z = 0 ∧ ¬ E u.toNat v.toNat = true))) 0 0 (fun _ => False) := by
  refine Met.ofW (cc := cX6_goes) (maxL := 3) (ret := (some .boolean)) (by decide) rfl ?_
  intro p e s m args below meth c s₁ B hml hv
  obtain ⟨rfl, hP, hE⟩ := hv
  have hx := B.exec
  have hb := B.bytes
  have hr := B.returns
  have hts := atoms_spec (ws := wsX6_goes) B.pre
  have hown : s.vm.findClass RX6 = some m.cls := findClass_of_methodNamed B.named
  have hlocks := B.notSynchronized
  have hK := hE.1
  have hi_6 : ∀ w ∈ wsX60, w ∈ wsX6_goes := by decide +kernel
  have hw_1 := hts (.fieldLink RX6 14 "RankHouseModel" "edge" "[Z") (by decide +kernel)
  have hl := lv_entry ([.ref h, .int (iZ u), .int (iZ v)]) (n := 3) (Nat.le_of_ble_eq_true rfl)
  rw [lg_entry_eq]
  generalize (lg_sl ([.ref h, .int (iZ u), .int (iZ v)]) ++ List.replicate (3 - (lg_sl ([.ref h, .int (iZ u), .int (iZ v)])).length) Slot.unset).toArray = ls at hl ⊢
  have hl : lv_has ls 3 [(0, .ref h), (1, .int (iZ u)), (2, .int (iZ v))] := hl
  have q1 := m1 u.toNat v.toNat (by omega) (by omega)
  refine lv_aload_n hx hb dX6_goes_0 rfl (lv_at hl 0 rfl) ?_
  refine va_get (v := .ref a1) (C := RX6) (T := TX6) (N := 24) (ci := 6) hx hb hts hi_6 hown hK hP 0 rfl rfl 1 (by decide) hw_1 (fun _ h9 => h9) rfl dX6_goes_1 ?_
  refine z_sipush hx hb dX6_goes_4 (by decide) ?_
  refine lv_iload_n hx hb dX6_goes_7 rfl (lv_at hl 1 rfl) ?_
  refine z_imul hx hb dX6_goes_8 ?_
  refine lv_iload_n hx hb dX6_goes_9 rfl (lv_at hl 2 rfl) ?_
  refine z_iadd hx hb dX6_goes_10 ?_
  refine z_zald hx hb hK hP 1 3 rfl rfl (250 * u.toNat + v.toNat) (by omega) (by omega) (by omega) dX6_goes_11 ?_
  exact ro_zret (z := eg (250 * u.toNat + v.toNat)) hx hb hr hlocks (by rw [q1]; split <;> omega) (by rw [q1]; by_cases q : E u.toNat v.toNat = true; (rw [if_pos q]; exact Or.inl ⟨rfl, q⟩); (rw [if_neg q]; exact Or.inr ⟨rfl, q⟩)) dX6_goes_12
set_option maxHeartbeats 4000000 in
set_option maxRecDepth 100000 in
theorem c_X6_many0 (l : Launch) (D : va_G) (cI cJ cB cZ : ClassId) (h a1 a2 a3 a4 a5 a6 a7 : Nat) (thr : Int) (eg fr wt rk nx : Nat → Int) (nd es pp qq st ch bo : Int) (tp : Nat → Int) (le sz at_ fa fp nu fm nn : Int) (ou : Nat → Int) (om : Int) (u : Int) (N : Nat) (E : Ed) (w : Nat → Nat) (hM : MG N E w eg wt nd es) (hu : 0 ≤ u ∧ u < 250)  : Met l yX6_many wsX6_many ({ frames := 1, cells := 0, slots := 0, locals := 22 } : Room) (Pre0 D cI cJ cB cZ [.ref h, .int (iZ u), .int (iZ 0)] (wMo cI cJ cB cZ h a1 a2 a3 a4 a5 a6 a7 thr eg fr wt rk nx nd es pp qq st ch bo tp le sz at_ fa fp nu fm nn ou om)) (roI (fun z => z = ((fb_ct (E u.toNat) N : Nat) : Int))) 0 0 (fun _ => False) := by
  refine Met.ofW (cc := cX6_many) (maxL := 5) (ret := (some .int)) (by decide) rfl ?_
  intro p e s m args below meth c s₁ B hml hv
  obtain ⟨rfl, hP, hE⟩ := hv
  have hx := B.exec
  have hb := B.bytes
  have hr := B.returns
  have hts := atoms_spec (ws := wsX6_many) B.pre
  have hown : s.vm.findClass RX6 = some m.cls := findClass_of_methodNamed B.named
  have hlocks := B.notSynchronized
  have hK := hE.1
  have hi_6 : ∀ w ∈ wsX60, w ∈ wsX6_many := by decide +kernel
  have hw_1 := hts (.fieldLink RX6 32 "RankHouseModel" "nodes" "I") (by decide +kernel)
  have hl := lv_entry ([.ref h, .int (iZ u), .int (iZ 0)]) (n := 5) (Nat.le_of_ble_eq_true rfl)
  rw [lg_entry_eq]
  generalize (lg_sl ([.ref h, .int (iZ u), .int (iZ 0)]) ++ List.replicate (5 - (lg_sl ([.ref h, .int (iZ u), .int (iZ 0)])).length) Slot.unset).toArray = ls at hl ⊢
  have hl : lv_has ls 5 [(0, .ref h), (1, .int (iZ u)), (2, .int (iZ 0))] := hl
  obtain ⟨m1, m2, m3, m4, m5, m6, m7, m8, m9⟩ := id hM
  refine z_iconst hx hb dX6_many_0 ?_
  refine lv_istore_n (lv' := [(3, .int (iZ 0)), (0, .ref h), (1, .int (iZ u)), (2, .int (iZ 0))]) hx hb dX6_many_1 rfl hl (by decide) rfl (fun ls hl => ?_)
  refine z_iconst hx hb dX6_many_2 ?_
  refine lv_istore (lv' := [(4, .int (iZ 0)), (3, .int (iZ 0)), (0, .ref h), (1, .int (iZ u)), (2, .int (iZ 0))]) hx hb dX6_many_3 hl (by decide) rfl (fun ls hl => ?_)
  refine w_loop0 (fun kf ls => ∃ (i : Nat), ∃ (y : Int), kf = N - i ∧ (i ≤ N ∧ y = ((fb_ct (E u.toNat) i : Nat) : Int)) ∧ lv_has ls 5 [(0, .ref h), (1, .int (iZ u)), (2, .int (iZ 0)), (3, .int (iZ y)), (4, .int (iZ ↑i))]) ?_ _ ⟨0, 0, rfl, ⟨by omega, rfl⟩, lv_sub hl [2, 3, 4, 1, 0] rfl⟩
  rintro kf ls ⟨i, y, hk, hinv, hl⟩ ih
  refine lv_iload hx hb dX6_many_5 (lv_at hl 4 rfl) ?_
  refine lv_aload_n hx hb dX6_many_7 rfl (lv_at hl 0 rfl) ?_
  refine va_get (v := .int (iZ nd)) (C := RX6) (T := TX6) (N := 24) (ci := 6) hx hb hts hi_6 hown hK hP 0 rfl rfl 6 (by decide) hw_1 (fun _ h9 => h9) rfl dX6_many_8 ?_
  refine z_icmp_ge (tgt := 55) hx hb dX6_many_11 (by decide) (by omega) (by omega) (fun c_1 => ?_) (fun c_1 => ?_)
  · refine lv_iload_n hx hb dX6_many_55 rfl (lv_at hl 3 rfl) ?_
    exact ro_iret (z := y) hx hb hr hlocks (by rw [show i = N by omega] at hinv; exact hinv.2) dX6_many_56
  · refine lv_iload_n hx hb dX6_many_14 rfl (lv_at hl 3 rfl) ?_
    refine lv_iload_n hx hb dX6_many_15 rfl (lv_at hl 2 rfl) ?_
    refine z_if_ne (tgt := 32) hx hb dX6_many_16 (by decide) (by omega) (fun c9 => absurd c9 (by decide)) (fun _ => ?_)
    refine lv_aload_n hx hb dX6_many_19 rfl (lv_at hl 0 rfl) ?_
    refine lv_iload_n hx hb dX6_many_20 rfl (lv_at hl 1 rfl) ?_
    refine lv_iload hx hb dX6_many_21 (lv_at hl 4 rfl) ?_
    refine ro_i (va_runV (As := [.int (iZ u), .int (iZ ↑i)]) (rest := [.int (iZ y)]) ⟨hx, hb, hml, hown, hts⟩ (c_X6_goes l D cI cJ cB cZ h a1 a2 a3 a4 a5 a6 a7 thr eg fr wt rk nx nd es pp qq st ch bo tp le sz at_ fa fp nu fm nn ou om (u) (↑i) (by omega) (by omega) E m1) (cwV 2 hts gX6_many_X6_goes rfl rfl rfl (by decide +kernel) ⟨Nat.le_of_ble_eq_true rfl, Nat.le_of_ble_eq_true rfl⟩) (pre0V hE hP 0 rfl rfl) rfl rfl hl.1 rfl (lv_room (Nat.le_of_ble_eq_true rfl)) dX6_many_23 ⟨Nat.le_of_ble_eq_true rfl, Nat.le_of_ble_eq_true rfl⟩) (fun r_2 hr_3 => ?_)
    rcases hr_3 with ⟨rfl, hq_4⟩ | ⟨rfl, hq_4⟩
    · have q9 : E u.toNat i = true := by have q8 := hq_4; rw [Int.toNat_natCast] at q8; exact q8
      have q7 := ct_yes (p := (E u.toNat)) (i := i) q9
      refine z_if_eq (tgt := 46) hx hb dX6_many_26 (by decide) (by omega) (fun c9 => absurd c9 (by decide)) (fun _ => ?_)
      refine lv_goto (tgt := 42) hx hb dX6_many_29 (by decide) ?_
      refine z_iconst hx hb dX6_many_42 ?_
      refine lv_goto (tgt := 47) hx hb dX6_many_43 (by decide) ?_
      refine z_iadd hx hb dX6_many_47 ?_
      refine lv_istore_n (lv' := [(3, .int (iZ (y + 1))), (0, .ref h), (1, .int (iZ u)), (2, .int (iZ 0)), (4, .int (iZ ↑i))]) hx hb dX6_many_48 rfl hl (by decide) rfl (fun ls hl => ?_)
      refine lv_iinc (v := iZ (↑i + 1)) (lv' := [(4, .int (iZ (↑i + 1))), (3, .int (iZ (y + 1))), (0, .ref h), (1, .int (iZ u)), (2, .int (iZ 0))]) hx hb dX6_many_49 hl (k := 4) rfl (show iZ ↑i + iZ 1 = _ from iZ_add _ _) (by decide) rfl (fun ls hl => ?_)
      refine lv_goto (tgt := 5) hx hb dX6_many_52 (by decide) ?_
      exact ih _ _ (by omega) ⟨(i + 1), (y + 1), rfl, (by omega), lv_sub hl [2, 3, 4, 1, 0] rfl⟩
    · have q9 : ¬ E u.toNat i = true := by have q8 := hq_4; rw [Int.toNat_natCast] at q8; exact q8
      have q7 := ct_no (p := (E u.toNat)) (i := i) q9
      refine z_if_eq (tgt := 46) hx hb dX6_many_26 (by decide) (by omega) (fun _ => ?_) (fun c9 => absurd c9 (by decide))
      refine z_iconst hx hb dX6_many_46 ?_
      refine z_iadd hx hb dX6_many_47 ?_
      refine lv_istore_n (lv' := [(3, .int (iZ (y + 0))), (0, .ref h), (1, .int (iZ u)), (2, .int (iZ 0)), (4, .int (iZ ↑i))]) hx hb dX6_many_48 rfl hl (by decide) rfl (fun ls hl => ?_)
      refine lv_iinc (v := iZ (↑i + 1)) (lv' := [(4, .int (iZ (↑i + 1))), (3, .int (iZ (y + 0))), (0, .ref h), (1, .int (iZ u)), (2, .int (iZ 0))]) hx hb dX6_many_49 hl (k := 4) rfl (show iZ ↑i + iZ 1 = _ from iZ_add _ _) (by decide) rfl (fun ls hl => ?_)
      refine lv_goto (tgt := 5) hx hb dX6_many_52 (by decide) ?_
      exact ih _ _ (by omega) ⟨(i + 1), (y + 0), rfl, (by omega), lv_sub hl [2, 3, 4, 1, 0] rfl⟩
set_option maxHeartbeats 4000000 in
set_option maxRecDepth 100000 in
theorem c_X6_many1 (l : Launch) (D : va_G) (cI cJ cB cZ : ClassId) (h a1 a2 a3 a4 a5 a6 a7 : Nat) (thr : Int) (eg fr wt rk nx : Nat → Int) (nd es pp qq st ch bo : Int) (tp : Nat → Int) (le sz at_ fa fp nu fm nn : Int) (ou : Nat → Int) (om : Int) (u : Int) (N : Nat) (E : Ed) (w : Nat → Nat) (hM : MG N E w eg wt nd es) (hu : 0 ≤ u ∧ u < 250)  : Met l yX6_many wsX6_many ({ frames := 1, cells := 0, slots := 0, locals := 22 } : Room) (Pre0 D cI cJ cB cZ [.ref h, .int (iZ u), .int (iZ 1)] (wMo cI cJ cB cZ h a1 a2 a3 a4 a5 a6 a7 thr eg fr wt rk nx nd es pp qq st ch bo tp le sz at_ fa fp nu fm nn ou om)) (roI (fun z => z = ((fb_ct (fun a => E a u.toNat) N : Nat) : Int))) 0 0 (fun _ => False) := by
  refine Met.ofW (cc := cX6_many) (maxL := 5) (ret := (some .int)) (by decide) rfl ?_
  intro p e s m args below meth c s₁ B hml hv
  obtain ⟨rfl, hP, hE⟩ := hv
  have hx := B.exec
  have hb := B.bytes
  have hr := B.returns
  have hts := atoms_spec (ws := wsX6_many) B.pre
  have hown : s.vm.findClass RX6 = some m.cls := findClass_of_methodNamed B.named
  have hlocks := B.notSynchronized
  have hK := hE.1
  have hi_6 : ∀ w ∈ wsX60, w ∈ wsX6_many := by decide +kernel
  have hw_1 := hts (.fieldLink RX6 32 "RankHouseModel" "nodes" "I") (by decide +kernel)
  have hl := lv_entry ([.ref h, .int (iZ u), .int (iZ 1)]) (n := 5) (Nat.le_of_ble_eq_true rfl)
  rw [lg_entry_eq]
  generalize (lg_sl ([.ref h, .int (iZ u), .int (iZ 1)]) ++ List.replicate (5 - (lg_sl ([.ref h, .int (iZ u), .int (iZ 1)])).length) Slot.unset).toArray = ls at hl ⊢
  have hl : lv_has ls 5 [(0, .ref h), (1, .int (iZ u)), (2, .int (iZ 1))] := hl
  obtain ⟨m1, m2, m3, m4, m5, m6, m7, m8, m9⟩ := id hM
  refine z_iconst hx hb dX6_many_0 ?_
  refine lv_istore_n (lv' := [(3, .int (iZ 0)), (0, .ref h), (1, .int (iZ u)), (2, .int (iZ 1))]) hx hb dX6_many_1 rfl hl (by decide) rfl (fun ls hl => ?_)
  refine z_iconst hx hb dX6_many_2 ?_
  refine lv_istore (lv' := [(4, .int (iZ 0)), (3, .int (iZ 0)), (0, .ref h), (1, .int (iZ u)), (2, .int (iZ 1))]) hx hb dX6_many_3 hl (by decide) rfl (fun ls hl => ?_)
  refine w_loop0 (fun kf ls => ∃ (i : Nat), ∃ (y : Int), kf = N - i ∧ (i ≤ N ∧ y = ((fb_ct (fun a => E a u.toNat) i : Nat) : Int)) ∧ lv_has ls 5 [(0, .ref h), (1, .int (iZ u)), (2, .int (iZ 1)), (3, .int (iZ y)), (4, .int (iZ ↑i))]) ?_ _ ⟨0, 0, rfl, ⟨by omega, rfl⟩, lv_sub hl [2, 3, 4, 1, 0] rfl⟩
  rintro kf ls ⟨i, y, hk, hinv, hl⟩ ih
  refine lv_iload hx hb dX6_many_5 (lv_at hl 4 rfl) ?_
  refine lv_aload_n hx hb dX6_many_7 rfl (lv_at hl 0 rfl) ?_
  refine va_get (v := .int (iZ nd)) (C := RX6) (T := TX6) (N := 24) (ci := 6) hx hb hts hi_6 hown hK hP 0 rfl rfl 6 (by decide) hw_1 (fun _ h9 => h9) rfl dX6_many_8 ?_
  refine z_icmp_ge (tgt := 55) hx hb dX6_many_11 (by decide) (by omega) (by omega) (fun c_1 => ?_) (fun c_1 => ?_)
  · refine lv_iload_n hx hb dX6_many_55 rfl (lv_at hl 3 rfl) ?_
    exact ro_iret (z := y) hx hb hr hlocks (by rw [show i = N by omega] at hinv; exact hinv.2) dX6_many_56
  · refine lv_iload_n hx hb dX6_many_14 rfl (lv_at hl 3 rfl) ?_
    refine lv_iload_n hx hb dX6_many_15 rfl (lv_at hl 2 rfl) ?_
    refine z_if_ne (tgt := 32) hx hb dX6_many_16 (by decide) (by omega) (fun _ => ?_) (fun c9 => absurd c9 (by decide))
    refine lv_aload_n hx hb dX6_many_32 rfl (lv_at hl 0 rfl) ?_
    refine lv_iload hx hb dX6_many_33 (lv_at hl 4 rfl) ?_
    refine lv_iload_n hx hb dX6_many_35 rfl (lv_at hl 1 rfl) ?_
    refine ro_i (va_runV (As := [.int (iZ ↑i), .int (iZ u)]) (rest := [.int (iZ y)]) ⟨hx, hb, hml, hown, hts⟩ (c_X6_goes l D cI cJ cB cZ h a1 a2 a3 a4 a5 a6 a7 thr eg fr wt rk nx nd es pp qq st ch bo tp le sz at_ fa fp nu fm nn ou om (↑i) (u) (by omega) (by omega) E m1) (cwV 2 hts gX6_many_X6_goes rfl rfl rfl (by decide +kernel) ⟨Nat.le_of_ble_eq_true rfl, Nat.le_of_ble_eq_true rfl⟩) (pre0V hE hP 0 rfl rfl) rfl rfl hl.1 rfl (lv_room (Nat.le_of_ble_eq_true rfl)) dX6_many_36 ⟨Nat.le_of_ble_eq_true rfl, Nat.le_of_ble_eq_true rfl⟩) (fun r_2 hr_3 => ?_)
    rcases hr_3 with ⟨rfl, hq_4⟩ | ⟨rfl, hq_4⟩
    · have q9 : E i u.toNat = true := by have q8 := hq_4; rw [Int.toNat_natCast] at q8; exact q8
      have q7 := ct_yes (p := (fun a => E a u.toNat)) (i := i) q9
      refine z_if_eq (tgt := 46) hx hb dX6_many_39 (by decide) (by omega) (fun c9 => absurd c9 (by decide)) (fun _ => ?_)
      refine z_iconst hx hb dX6_many_42 ?_
      refine lv_goto (tgt := 47) hx hb dX6_many_43 (by decide) ?_
      refine z_iadd hx hb dX6_many_47 ?_
      refine lv_istore_n (lv' := [(3, .int (iZ (y + 1))), (0, .ref h), (1, .int (iZ u)), (2, .int (iZ 1)), (4, .int (iZ ↑i))]) hx hb dX6_many_48 rfl hl (by decide) rfl (fun ls hl => ?_)
      refine lv_iinc (v := iZ (↑i + 1)) (lv' := [(4, .int (iZ (↑i + 1))), (3, .int (iZ (y + 1))), (0, .ref h), (1, .int (iZ u)), (2, .int (iZ 1))]) hx hb dX6_many_49 hl (k := 4) rfl (show iZ ↑i + iZ 1 = _ from iZ_add _ _) (by decide) rfl (fun ls hl => ?_)
      refine lv_goto (tgt := 5) hx hb dX6_many_52 (by decide) ?_
      exact ih _ _ (by omega) ⟨(i + 1), (y + 1), rfl, (by omega), lv_sub hl [2, 3, 4, 1, 0] rfl⟩
    · have q9 : ¬ E i u.toNat = true := by have q8 := hq_4; rw [Int.toNat_natCast] at q8; exact q8
      have q7 := ct_no (p := (fun a => E a u.toNat)) (i := i) q9
      refine z_if_eq (tgt := 46) hx hb dX6_many_39 (by decide) (by omega) (fun _ => ?_) (fun c9 => absurd c9 (by decide))
      refine z_iconst hx hb dX6_many_46 ?_
      refine z_iadd hx hb dX6_many_47 ?_
      refine lv_istore_n (lv' := [(3, .int (iZ (y + 0))), (0, .ref h), (1, .int (iZ u)), (2, .int (iZ 1)), (4, .int (iZ ↑i))]) hx hb dX6_many_48 rfl hl (by decide) rfl (fun ls hl => ?_)
      refine lv_iinc (v := iZ (↑i + 1)) (lv' := [(4, .int (iZ (↑i + 1))), (3, .int (iZ (y + 0))), (0, .ref h), (1, .int (iZ u)), (2, .int (iZ 1))]) hx hb dX6_many_49 hl (k := 4) rfl (show iZ ↑i + iZ 1 = _ from iZ_add _ _) (by decide) rfl (fun ls hl => ?_)
      refine lv_goto (tgt := 5) hx hb dX6_many_52 (by decide) ?_
      exact ih _ _ (by omega) ⟨(i + 1), (y + 0), rfl, (by omega), lv_sub hl [2, 3, 4, 1, 0] rfl⟩
set_option maxHeartbeats 4000000 in
set_option maxRecDepth 100000 in
theorem c_X6_whole (l : Launch) (D : va_G) (cI cJ cB cZ : ClassId) (h a1 a2 a3 a4 a5 a6 a7 : Nat) (thr : Int) (eg fr wt rk nx : Nat → Int) (nd es pp qq st ch bo : Int) (tp : Nat → Int) (le sz at_ fa fp nu fm nn : Int) (ou : Nat → Int) (om : Int) (N : Nat) (E : Ed) (w : Nat → Nat) (hM : MG N E w eg wt nd es)  : Met l yX6_whole wsX6_whole ({ frames := 0, cells := 0, slots := 0, locals := 0 } : Room) (Pre0 D cI cJ cB cZ [.ref h] (wMo cI cJ cB cZ h a1 a2 a3 a4 a5 a6 a7 thr eg fr wt rk nx nd es pp qq st ch bo tp le sz at_ fa fp nu fm nn ou om)) (roI (fun z => z = ((fb_sm w N : Nat) : Int))) 0 0 (fun _ => False) := by
  refine Met.ofW (cc := cX6_whole) (maxL := 3) (ret := (some .int)) (by decide) rfl ?_
  intro p e s m args below meth c s₁ B hml hv
  obtain ⟨rfl, hP, hE⟩ := hv
  have hx := B.exec
  have hb := B.bytes
  have hr := B.returns
  have hts := atoms_spec (ws := wsX6_whole) B.pre
  have hown : s.vm.findClass RX6 = some m.cls := findClass_of_methodNamed B.named
  have hlocks := B.notSynchronized
  have hK := hE.1
  have hi_6 : ∀ w ∈ wsX60, w ∈ wsX6_whole := by decide +kernel
  have hw_1 := hts (.fieldLink RX6 32 "RankHouseModel" "nodes" "I") (by decide +kernel)
  have hw_2 := hts (.fieldLink RX6 21 "RankHouseModel" "weight" "[I") (by decide +kernel)
  have hl := lv_entry ([.ref h]) (n := 3) (Nat.le_of_ble_eq_true rfl)
  rw [lg_entry_eq]
  generalize (lg_sl ([.ref h]) ++ List.replicate (3 - (lg_sl ([.ref h])).length) Slot.unset).toArray = ls at hl ⊢
  have hl : lv_has ls 3 [(0, .ref h)] := hl
  obtain ⟨m1, m2, m3, m4, m5, m6, m7, m8, m9⟩ := id hM
  refine z_iconst hx hb dX6_whole_0 ?_
  refine lv_istore_n (lv' := [(1, .int (iZ 0)), (0, .ref h)]) hx hb dX6_whole_1 rfl hl (by decide) rfl (fun ls hl => ?_)
  refine z_iconst hx hb dX6_whole_2 ?_
  refine lv_istore_n (lv' := [(2, .int (iZ 0)), (1, .int (iZ 0)), (0, .ref h)]) hx hb dX6_whole_3 rfl hl (by decide) rfl (fun ls hl => ?_)
  refine w_loop0 (fun kf ls => ∃ (i : Nat), ∃ (y : Int), kf = N - i ∧ (i ≤ N ∧ y = ((fb_sm w i : Nat) : Int)) ∧ lv_has ls 3 [(0, .ref h), (1, .int (iZ y)), (2, .int (iZ ↑i))]) ?_ _ ⟨0, 0, rfl, ⟨by omega, rfl⟩, lv_sub hl [2, 1, 0] rfl⟩
  rintro kf ls ⟨i, y, hk, hinv, hl⟩ ih
  refine lv_iload_n hx hb dX6_whole_4 rfl (lv_at hl 2 rfl) ?_
  refine lv_aload_n hx hb dX6_whole_5 rfl (lv_at hl 0 rfl) ?_
  refine va_get (v := .int (iZ nd)) (C := RX6) (T := TX6) (N := 24) (ci := 6) hx hb hts hi_6 hown hK hP 0 rfl rfl 6 (by decide) hw_1 (fun _ h9 => h9) rfl dX6_whole_6 ?_
  refine z_icmp_ge (tgt := 27) hx hb dX6_whole_9 (by decide) (by omega) (by omega) (fun c_1 => ?_) (fun c_1 => ?_)
  · refine lv_iload_n hx hb dX6_whole_27 rfl (lv_at hl 1 rfl) ?_
    exact ro_iret (z := y) hx hb hr hlocks (by rw [show i = N by omega] at hinv; exact hinv.2) dX6_whole_28
  · have q8 := m8 i (by omega)
    have sS : fb_sm w (i + 1) = fb_sm w i + w i := fb_sm_succ _ i
    refine lv_iload_n hx hb dX6_whole_12 rfl (lv_at hl 1 rfl) ?_
    refine lv_aload_n hx hb dX6_whole_13 rfl (lv_at hl 0 rfl) ?_
    refine va_get (v := .ref a3) (C := RX6) (T := TX6) (N := 24) (ci := 6) hx hb hts hi_6 hown hK hP 0 rfl rfl 3 (by decide) hw_2 (fun _ h9 => h9) rfl dX6_whole_14 ?_
    refine lv_iload_n hx hb dX6_whole_17 rfl (lv_at hl 2 rfl) ?_
    refine z_iald hx hb hK hP 3 0 rfl rfl i (by omega) (by omega) (by omega) dX6_whole_18 ?_
    refine z_iadd hx hb dX6_whole_19 ?_
    refine lv_istore_n (lv' := [(1, .int (iZ (y + (wt i)))), (0, .ref h), (2, .int (iZ ↑i))]) hx hb dX6_whole_20 rfl hl (by decide) rfl (fun ls hl => ?_)
    refine lv_iinc (v := iZ (↑i + 1)) (lv' := [(2, .int (iZ (↑i + 1))), (1, .int (iZ (y + (wt i)))), (0, .ref h)]) hx hb dX6_whole_21 hl (k := 2) rfl (show iZ ↑i + iZ 1 = _ from iZ_add _ _) (by decide) rfl (fun ls hl => ?_)
    refine lv_goto (tgt := 4) hx hb dX6_whole_24 (by decide) ?_
    exact ih _ _ (by omega) ⟨(i + 1), (y + (wt i)), rfl, (by omega), lv_sub hl [2, 1, 0] rfl⟩
