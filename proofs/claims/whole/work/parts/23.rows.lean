set_option maxHeartbeats 4000000 in
set_option maxRecDepth 100000 in
theorem c_X0_put (l : Launch) (D : va_G) (cI cJ cB cZ : ClassId) (NB : Nat) (h a : Nat) (f : Nat → Int) (len : Int) (o : Int) (hN : NB < 100000) (hl0 : 0 ≤ len ∧ len < NB) (sz0 : Nat) : Met l yX0_put wsX0_put ({ frames := 0, cells := 0, slots := 0, locals := 0 } : Room) (Pre1 D cI cJ cB cZ [.ref h, .int (iZ o)] (wBR NB cI h a f len) sz0) (rwV (S := (Nat → Int) × Int) D (fun U => U = (uZ f len.toNat (o % 256), len + 1)) (fun u => wBR NB cI h a u.1 u.2) (va_A (wBR NB cI h a f len) sz0)) 0 0 (va_A (wBR NB cI h a f len) sz0) := by
  refine Met.ofW (cc := cX0_put) (maxL := 2) (ret := none) (by decide) rfl ?_
  intro p e s m args below meth c s₁ B hml hv
  obtain ⟨rfl, hsz, hP, hE, hD0⟩ := hv
  have hx := B.exec
  have hb := B.bytes
  have hr := B.returns
  have hts := atoms_spec (ws := wsX0_put) B.pre
  have hown : s.vm.findClass RX0 = some m.cls := findClass_of_methodNamed B.named
  have hlocks := B.notSynchronized
  have hK := hE.1
  subst hsz
  have hD := hD0.self (sz := s.heap.size)
  generalize hAe : va_A (wBR NB cI h a f len) s.heap.size = A at hD ⊢
  have hA : ∀ q : Nat, s.heap.size ≤ q → A q := fun q h => by rw [← hAe]; exact Or.inr h
  have hS : va_S A s.heap s.heap [] := va_S.rf
  have hP : va_P D vwCl (wBR NB cI h a f len) s.heap := hP
  have hi_0 : ∀ w ∈ wsX00, w ∈ wsX0_put := by decide +kernel
  have hw_1 := hts (.fieldLink RX0 9 "RankHouse$ByteRow" "length" "I") (by decide +kernel)
  have hw_2 := hts (.fieldLink RX0 21 "RankHouse$ByteRow" "bytes" "[I") (by decide +kernel)
  have hl := lv_entry ([.ref h, .int (iZ o)]) (n := 2) (Nat.le_of_ble_eq_true rfl)
  rw [lg_entry_eq]
  generalize (lg_sl ([.ref h, .int (iZ o)]) ++ List.replicate (2 - (lg_sl ([.ref h, .int (iZ o)])).length) Slot.unset).toArray = ls at hl ⊢
  have hl : lv_has ls 2 [(0, .ref h), (1, .int (iZ o))] := hl
  refine lv_aload_n hx hb dX0_put_0 rfl (lv_at hl 0 rfl) ?_
  refine va_get (v := .int (iZ len)) (C := RX0) (T := TX0) (N := 2) (ci := 0) hx hb hts hi_0 hown hK hP 0 rfl rfl 1 (by decide) hw_1 (fun _ h9 => h9) rfl dX0_put_1 ?_
  refine lv_aload_n hx hb dX0_put_4 rfl (lv_at hl 0 rfl) ?_
  refine va_get (v := .ref a) (C := RX0) (T := TX0) (N := 2) (ci := 0) hx hb hts hi_0 hown hK hP 0 rfl rfl 0 (by decide) hw_2 (fun _ h9 => h9) rfl dX0_put_5 ?_
  refine va_alen (v := iZ ((NB : Nat) : Int)) hx hb hK hP 1 0 rfl rfl (iZ_n _).symm dX0_put_8 ?_
  refine z_icmp_ge (tgt := 36) hx hb dX0_put_9 (by decide) (by omega) (by omega) (fun c_1 => absurd c_1 (by omega)) (fun c_1 => ?_)
  refine lv_aload_n hx hb dX0_put_12 rfl (lv_at hl 0 rfl) ?_
  refine va_get (v := .ref a) (C := RX0) (T := TX0) (N := 2) (ci := 0) hx hb hts hi_0 hown hK hP 0 rfl rfl 0 (by decide) hw_2 (fun _ h9 => h9) rfl dX0_put_13 ?_
  refine lv_aload_n hx hb dX0_put_16 rfl (lv_at hl 0 rfl) ?_
  refine va_get (v := .int (iZ len)) (C := RX0) (T := TX0) (N := 2) (ci := 0) hx hb hts hi_0 hown hK hP 0 rfl rfl 1 (by decide) hw_1 (fun _ h9 => h9) rfl dX0_put_17 ?_
  refine lv_iload_n hx hb dX0_put_20 rfl (lv_at hl 1 rfl) ?_
  refine z_sipush hx hb dX0_put_21 (by decide) ?_
  refine z_iand (o % 256) hx hb dX0_put_24 (iZ_and255 o) ?_
  refine z_iast hx hb hK hP hD hS 1 0 rfl rfl len.toNat (by omega) (by omega) (by omega) dX0_put_25 (fun H locs hP hD hS => ?_)
  have hP : va_P D vwCl (wBR NB cI h a (uZ f len.toNat (o % 256)) len) H := hP
  have hD : va_D A (wBR NB cI h a (uZ f len.toNat (o % 256)) len) := hD
  refine lv_aload_n hx hb dX0_put_26 rfl (lv_at hl 0 rfl) ?_
  refine lv_dup hx hb dX0_put_27 rfl ?_
  refine va_get (v := .int (iZ len)) (C := RX0) (T := TX0) (N := 2) (ci := 0) hx hb hts hi_0 hown hK hP 0 rfl rfl 1 (by decide) hw_1 (fun _ h9 => h9) rfl dX0_put_28 ?_
  refine z_iconst hx hb dX0_put_31 ?_
  refine z_iadd hx hb dX0_put_32 ?_
  refine va_put (v := .int (iZ (len + 1))) (ty := .int) (C := RX0) (T := TX0) (N := 2) (ci := 0) hx hb hts hi_0 tyX0 tyX0_ok nmX0 hown hK hP hD hS 0 rfl rfl 1 (by decide) hw_1 (fun _ h9 => h9) rfl (by decide +kernel) rfl rfl (Nat.le_of_ble_eq_true rfl) dX0_put_33 (fun H locs hP hD hS => ?_)
  have hP : va_P D vwCl (wBR NB cI h a (uZ f len.toNat (o % 256)) (len + 1)) H := hP
  have hD : va_D A (wBR NB cI h a (uZ f len.toNat (o % 256)) (len + 1)) := hD
  exact rw_vret (uZ f len.toNat (o % 256), len + 1) hx hb hr hlocks hP hD hS rfl dX0_put_36
set_option maxHeartbeats 4000000 in
set_option maxRecDepth 100000 in
theorem c_X0_putFour (l : Launch) (D : va_G) (cI cJ cB cZ : ClassId) (NB : Nat) (h a : Nat) (f : Nat → Int) (len : Int) (o : Int) (hN : NB < 100000) (hl0 : 0 ≤ len ∧ len + 4 ≤ NB) (sz0 : Nat) : Met l yX0_putFour wsX0_putFour ({ frames := 1, cells := 0, slots := 0, locals := 21 } : Room) (Pre1 D cI cJ cB cZ [.ref h, .int (iZ o)] (wBR NB cI h a f len) sz0) (rwV (S := (Nat → Int) × Int) D (fun U => U = (p4 f len.toNat o, len + 4)) (fun u => wBR NB cI h a u.1 u.2) (va_A (wBR NB cI h a f len) sz0)) 0 0 (va_A (wBR NB cI h a f len) sz0) := by
  refine Met.ofW (cc := cX0_putFour) (maxL := 2) (ret := none) (by decide) rfl ?_
  intro p e s m args below meth c s₁ B hml hv
  obtain ⟨rfl, hsz, hP, hE, hD0⟩ := hv
  have hx := B.exec
  have hb := B.bytes
  have hr := B.returns
  have hts := atoms_spec (ws := wsX0_putFour) B.pre
  have hown : s.vm.findClass RX0 = some m.cls := findClass_of_methodNamed B.named
  have hlocks := B.notSynchronized
  have hK := hE.1
  subst hsz
  have hD := hD0.self (sz := s.heap.size)
  generalize hAe : va_A (wBR NB cI h a f len) s.heap.size = A at hD ⊢
  have hA : ∀ q : Nat, s.heap.size ≤ q → A q := fun q h => by rw [← hAe]; exact Or.inr h
  have hS : va_S A s.heap s.heap [] := va_S.rf
  have hP : va_P D vwCl (wBR NB cI h a f len) s.heap := hP
  have hl := lv_entry ([.ref h, .int (iZ o)]) (n := 2) (Nat.le_of_ble_eq_true rfl)
  rw [lg_entry_eq]
  generalize (lg_sl ([.ref h, .int (iZ o)]) ++ List.replicate (2 - (lg_sl ([.ref h, .int (iZ o)])).length) Slot.unset).toArray = ls at hl ⊢
  have hl : lv_has ls 2 [(0, .ref h), (1, .int (iZ o))] := hl
  refine lv_aload_n hx hb dX0_putFour_0 rfl (lv_at hl 0 rfl) ?_
  refine lv_iload_n hx hb dX0_putFour_1 rfl (lv_at hl 1 rfl) ?_
  refine z_bipush hx hb dX0_putFour_2 (by decide) ?_
  refine z_iushr _ hx hb dX0_putFour_4 (iZ_ushr o 24 24 rfl) ?_
  refine rw_v (wr := []) (va_runV (As := [.int (iZ (((o % 4294967296).toNat / 2 ^ 24 : Nat) : Int))]) (rest := []) ⟨hx, hb, hml, hown, hts⟩ (c_X0_put l D cI cJ cB cZ NB h a f len (((o % 4294967296).toNat / 2 ^ 24 : Nat) : Int) hN (by omega) _) (cwV 1 hts gX0_putFour_X0_put rfl rfl rfl (by decide +kernel) ⟨Nat.le_of_ble_eq_true rfl, Nat.le_of_ble_eq_true rfl⟩) (pre1V hE hP hD 0 rfl rfl) rfl rfl hl.1 rfl (lv_room (Nat.le_of_ble_eq_true rfl)) dX0_putFour_5 ⟨Nat.le_of_ble_eq_true rfl, Nat.le_of_ble_eq_true rfl⟩) hP hD hS hA [0, 1] [] rfl rfl (by decide) (by decide) (fun u_3 H locs hr_2 hP hD hS => ?_)
  subst hr_2
  have hP := hP.sub (ws' := (wBR NB cI h a (uZ f len.toNat ((((o % 4294967296).toNat / 2 ^ 24 : Nat) : Int) % 256)) (len + 1))) [0, 1] rfl
  have hD := hD.sub (ws' := (wBR NB cI h a (uZ f len.toNat ((((o % 4294967296).toNat / 2 ^ 24 : Nat) : Int) % 256)) (len + 1))) [0, 1] (by decide) rfl
  refine lv_aload_n hx hb dX0_putFour_8 rfl (lv_at hl 0 rfl) ?_
  refine lv_iload_n hx hb dX0_putFour_9 rfl (lv_at hl 1 rfl) ?_
  refine z_bipush hx hb dX0_putFour_10 (by decide) ?_
  refine z_iushr _ hx hb dX0_putFour_12 (iZ_ushr o 16 16 rfl) ?_
  refine rw_v (wr := []) (va_runV (As := [.int (iZ (((o % 4294967296).toNat / 2 ^ 16 : Nat) : Int))]) (rest := []) ⟨hx, hb, hml, hown, hts⟩ (c_X0_put l D cI cJ cB cZ NB h a (uZ f len.toNat ((((o % 4294967296).toNat / 2 ^ 24 : Nat) : Int) % 256)) (len + 1) (((o % 4294967296).toNat / 2 ^ 16 : Nat) : Int) hN (by omega) _) (cwV 1 hts gX0_putFour_X0_put rfl rfl rfl (by decide +kernel) ⟨Nat.le_of_ble_eq_true rfl, Nat.le_of_ble_eq_true rfl⟩) (pre1V hE hP hD 0 rfl rfl) rfl rfl hl.1 rfl (lv_room (Nat.le_of_ble_eq_true rfl)) dX0_putFour_13 ⟨Nat.le_of_ble_eq_true rfl, Nat.le_of_ble_eq_true rfl⟩) hP hD hS hA [0, 1] [] rfl rfl (by decide) (by decide) (fun u_6 H locs hr_5 hP hD hS => ?_)
  subst hr_5
  have hP := hP.sub (ws' := (wBR NB cI h a (uZ (uZ f len.toNat ((((o % 4294967296).toNat / 2 ^ 24 : Nat) : Int) % 256)) (len + 1).toNat ((((o % 4294967296).toNat / 2 ^ 16 : Nat) : Int) % 256)) (len + 1 + 1))) [0, 1] rfl
  have hD := hD.sub (ws' := (wBR NB cI h a (uZ (uZ f len.toNat ((((o % 4294967296).toNat / 2 ^ 24 : Nat) : Int) % 256)) (len + 1).toNat ((((o % 4294967296).toNat / 2 ^ 16 : Nat) : Int) % 256)) (len + 1 + 1))) [0, 1] (by decide) rfl
  refine lv_aload_n hx hb dX0_putFour_16 rfl (lv_at hl 0 rfl) ?_
  refine lv_iload_n hx hb dX0_putFour_17 rfl (lv_at hl 1 rfl) ?_
  refine z_bipush hx hb dX0_putFour_18 (by decide) ?_
  refine z_iushr _ hx hb dX0_putFour_20 (iZ_ushr o 8 8 rfl) ?_
  refine rw_v (wr := []) (va_runV (As := [.int (iZ (((o % 4294967296).toNat / 2 ^ 8 : Nat) : Int))]) (rest := []) ⟨hx, hb, hml, hown, hts⟩ (c_X0_put l D cI cJ cB cZ NB h a (uZ (uZ f len.toNat ((((o % 4294967296).toNat / 2 ^ 24 : Nat) : Int) % 256)) (len + 1).toNat ((((o % 4294967296).toNat / 2 ^ 16 : Nat) : Int) % 256)) (len + 1 + 1) (((o % 4294967296).toNat / 2 ^ 8 : Nat) : Int) hN (by omega) _) (cwV 1 hts gX0_putFour_X0_put rfl rfl rfl (by decide +kernel) ⟨Nat.le_of_ble_eq_true rfl, Nat.le_of_ble_eq_true rfl⟩) (pre1V hE hP hD 0 rfl rfl) rfl rfl hl.1 rfl (lv_room (Nat.le_of_ble_eq_true rfl)) dX0_putFour_21 ⟨Nat.le_of_ble_eq_true rfl, Nat.le_of_ble_eq_true rfl⟩) hP hD hS hA [0, 1] [] rfl rfl (by decide) (by decide) (fun u_9 H locs hr_8 hP hD hS => ?_)
  subst hr_8
  have hP := hP.sub (ws' := (wBR NB cI h a (uZ (uZ (uZ f len.toNat ((((o % 4294967296).toNat / 2 ^ 24 : Nat) : Int) % 256)) (len + 1).toNat ((((o % 4294967296).toNat / 2 ^ 16 : Nat) : Int) % 256)) (len + 1 + 1).toNat ((((o % 4294967296).toNat / 2 ^ 8 : Nat) : Int) % 256)) (len + 1 + 1 + 1))) [0, 1] rfl
  have hD := hD.sub (ws' := (wBR NB cI h a (uZ (uZ (uZ f len.toNat ((((o % 4294967296).toNat / 2 ^ 24 : Nat) : Int) % 256)) (len + 1).toNat ((((o % 4294967296).toNat / 2 ^ 16 : Nat) : Int) % 256)) (len + 1 + 1).toNat ((((o % 4294967296).toNat / 2 ^ 8 : Nat) : Int) % 256)) (len + 1 + 1 + 1))) [0, 1] (by decide) rfl
  refine lv_aload_n hx hb dX0_putFour_24 rfl (lv_at hl 0 rfl) ?_
  refine lv_iload_n hx hb dX0_putFour_25 rfl (lv_at hl 1 rfl) ?_
  refine rw_v (wr := []) (va_runV (As := [.int (iZ o)]) (rest := []) ⟨hx, hb, hml, hown, hts⟩ (c_X0_put l D cI cJ cB cZ NB h a (uZ (uZ (uZ f len.toNat ((((o % 4294967296).toNat / 2 ^ 24 : Nat) : Int) % 256)) (len + 1).toNat ((((o % 4294967296).toNat / 2 ^ 16 : Nat) : Int) % 256)) (len + 1 + 1).toNat ((((o % 4294967296).toNat / 2 ^ 8 : Nat) : Int) % 256)) (len + 1 + 1 + 1) o hN (by omega) _) (cwV 1 hts gX0_putFour_X0_put rfl rfl rfl (by decide +kernel) ⟨Nat.le_of_ble_eq_true rfl, Nat.le_of_ble_eq_true rfl⟩) (pre1V hE hP hD 0 rfl rfl) rfl rfl hl.1 rfl (lv_room (Nat.le_of_ble_eq_true rfl)) dX0_putFour_26 ⟨Nat.le_of_ble_eq_true rfl, Nat.le_of_ble_eq_true rfl⟩) hP hD hS hA [0, 1] [] rfl rfl (by decide) (by decide) (fun u_12 H locs hr_11 hP hD hS => ?_)
  subst hr_11
  have hP := hP.sub (ws' := (wBR NB cI h a (uZ (uZ (uZ (uZ f len.toNat ((((o % 4294967296).toNat / 2 ^ 24 : Nat) : Int) % 256)) (len + 1).toNat ((((o % 4294967296).toNat / 2 ^ 16 : Nat) : Int) % 256)) (len + 1 + 1).toNat ((((o % 4294967296).toNat / 2 ^ 8 : Nat) : Int) % 256)) (len + 1 + 1 + 1).toNat (o % 256)) (len + 1 + 1 + 1 + 1))) [0, 1] rfl
  have hD := hD.sub (ws' := (wBR NB cI h a (uZ (uZ (uZ (uZ f len.toNat ((((o % 4294967296).toNat / 2 ^ 24 : Nat) : Int) % 256)) (len + 1).toNat ((((o % 4294967296).toNat / 2 ^ 16 : Nat) : Int) % 256)) (len + 1 + 1).toNat ((((o % 4294967296).toNat / 2 ^ 8 : Nat) : Int) % 256)) (len + 1 + 1 + 1).toNat (o % 256)) (len + 1 + 1 + 1 + 1))) [0, 1] (by decide) rfl
  exact rw_vret (uZ (uZ (uZ (uZ f len.toNat ((((o % 4294967296).toNat / 2 ^ 24 : Nat) : Int) % 256)) (len + 1).toNat ((((o % 4294967296).toNat / 2 ^ 16 : Nat) : Int) % 256)) (len + 1 + 1).toNat ((((o % 4294967296).toNat / 2 ^ 8 : Nat) : Int) % 256)) (len + 1 + 1 + 1).toNat (o % 256), len + 1 + 1 + 1 + 1) hx hb hr hlocks hP hD hS (by rw [p4_eq hl0.1]; rw [show len + 1 + 1 + 1 + 1 = len + 4 by omega]) dX0_putFour_29
set_option maxHeartbeats 4000000 in
set_option maxRecDepth 100000 in
theorem c_X0_putUnsigned (l : Launch) (D : va_G) (cI cJ cB cZ : ClassId) (NB : Nat) (h a : Nat) (f : Nat → Int) (len : Int) (o : Int) (hN : NB < 100000) (ho : 0 ≤ o ∧ o < 16384) (hl0 : 0 ≤ len ∧ len + lU o ≤ NB) (sz0 : Nat) : Met l yX0_putUnsigned wsX0_putUnsigned ({ frames := 1, cells := 0, slots := 0, locals := 21 } : Room) (Pre1 D cI cJ cB cZ [.ref h, .int (iZ o)] (wBR NB cI h a f len) sz0) (rwV (S := (Nat → Int) × Int) D (fun U => U = (pU f len.toNat o, len + lU o)) (fun u => wBR NB cI h a u.1 u.2) (va_A (wBR NB cI h a f len) sz0)) 0 0 (va_A (wBR NB cI h a f len) sz0) := by
  refine Met.ofW (cc := cX0_putUnsigned) (maxL := 4) (ret := none) (by decide) rfl ?_
  intro p e s m args below meth c s₁ B hml hv
  obtain ⟨rfl, hsz, hP, hE, hD0⟩ := hv
  have hx := B.exec
  have hb := B.bytes
  have hr := B.returns
  have hts := atoms_spec (ws := wsX0_putUnsigned) B.pre
  have hown : s.vm.findClass RX0 = some m.cls := findClass_of_methodNamed B.named
  have hlocks := B.notSynchronized
  have hK := hE.1
  subst hsz
  have hD := hD0.self (sz := s.heap.size)
  generalize hAe : va_A (wBR NB cI h a f len) s.heap.size = A at hD ⊢
  have hA : ∀ q : Nat, s.heap.size ≤ q → A q := fun q h => by rw [← hAe]; exact Or.inr h
  have hS : va_S A s.heap s.heap [] := va_S.rf
  have hP : va_P D vwCl (wBR NB cI h a f len) s.heap := hP
  have hl := lv_entry ([.ref h, .int (iZ o)]) (n := 4) (Nat.le_of_ble_eq_true rfl)
  rw [lg_entry_eq]
  generalize (lg_sl ([.ref h, .int (iZ o)]) ++ List.replicate (4 - (lg_sl ([.ref h, .int (iZ o)])).length) Slot.unset).toArray = ls at hl ⊢
  have hl : lv_has ls 4 [(0, .ref h), (1, .int (iZ o))] := hl
  refine lv_iload_n hx hb dX0_putUnsigned_0 rfl (lv_at hl 1 rfl) ?_
  refine lv_istore_n (lv' := [(2, .int (iZ o)), (0, .ref h), (1, .int (iZ o))]) hx hb dX0_putUnsigned_1 rfl hl (by decide) rfl (fun ls hl => ?_)
  refine z_iconst hx hb dX0_putUnsigned_2 ?_
  refine lv_istore_n (lv' := [(3, .int (iZ 0)), (2, .int (iZ o)), (0, .ref h), (1, .int (iZ o))]) hx hb dX0_putUnsigned_3 rfl hl (by decide) rfl (fun ls hl => ?_)
  refine lv_iload_n hx hb dX0_putUnsigned_4 rfl (lv_at hl 0 rfl) ?_
  refine z_bipush hx hb dX0_putUnsigned_5 (by decide) ?_
  refine z_icmp_ge (tgt := 39) hx hb dX0_putUnsigned_7 (by decide) (by omega) (by omega) (fun c9 => absurd c9 (by decide)) (fun _ => ?_)
  refine lv_iload_n hx hb dX0_putUnsigned_10 rfl (lv_at hl 1 rfl) ?_
  refine z_bipush hx hb dX0_putUnsigned_11 (by decide) ?_
  refine z_icmp_le (tgt := 39) hx hb dX0_putUnsigned_13 (by decide) (by omega) (by omega) (fun c_1 => ?_) (fun c_1 => ?_)
  · have q2 : 1 ≤ lU o := by rw [lU]; split <;> omega
    refine lv_aload_n hx hb dX0_putUnsigned_39 rfl (lv_at hl 2 rfl) ?_
    refine lv_iload_n hx hb dX0_putUnsigned_40 rfl (lv_at hl 1 rfl) ?_
    refine rw_v (wr := []) (va_runV (As := [.int (iZ o)]) (rest := []) ⟨hx, hb, hml, hown, hts⟩ (c_X0_put l D cI cJ cB cZ NB h a f len o hN (by omega) _) (cwV 1 hts gX0_putUnsigned_X0_put rfl rfl rfl (by decide +kernel) ⟨Nat.le_of_ble_eq_true rfl, Nat.le_of_ble_eq_true rfl⟩) (pre1V hE hP hD 0 rfl rfl) rfl rfl hl.1 rfl (lv_room (Nat.le_of_ble_eq_true rfl)) dX0_putUnsigned_41 ⟨Nat.le_of_ble_eq_true rfl, Nat.le_of_ble_eq_true rfl⟩) hP hD hS hA [0, 1] [] rfl rfl (by decide) (by decide) (fun u_4 H locs hr_3 hP hD hS => ?_)
    subst hr_3
    have hP := hP.sub (ws' := (wBR NB cI h a (uZ f len.toNat (o % 256)) (len + 1))) [0, 1] rfl
    have hD := hD.sub (ws' := (wBR NB cI h a (uZ f len.toNat (o % 256)) (len + 1))) [0, 1] (by decide) rfl
    exact rw_vret (uZ f len.toNat (o % 256), len + 1) hx hb hr hlocks hP hD hS (pU_1 (by omega)) dX0_putUnsigned_44
  · have q1 : lU o = 2 := by rw [lU, if_neg (by omega)]
    refine lv_aload_n hx hb dX0_putUnsigned_16 rfl (lv_at hl 2 rfl) ?_
    refine z_sipush hx hb dX0_putUnsigned_17 (by decide) ?_
    refine lv_iload_n hx hb dX0_putUnsigned_20 rfl (lv_at hl 1 rfl) ?_
    refine z_bipush hx hb dX0_putUnsigned_21 (by decide) ?_
    refine z_iand (o % 128) hx hb dX0_putUnsigned_23 (iZ_and127 o) ?_
    refine z_ior (128 + o % 128) hx hb dX0_putUnsigned_24 (iZ_or128 (by omega)) ?_
    refine rw_v (wr := []) (va_runV (As := [.int (iZ (128 + o % 128))]) (rest := []) ⟨hx, hb, hml, hown, hts⟩ (c_X0_put l D cI cJ cB cZ NB h a f len (128 + o % 128) hN (by omega) _) (cwV 1 hts gX0_putUnsigned_X0_put rfl rfl rfl (by decide +kernel) ⟨Nat.le_of_ble_eq_true rfl, Nat.le_of_ble_eq_true rfl⟩) (pre1V hE hP hD 0 rfl rfl) rfl rfl hl.1 rfl (lv_room (Nat.le_of_ble_eq_true rfl)) dX0_putUnsigned_25 ⟨Nat.le_of_ble_eq_true rfl, Nat.le_of_ble_eq_true rfl⟩) hP hD hS hA [0, 1] [] rfl rfl (by decide) (by decide) (fun u_7 H locs hr_6 hP hD hS => ?_)
    subst hr_6
    have hP := hP.sub (ws' := (wBR NB cI h a (uZ f len.toNat ((128 + o % 128) % 256)) (len + 1))) [0, 1] rfl
    have hD := hD.sub (ws' := (wBR NB cI h a (uZ f len.toNat ((128 + o % 128) % 256)) (len + 1))) [0, 1] (by decide) rfl
    refine lv_iload_n hx hb dX0_putUnsigned_28 rfl (lv_at hl 1 rfl) ?_
    refine z_bipush hx hb dX0_putUnsigned_29 (by decide) ?_
    refine z_iushr _ hx hb dX0_putUnsigned_31 (iZ_ushr o 7 7 rfl) ?_
    refine lv_istore_n (lv' := [(2, .int (iZ (((o % 4294967296).toNat / 2 ^ 7 : Nat) : Int))), (3, .int (iZ 0)), (0, .ref h), (1, .int (iZ o))]) hx hb dX0_putUnsigned_32 rfl hl (by decide) rfl (fun ls hl => ?_)
    refine lv_iinc (v := iZ (7)) (lv' := [(3, .int (iZ 7)), (2, .int (iZ (((o % 4294967296).toNat / 2 ^ 7 : Nat) : Int))), (0, .ref h), (1, .int (iZ o))]) hx hb dX0_putUnsigned_33 hl (k := 1) rfl (show iZ 0 + iZ 7 = _ from iZ_add _ _) (by decide) rfl (fun ls hl => ?_)
    refine lv_goto (tgt := 4) hx hb dX0_putUnsigned_36 (by decide) ?_
    refine lv_iload_n hx hb dX0_putUnsigned_4 rfl (lv_at hl 0 rfl) ?_
    refine z_bipush hx hb dX0_putUnsigned_5 (by decide) ?_
    refine z_icmp_ge (tgt := 39) hx hb dX0_putUnsigned_7 (by decide) (by omega) (by omega) (fun c9 => absurd c9 (by decide)) (fun _ => ?_)
    refine lv_iload_n hx hb dX0_putUnsigned_10 rfl (lv_at hl 1 rfl) ?_
    refine z_bipush hx hb dX0_putUnsigned_11 (by decide) ?_
    refine z_icmp_le (tgt := 39) hx hb dX0_putUnsigned_13 (by decide) (by omega) (by omega) (fun c_8 => ?_) (fun c_8 => absurd c_8 (by omega))
    have q2 : 1 ≤ lU o := by rw [lU]; split <;> omega
    refine lv_aload_n hx hb dX0_putUnsigned_39 rfl (lv_at hl 2 rfl) ?_
    refine lv_iload_n hx hb dX0_putUnsigned_40 rfl (lv_at hl 1 rfl) ?_
    refine rw_v (wr := []) (va_runV (As := [.int (iZ (((o % 4294967296).toNat / 2 ^ 7 : Nat) : Int))]) (rest := []) ⟨hx, hb, hml, hown, hts⟩ (c_X0_put l D cI cJ cB cZ NB h a (uZ f len.toNat ((128 + o % 128) % 256)) (len + 1) (((o % 4294967296).toNat / 2 ^ 7 : Nat) : Int) hN (by omega) _) (cwV 1 hts gX0_putUnsigned_X0_put rfl rfl rfl (by decide +kernel) ⟨Nat.le_of_ble_eq_true rfl, Nat.le_of_ble_eq_true rfl⟩) (pre1V hE hP hD 0 rfl rfl) rfl rfl hl.1 rfl (lv_room (Nat.le_of_ble_eq_true rfl)) dX0_putUnsigned_41 ⟨Nat.le_of_ble_eq_true rfl, Nat.le_of_ble_eq_true rfl⟩) hP hD hS hA [0, 1] [] rfl rfl (by decide) (by decide) (fun u_11 H locs hr_10 hP hD hS => ?_)
    subst hr_10
    have hP := hP.sub (ws' := (wBR NB cI h a (uZ (uZ f len.toNat ((128 + o % 128) % 256)) (len + 1).toNat ((((o % 4294967296).toNat / 2 ^ 7 : Nat) : Int) % 256)) (len + 1 + 1))) [0, 1] rfl
    have hD := hD.sub (ws' := (wBR NB cI h a (uZ (uZ f len.toNat ((128 + o % 128) % 256)) (len + 1).toNat ((((o % 4294967296).toNat / 2 ^ 7 : Nat) : Int) % 256)) (len + 1 + 1))) [0, 1] (by decide) rfl
    exact rw_vret (uZ (uZ f len.toNat ((128 + o % 128) % 256)) (len + 1).toNat ((((o % 4294967296).toNat / 2 ^ 7 : Nat) : Int) % 256), len + 1 + 1) hx hb hr hlocks hP hD hS (pU_2 hl0.1 (by omega)) dX0_putUnsigned_44
set_option maxHeartbeats 4000000 in
set_option maxRecDepth 100000 in
theorem c_X3_place (l : Launch) (D : va_G) (cI cJ cB cZ : ClassId) (h a1 a2 : Nat) (f1 f2 : Nat → Int) (sz : Int) (x y : Int) (hs : 0 ≤ sz ∧ sz < 250) (hy : 0 ≤ y ∧ y < 4611686018427387904) (hf : ∀ j, j < sz.toNat → 0 ≤ f2 j ∧ f2 j < 4611686018427387904) (sz0 : Nat) : Met l yX3_place wsX3_place ({ frames := 0, cells := 0, slots := 0, locals := 0 } : Room) (Pre1 D cI cJ cB cZ [.ref h, .int (iZ x), .long (lZ y)] (wOr cI cJ h a1 a2 f1 f2 sz) sz0) (rwV (S := (Nat → Int) × (Nat → Int) × Int) D (fun U => ∃ a : Nat, a ≤ sz.toNat ∧ (∀ j, a ≤ j → j < sz.toNat → f2 j < y) ∧ (a = 0 ∨ y ≤ f2 (a - 1)) ∧ U = (shf f1 a sz.toNat x, shf f2 a sz.toNat y, sz + 1)) (fun u => wOr cI cJ h a1 a2 u.1 u.2.1 u.2.2) (va_A (wOr cI cJ h a1 a2 f1 f2 sz) sz0)) 0 0 (va_A (wOr cI cJ h a1 a2 f1 f2 sz) sz0) := by
  refine Met.ofW (cc := cX3_place) (maxL := 5) (ret := none) (by decide) rfl ?_
  intro p e s m args below meth c s₁ B hml hv
  obtain ⟨rfl, hsz, hP, hE, hD0⟩ := hv
  have hx := B.exec
  have hb := B.bytes
  have hr := B.returns
  have hts := atoms_spec (ws := wsX3_place) B.pre
  have hown : s.vm.findClass RX3 = some m.cls := findClass_of_methodNamed B.named
  have hlocks := B.notSynchronized
  have hK := hE.1
  subst hsz
  have hD := hD0.self (sz := s.heap.size)
  generalize hAe : va_A (wOr cI cJ h a1 a2 f1 f2 sz) s.heap.size = A at hD ⊢
  have hA : ∀ q : Nat, s.heap.size ≤ q → A q := fun q h => by rw [← hAe]; exact Or.inr h
  have hS : va_S A s.heap s.heap [] := va_S.rf
  have hP : va_P D vwCl (wOr cI cJ h a1 a2 f1 f2 sz) s.heap := hP
  have hi_3 : ∀ w ∈ wsX30, w ∈ wsX3_place := by decide +kernel
  have hw_1 := hts (.fieldLink RX3 19 "RankHouse$Order" "size" "I") (by decide +kernel)
  have hw_2 := hts (.fieldLink RX3 9 "RankHouse$Order" "nodes" "[I") (by decide +kernel)
  have hw_3 := hts (.fieldLink RX3 15 "RankHouse$Order" "worths" "[J") (by decide +kernel)
  have hl := lv_entry ([.ref h, .int (iZ x), .long (lZ y)]) (n := 5) (Nat.le_of_ble_eq_true rfl)
  rw [lg_entry_eq]
  generalize (lg_sl ([.ref h, .int (iZ x), .long (lZ y)]) ++ List.replicate (5 - (lg_sl ([.ref h, .int (iZ x), .long (lZ y)])).length) Slot.unset).toArray = ls at hl ⊢
  have hl : lv_has ls 5 [(0, .ref h), (1, .int (iZ x)), (2, .long (lZ y))] := hl
  refine lv_aload_n hx hb dX3_place_0 rfl (lv_at hl 0 rfl) ?_
  refine va_get (v := .int (iZ sz)) (C := RX3) (T := TX3) (N := 3) (ci := 3) hx hb hts hi_3 hown hK hP 0 rfl rfl 2 (by decide) hw_1 (fun _ h9 => h9) rfl dX3_place_1 ?_
  refine z_sipush hx hb dX3_place_4 (by decide) ?_
  refine z_icmp_lt (tgt := 11) hx hb dX3_place_7 (by decide) (by omega) (by omega) (fun c_1 => ?_) (fun c_1 => absurd c_1 (by omega))
  refine lv_aload_n hx hb dX3_place_11 rfl (lv_at hl 0 rfl) ?_
  refine va_get (v := .int (iZ sz)) (C := RX3) (T := TX3) (N := 3) (ci := 3) hx hb hts hi_3 hown hK hP 0 rfl rfl 2 (by decide) hw_1 (fun _ h9 => h9) rfl dX3_place_12 ?_
  refine z_toi (((sz.toNat : Nat) : Int)) (by omega) ?_
  refine lv_istore (lv' := [(4, .int (iZ ((sz.toNat : Nat) : Int))), (0, .ref h), (1, .int (iZ x)), (2, .long (lZ y))]) hx hb dX3_place_15 hl (by decide) rfl (fun ls hl => ?_)
  refine w_loop (fun kf H locs ls => ∃ (a : Nat), ∃ (g1 g2 : Nat → Int), kf = a ∧ (a ≤ sz.toNat ∧ (∀ j, a ≤ j → j < sz.toNat → f2 j < y) ∧ (∀ j, g1 j = if a < j ∧ j ≤ sz.toNat then f1 (j - 1) else f1 j) ∧ (∀ j, g2 j = if a < j ∧ j ≤ sz.toNat then f2 (j - 1) else f2 j)) ∧ va_P D vwCl (wOr cI cJ h a1 a2 g1 g2 sz) H ∧ va_D A (wOr cI cJ h a1 a2 g1 g2 sz) ∧ va_S A s.heap H locs ∧ lv_has ls 5 [(0, .ref h), (1, .int (iZ x)), (2, .long (lZ y)), (4, .int (iZ ↑a))]) ?_ _ ⟨sz.toNat, f1, f2, rfl, ⟨by omega, fun j _ _ => absurd ‹_› (by omega), fun j => by rw [if_neg (by omega)], fun j => by rw [if_neg (by omega)]⟩, hP, hD, hS, lv_sub hl [1, 2, 3, 0] rfl⟩
  rintro kf H locs ls ⟨a, g1, g2, hk, ⟨i1, i2, i3, i4⟩, hP, hD, hS, hl⟩ ih
  refine lv_iload hx hb dX3_place_17 (lv_at hl 3 rfl) ?_
  refine z_if_le (tgt := 74) hx hb dX3_place_19 (by decide) (by omega) (fun c_2 => ?_) (fun c_2 => ?_)
  · refine lv_aload_n hx hb dX3_place_74 rfl (lv_at hl 0 rfl) ?_
    refine va_get (v := .ref a1) (C := RX3) (T := TX3) (N := 3) (ci := 3) hx hb hts hi_3 hown hK hP 0 rfl rfl 0 (by decide) hw_2 (fun _ h9 => h9) rfl dX3_place_75 ?_
    refine lv_iload hx hb dX3_place_78 (lv_at hl 3 rfl) ?_
    refine lv_iload_n hx hb dX3_place_80 rfl (lv_at hl 1 rfl) ?_
    refine z_iast hx hb hK hP hD hS 1 0 rfl rfl a (by omega) (by omega) (by omega) dX3_place_81 (fun H locs hP hD hS => ?_)
    have hP : va_P D vwCl (wOr cI cJ h a1 a2 (uZ g1 a x) g2 sz) H := hP
    have hD : va_D A (wOr cI cJ h a1 a2 (uZ g1 a x) g2 sz) := hD
    refine lv_aload_n hx hb dX3_place_82 rfl (lv_at hl 0 rfl) ?_
    refine va_get (v := .ref a2) (C := RX3) (T := TX3) (N := 3) (ci := 3) hx hb hts hi_3 hown hK hP 0 rfl rfl 1 (by decide) hw_3 (fun _ h9 => h9) rfl dX3_place_83 ?_
    refine lv_iload hx hb dX3_place_86 (lv_at hl 3 rfl) ?_
    refine lv_lload_n hx hb dX3_place_88 rfl (lv_at hl 2 rfl) ?_
    refine z_last hx hb hK hP hD hS 2 1 rfl rfl a (by omega) (by omega) (by omega) dX3_place_89 (fun H locs hP hD hS => ?_)
    have hP : va_P D vwCl (wOr cI cJ h a1 a2 (uZ g1 a x) (uZ g2 a y) sz) H := hP
    have hD : va_D A (wOr cI cJ h a1 a2 (uZ g1 a x) (uZ g2 a y) sz) := hD
    refine lv_aload_n hx hb dX3_place_90 rfl (lv_at hl 0 rfl) ?_
    refine lv_dup hx hb dX3_place_91 rfl ?_
    refine va_get (v := .int (iZ sz)) (C := RX3) (T := TX3) (N := 3) (ci := 3) hx hb hts hi_3 hown hK hP 0 rfl rfl 2 (by decide) hw_1 (fun _ h9 => h9) rfl dX3_place_92 ?_
    refine z_iconst hx hb dX3_place_95 ?_
    refine z_iadd hx hb dX3_place_96 ?_
    refine va_put (v := .int (iZ (sz + 1))) (ty := .int) (C := RX3) (T := TX3) (N := 3) (ci := 3) hx hb hts hi_3 tyX3 tyX3_ok nmX3 hown hK hP hD hS 0 rfl rfl 2 (by decide) hw_1 (fun _ h9 => h9) rfl (by decide +kernel) rfl rfl (Nat.le_of_ble_eq_true rfl) dX3_place_97 (fun H locs hP hD hS => ?_)
    have hP : va_P D vwCl (wOr cI cJ h a1 a2 (uZ g1 a x) (uZ g2 a y) (sz + 1)) H := hP
    have hD : va_D A (wOr cI cJ h a1 a2 (uZ g1 a x) (uZ g2 a y) (sz + 1)) := hD
    exact rw_vret (uZ g1 a x, uZ g2 a y, sz + 1) hx hb hr hlocks hP hD hS ⟨a, i1, i2, by first | (left; omega) | (right; omega), by rw [shf_end i3, shf_end i4]⟩ dX3_place_100
  · have q5 := i4 (a - 1)
    rw [if_neg (by omega)] at q5
    have q6 := hf (a - 1) (by omega)
    refine lv_aload_n hx hb dX3_place_22 rfl (lv_at hl 0 rfl) ?_
    refine va_get (v := .ref a2) (C := RX3) (T := TX3) (N := 3) (ci := 3) hx hb hts hi_3 hown hK hP 0 rfl rfl 1 (by decide) hw_3 (fun _ h9 => h9) rfl dX3_place_23 ?_
    refine lv_iload hx hb dX3_place_26 (lv_at hl 3 rfl) ?_
    refine z_iconst hx hb dX3_place_28 ?_
    refine z_isub hx hb dX3_place_29 ?_
    refine z_lald hx hb hK hP 2 1 rfl rfl (a - 1) (by omega) (by omega) (by omega) dX3_place_30 ?_
    refine lv_lload_n hx hb dX3_place_31 rfl (lv_at hl 2 rfl) ?_
    refine z_lc_ge (tgt := 74) hx hb dX3_place_32 dX3_place_33 (by decide) (by omega) (by omega) (fun c_3 => ?_) (fun c_3 => ?_)
    · refine lv_aload_n hx hb dX3_place_74 rfl (lv_at hl 0 rfl) ?_
      refine va_get (v := .ref a1) (C := RX3) (T := TX3) (N := 3) (ci := 3) hx hb hts hi_3 hown hK hP 0 rfl rfl 0 (by decide) hw_2 (fun _ h9 => h9) rfl dX3_place_75 ?_
      refine lv_iload hx hb dX3_place_78 (lv_at hl 3 rfl) ?_
      refine lv_iload_n hx hb dX3_place_80 rfl (lv_at hl 1 rfl) ?_
      refine z_iast hx hb hK hP hD hS 1 0 rfl rfl a (by omega) (by omega) (by omega) dX3_place_81 (fun H locs hP hD hS => ?_)
      have hP : va_P D vwCl (wOr cI cJ h a1 a2 (uZ g1 a x) g2 sz) H := hP
      have hD : va_D A (wOr cI cJ h a1 a2 (uZ g1 a x) g2 sz) := hD
      refine lv_aload_n hx hb dX3_place_82 rfl (lv_at hl 0 rfl) ?_
      refine va_get (v := .ref a2) (C := RX3) (T := TX3) (N := 3) (ci := 3) hx hb hts hi_3 hown hK hP 0 rfl rfl 1 (by decide) hw_3 (fun _ h9 => h9) rfl dX3_place_83 ?_
      refine lv_iload hx hb dX3_place_86 (lv_at hl 3 rfl) ?_
      refine lv_lload_n hx hb dX3_place_88 rfl (lv_at hl 2 rfl) ?_
      refine z_last hx hb hK hP hD hS 2 1 rfl rfl a (by omega) (by omega) (by omega) dX3_place_89 (fun H locs hP hD hS => ?_)
      have hP : va_P D vwCl (wOr cI cJ h a1 a2 (uZ g1 a x) (uZ g2 a y) sz) H := hP
      have hD : va_D A (wOr cI cJ h a1 a2 (uZ g1 a x) (uZ g2 a y) sz) := hD
      refine lv_aload_n hx hb dX3_place_90 rfl (lv_at hl 0 rfl) ?_
      refine lv_dup hx hb dX3_place_91 rfl ?_
      refine va_get (v := .int (iZ sz)) (C := RX3) (T := TX3) (N := 3) (ci := 3) hx hb hts hi_3 hown hK hP 0 rfl rfl 2 (by decide) hw_1 (fun _ h9 => h9) rfl dX3_place_92 ?_
      refine z_iconst hx hb dX3_place_95 ?_
      refine z_iadd hx hb dX3_place_96 ?_
      refine va_put (v := .int (iZ (sz + 1))) (ty := .int) (C := RX3) (T := TX3) (N := 3) (ci := 3) hx hb hts hi_3 tyX3 tyX3_ok nmX3 hown hK hP hD hS 0 rfl rfl 2 (by decide) hw_1 (fun _ h9 => h9) rfl (by decide +kernel) rfl rfl (Nat.le_of_ble_eq_true rfl) dX3_place_97 (fun H locs hP hD hS => ?_)
      have hP : va_P D vwCl (wOr cI cJ h a1 a2 (uZ g1 a x) (uZ g2 a y) (sz + 1)) H := hP
      have hD : va_D A (wOr cI cJ h a1 a2 (uZ g1 a x) (uZ g2 a y) (sz + 1)) := hD
      exact rw_vret (uZ g1 a x, uZ g2 a y, sz + 1) hx hb hr hlocks hP hD hS ⟨a, i1, i2, by first | (left; omega) | (right; omega), by rw [shf_end i3, shf_end i4]⟩ dX3_place_100
    · refine lv_aload_n hx hb dX3_place_36 rfl (lv_at hl 0 rfl) ?_
      refine va_get (v := .ref a1) (C := RX3) (T := TX3) (N := 3) (ci := 3) hx hb hts hi_3 hown hK hP 0 rfl rfl 0 (by decide) hw_2 (fun _ h9 => h9) rfl dX3_place_37 ?_
      refine lv_iload hx hb dX3_place_40 (lv_at hl 3 rfl) ?_
      refine lv_aload_n hx hb dX3_place_42 rfl (lv_at hl 0 rfl) ?_
      refine va_get (v := .ref a1) (C := RX3) (T := TX3) (N := 3) (ci := 3) hx hb hts hi_3 hown hK hP 0 rfl rfl 0 (by decide) hw_2 (fun _ h9 => h9) rfl dX3_place_43 ?_
      refine lv_iload hx hb dX3_place_46 (lv_at hl 3 rfl) ?_
      refine z_iconst hx hb dX3_place_48 ?_
      refine z_isub hx hb dX3_place_49 ?_
      refine z_iald hx hb hK hP 1 0 rfl rfl (a - 1) (by omega) (by omega) (by omega) dX3_place_50 ?_
      refine z_iast hx hb hK hP hD hS 1 0 rfl rfl a (by omega) (by omega) (by omega) dX3_place_51 (fun H locs hP hD hS => ?_)
      have hP : va_P D vwCl (wOr cI cJ h a1 a2 (uZ g1 a (g1 (a - 1))) g2 sz) H := hP
      have hD : va_D A (wOr cI cJ h a1 a2 (uZ g1 a (g1 (a - 1))) g2 sz) := hD
      refine lv_aload_n hx hb dX3_place_52 rfl (lv_at hl 0 rfl) ?_
      refine va_get (v := .ref a2) (C := RX3) (T := TX3) (N := 3) (ci := 3) hx hb hts hi_3 hown hK hP 0 rfl rfl 1 (by decide) hw_3 (fun _ h9 => h9) rfl dX3_place_53 ?_
      refine lv_iload hx hb dX3_place_56 (lv_at hl 3 rfl) ?_
      refine lv_aload_n hx hb dX3_place_58 rfl (lv_at hl 0 rfl) ?_
      refine va_get (v := .ref a2) (C := RX3) (T := TX3) (N := 3) (ci := 3) hx hb hts hi_3 hown hK hP 0 rfl rfl 1 (by decide) hw_3 (fun _ h9 => h9) rfl dX3_place_59 ?_
      refine lv_iload hx hb dX3_place_62 (lv_at hl 3 rfl) ?_
      refine z_iconst hx hb dX3_place_64 ?_
      refine z_isub hx hb dX3_place_65 ?_
      refine z_lald hx hb hK hP 2 1 rfl rfl (a - 1) (by omega) (by omega) (by omega) dX3_place_66 ?_
      refine z_last hx hb hK hP hD hS 2 1 rfl rfl a (by omega) (by omega) (by omega) dX3_place_67 (fun H locs hP hD hS => ?_)
      have hP : va_P D vwCl (wOr cI cJ h a1 a2 (uZ g1 a (g1 (a - 1))) (uZ g2 a (g2 (a - 1))) sz) H := hP
      have hD : va_D A (wOr cI cJ h a1 a2 (uZ g1 a (g1 (a - 1))) (uZ g2 a (g2 (a - 1))) sz) := hD
      refine lv_iinc (v := iZ (↑a + (-1))) (lv' := [(4, .int (iZ (↑a + (-1)))), (0, .ref h), (1, .int (iZ x)), (2, .long (lZ y))]) hx hb dX3_place_68 hl (k := 3) rfl (show iZ ↑a + iZ (-1) = _ from iZ_add _ _) (by decide) rfl (fun ls hl => ?_)
      rw [show (↑a + (-1) : Int) = ((a - 1 : Nat) : Int) by omega] at hl
      refine lv_goto (tgt := 17) hx hb dX3_place_71 (by decide) ?_
      exact ih _ _ _ _ (by omega) ⟨(a - 1), (uZ g1 a (g1 (a - 1))), (uZ g2 a (g2 (a - 1))), rfl, ⟨by omega, fun j q1 q2 => by by_cases q3 : j = a - 1; (rw [q3]; omega); exact i2 j (by omega) q2, shf_step (by omega) i1 i3, shf_step (by omega) i1 i4⟩, hP, hD, hS, lv_sub hl [1, 2, 3, 0] rfl⟩
set_option maxHeartbeats 4000000 in
set_option maxRecDepth 100000 in
theorem c_X3_node (l : Launch) (D : va_G) (cI cJ cB cZ : ClassId) (h a1 a2 : Nat) (f1 f2 : Nat → Int) (sz : Int) (k : Int) (hk0 : -2147483648 ≤ k ∧ k < 2147483648) (hs : 0 ≤ sz ∧ sz ≤ 250) : Met l yX3_node wsX3_node ({ frames := 0, cells := 0, slots := 0, locals := 0 } : Room) (Pre0 D cI cJ cB cZ [.ref h, .int (iZ k)] (wOr cI cJ h a1 a2 f1 f2 sz)) (roI (fun z => ((0 ≤ k ∧ k < sz) → z = f1 k.toNat) ∧ (¬ (0 ≤ k ∧ k < sz) → z = -1))) 0 0 (fun _ => False) := by
  refine Met.ofW (cc := cX3_node) (maxL := 2) (ret := (some .int)) (by decide) rfl ?_
  intro p e s m args below meth c s₁ B hml hv
  obtain ⟨rfl, hP, hE⟩ := hv
  have hx := B.exec
  have hb := B.bytes
  have hr := B.returns
  have hts := atoms_spec (ws := wsX3_node) B.pre
  have hown : s.vm.findClass RX3 = some m.cls := findClass_of_methodNamed B.named
  have hlocks := B.notSynchronized
  have hK := hE.1
  have hi_3 : ∀ w ∈ wsX30, w ∈ wsX3_node := by decide +kernel
  have hw_1 := hts (.fieldLink RX3 19 "RankHouse$Order" "size" "I") (by decide +kernel)
  have hw_2 := hts (.fieldLink RX3 9 "RankHouse$Order" "nodes" "[I") (by decide +kernel)
  have hl := lv_entry ([.ref h, .int (iZ k)]) (n := 2) (Nat.le_of_ble_eq_true rfl)
  rw [lg_entry_eq]
  generalize (lg_sl ([.ref h, .int (iZ k)]) ++ List.replicate (2 - (lg_sl ([.ref h, .int (iZ k)])).length) Slot.unset).toArray = ls at hl ⊢
  have hl : lv_has ls 2 [(0, .ref h), (1, .int (iZ k))] := hl
  refine lv_iload_n hx hb dX3_node_0 rfl (lv_at hl 1 rfl) ?_
  refine z_if_lt (tgt := 21) hx hb dX3_node_1 (by decide) (by omega) (fun c_1 => ?_) (fun c_1 => ?_)
  · refine z_iconst hx hb dX3_node_21 ?_
    exact ro_iret (z := (-1)) hx hb hr hlocks (by omega) dX3_node_22
  · refine lv_iload_n hx hb dX3_node_4 rfl (lv_at hl 1 rfl) ?_
    refine lv_aload_n hx hb dX3_node_5 rfl (lv_at hl 0 rfl) ?_
    refine va_get (v := .int (iZ sz)) (C := RX3) (T := TX3) (N := 3) (ci := 3) hx hb hts hi_3 hown hK hP 0 rfl rfl 2 (by decide) hw_1 (fun _ h9 => h9) rfl dX3_node_6 ?_
    refine z_icmp_ge (tgt := 21) hx hb dX3_node_9 (by decide) (by omega) (by omega) (fun c_2 => ?_) (fun c_2 => ?_)
    · refine z_iconst hx hb dX3_node_21 ?_
      exact ro_iret (z := (-1)) hx hb hr hlocks (by omega) dX3_node_22
    · refine lv_aload_n hx hb dX3_node_12 rfl (lv_at hl 0 rfl) ?_
      refine va_get (v := .ref a1) (C := RX3) (T := TX3) (N := 3) (ci := 3) hx hb hts hi_3 hown hK hP 0 rfl rfl 0 (by decide) hw_2 (fun _ h9 => h9) rfl dX3_node_13 ?_
      refine lv_iload_n hx hb dX3_node_16 rfl (lv_at hl 1 rfl) ?_
      refine z_iald hx hb hK hP 1 0 rfl rfl k.toNat (by omega) (by omega) (by omega) dX3_node_17 ?_
      refine lv_goto (tgt := 22) hx hb dX3_node_18 (by decide) ?_
      exact ro_iret (z := f1 k.toNat) hx hb hr hlocks (by omega) dX3_node_22
