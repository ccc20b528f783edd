set_option maxHeartbeats 4000000 in
set_option maxRecDepth 100000 in
theorem c_X0_init2000 (l : Launch) (D : va_G) (cI cJ cB cZ : ClassId) (h : Nat)  (sz0 : Nat) : Met l yX0_init wsX0_init ({ frames := 1, cells := 1, slots := 2000, locals := 16 } : Room) (Pre1 D cI cJ cB cZ [.ref h, .int (iZ 2000)] ([(h, .inr (0, [.null, .int (iZ 0)]))]) sz0) (rwV (S := Nat) D (fun U => True) (fun u => wBR 2000 cI h u (fun _ => 0) 0) (va_A ([(h, .inr (0, [.null, .int (iZ 0)]))]) sz0)) 1 2000 (va_A ([(h, .inr (0, [.null, .int (iZ 0)]))]) sz0) := by
  refine Met.ofW (cc := cX0_init) (maxL := 2) (ret := none) (by decide) rfl ?_
  intro p e s m args below meth c s₁ B hml hv
  obtain ⟨rfl, hsz, hP, hE, hD0⟩ := hv
  have hx := B.exec
  have hb := B.bytes
  have hr := B.returns
  have hts := atoms_spec (ws := wsX0_init) B.pre
  have hown : s.vm.findClass RX0 = some m.cls := findClass_of_methodNamed B.named
  have hlocks := B.notSynchronized
  have hK := hE.1
  have hin : meth.name = "<init>" := (name_of_methodNamed B.named B.method).1
  subst hsz
  have hD := hD0.self (sz := s.heap.size)
  generalize hAe : va_A ([(h, .inr (0, [.null, .int (iZ 0)]))]) s.heap.size = A at hD ⊢
  have hA : ∀ q : Nat, s.heap.size ≤ q → A q := fun q h => by rw [← hAe]; exact Or.inr h
  have hS : va_S A s.heap s.heap [] := va_S.rf
  have hP : va_P D vwCl ([(h, .inr (0, [.null, .int (iZ 0)]))]) s.heap := hP
  have hi_0 : ∀ w ∈ wsX00, w ∈ wsX0_init := by decide +kernel
  have hw_1 := hts (.methodLink RX0 3 objectInit) (by decide +kernel)
  have hw_2 := hts (.instanceMethod objectInit) (by decide +kernel)
  have hw_3 := hts (.code objectInit ⟨#[0xb1]⟩ 1 none) (by decide +kernel)
  have hw_4 := hts (.fieldLink RX0 9 "RankHouse$ByteRow" "length" "I") (by decide +kernel)
  have hw_5 := hts (.methodLink RX0 15 Lib.Math.max.name) (by decide +kernel)
  have hw_6 := hts (.static Lib.Math.max.name) (by decide +kernel)
  have hw_7 := hts (.initialized "java/lang/Math") (by decide +kernel)
  have hw_8 := hts (.code Lib.Math.max.name Lib.Math.max.code 2 (some .int)) (by decide +kernel)
  have hw_9 := hts (.arrayClass .int) (by decide +kernel)
  have hw_10 := hts (.fieldLink RX0 21 "RankHouse$ByteRow" "bytes" "[I") (by decide +kernel)
  have hl := lv_entry ([.ref h, .int (iZ 2000)]) (n := 2) (Nat.le_of_ble_eq_true rfl)
  rw [lg_entry_eq]
  generalize (lg_sl ([.ref h, .int (iZ 2000)]) ++ List.replicate (2 - (lg_sl ([.ref h, .int (iZ 2000)])).length) Slot.unset).toArray = ls at hl ⊢
  have hl : lv_has ls 2 [(0, .ref h), (1, .int (iZ 2000))] := hl
  refine lv_aload_n hx hb dX0_init_0 rfl (lv_at hl 0 rfl) ?_
  refine W.objInit hx hb hown hw_1 hw_2 hw_3 rfl (by rw [hml]; exact hl.1) rfl dX0_init_1 (Nat.le_of_ble_eq_true rfl) (Nat.le_of_ble_eq_true rfl) ?_
  refine W.eq (g2 := F0 m 4 ls []) rfl ?_
  refine lv_aload_n hx hb dX0_init_4 rfl (lv_at hl 0 rfl) ?_
  refine z_iconst hx hb dX0_init_5 ?_
  refine va_put (v := .int (iZ 0)) (ty := .int) (C := RX0) (T := TX0) (N := 2) (ci := 0) hx hb hts hi_0 tyX0 tyX0_ok nmX0 hown hK hP hD hS 0 rfl rfl 1 (by decide) hw_4 (fun _ h9 => h9) rfl (by decide +kernel) rfl rfl (Nat.le_of_ble_eq_true rfl) dX0_init_6 (fun H locs hP hD hS => ?_)
  have hP : va_P D vwCl ([(h, .inr (0, [.null, .int (iZ 0)]))]) H := hP
  have hD : va_D A ([(h, .inr (0, [.null, .int (iZ 0)]))]) := hD
  refine lv_aload_n hx hb dX0_init_9 rfl (lv_at hl 0 rfl) ?_
  refine lv_iload_n hx hb dX0_init_10 rfl (lv_at hl 1 rfl) ?_
  refine z_iconst hx hb dX0_init_11 ?_
  refine va_mmax hx hb (by rw [hml]; exact hl.1.symm) hown hw_5 hw_6 hw_7 hw_8 (Nat.le_of_ble_eq_true rfl) (Nat.le_of_ble_eq_true rfl) (Nat.le_of_ble_eq_true rfl) (Nat.le_of_ble_eq_true rfl) dX0_init_12 ?_
  rw [if_neg (show ¬ (iZ 2000 < iZ 0) by rw [iZ_lt (by omega) (by omega)]; omega)]
  refine z_newI hx hb hw_9 hK hP hD hS hA 2000 rfl (by omega) (Nat.le_of_ble_eq_true rfl) (Nat.le_of_ble_eq_true rfl) dX0_init_15 (fun q_1 H hP hD hS => ?_)
  have hP : va_P D vwCl ([(h, .inr (0, [.null, .int (iZ 0)]))] ++ [(q_1, .inl (cI, 2000, .inl (aI (fun _ => 0))))]) H := hP
  have hD : va_D A ([(h, .inr (0, [.null, .int (iZ 0)]))] ++ [(q_1, .inl (cI, 2000, .inl (aI (fun _ => 0))))]) := hD
  refine va_putF (v := .ref q_1) (ty := .array .int) (C := RX0) (T := TX0) (N := 2) (ci := 0) hx hb hts hi_0 tyX0 tyX0_ok nmX0 hown hK hP hD hS 0 rfl rfl 0 (by decide) hw_10 (fun _ h9 => h9) rfl hin rfl (by decide +kernel) rfl rfl (Nat.le_of_ble_eq_true rfl) dX0_init_17 (fun H locs hP hD hS => ?_)
  have hP : va_P D vwCl ([(h, .inr (0, [.ref q_1, .int (iZ 0)]))] ++ [(q_1, .inl (cI, 2000, .inl (aI (fun _ => 0))))]) H := hP
  have hD : va_D A ([(h, .inr (0, [.ref q_1, .int (iZ 0)]))] ++ [(q_1, .inl (cI, 2000, .inl (aI (fun _ => 0))))]) := hD
  exact rw_vret q_1 hx hb hr hlocks hP hD hS trivial dX0_init_20
set_option maxHeartbeats 4000000 in
set_option maxRecDepth 100000 in
theorem c_X0_init3502 (l : Launch) (D : va_G) (cI cJ cB cZ : ClassId) (h : Nat)  (sz0 : Nat) : Met l yX0_init wsX0_init ({ frames := 1, cells := 1, slots := 3502, locals := 16 } : Room) (Pre1 D cI cJ cB cZ [.ref h, .int (iZ 3502)] ([(h, .inr (0, [.null, .int (iZ 0)]))]) sz0) (rwV (S := Nat) D (fun U => True) (fun u => wBR 3502 cI h u (fun _ => 0) 0) (va_A ([(h, .inr (0, [.null, .int (iZ 0)]))]) sz0)) 1 3502 (va_A ([(h, .inr (0, [.null, .int (iZ 0)]))]) sz0) := by
  refine Met.ofW (cc := cX0_init) (maxL := 2) (ret := none) (by decide) rfl ?_
  intro p e s m args below meth c s₁ B hml hv
  obtain ⟨rfl, hsz, hP, hE, hD0⟩ := hv
  have hx := B.exec
  have hb := B.bytes
  have hr := B.returns
  have hts := atoms_spec (ws := wsX0_init) B.pre
  have hown : s.vm.findClass RX0 = some m.cls := findClass_of_methodNamed B.named
  have hlocks := B.notSynchronized
  have hK := hE.1
  have hin : meth.name = "<init>" := (name_of_methodNamed B.named B.method).1
  subst hsz
  have hD := hD0.self (sz := s.heap.size)
  generalize hAe : va_A ([(h, .inr (0, [.null, .int (iZ 0)]))]) s.heap.size = A at hD ⊢
  have hA : ∀ q : Nat, s.heap.size ≤ q → A q := fun q h => by rw [← hAe]; exact Or.inr h
  have hS : va_S A s.heap s.heap [] := va_S.rf
  have hP : va_P D vwCl ([(h, .inr (0, [.null, .int (iZ 0)]))]) s.heap := hP
  have hi_0 : ∀ w ∈ wsX00, w ∈ wsX0_init := by decide +kernel
  have hw_1 := hts (.methodLink RX0 3 objectInit) (by decide +kernel)
  have hw_2 := hts (.instanceMethod objectInit) (by decide +kernel)
  have hw_3 := hts (.code objectInit ⟨#[0xb1]⟩ 1 none) (by decide +kernel)
  have hw_4 := hts (.fieldLink RX0 9 "RankHouse$ByteRow" "length" "I") (by decide +kernel)
  have hw_5 := hts (.methodLink RX0 15 Lib.Math.max.name) (by decide +kernel)
  have hw_6 := hts (.static Lib.Math.max.name) (by decide +kernel)
  have hw_7 := hts (.initialized "java/lang/Math") (by decide +kernel)
  have hw_8 := hts (.code Lib.Math.max.name Lib.Math.max.code 2 (some .int)) (by decide +kernel)
  have hw_9 := hts (.arrayClass .int) (by decide +kernel)
  have hw_10 := hts (.fieldLink RX0 21 "RankHouse$ByteRow" "bytes" "[I") (by decide +kernel)
  have hl := lv_entry ([.ref h, .int (iZ 3502)]) (n := 2) (Nat.le_of_ble_eq_true rfl)
  rw [lg_entry_eq]
  generalize (lg_sl ([.ref h, .int (iZ 3502)]) ++ List.replicate (2 - (lg_sl ([.ref h, .int (iZ 3502)])).length) Slot.unset).toArray = ls at hl ⊢
  have hl : lv_has ls 2 [(0, .ref h), (1, .int (iZ 3502))] := hl
  refine lv_aload_n hx hb dX0_init_0 rfl (lv_at hl 0 rfl) ?_
  refine W.objInit hx hb hown hw_1 hw_2 hw_3 rfl (by rw [hml]; exact hl.1) rfl dX0_init_1 (Nat.le_of_ble_eq_true rfl) (Nat.le_of_ble_eq_true rfl) ?_
  refine W.eq (g2 := F0 m 4 ls []) rfl ?_
  refine lv_aload_n hx hb dX0_init_4 rfl (lv_at hl 0 rfl) ?_
  refine z_iconst hx hb dX0_init_5 ?_
  refine va_put (v := .int (iZ 0)) (ty := .int) (C := RX0) (T := TX0) (N := 2) (ci := 0) hx hb hts hi_0 tyX0 tyX0_ok nmX0 hown hK hP hD hS 0 rfl rfl 1 (by decide) hw_4 (fun _ h9 => h9) rfl (by decide +kernel) rfl rfl (Nat.le_of_ble_eq_true rfl) dX0_init_6 (fun H locs hP hD hS => ?_)
  have hP : va_P D vwCl ([(h, .inr (0, [.null, .int (iZ 0)]))]) H := hP
  have hD : va_D A ([(h, .inr (0, [.null, .int (iZ 0)]))]) := hD
  refine lv_aload_n hx hb dX0_init_9 rfl (lv_at hl 0 rfl) ?_
  refine lv_iload_n hx hb dX0_init_10 rfl (lv_at hl 1 rfl) ?_
  refine z_iconst hx hb dX0_init_11 ?_
  refine va_mmax hx hb (by rw [hml]; exact hl.1.symm) hown hw_5 hw_6 hw_7 hw_8 (Nat.le_of_ble_eq_true rfl) (Nat.le_of_ble_eq_true rfl) (Nat.le_of_ble_eq_true rfl) (Nat.le_of_ble_eq_true rfl) dX0_init_12 ?_
  rw [if_neg (show ¬ (iZ 3502 < iZ 0) by rw [iZ_lt (by omega) (by omega)]; omega)]
  refine z_newI hx hb hw_9 hK hP hD hS hA 3502 rfl (by omega) (Nat.le_of_ble_eq_true rfl) (Nat.le_of_ble_eq_true rfl) dX0_init_15 (fun q_1 H hP hD hS => ?_)
  have hP : va_P D vwCl ([(h, .inr (0, [.null, .int (iZ 0)]))] ++ [(q_1, .inl (cI, 3502, .inl (aI (fun _ => 0))))]) H := hP
  have hD : va_D A ([(h, .inr (0, [.null, .int (iZ 0)]))] ++ [(q_1, .inl (cI, 3502, .inl (aI (fun _ => 0))))]) := hD
  refine va_putF (v := .ref q_1) (ty := .array .int) (C := RX0) (T := TX0) (N := 2) (ci := 0) hx hb hts hi_0 tyX0 tyX0_ok nmX0 hown hK hP hD hS 0 rfl rfl 0 (by decide) hw_10 (fun _ h9 => h9) rfl hin rfl (by decide +kernel) rfl rfl (Nat.le_of_ble_eq_true rfl) dX0_init_17 (fun H locs hP hD hS => ?_)
  have hP : va_P D vwCl ([(h, .inr (0, [.ref q_1, .int (iZ 0)]))] ++ [(q_1, .inl (cI, 3502, .inl (aI (fun _ => 0))))]) H := hP
  have hD : va_D A ([(h, .inr (0, [.ref q_1, .int (iZ 0)]))] ++ [(q_1, .inl (cI, 3502, .inl (aI (fun _ => 0))))]) := hD
  exact rw_vret q_1 hx hb hr hlocks hP hD hS trivial dX0_init_20
set_option maxHeartbeats 4000000 in
set_option maxRecDepth 100000 in
theorem c_X1_init (l : Launch) (D : va_G) (cI cJ cB cZ : ClassId) (h : Nat)  (sz0 : Nat) : Met l yX1_init wsX1_init ({ frames := 1, cells := 0, slots := 0, locals := 12 } : Room) (Pre1 D cI cJ cB cZ [.ref h] ([(h, .inr (1, [.int (iZ 0), .int (iZ 0), .int (iZ 0), .int (iZ 0), .int (iZ 0)]))]) sz0) (rwV (S := Unit) D (fun U => True) (fun u => wDe h 0 0 0 0 0) (va_A ([(h, .inr (1, [.int (iZ 0), .int (iZ 0), .int (iZ 0), .int (iZ 0), .int (iZ 0)]))]) sz0)) 0 0 (va_A ([(h, .inr (1, [.int (iZ 0), .int (iZ 0), .int (iZ 0), .int (iZ 0), .int (iZ 0)]))]) sz0) := by
  refine Met.ofW (cc := cX1_init) (maxL := 1) (ret := none) (by decide) rfl ?_
  intro p e s m args below meth c s₁ B hml hv
  obtain ⟨rfl, hsz, hP, hE, hD0⟩ := hv
  have hx := B.exec
  have hb := B.bytes
  have hr := B.returns
  have hts := atoms_spec (ws := wsX1_init) B.pre
  have hown : s.vm.findClass RX1 = some m.cls := findClass_of_methodNamed B.named
  have hlocks := B.notSynchronized
  have hK := hE.1
  have hin : meth.name = "<init>" := (name_of_methodNamed B.named B.method).1
  subst hsz
  have hD := hD0.self (sz := s.heap.size)
  generalize hAe : va_A ([(h, .inr (1, [.int (iZ 0), .int (iZ 0), .int (iZ 0), .int (iZ 0), .int (iZ 0)]))]) s.heap.size = A at hD ⊢
  have hA : ∀ q : Nat, s.heap.size ≤ q → A q := fun q h => by rw [← hAe]; exact Or.inr h
  have hS : va_S A s.heap s.heap [] := va_S.rf
  have hP : va_P D vwCl ([(h, .inr (1, [.int (iZ 0), .int (iZ 0), .int (iZ 0), .int (iZ 0), .int (iZ 0)]))]) s.heap := hP
  have hi_1 : ∀ w ∈ wsX10, w ∈ wsX1_init := by decide +kernel
  have hw_1 := hts (.methodLink RX1 3 objectInit) (by decide +kernel)
  have hw_2 := hts (.instanceMethod objectInit) (by decide +kernel)
  have hw_3 := hts (.code objectInit ⟨#[0xb1]⟩ 1 none) (by decide +kernel)
  have hw_4 := hts (.fieldLink RX1 9 "RankHouse$Decoder" "next" "I") (by decide +kernel)
  have hw_5 := hts (.fieldLink RX1 15 "RankHouse$Decoder" "nodes" "I") (by decide +kernel)
  have hw_6 := hts (.fieldLink RX1 18 "RankHouse$Decoder" "size" "I") (by decide +kernel)
  have hw_7 := hts (.fieldLink RX1 21 "RankHouse$Decoder" "kind" "I") (by decide +kernel)
  have hw_8 := hts (.fieldLink RX1 24 "RankHouse$Decoder" "place" "I") (by decide +kernel)
  have hl := lv_entry ([.ref h]) (n := 1) (Nat.le_of_ble_eq_true rfl)
  rw [lg_entry_eq]
  generalize (lg_sl ([.ref h]) ++ List.replicate (1 - (lg_sl ([.ref h])).length) Slot.unset).toArray = ls at hl ⊢
  have hl : lv_has ls 1 [(0, .ref h)] := hl
  refine lv_aload_n hx hb dX1_init_0 rfl (lv_at hl 0 rfl) ?_
  refine W.objInit hx hb hown hw_1 hw_2 hw_3 rfl (by rw [hml]; exact hl.1) rfl dX1_init_1 (Nat.le_of_ble_eq_true rfl) (Nat.le_of_ble_eq_true rfl) ?_
  refine W.eq (g2 := F0 m 4 ls []) rfl ?_
  refine lv_aload_n hx hb dX1_init_4 rfl (lv_at hl 0 rfl) ?_
  refine z_iconst hx hb dX1_init_5 ?_
  refine va_put (v := .int (iZ 0)) (ty := .int) (C := RX1) (T := TX1) (N := 5) (ci := 1) hx hb hts hi_1 tyX1 tyX1_ok nmX1 hown hK hP hD hS 0 rfl rfl 0 (by decide) hw_4 (fun _ h9 => h9) rfl (by decide +kernel) rfl rfl (Nat.le_of_ble_eq_true rfl) dX1_init_6 (fun H locs hP hD hS => ?_)
  have hP : va_P D vwCl ([(h, .inr (1, [.int (iZ 0), .int (iZ 0), .int (iZ 0), .int (iZ 0), .int (iZ 0)]))]) H := hP
  have hD : va_D A ([(h, .inr (1, [.int (iZ 0), .int (iZ 0), .int (iZ 0), .int (iZ 0), .int (iZ 0)]))]) := hD
  refine lv_aload_n hx hb dX1_init_9 rfl (lv_at hl 0 rfl) ?_
  refine z_iconst hx hb dX1_init_10 ?_
  refine va_put (v := .int (iZ 0)) (ty := .int) (C := RX1) (T := TX1) (N := 5) (ci := 1) hx hb hts hi_1 tyX1 tyX1_ok nmX1 hown hK hP hD hS 0 rfl rfl 1 (by decide) hw_5 (fun _ h9 => h9) rfl (by decide +kernel) rfl rfl (Nat.le_of_ble_eq_true rfl) dX1_init_11 (fun H locs hP hD hS => ?_)
  have hP : va_P D vwCl ([(h, .inr (1, [.int (iZ 0), .int (iZ 0), .int (iZ 0), .int (iZ 0), .int (iZ 0)]))]) H := hP
  have hD : va_D A ([(h, .inr (1, [.int (iZ 0), .int (iZ 0), .int (iZ 0), .int (iZ 0), .int (iZ 0)]))]) := hD
  refine lv_aload_n hx hb dX1_init_14 rfl (lv_at hl 0 rfl) ?_
  refine z_iconst hx hb dX1_init_15 ?_
  refine va_put (v := .int (iZ 0)) (ty := .int) (C := RX1) (T := TX1) (N := 5) (ci := 1) hx hb hts hi_1 tyX1 tyX1_ok nmX1 hown hK hP hD hS 0 rfl rfl 2 (by decide) hw_6 (fun _ h9 => h9) rfl (by decide +kernel) rfl rfl (Nat.le_of_ble_eq_true rfl) dX1_init_16 (fun H locs hP hD hS => ?_)
  have hP : va_P D vwCl ([(h, .inr (1, [.int (iZ 0), .int (iZ 0), .int (iZ 0), .int (iZ 0), .int (iZ 0)]))]) H := hP
  have hD : va_D A ([(h, .inr (1, [.int (iZ 0), .int (iZ 0), .int (iZ 0), .int (iZ 0), .int (iZ 0)]))]) := hD
  refine lv_aload_n hx hb dX1_init_19 rfl (lv_at hl 0 rfl) ?_
  refine z_iconst hx hb dX1_init_20 ?_
  refine va_put (v := .int (iZ 0)) (ty := .int) (C := RX1) (T := TX1) (N := 5) (ci := 1) hx hb hts hi_1 tyX1 tyX1_ok nmX1 hown hK hP hD hS 0 rfl rfl 3 (by decide) hw_7 (fun _ h9 => h9) rfl (by decide +kernel) rfl rfl (Nat.le_of_ble_eq_true rfl) dX1_init_21 (fun H locs hP hD hS => ?_)
  have hP : va_P D vwCl ([(h, .inr (1, [.int (iZ 0), .int (iZ 0), .int (iZ 0), .int (iZ 0), .int (iZ 0)]))]) H := hP
  have hD : va_D A ([(h, .inr (1, [.int (iZ 0), .int (iZ 0), .int (iZ 0), .int (iZ 0), .int (iZ 0)]))]) := hD
  refine lv_aload_n hx hb dX1_init_24 rfl (lv_at hl 0 rfl) ?_
  refine z_iconst hx hb dX1_init_25 ?_
  refine va_put (v := .int (iZ 0)) (ty := .int) (C := RX1) (T := TX1) (N := 5) (ci := 1) hx hb hts hi_1 tyX1 tyX1_ok nmX1 hown hK hP hD hS 0 rfl rfl 4 (by decide) hw_8 (fun _ h9 => h9) rfl (by decide +kernel) rfl rfl (Nat.le_of_ble_eq_true rfl) dX1_init_26 (fun H locs hP hD hS => ?_)
  have hP : va_P D vwCl ([(h, .inr (1, [.int (iZ 0), .int (iZ 0), .int (iZ 0), .int (iZ 0), .int (iZ 0)]))]) H := hP
  have hD : va_D A ([(h, .inr (1, [.int (iZ 0), .int (iZ 0), .int (iZ 0), .int (iZ 0), .int (iZ 0)]))]) := hD
  exact rw_vret () hx hb hr hlocks hP hD hS trivial dX1_init_29
set_option maxHeartbeats 4000000 in
set_option maxRecDepth 100000 in
theorem c_X2_init (l : Launch) (D : va_G) (cI cJ cB cZ : ClassId) (h : Nat)  (sz0 : Nat) : Met l yX2_init wsX2_init ({ frames := 1, cells := 3, slots := 3001, locals := 12 } : Room) (Pre1 D cI cJ cB cZ [.ref h] ([(h, .inr (2, [.null, .null, .null, .int (iZ 0), .int (iZ 0), .int (iZ 0)]))]) sz0) (rwV (S := Nat × Nat × Nat) D (fun U => True) (fun u => wGr cI h u.1 u.2.1 u.2.2 (fun _ => 0) (fun _ => 0) (uZ (fun _ => 0) 0 1) 1 0 1) (va_A ([(h, .inr (2, [.null, .null, .null, .int (iZ 0), .int (iZ 0), .int (iZ 0)]))]) sz0)) 3 3001 (va_A ([(h, .inr (2, [.null, .null, .null, .int (iZ 0), .int (iZ 0), .int (iZ 0)]))]) sz0) := by
  refine Met.ofW (cc := cX2_init) (maxL := 1) (ret := none) (by decide) rfl ?_
  intro p e s m args below meth c s₁ B hml hv
  obtain ⟨rfl, hsz, hP, hE, hD0⟩ := hv
  have hx := B.exec
  have hb := B.bytes
  have hr := B.returns
  have hts := atoms_spec (ws := wsX2_init) B.pre
  have hown : s.vm.findClass RX2 = some m.cls := findClass_of_methodNamed B.named
  have hlocks := B.notSynchronized
  have hK := hE.1
  have hin : meth.name = "<init>" := (name_of_methodNamed B.named B.method).1
  subst hsz
  have hD := hD0.self (sz := s.heap.size)
  generalize hAe : va_A ([(h, .inr (2, [.null, .null, .null, .int (iZ 0), .int (iZ 0), .int (iZ 0)]))]) s.heap.size = A at hD ⊢
  have hA : ∀ q : Nat, s.heap.size ≤ q → A q := fun q h => by rw [← hAe]; exact Or.inr h
  have hS : va_S A s.heap s.heap [] := va_S.rf
  have hP : va_P D vwCl ([(h, .inr (2, [.null, .null, .null, .int (iZ 0), .int (iZ 0), .int (iZ 0)]))]) s.heap := hP
  have hi_2 : ∀ w ∈ wsX20, w ∈ wsX2_init := by decide +kernel
  have hw_1 := hts (.methodLink RX2 3 objectInit) (by decide +kernel)
  have hw_2 := hts (.instanceMethod objectInit) (by decide +kernel)
  have hw_3 := hts (.code objectInit ⟨#[0xb1]⟩ 1 none) (by decide +kernel)
  have hw_4 := hts (.arrayClass .int) (by decide +kernel)
  have hw_5 := hts (.fieldLink RX2 9 "RankHouse$Graph" "first" "[I") (by decide +kernel)
  have hw_6 := hts (.fieldLink RX2 15 "RankHouse$Graph" "targets" "[I") (by decide +kernel)
  have hw_7 := hts (.fieldLink RX2 18 "RankHouse$Graph" "weights" "[I") (by decide +kernel)
  have hw_8 := hts (.fieldLink RX2 21 "RankHouse$Graph" "nodes" "I") (by decide +kernel)
  have hw_9 := hts (.fieldLink RX2 25 "RankHouse$Graph" "size" "I") (by decide +kernel)
  have hw_10 := hts (.fieldLink RX2 28 "RankHouse$Graph" "whole" "I") (by decide +kernel)
  have hl := lv_entry ([.ref h]) (n := 1) (Nat.le_of_ble_eq_true rfl)
  rw [lg_entry_eq]
  generalize (lg_sl ([.ref h]) ++ List.replicate (1 - (lg_sl ([.ref h])).length) Slot.unset).toArray = ls at hl ⊢
  have hl : lv_has ls 1 [(0, .ref h)] := hl
  refine lv_aload_n hx hb dX2_init_0 rfl (lv_at hl 0 rfl) ?_
  refine W.objInit hx hb hown hw_1 hw_2 hw_3 rfl (by rw [hml]; exact hl.1) rfl dX2_init_1 (Nat.le_of_ble_eq_true rfl) (Nat.le_of_ble_eq_true rfl) ?_
  refine W.eq (g2 := F0 m 4 ls []) rfl ?_
  refine lv_aload_n hx hb dX2_init_4 rfl (lv_at hl 0 rfl) ?_
  refine z_sipush hx hb dX2_init_5 (by decide) ?_
  refine z_newI hx hb hw_4 hK hP hD hS hA 251 rfl (by omega) (Nat.le_of_ble_eq_true rfl) (Nat.le_of_ble_eq_true rfl) dX2_init_8 (fun q_1 H hP hD hS => ?_)
  have hP : va_P D vwCl ([(h, .inr (2, [.null, .null, .null, .int (iZ 0), .int (iZ 0), .int (iZ 0)]))] ++ [(q_1, .inl (cI, 251, .inl (aI (fun _ => 0))))]) H := hP
  have hD : va_D A ([(h, .inr (2, [.null, .null, .null, .int (iZ 0), .int (iZ 0), .int (iZ 0)]))] ++ [(q_1, .inl (cI, 251, .inl (aI (fun _ => 0))))]) := hD
  refine va_putF (v := .ref q_1) (ty := .array .int) (C := RX2) (T := TX2) (N := 6) (ci := 2) hx hb hts hi_2 tyX2 tyX2_ok nmX2 hown hK hP hD hS 0 rfl rfl 0 (by decide) hw_5 (fun _ h9 => h9) rfl hin rfl (by decide +kernel) rfl rfl (Nat.le_of_ble_eq_true rfl) dX2_init_10 (fun H locs hP hD hS => ?_)
  have hP : va_P D vwCl ([(h, .inr (2, [.ref q_1, .null, .null, .int (iZ 0), .int (iZ 0), .int (iZ 0)]))] ++ [(q_1, .inl (cI, 251, .inl (aI (fun _ => 0))))]) H := hP
  have hD : va_D A ([(h, .inr (2, [.ref q_1, .null, .null, .int (iZ 0), .int (iZ 0), .int (iZ 0)]))] ++ [(q_1, .inl (cI, 251, .inl (aI (fun _ => 0))))]) := hD
  refine lv_aload_n hx hb dX2_init_13 rfl (lv_at hl 0 rfl) ?_
  refine z_sipush hx hb dX2_init_14 (by decide) ?_
  refine z_newI hx hb hw_4 hK hP hD hS hA 2500 rfl (by omega) (Nat.le_of_ble_eq_true rfl) (Nat.le_of_ble_eq_true rfl) dX2_init_17 (fun q_2 H hP hD hS => ?_)
  have hP : va_P D vwCl ([(h, .inr (2, [.ref q_1, .null, .null, .int (iZ 0), .int (iZ 0), .int (iZ 0)]))] ++ [(q_1, .inl (cI, 251, .inl (aI (fun _ => 0))))] ++ [(q_2, .inl (cI, 2500, .inl (aI (fun _ => 0))))]) H := hP
  have hD : va_D A ([(h, .inr (2, [.ref q_1, .null, .null, .int (iZ 0), .int (iZ 0), .int (iZ 0)]))] ++ [(q_1, .inl (cI, 251, .inl (aI (fun _ => 0))))] ++ [(q_2, .inl (cI, 2500, .inl (aI (fun _ => 0))))]) := hD
  refine va_putF (v := .ref q_2) (ty := .array .int) (C := RX2) (T := TX2) (N := 6) (ci := 2) hx hb hts hi_2 tyX2 tyX2_ok nmX2 hown hK hP hD hS 0 rfl rfl 1 (by decide) hw_6 (fun _ h9 => h9) rfl hin rfl (by decide +kernel) rfl rfl (Nat.le_of_ble_eq_true rfl) dX2_init_19 (fun H locs hP hD hS => ?_)
  have hP : va_P D vwCl ([(h, .inr (2, [.ref q_1, .ref q_2, .null, .int (iZ 0), .int (iZ 0), .int (iZ 0)]))] ++ [(q_1, .inl (cI, 251, .inl (aI (fun _ => 0))))] ++ [(q_2, .inl (cI, 2500, .inl (aI (fun _ => 0))))]) H := hP
  have hD : va_D A ([(h, .inr (2, [.ref q_1, .ref q_2, .null, .int (iZ 0), .int (iZ 0), .int (iZ 0)]))] ++ [(q_1, .inl (cI, 251, .inl (aI (fun _ => 0))))] ++ [(q_2, .inl (cI, 2500, .inl (aI (fun _ => 0))))]) := hD
  refine lv_aload_n hx hb dX2_init_22 rfl (lv_at hl 0 rfl) ?_
  refine z_sipush hx hb dX2_init_23 (by decide) ?_
  refine z_newI hx hb hw_4 hK hP hD hS hA 250 rfl (by omega) (Nat.le_of_ble_eq_true rfl) (Nat.le_of_ble_eq_true rfl) dX2_init_26 (fun q_3 H hP hD hS => ?_)
  have hP : va_P D vwCl ([(h, .inr (2, [.ref q_1, .ref q_2, .null, .int (iZ 0), .int (iZ 0), .int (iZ 0)]))] ++ [(q_1, .inl (cI, 251, .inl (aI (fun _ => 0))))] ++ [(q_2, .inl (cI, 2500, .inl (aI (fun _ => 0))))] ++ [(q_3, .inl (cI, 250, .inl (aI (fun _ => 0))))]) H := hP
  have hD : va_D A ([(h, .inr (2, [.ref q_1, .ref q_2, .null, .int (iZ 0), .int (iZ 0), .int (iZ 0)]))] ++ [(q_1, .inl (cI, 251, .inl (aI (fun _ => 0))))] ++ [(q_2, .inl (cI, 2500, .inl (aI (fun _ => 0))))] ++ [(q_3, .inl (cI, 250, .inl (aI (fun _ => 0))))]) := hD
  refine va_putF (v := .ref q_3) (ty := .array .int) (C := RX2) (T := TX2) (N := 6) (ci := 2) hx hb hts hi_2 tyX2 tyX2_ok nmX2 hown hK hP hD hS 0 rfl rfl 2 (by decide) hw_7 (fun _ h9 => h9) rfl hin rfl (by decide +kernel) rfl rfl (Nat.le_of_ble_eq_true rfl) dX2_init_28 (fun H locs hP hD hS => ?_)
  have hP : va_P D vwCl ([(h, .inr (2, [.ref q_1, .ref q_2, .ref q_3, .int (iZ 0), .int (iZ 0), .int (iZ 0)]))] ++ [(q_1, .inl (cI, 251, .inl (aI (fun _ => 0))))] ++ [(q_2, .inl (cI, 2500, .inl (aI (fun _ => 0))))] ++ [(q_3, .inl (cI, 250, .inl (aI (fun _ => 0))))]) H := hP
  have hD : va_D A ([(h, .inr (2, [.ref q_1, .ref q_2, .ref q_3, .int (iZ 0), .int (iZ 0), .int (iZ 0)]))] ++ [(q_1, .inl (cI, 251, .inl (aI (fun _ => 0))))] ++ [(q_2, .inl (cI, 2500, .inl (aI (fun _ => 0))))] ++ [(q_3, .inl (cI, 250, .inl (aI (fun _ => 0))))]) := hD
  refine lv_aload_n hx hb dX2_init_31 rfl (lv_at hl 0 rfl) ?_
  refine z_iconst hx hb dX2_init_32 ?_
  refine va_put (v := .int (iZ 1)) (ty := .int) (C := RX2) (T := TX2) (N := 6) (ci := 2) hx hb hts hi_2 tyX2 tyX2_ok nmX2 hown hK hP hD hS 0 rfl rfl 3 (by decide) hw_8 (fun _ h9 => h9) rfl (by decide +kernel) rfl rfl (Nat.le_of_ble_eq_true rfl) dX2_init_33 (fun H locs hP hD hS => ?_)
  have hP : va_P D vwCl ([(h, .inr (2, [.ref q_1, .ref q_2, .ref q_3, .int (iZ 1), .int (iZ 0), .int (iZ 0)]))] ++ [(q_1, .inl (cI, 251, .inl (aI (fun _ => 0))))] ++ [(q_2, .inl (cI, 2500, .inl (aI (fun _ => 0))))] ++ [(q_3, .inl (cI, 250, .inl (aI (fun _ => 0))))]) H := hP
  have hD : va_D A ([(h, .inr (2, [.ref q_1, .ref q_2, .ref q_3, .int (iZ 1), .int (iZ 0), .int (iZ 0)]))] ++ [(q_1, .inl (cI, 251, .inl (aI (fun _ => 0))))] ++ [(q_2, .inl (cI, 2500, .inl (aI (fun _ => 0))))] ++ [(q_3, .inl (cI, 250, .inl (aI (fun _ => 0))))]) := hD
  refine lv_aload_n hx hb dX2_init_36 rfl (lv_at hl 0 rfl) ?_
  refine z_iconst hx hb dX2_init_37 ?_
  refine va_put (v := .int (iZ 0)) (ty := .int) (C := RX2) (T := TX2) (N := 6) (ci := 2) hx hb hts hi_2 tyX2 tyX2_ok nmX2 hown hK hP hD hS 0 rfl rfl 4 (by decide) hw_9 (fun _ h9 => h9) rfl (by decide +kernel) rfl rfl (Nat.le_of_ble_eq_true rfl) dX2_init_38 (fun H locs hP hD hS => ?_)
  have hP : va_P D vwCl ([(h, .inr (2, [.ref q_1, .ref q_2, .ref q_3, .int (iZ 1), .int (iZ 0), .int (iZ 0)]))] ++ [(q_1, .inl (cI, 251, .inl (aI (fun _ => 0))))] ++ [(q_2, .inl (cI, 2500, .inl (aI (fun _ => 0))))] ++ [(q_3, .inl (cI, 250, .inl (aI (fun _ => 0))))]) H := hP
  have hD : va_D A ([(h, .inr (2, [.ref q_1, .ref q_2, .ref q_3, .int (iZ 1), .int (iZ 0), .int (iZ 0)]))] ++ [(q_1, .inl (cI, 251, .inl (aI (fun _ => 0))))] ++ [(q_2, .inl (cI, 2500, .inl (aI (fun _ => 0))))] ++ [(q_3, .inl (cI, 250, .inl (aI (fun _ => 0))))]) := hD
  refine lv_aload_n hx hb dX2_init_41 rfl (lv_at hl 0 rfl) ?_
  refine z_iconst hx hb dX2_init_42 ?_
  refine va_put (v := .int (iZ 1)) (ty := .int) (C := RX2) (T := TX2) (N := 6) (ci := 2) hx hb hts hi_2 tyX2 tyX2_ok nmX2 hown hK hP hD hS 0 rfl rfl 5 (by decide) hw_10 (fun _ h9 => h9) rfl (by decide +kernel) rfl rfl (Nat.le_of_ble_eq_true rfl) dX2_init_43 (fun H locs hP hD hS => ?_)
  have hP : va_P D vwCl ([(h, .inr (2, [.ref q_1, .ref q_2, .ref q_3, .int (iZ 1), .int (iZ 0), .int (iZ 1)]))] ++ [(q_1, .inl (cI, 251, .inl (aI (fun _ => 0))))] ++ [(q_2, .inl (cI, 2500, .inl (aI (fun _ => 0))))] ++ [(q_3, .inl (cI, 250, .inl (aI (fun _ => 0))))]) H := hP
  have hD : va_D A ([(h, .inr (2, [.ref q_1, .ref q_2, .ref q_3, .int (iZ 1), .int (iZ 0), .int (iZ 1)]))] ++ [(q_1, .inl (cI, 251, .inl (aI (fun _ => 0))))] ++ [(q_2, .inl (cI, 2500, .inl (aI (fun _ => 0))))] ++ [(q_3, .inl (cI, 250, .inl (aI (fun _ => 0))))]) := hD
  refine lv_aload_n hx hb dX2_init_46 rfl (lv_at hl 0 rfl) ?_
  refine va_get (v := .ref q_3) (C := RX2) (T := TX2) (N := 6) (ci := 2) hx hb hts hi_2 hown hK hP 0 rfl rfl 2 (by decide) hw_7 (fun _ h9 => h9) rfl dX2_init_47 ?_
  refine z_iconst hx hb dX2_init_50 ?_
  refine z_iconst hx hb dX2_init_51 ?_
  refine z_iast hx hb hK hP hD hS 3 0 rfl rfl 0 (by omega) (by omega) (by omega) dX2_init_52 (fun H locs hP hD hS => ?_)
  have hP : va_P D vwCl ([(h, .inr (2, [.ref q_1, .ref q_2, .ref q_3, .int (iZ 1), .int (iZ 0), .int (iZ 1)]))] ++ [(q_1, .inl (cI, 251, .inl (aI (fun _ => 0))))] ++ [(q_2, .inl (cI, 2500, .inl (aI (fun _ => 0))))] ++ [(q_3, .inl (cI, 250, .inl (aI (uZ (fun _ => 0) 0 1))))]) H := hP
  have hD : va_D A ([(h, .inr (2, [.ref q_1, .ref q_2, .ref q_3, .int (iZ 1), .int (iZ 0), .int (iZ 1)]))] ++ [(q_1, .inl (cI, 251, .inl (aI (fun _ => 0))))] ++ [(q_2, .inl (cI, 2500, .inl (aI (fun _ => 0))))] ++ [(q_3, .inl (cI, 250, .inl (aI (uZ (fun _ => 0) 0 1))))]) := hD
  exact rw_vret (q_1, q_2, q_3) hx hb hr hlocks hP hD hS trivial dX2_init_53
set_option maxHeartbeats 4000000 in
set_option maxRecDepth 100000 in
theorem c_X3_init (l : Launch) (D : va_G) (cI cJ cB cZ : ClassId) (h : Nat)  (sz0 : Nat) : Met l yX3_init wsX3_init ({ frames := 1, cells := 2, slots := 500, locals := 12 } : Room) (Pre1 D cI cJ cB cZ [.ref h] ([(h, .inr (3, [.null, .null, .int (iZ 0)]))]) sz0) (rwV (S := Nat × Nat) D (fun U => True) (fun u => wOr cI cJ h u.1 u.2 (fun _ => 0) (fun _ => 0) 0) (va_A ([(h, .inr (3, [.null, .null, .int (iZ 0)]))]) sz0)) 2 500 (va_A ([(h, .inr (3, [.null, .null, .int (iZ 0)]))]) sz0) := by
  refine Met.ofW (cc := cX3_init) (maxL := 1) (ret := none) (by decide) rfl ?_
  intro p e s m args below meth c s₁ B hml hv
  obtain ⟨rfl, hsz, hP, hE, hD0⟩ := hv
  have hx := B.exec
  have hb := B.bytes
  have hr := B.returns
  have hts := atoms_spec (ws := wsX3_init) B.pre
  have hown : s.vm.findClass RX3 = some m.cls := findClass_of_methodNamed B.named
  have hlocks := B.notSynchronized
  have hK := hE.1
  have hin : meth.name = "<init>" := (name_of_methodNamed B.named B.method).1
  subst hsz
  have hD := hD0.self (sz := s.heap.size)
  generalize hAe : va_A ([(h, .inr (3, [.null, .null, .int (iZ 0)]))]) s.heap.size = A at hD ⊢
  have hA : ∀ q : Nat, s.heap.size ≤ q → A q := fun q h => by rw [← hAe]; exact Or.inr h
  have hS : va_S A s.heap s.heap [] := va_S.rf
  have hP : va_P D vwCl ([(h, .inr (3, [.null, .null, .int (iZ 0)]))]) s.heap := hP
  have hi_3 : ∀ w ∈ wsX30, w ∈ wsX3_init := by decide +kernel
  have hw_1 := hts (.methodLink RX3 3 objectInit) (by decide +kernel)
  have hw_2 := hts (.instanceMethod objectInit) (by decide +kernel)
  have hw_3 := hts (.code objectInit ⟨#[0xb1]⟩ 1 none) (by decide +kernel)
  have hw_4 := hts (.arrayClass .int) (by decide +kernel)
  have hw_5 := hts (.fieldLink RX3 9 "RankHouse$Order" "nodes" "[I") (by decide +kernel)
  have hw_6 := hts (.arrayClass .long) (by decide +kernel)
  have hw_7 := hts (.fieldLink RX3 15 "RankHouse$Order" "worths" "[J") (by decide +kernel)
  have hw_8 := hts (.fieldLink RX3 19 "RankHouse$Order" "size" "I") (by decide +kernel)
  have hl := lv_entry ([.ref h]) (n := 1) (Nat.le_of_ble_eq_true rfl)
  rw [lg_entry_eq]
  generalize (lg_sl ([.ref h]) ++ List.replicate (1 - (lg_sl ([.ref h])).length) Slot.unset).toArray = ls at hl ⊢
  have hl : lv_has ls 1 [(0, .ref h)] := hl
  refine lv_aload_n hx hb dX3_init_0 rfl (lv_at hl 0 rfl) ?_
  refine W.objInit hx hb hown hw_1 hw_2 hw_3 rfl (by rw [hml]; exact hl.1) rfl dX3_init_1 (Nat.le_of_ble_eq_true rfl) (Nat.le_of_ble_eq_true rfl) ?_
  refine W.eq (g2 := F0 m 4 ls []) rfl ?_
  refine lv_aload_n hx hb dX3_init_4 rfl (lv_at hl 0 rfl) ?_
  refine z_sipush hx hb dX3_init_5 (by decide) ?_
  refine z_newI hx hb hw_4 hK hP hD hS hA 250 rfl (by omega) (Nat.le_of_ble_eq_true rfl) (Nat.le_of_ble_eq_true rfl) dX3_init_8 (fun q_1 H hP hD hS => ?_)
  have hP : va_P D vwCl ([(h, .inr (3, [.null, .null, .int (iZ 0)]))] ++ [(q_1, .inl (cI, 250, .inl (aI (fun _ => 0))))]) H := hP
  have hD : va_D A ([(h, .inr (3, [.null, .null, .int (iZ 0)]))] ++ [(q_1, .inl (cI, 250, .inl (aI (fun _ => 0))))]) := hD
  refine va_putF (v := .ref q_1) (ty := .array .int) (C := RX3) (T := TX3) (N := 3) (ci := 3) hx hb hts hi_3 tyX3 tyX3_ok nmX3 hown hK hP hD hS 0 rfl rfl 0 (by decide) hw_5 (fun _ h9 => h9) rfl hin rfl (by decide +kernel) rfl rfl (Nat.le_of_ble_eq_true rfl) dX3_init_10 (fun H locs hP hD hS => ?_)
  have hP : va_P D vwCl ([(h, .inr (3, [.ref q_1, .null, .int (iZ 0)]))] ++ [(q_1, .inl (cI, 250, .inl (aI (fun _ => 0))))]) H := hP
  have hD : va_D A ([(h, .inr (3, [.ref q_1, .null, .int (iZ 0)]))] ++ [(q_1, .inl (cI, 250, .inl (aI (fun _ => 0))))]) := hD
  refine lv_aload_n hx hb dX3_init_13 rfl (lv_at hl 0 rfl) ?_
  refine z_sipush hx hb dX3_init_14 (by decide) ?_
  refine z_newJ hx hb hw_6 hK hP hD hS hA 250 rfl (by omega) (Nat.le_of_ble_eq_true rfl) (Nat.le_of_ble_eq_true rfl) dX3_init_17 (fun q_2 H hP hD hS => ?_)
  have hP : va_P D vwCl ([(h, .inr (3, [.ref q_1, .null, .int (iZ 0)]))] ++ [(q_1, .inl (cI, 250, .inl (aI (fun _ => 0))))] ++ [(q_2, .inl (cJ, 250, .inr (.inl (aL (fun _ => 0)))))]) H := hP
  have hD : va_D A ([(h, .inr (3, [.ref q_1, .null, .int (iZ 0)]))] ++ [(q_1, .inl (cI, 250, .inl (aI (fun _ => 0))))] ++ [(q_2, .inl (cJ, 250, .inr (.inl (aL (fun _ => 0)))))]) := hD
  refine va_putF (v := .ref q_2) (ty := .array .long) (C := RX3) (T := TX3) (N := 3) (ci := 3) hx hb hts hi_3 tyX3 tyX3_ok nmX3 hown hK hP hD hS 0 rfl rfl 1 (by decide) hw_7 (fun _ h9 => h9) rfl hin rfl (by decide +kernel) rfl rfl (Nat.le_of_ble_eq_true rfl) dX3_init_19 (fun H locs hP hD hS => ?_)
  have hP : va_P D vwCl ([(h, .inr (3, [.ref q_1, .ref q_2, .int (iZ 0)]))] ++ [(q_1, .inl (cI, 250, .inl (aI (fun _ => 0))))] ++ [(q_2, .inl (cJ, 250, .inr (.inl (aL (fun _ => 0)))))]) H := hP
  have hD : va_D A ([(h, .inr (3, [.ref q_1, .ref q_2, .int (iZ 0)]))] ++ [(q_1, .inl (cI, 250, .inl (aI (fun _ => 0))))] ++ [(q_2, .inl (cJ, 250, .inr (.inl (aL (fun _ => 0)))))]) := hD
  refine lv_aload_n hx hb dX3_init_22 rfl (lv_at hl 0 rfl) ?_
  refine z_iconst hx hb dX3_init_23 ?_
  refine va_put (v := .int (iZ 0)) (ty := .int) (C := RX3) (T := TX3) (N := 3) (ci := 3) hx hb hts hi_3 tyX3 tyX3_ok nmX3 hown hK hP hD hS 0 rfl rfl 2 (by decide) hw_8 (fun _ h9 => h9) rfl (by decide +kernel) rfl rfl (Nat.le_of_ble_eq_true rfl) dX3_init_24 (fun H locs hP hD hS => ?_)
  have hP : va_P D vwCl ([(h, .inr (3, [.ref q_1, .ref q_2, .int (iZ 0)]))] ++ [(q_1, .inl (cI, 250, .inl (aI (fun _ => 0))))] ++ [(q_2, .inl (cJ, 250, .inr (.inl (aL (fun _ => 0)))))]) H := hP
  have hD : va_D A ([(h, .inr (3, [.ref q_1, .ref q_2, .int (iZ 0)]))] ++ [(q_1, .inl (cI, 250, .inl (aI (fun _ => 0))))] ++ [(q_2, .inl (cJ, 250, .inr (.inl (aL (fun _ => 0)))))]) := hD
  exact rw_vret (q_1, q_2) hx hb hr hlocks hP hD hS trivial dX3_init_27
set_option maxHeartbeats 4000000 in
set_option maxRecDepth 100000 in
theorem c_X4_init (l : Launch) (D : va_G) (cI cJ cB cZ : ClassId) (h : Nat)  (sz0 : Nat) : Met l yX4_init wsX4_init ({ frames := 1, cells := 2, slots := 500, locals := 12 } : Room) (Pre1 D cI cJ cB cZ [.ref h] ([(h, .inr (4, [.null, .null, .int (iZ 0), .int (iZ 0), .int (iZ 0), .long (lZ 0), .long (lZ 0)]))]) sz0) (rwV (S := Nat × Nat) D (fun U => True) (fun u => wRa cJ h u.1 u.2 (fun _ => 0) (fun _ => 0) 17 20 0 0 0) (va_A ([(h, .inr (4, [.null, .null, .int (iZ 0), .int (iZ 0), .int (iZ 0), .long (lZ 0), .long (lZ 0)]))]) sz0)) 2 500 (va_A ([(h, .inr (4, [.null, .null, .int (iZ 0), .int (iZ 0), .int (iZ 0), .long (lZ 0), .long (lZ 0)]))]) sz0) := by
  refine Met.ofW (cc := cX4_init) (maxL := 1) (ret := none) (by decide) rfl ?_
  intro p e s m args below meth c s₁ B hml hv
  obtain ⟨rfl, hsz, hP, hE, hD0⟩ := hv
  have hx := B.exec
  have hb := B.bytes
  have hr := B.returns
  have hts := atoms_spec (ws := wsX4_init) B.pre
  have hown : s.vm.findClass RX4 = some m.cls := findClass_of_methodNamed B.named
  have hlocks := B.notSynchronized
  have hK := hE.1
  have hin : meth.name = "<init>" := (name_of_methodNamed B.named B.method).1
  subst hsz
  have hD := hD0.self (sz := s.heap.size)
  generalize hAe : va_A ([(h, .inr (4, [.null, .null, .int (iZ 0), .int (iZ 0), .int (iZ 0), .long (lZ 0), .long (lZ 0)]))]) s.heap.size = A at hD ⊢
  have hA : ∀ q : Nat, s.heap.size ≤ q → A q := fun q h => by rw [← hAe]; exact Or.inr h
  have hS : va_S A s.heap s.heap [] := va_S.rf
  have hP : va_P D vwCl ([(h, .inr (4, [.null, .null, .int (iZ 0), .int (iZ 0), .int (iZ 0), .long (lZ 0), .long (lZ 0)]))]) s.heap := hP
  have hi_4 : ∀ w ∈ wsX40, w ∈ wsX4_init := by decide +kernel
  have hw_1 := hts (.methodLink RX4 3 objectInit) (by decide +kernel)
  have hw_2 := hts (.instanceMethod objectInit) (by decide +kernel)
  have hw_3 := hts (.code objectInit ⟨#[0xb1]⟩ 1 none) (by decide +kernel)
  have hw_4 := hts (.arrayClass .long) (by decide +kernel)
  have hw_5 := hts (.fieldLink RX4 9 "RankHouse$Ranks" "now" "[J") (by decide +kernel)
  have hw_6 := hts (.fieldLink RX4 15 "RankHouse$Ranks" "next" "[J") (by decide +kernel)
  have hw_7 := hts (.fieldLink RX4 18 "RankHouse$Ranks" "p" "I") (by decide +kernel)
  have hw_8 := hts (.fieldLink RX4 22 "RankHouse$Ranks" "q" "I") (by decide +kernel)
  have hl := lv_entry ([.ref h]) (n := 1) (Nat.le_of_ble_eq_true rfl)
  rw [lg_entry_eq]
  generalize (lg_sl ([.ref h]) ++ List.replicate (1 - (lg_sl ([.ref h])).length) Slot.unset).toArray = ls at hl ⊢
  have hl : lv_has ls 1 [(0, .ref h)] := hl
  refine lv_aload_n hx hb dX4_init_0 rfl (lv_at hl 0 rfl) ?_
  refine W.objInit hx hb hown hw_1 hw_2 hw_3 rfl (by rw [hml]; exact hl.1) rfl dX4_init_1 (Nat.le_of_ble_eq_true rfl) (Nat.le_of_ble_eq_true rfl) ?_
  refine W.eq (g2 := F0 m 4 ls []) rfl ?_
  refine lv_aload_n hx hb dX4_init_4 rfl (lv_at hl 0 rfl) ?_
  refine z_sipush hx hb dX4_init_5 (by decide) ?_
  refine z_newJ hx hb hw_4 hK hP hD hS hA 250 rfl (by omega) (Nat.le_of_ble_eq_true rfl) (Nat.le_of_ble_eq_true rfl) dX4_init_8 (fun q_1 H hP hD hS => ?_)
  have hP : va_P D vwCl ([(h, .inr (4, [.null, .null, .int (iZ 0), .int (iZ 0), .int (iZ 0), .long (lZ 0), .long (lZ 0)]))] ++ [(q_1, .inl (cJ, 250, .inr (.inl (aL (fun _ => 0)))))]) H := hP
  have hD : va_D A ([(h, .inr (4, [.null, .null, .int (iZ 0), .int (iZ 0), .int (iZ 0), .long (lZ 0), .long (lZ 0)]))] ++ [(q_1, .inl (cJ, 250, .inr (.inl (aL (fun _ => 0)))))]) := hD
  refine va_put (v := .ref q_1) (ty := .array .long) (C := RX4) (T := TX4) (N := 7) (ci := 4) hx hb hts hi_4 tyX4 tyX4_ok nmX4 hown hK hP hD hS 0 rfl rfl 0 (by decide) hw_5 (fun _ h9 => h9) rfl (by decide +kernel) rfl rfl (Nat.le_of_ble_eq_true rfl) dX4_init_10 (fun H locs hP hD hS => ?_)
  have hP : va_P D vwCl ([(h, .inr (4, [.ref q_1, .null, .int (iZ 0), .int (iZ 0), .int (iZ 0), .long (lZ 0), .long (lZ 0)]))] ++ [(q_1, .inl (cJ, 250, .inr (.inl (aL (fun _ => 0)))))]) H := hP
  have hD : va_D A ([(h, .inr (4, [.ref q_1, .null, .int (iZ 0), .int (iZ 0), .int (iZ 0), .long (lZ 0), .long (lZ 0)]))] ++ [(q_1, .inl (cJ, 250, .inr (.inl (aL (fun _ => 0)))))]) := hD
  refine lv_aload_n hx hb dX4_init_13 rfl (lv_at hl 0 rfl) ?_
  refine z_sipush hx hb dX4_init_14 (by decide) ?_
  refine z_newJ hx hb hw_4 hK hP hD hS hA 250 rfl (by omega) (Nat.le_of_ble_eq_true rfl) (Nat.le_of_ble_eq_true rfl) dX4_init_17 (fun q_2 H hP hD hS => ?_)
  have hP : va_P D vwCl ([(h, .inr (4, [.ref q_1, .null, .int (iZ 0), .int (iZ 0), .int (iZ 0), .long (lZ 0), .long (lZ 0)]))] ++ [(q_1, .inl (cJ, 250, .inr (.inl (aL (fun _ => 0)))))] ++ [(q_2, .inl (cJ, 250, .inr (.inl (aL (fun _ => 0)))))]) H := hP
  have hD : va_D A ([(h, .inr (4, [.ref q_1, .null, .int (iZ 0), .int (iZ 0), .int (iZ 0), .long (lZ 0), .long (lZ 0)]))] ++ [(q_1, .inl (cJ, 250, .inr (.inl (aL (fun _ => 0)))))] ++ [(q_2, .inl (cJ, 250, .inr (.inl (aL (fun _ => 0)))))]) := hD
  refine va_put (v := .ref q_2) (ty := .array .long) (C := RX4) (T := TX4) (N := 7) (ci := 4) hx hb hts hi_4 tyX4 tyX4_ok nmX4 hown hK hP hD hS 0 rfl rfl 1 (by decide) hw_6 (fun _ h9 => h9) rfl (by decide +kernel) rfl rfl (Nat.le_of_ble_eq_true rfl) dX4_init_19 (fun H locs hP hD hS => ?_)
  have hP : va_P D vwCl ([(h, .inr (4, [.ref q_1, .ref q_2, .int (iZ 0), .int (iZ 0), .int (iZ 0), .long (lZ 0), .long (lZ 0)]))] ++ [(q_1, .inl (cJ, 250, .inr (.inl (aL (fun _ => 0)))))] ++ [(q_2, .inl (cJ, 250, .inr (.inl (aL (fun _ => 0)))))]) H := hP
  have hD : va_D A ([(h, .inr (4, [.ref q_1, .ref q_2, .int (iZ 0), .int (iZ 0), .int (iZ 0), .long (lZ 0), .long (lZ 0)]))] ++ [(q_1, .inl (cJ, 250, .inr (.inl (aL (fun _ => 0)))))] ++ [(q_2, .inl (cJ, 250, .inr (.inl (aL (fun _ => 0)))))]) := hD
  refine lv_aload_n hx hb dX4_init_22 rfl (lv_at hl 0 rfl) ?_
  refine z_bipush hx hb dX4_init_23 (by decide) ?_
  refine va_put (v := .int (iZ 17)) (ty := .int) (C := RX4) (T := TX4) (N := 7) (ci := 4) hx hb hts hi_4 tyX4 tyX4_ok nmX4 hown hK hP hD hS 0 rfl rfl 2 (by decide) hw_7 (fun _ h9 => h9) rfl (by decide +kernel) rfl rfl (Nat.le_of_ble_eq_true rfl) dX4_init_25 (fun H locs hP hD hS => ?_)
  have hP : va_P D vwCl ([(h, .inr (4, [.ref q_1, .ref q_2, .int (iZ 17), .int (iZ 0), .int (iZ 0), .long (lZ 0), .long (lZ 0)]))] ++ [(q_1, .inl (cJ, 250, .inr (.inl (aL (fun _ => 0)))))] ++ [(q_2, .inl (cJ, 250, .inr (.inl (aL (fun _ => 0)))))]) H := hP
  have hD : va_D A ([(h, .inr (4, [.ref q_1, .ref q_2, .int (iZ 17), .int (iZ 0), .int (iZ 0), .long (lZ 0), .long (lZ 0)]))] ++ [(q_1, .inl (cJ, 250, .inr (.inl (aL (fun _ => 0)))))] ++ [(q_2, .inl (cJ, 250, .inr (.inl (aL (fun _ => 0)))))]) := hD
  refine lv_aload_n hx hb dX4_init_28 rfl (lv_at hl 0 rfl) ?_
  refine z_bipush hx hb dX4_init_29 (by decide) ?_
  refine va_put (v := .int (iZ 20)) (ty := .int) (C := RX4) (T := TX4) (N := 7) (ci := 4) hx hb hts hi_4 tyX4 tyX4_ok nmX4 hown hK hP hD hS 0 rfl rfl 3 (by decide) hw_8 (fun _ h9 => h9) rfl (by decide +kernel) rfl rfl (Nat.le_of_ble_eq_true rfl) dX4_init_31 (fun H locs hP hD hS => ?_)
  have hP : va_P D vwCl ([(h, .inr (4, [.ref q_1, .ref q_2, .int (iZ 17), .int (iZ 20), .int (iZ 0), .long (lZ 0), .long (lZ 0)]))] ++ [(q_1, .inl (cJ, 250, .inr (.inl (aL (fun _ => 0)))))] ++ [(q_2, .inl (cJ, 250, .inr (.inl (aL (fun _ => 0)))))]) H := hP
  have hD : va_D A ([(h, .inr (4, [.ref q_1, .ref q_2, .int (iZ 17), .int (iZ 20), .int (iZ 0), .long (lZ 0), .long (lZ 0)]))] ++ [(q_1, .inl (cJ, 250, .inr (.inl (aL (fun _ => 0)))))] ++ [(q_2, .inl (cJ, 250, .inr (.inl (aL (fun _ => 0)))))]) := hD
  exact rw_vret (q_1, q_2) hx hb hr hlocks hP hD hS trivial dX4_init_34
