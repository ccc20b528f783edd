set_option maxHeartbeats 4000000 in
set_option maxRecDepth 100000 in
theorem c_X1_refuse (l : Launch) (D : va_G) (cI cJ cB cZ : ClassId) (hd : Nat) (nx nd sz kd pl : Int) (a b : Int) (sz0 : Nat) : Met l yX1_refuse wsX1_refuse ({ frames := 0, cells := 0, slots := 0, locals := 0 } : Room) (Pre1 D cI cJ cB cZ [.ref hd, .int (iZ a), .int (iZ b)] (wDe hd nx nd sz kd pl) sz0) (rwI (S := Int × Int) D (fun z U => z = 0 ∧ U = (a, b)) (fun u => wDe hd nx nd sz u.1 u.2) (va_A (wDe hd nx nd sz kd pl) sz0)) 0 0 (va_A (wDe hd nx nd sz kd pl) sz0) := by
  refine Met.ofW (cc := cX1_refuse) (maxL := 3) (ret := (some .boolean)) (by decide) rfl ?_
  intro p e s m args below meth c s₁ B hml hv
  obtain ⟨rfl, hsz, hP, hE, hD0⟩ := hv
  have hx := B.exec
  have hb := B.bytes
  have hr := B.returns
  have hts := atoms_spec (ws := wsX1_refuse) B.pre
  have hown : s.vm.findClass RX1 = some m.cls := findClass_of_methodNamed B.named
  have hlocks := B.notSynchronized
  have hK := hE.1
  subst hsz
  have hD := hD0.self (sz := s.heap.size)
  generalize hAe : va_A (wDe hd nx nd sz kd pl) s.heap.size = A at hD ⊢
  have hA : ∀ q : Nat, s.heap.size ≤ q → A q := fun q h => by rw [← hAe]; exact Or.inr h
  have hS : va_S A s.heap s.heap [] := va_S.rf
  have hP : va_P D vwCl (wDe hd nx nd sz kd pl) s.heap := hP
  have hi_1 : ∀ w ∈ wsX10, w ∈ wsX1_refuse := by decide +kernel
  have hw_1 := hts (.fieldLink RX1 21 "RankHouse$Decoder" "kind" "I") (by decide +kernel)
  have hw_2 := hts (.fieldLink RX1 24 "RankHouse$Decoder" "place" "I") (by decide +kernel)
  have hl := lv_entry ([.ref hd, .int (iZ a), .int (iZ b)]) (n := 3) (Nat.le_of_ble_eq_true rfl)
  rw [lg_entry_eq]
  generalize (lg_sl ([.ref hd, .int (iZ a), .int (iZ b)]) ++ List.replicate (3 - (lg_sl ([.ref hd, .int (iZ a), .int (iZ b)])).length) Slot.unset).toArray = ls at hl ⊢
  have hl : lv_has ls 3 [(0, .ref hd), (1, .int (iZ a)), (2, .int (iZ b))] := hl
  refine lv_aload_n hx hb dX1_refuse_0 rfl (lv_at hl 0 rfl) ?_
  refine lv_iload_n hx hb dX1_refuse_1 rfl (lv_at hl 1 rfl) ?_
  refine va_put (v := .int (iZ a)) (ty := .int) (C := RX1) (T := TX1) (N := 5) (ci := 1) hx hb hts hi_1 tyX1 tyX1_ok nmX1 hown hK hP hD hS 0 rfl rfl 3 (by decide) hw_1 (fun _ h9 => h9) rfl (by decide +kernel) rfl rfl (Nat.le_of_ble_eq_true rfl) dX1_refuse_2 (fun H locs hP hD hS => ?_)
  have hP : va_P D vwCl (wDe hd nx nd sz a pl) H := hP
  have hD : va_D A (wDe hd nx nd sz a pl) := hD
  refine lv_aload_n hx hb dX1_refuse_5 rfl (lv_at hl 0 rfl) ?_
  refine lv_iload_n hx hb dX1_refuse_6 rfl (lv_at hl 2 rfl) ?_
  refine va_put (v := .int (iZ b)) (ty := .int) (C := RX1) (T := TX1) (N := 5) (ci := 1) hx hb hts hi_1 tyX1 tyX1_ok nmX1 hown hK hP hD hS 0 rfl rfl 4 (by decide) hw_2 (fun _ h9 => h9) rfl (by decide +kernel) rfl rfl (Nat.le_of_ble_eq_true rfl) dX1_refuse_7 (fun H locs hP hD hS => ?_)
  have hP : va_P D vwCl (wDe hd nx nd sz a b) H := hP
  have hD : va_D A (wDe hd nx nd sz a b) := hD
  refine z_iconst hx hb dX1_refuse_10 ?_
  exact rw_zret (z := 0) (a, b) hx hb hr hlocks (Or.inl rfl) hP hD hS ⟨rfl, rfl⟩ dX1_refuse_11
set_option maxHeartbeats 4000000 in
set_option maxRecDepth 100000 in
theorem c_X1_refuseUnsigned (l : Launch) (D : va_G) (cI cJ cB cZ : ClassId) (hd : Nat) (nx nd sz kd pl : Int) (b : Int) (sz0 : Nat) : Met l yX1_refuseUnsigned wsX1_refuseUnsigned ({ frames := 1, cells := 0, slots := 0, locals := 22 } : Room) (Pre1 D cI cJ cB cZ [.ref hd, .int (iZ b)] (wDe hd nx nd sz kd pl) sz0) (rwI (S := Int × Int) D (fun z U => z = -1 ∧ U = (2, b)) (fun u => wDe hd nx nd sz u.1 u.2) (va_A (wDe hd nx nd sz kd pl) sz0)) 0 0 (va_A (wDe hd nx nd sz kd pl) sz0) := by
  refine Met.ofW (cc := cX1_refuseUnsigned) (maxL := 2) (ret := (some .int)) (by decide) rfl ?_
  intro p e s m args below meth c s₁ B hml hv
  obtain ⟨rfl, hsz, hP, hE, hD0⟩ := hv
  have hx := B.exec
  have hb := B.bytes
  have hr := B.returns
  have hts := atoms_spec (ws := wsX1_refuseUnsigned) B.pre
  have hown : s.vm.findClass RX1 = some m.cls := findClass_of_methodNamed B.named
  have hlocks := B.notSynchronized
  have hK := hE.1
  subst hsz
  have hD := hD0.self (sz := s.heap.size)
  generalize hAe : va_A (wDe hd nx nd sz kd pl) s.heap.size = A at hD ⊢
  have hA : ∀ q : Nat, s.heap.size ≤ q → A q := fun q h => by rw [← hAe]; exact Or.inr h
  have hS : va_S A s.heap s.heap [] := va_S.rf
  have hP : va_P D vwCl (wDe hd nx nd sz kd pl) s.heap := hP
  have hl := lv_entry ([.ref hd, .int (iZ b)]) (n := 2) (Nat.le_of_ble_eq_true rfl)
  rw [lg_entry_eq]
  generalize (lg_sl ([.ref hd, .int (iZ b)]) ++ List.replicate (2 - (lg_sl ([.ref hd, .int (iZ b)])).length) Slot.unset).toArray = ls at hl ⊢
  have hl : lv_has ls 2 [(0, .ref hd), (1, .int (iZ b))] := hl
  refine lv_aload_n hx hb dX1_refuseUnsigned_0 rfl (lv_at hl 0 rfl) ?_
  refine z_iconst hx hb dX1_refuseUnsigned_1 ?_
  refine lv_iload_n hx hb dX1_refuseUnsigned_2 rfl (lv_at hl 1 rfl) ?_
  refine rw_i (wr := []) (va_runV (As := [.int (iZ 2), .int (iZ b)]) (rest := []) ⟨hx, hb, hml, hown, hts⟩ (c_X1_refuse l D cI cJ cB cZ hd nx nd sz kd pl 2 b _) (cwV 2 hts gX1_refuseUnsigned_X1_refuse rfl rfl rfl (by decide +kernel) ⟨Nat.le_of_ble_eq_true rfl, Nat.le_of_ble_eq_true rfl⟩) (pre1V hE hP hD 0 rfl rfl) rfl rfl hl.1 rfl (lv_room (Nat.le_of_ble_eq_true rfl)) dX1_refuseUnsigned_3 ⟨Nat.le_of_ble_eq_true rfl, Nat.le_of_ble_eq_true rfl⟩) hP hD hS hA [0] [] rfl rfl (by decide) (by decide) (fun r_1 u_3 H locs hr_2 hP hD hS => ?_)
  obtain ⟨rfl, rfl⟩ := hr_2
  have hP := hP.sub (ws' := (wDe hd nx nd sz 2 b)) [0] rfl
  have hD := hD.sub (ws' := (wDe hd nx nd sz 2 b)) [0] (by decide) rfl
  refine lv_pop hx hb dX1_refuseUnsigned_6 rfl ?_
  refine z_iconst hx hb dX1_refuseUnsigned_7 ?_
  exact rw_iret (z := (-1)) (2, b) hx hb hr hlocks hP hD hS ⟨rfl, rfl⟩ dX1_refuseUnsigned_8
set_option maxHeartbeats 4000000 in
set_option maxRecDepth 100000 in
theorem c_X1_signed (l : Launch) (D : va_G) (cI cJ cB cZ : ClassId) (a : Int) (ha : 0 ≤ a ∧ a ≤ 65535) : Met l yX1_signed wsX1_signed ({ frames := 0, cells := 0, slots := 0, locals := 0 } : Room) (Pre0 D cI cJ cB cZ [.int (iZ a)] []) (roI (fun z => z = sg a)) 0 0 (fun _ => False) := by
  refine Met.ofW (cc := cX1_signed) (maxL := 1) (ret := (some .int)) (by decide) rfl ?_
  intro p e s m args below meth c s₁ B hml hv
  obtain ⟨rfl, hP, hE⟩ := hv
  have hx := B.exec
  have hb := B.bytes
  have hr := B.returns
  have hts := atoms_spec (ws := wsX1_signed) B.pre
  have hown : s.vm.findClass RX1 = some m.cls := findClass_of_methodNamed B.named
  have hlocks := B.notSynchronized
  have hK := hE.1
  have hl := lv_entry ([.int (iZ a)]) (n := 1) (Nat.le_of_ble_eq_true rfl)
  rw [lg_entry_eq]
  generalize (lg_sl ([.int (iZ a)]) ++ List.replicate (1 - (lg_sl ([.int (iZ a)])).length) Slot.unset).toArray = ls at hl ⊢
  have hl : lv_has ls 1 [(0, .int (iZ a))] := hl
  refine lv_iload_n hx hb dX1_signed_0 rfl (lv_at hl 0 rfl) ?_
  refine z_iconst hx hb dX1_signed_1 ?_
  refine z_iand (a % 2) hx hb dX1_signed_2 (iZ_and1 a) ?_
  refine z_if_ne (tgt := 12) hx hb dX1_signed_3 (by decide) (by omega) (fun c_1 => ?_) (fun c_1 => ?_)
  · refine lv_iload_n hx hb dX1_signed_12 rfl (lv_at hl 0 rfl) ?_
    refine z_iconst hx hb dX1_signed_13 ?_
    refine z_iadd hx hb dX1_signed_14 ?_
    refine z_iconst hx hb dX1_signed_15 ?_
    refine z_ishr ((a + 1) / 2 ^ 1) hx hb dX1_signed_16 (iZ_shr 1 (by omega) rfl) ?_
    refine z_ineg hx hb dX1_signed_17 ?_
    exact ro_iret (z := -((a + 1) / 2 ^ 1)) hx hb hr hlocks (by unfold sg; split <;> omega) dX1_signed_18
  · refine lv_iload_n hx hb dX1_signed_6 rfl (lv_at hl 0 rfl) ?_
    refine z_iconst hx hb dX1_signed_7 ?_
    refine z_ishr (a / 2 ^ 1) hx hb dX1_signed_8 (iZ_shr 1 (by omega) rfl) ?_
    refine lv_goto (tgt := 18) hx hb dX1_signed_9 (by decide) ?_
    exact ro_iret (z := a / 2 ^ 1) hx hb hr hlocks (by unfold sg; split <;> omega) dX1_signed_18
set_option maxHeartbeats 4000000 in
set_option maxRecDepth 100000 in
theorem c_X1_unsigned (l : Launch) (D : va_G) (cI cJ cB cZ : ClassId) (hd ht ta : Nat) (nx nd sz kd pl : Int) (tf : Nat → Int) (len : Int) (hT : ∀ j, j < len.toNat → 0 ≤ tf j ∧ tf j < 256) (hL : 0 ≤ len ∧ len ≤ 2000) (hnx : 0 ≤ nx ∧ nx ≤ len)  (sz0 : Nat) : Met l yX1_unsigned wsX1_unsigned ({ frames := 2, cells := 0, slots := 0, locals := 43 } : Room) (Pre1 D cI cJ cB cZ [.ref hd, .ref ht] (wDe hd nx nd sz kd pl ++ wBR 2000 cI ht ta tf len) sz0) (rwI (S := Int × Int × Int) D (fun z U => uR (uns tf len.toNat nx.toNat) kd pl z U.1 U.2.1 U.2.2) (fun u => wDe hd u.1 nd sz u.2.1 u.2.2 ++ wBR 2000 cI ht ta tf len) (va_A (wDe hd nx nd sz kd pl ++ wBR 2000 cI ht ta tf len) sz0)) 0 0 (va_A (wDe hd nx nd sz kd pl ++ wBR 2000 cI ht ta tf len) sz0) := by
  refine Met.ofW (cc := cX1_unsigned) (maxL := 7) (ret := (some .int)) (by decide) rfl ?_
  intro p e s m args below meth c s₁ B hml hv
  obtain ⟨rfl, hsz, hP, hE, hD0⟩ := hv
  have hx := B.exec
  have hb := B.bytes
  have hr := B.returns
  have hts := atoms_spec (ws := wsX1_unsigned) B.pre
  have hown : s.vm.findClass RX1 = some m.cls := findClass_of_methodNamed B.named
  have hlocks := B.notSynchronized
  have hK := hE.1
  subst hsz
  have hD := hD0.self (sz := s.heap.size)
  generalize hAe : va_A (wDe hd nx nd sz kd pl ++ wBR 2000 cI ht ta tf len) s.heap.size = A at hD ⊢
  have hA : ∀ q : Nat, s.heap.size ≤ q → A q := fun q h => by rw [← hAe]; exact Or.inr h
  have hS : va_S A s.heap s.heap [] := va_S.rf
  have hP : va_P D vwCl (wDe hd nx nd sz kd pl ++ wBR 2000 cI ht ta tf len) s.heap := hP
  have hi_0 : ∀ w ∈ wsX00, w ∈ wsX1_unsigned := by decide +kernel
  have hi_1 : ∀ w ∈ wsX10, w ∈ wsX1_unsigned := by decide +kernel
  have hw_1 := hts (.fieldLink RX1 9 "RankHouse$Decoder" "next" "I") (by decide +kernel)
  have hw_2 := hE.nl (w := .fieldLinkNest RX1 49 "RankHouse$ByteRow" "length" "I" "RankHouse") (by decide +kernel) ([.ref hd, .ref ht] : List Value).toArray
  have hw_3 := hE.nl (w := .fieldLinkNest RX1 61 "RankHouse$ByteRow" "bytes" "[I" "RankHouse") (by decide +kernel) ([.ref hd, .ref ht] : List Value).toArray
  have hw_4 := hts (.constant RX1 65 (65535)) (by decide +kernel)
  have hl := lv_entry ([.ref hd, .ref ht]) (n := 7) (Nat.le_of_ble_eq_true rfl)
  rw [lg_entry_eq]
  generalize (lg_sl ([.ref hd, .ref ht]) ++ List.replicate (7 - (lg_sl ([.ref hd, .ref ht])).length) Slot.unset).toArray = ls at hl ⊢
  have hl : lv_has ls 7 [(0, .ref hd), (1, .ref ht)] := hl
  refine lv_aload_n hx hb dX1_unsigned_0 rfl (lv_at hl 0 rfl) ?_
  refine va_get (v := .int (iZ nx)) (C := RX1) (T := TX1) (N := 5) (ci := 1) hx hb hts hi_1 hown hK hP 0 rfl rfl 0 (by decide) hw_1 (fun _ h9 => h9) rfl dX1_unsigned_1 ?_
  refine lv_istore_n (lv' := [(2, .int (iZ nx)), (0, .ref hd), (1, .ref ht)]) hx hb dX1_unsigned_4 rfl hl (by decide) rfl (fun ls hl => ?_)
  refine z_iconst hx hb dX1_unsigned_5 ?_
  refine lv_istore_n (lv' := [(3, .int (iZ 0)), (2, .int (iZ nx)), (0, .ref hd), (1, .ref ht)]) hx hb dX1_unsigned_6 rfl hl (by decide) rfl (fun ls hl => ?_)
  refine z_iconst hx hb dX1_unsigned_7 ?_
  refine lv_istore (lv' := [(4, .int (iZ 0)), (3, .int (iZ 0)), (2, .int (iZ nx)), (0, .ref hd), (1, .ref ht)]) hx hb dX1_unsigned_8 hl (by decide) rfl (fun ls hl => ?_)
  refine lv_iload hx hb dX1_unsigned_10 (lv_at hl 0 rfl) ?_
  refine z_bipush hx hb dX1_unsigned_12 (by decide) ?_
  refine z_icmp_gt (tgt := 124) hx hb dX1_unsigned_14 (by decide) (by omega) (by omega) (fun c9 => absurd c9 (by decide)) (fun _ => ?_)
  refine lv_aload_n hx hb dX1_unsigned_17 rfl (lv_at hl 3 rfl) ?_
  refine va_get (v := .int (iZ nx)) (C := RX1) (T := TX1) (N := 5) (ci := 1) hx hb hts hi_1 hown hK hP 0 rfl rfl 0 (by decide) hw_1 (fun _ h9 => h9) rfl dX1_unsigned_18 ?_
  refine lv_aload_n hx hb dX1_unsigned_21 rfl (lv_at hl 4 rfl) ?_
  refine va_getN (v := .int (iZ len)) (C := RX0) (T := TX0) (N := 2) (ci := 0) hx hb hts hi_0 hown hK hP 1 rfl rfl 1 (by decide) hw_2 (fun _ h9 => h9) rfl dX1_unsigned_22 ?_
  refine z_icmp_lt (tgt := 40) hx hb dX1_unsigned_25 (by decide) (by omega) (by omega) (fun c_1 => ?_) (fun c_1 => ?_)
  · have t_2 := hT nx.toNat (by omega)
    refine lv_aload_n hx hb dX1_unsigned_40 rfl (lv_at hl 4 rfl) ?_
    refine va_getN (v := .ref ta) (C := RX0) (T := TX0) (N := 2) (ci := 0) hx hb hts hi_0 hown hK hP 1 rfl rfl 0 (by decide) hw_3 (fun _ h9 => h9) rfl dX1_unsigned_41 ?_
    refine lv_aload_n hx hb dX1_unsigned_44 rfl (lv_at hl 3 rfl) ?_
    refine va_get (v := .int (iZ nx)) (C := RX1) (T := TX1) (N := 5) (ci := 1) hx hb hts hi_1 hown hK hP 0 rfl rfl 0 (by decide) hw_1 (fun _ h9 => h9) rfl dX1_unsigned_45 ?_
    refine z_iald hx hb hK hP 2 0 rfl rfl nx.toNat (by omega) (by omega) (by omega) dX1_unsigned_48 ?_
    refine lv_istore (lv' := [(5, .int (iZ (tf nx.toNat))), (4, .int (iZ 0)), (3, .int (iZ 0)), (2, .int (iZ nx)), (0, .ref hd), (1, .ref ht)]) hx hb dX1_unsigned_49 hl (by decide) rfl (fun ls hl => ?_)
    refine lv_aload_n hx hb dX1_unsigned_51 rfl (lv_at hl 4 rfl) ?_
    refine lv_dup hx hb dX1_unsigned_52 rfl ?_
    refine va_get (v := .int (iZ nx)) (C := RX1) (T := TX1) (N := 5) (ci := 1) hx hb hts hi_1 hown hK hP 0 rfl rfl 0 (by decide) hw_1 (fun _ h9 => h9) rfl dX1_unsigned_53 ?_
    refine z_iconst hx hb dX1_unsigned_56 ?_
    refine z_iadd hx hb dX1_unsigned_57 ?_
    refine va_put (v := .int (iZ (nx + 1))) (ty := .int) (C := RX1) (T := TX1) (N := 5) (ci := 1) hx hb hts hi_1 tyX1 tyX1_ok nmX1 hown hK hP hD hS 0 rfl rfl 0 (by decide) hw_1 (fun _ h9 => h9) rfl (by decide +kernel) rfl rfl (Nat.le_of_ble_eq_true rfl) dX1_unsigned_58 (fun H locs hP hD hS => ?_)
    have hP : va_P D vwCl (wDe hd (nx + 1) nd sz kd pl ++ wBR 2000 cI ht ta tf len) H := hP
    have hD : va_D A (wDe hd (nx + 1) nd sz kd pl ++ wBR 2000 cI ht ta tf len) := hD
    refine lv_iload_n hx hb dX1_unsigned_61 rfl (lv_at hl 2 rfl) ?_
    refine lv_iload hx hb dX1_unsigned_62 (lv_at hl 0 rfl) ?_
    refine z_bipush hx hb dX1_unsigned_64 (by decide) ?_
    refine z_iand ((tf nx.toNat) % 128) hx hb dX1_unsigned_66 (iZ_and127 _) ?_
    refine lv_iload hx hb dX1_unsigned_67 (lv_at hl 1 rfl) ?_
    refine z_ishl ((tf nx.toNat) % 128) hx hb dX1_unsigned_69 (iZ_shl0 (by omega)) ?_
    refine z_iadd hx hb dX1_unsigned_70 ?_
    refine lv_istore_n (lv' := [(3, .int (iZ (0 + ((tf nx.toNat) % 128)))), (5, .int (iZ (tf nx.toNat))), (4, .int (iZ 0)), (2, .int (iZ nx)), (0, .ref hd), (1, .ref ht)]) hx hb dX1_unsigned_71 rfl hl (by decide) rfl (fun ls hl => ?_)
    refine lv_iload hx hb dX1_unsigned_72 (lv_at hl 1 rfl) ?_
    refine z_sipush hx hb dX1_unsigned_74 (by decide) ?_
    refine z_icmp_ge (tgt := 118) hx hb dX1_unsigned_77 (by decide) (by omega) (by omega) (fun c_3 => ?_) (fun c_3 => ?_)
    · refine lv_iinc (v := iZ (7)) (lv' := [(4, .int (iZ 7)), (3, .int (iZ (0 + ((tf nx.toNat) % 128)))), (5, .int (iZ (tf nx.toNat))), (2, .int (iZ nx)), (0, .ref hd), (1, .ref ht)]) hx hb dX1_unsigned_118 hl (k := 2) rfl (show iZ 0 + iZ 7 = _ from iZ_add _ _) (by decide) rfl (fun ls hl => ?_)
      refine lv_goto (tgt := 10) hx hb dX1_unsigned_121 (by decide) ?_
      refine lv_iload hx hb dX1_unsigned_10 (lv_at hl 0 rfl) ?_
      refine z_bipush hx hb dX1_unsigned_12 (by decide) ?_
      refine z_icmp_gt (tgt := 124) hx hb dX1_unsigned_14 (by decide) (by omega) (by omega) (fun c9 => absurd c9 (by decide)) (fun _ => ?_)
      refine lv_aload_n hx hb dX1_unsigned_17 rfl (lv_at hl 4 rfl) ?_
      refine va_get (v := .int (iZ (nx + 1))) (C := RX1) (T := TX1) (N := 5) (ci := 1) hx hb hts hi_1 hown hK hP 0 rfl rfl 0 (by decide) hw_1 (fun _ h9 => h9) rfl dX1_unsigned_18 ?_
      refine lv_aload_n hx hb dX1_unsigned_21 rfl (lv_at hl 5 rfl) ?_
      refine va_getN (v := .int (iZ len)) (C := RX0) (T := TX0) (N := 2) (ci := 0) hx hb hts hi_0 hown hK hP 1 rfl rfl 1 (by decide) hw_2 (fun _ h9 => h9) rfl dX1_unsigned_22 ?_
      refine z_icmp_lt (tgt := 40) hx hb dX1_unsigned_25 (by decide) (by omega) (by omega) (fun c_4 => ?_) (fun c_4 => ?_)
      · have t_5 := hT (nx.toNat + 1) (by omega)
        refine lv_aload_n hx hb dX1_unsigned_40 rfl (lv_at hl 5 rfl) ?_
        refine va_getN (v := .ref ta) (C := RX0) (T := TX0) (N := 2) (ci := 0) hx hb hts hi_0 hown hK hP 1 rfl rfl 0 (by decide) hw_3 (fun _ h9 => h9) rfl dX1_unsigned_41 ?_
        refine lv_aload_n hx hb dX1_unsigned_44 rfl (lv_at hl 4 rfl) ?_
        refine va_get (v := .int (iZ (nx + 1))) (C := RX1) (T := TX1) (N := 5) (ci := 1) hx hb hts hi_1 hown hK hP 0 rfl rfl 0 (by decide) hw_1 (fun _ h9 => h9) rfl dX1_unsigned_45 ?_
        refine z_iald hx hb hK hP 2 0 rfl rfl (nx.toNat + 1) (by omega) (by omega) (by omega) dX1_unsigned_48 ?_
        refine lv_istore (lv' := [(5, .int (iZ (tf (nx.toNat + 1)))), (4, .int (iZ 7)), (3, .int (iZ (0 + ((tf nx.toNat) % 128)))), (2, .int (iZ nx)), (0, .ref hd), (1, .ref ht)]) hx hb dX1_unsigned_49 hl (by decide) rfl (fun ls hl => ?_)
        refine lv_aload_n hx hb dX1_unsigned_51 rfl (lv_at hl 4 rfl) ?_
        refine lv_dup hx hb dX1_unsigned_52 rfl ?_
        refine va_get (v := .int (iZ (nx + 1))) (C := RX1) (T := TX1) (N := 5) (ci := 1) hx hb hts hi_1 hown hK hP 0 rfl rfl 0 (by decide) hw_1 (fun _ h9 => h9) rfl dX1_unsigned_53 ?_
        refine z_iconst hx hb dX1_unsigned_56 ?_
        refine z_iadd hx hb dX1_unsigned_57 ?_
        refine va_put (v := .int (iZ ((nx + 1) + 1))) (ty := .int) (C := RX1) (T := TX1) (N := 5) (ci := 1) hx hb hts hi_1 tyX1 tyX1_ok nmX1 hown hK hP hD hS 0 rfl rfl 0 (by decide) hw_1 (fun _ h9 => h9) rfl (by decide +kernel) rfl rfl (Nat.le_of_ble_eq_true rfl) dX1_unsigned_58 (fun H locs hP hD hS => ?_)
        have hP : va_P D vwCl (wDe hd ((nx + 1) + 1) nd sz kd pl ++ wBR 2000 cI ht ta tf len) H := hP
        have hD : va_D A (wDe hd ((nx + 1) + 1) nd sz kd pl ++ wBR 2000 cI ht ta tf len) := hD
        refine lv_iload_n hx hb dX1_unsigned_61 rfl (lv_at hl 2 rfl) ?_
        refine lv_iload hx hb dX1_unsigned_62 (lv_at hl 0 rfl) ?_
        refine z_bipush hx hb dX1_unsigned_64 (by decide) ?_
        refine z_iand ((tf (nx.toNat + 1)) % 128) hx hb dX1_unsigned_66 (iZ_and127 _) ?_
        refine lv_iload hx hb dX1_unsigned_67 (lv_at hl 1 rfl) ?_
        refine z_ishl (((tf (nx.toNat + 1)) % 128) * 128) hx hb dX1_unsigned_69 (iZ_shl7 (by omega)) ?_
        refine z_iadd hx hb dX1_unsigned_70 ?_
        refine lv_istore_n (lv' := [(3, .int (iZ ((0 + ((tf nx.toNat) % 128)) + (((tf (nx.toNat + 1)) % 128) * 128)))), (5, .int (iZ (tf (nx.toNat + 1)))), (4, .int (iZ 7)), (2, .int (iZ nx)), (0, .ref hd), (1, .ref ht)]) hx hb dX1_unsigned_71 rfl hl (by decide) rfl (fun ls hl => ?_)
        refine lv_iload hx hb dX1_unsigned_72 (lv_at hl 1 rfl) ?_
        refine z_sipush hx hb dX1_unsigned_74 (by decide) ?_
        refine z_icmp_ge (tgt := 118) hx hb dX1_unsigned_77 (by decide) (by omega) (by omega) (fun c_6 => ?_) (fun c_6 => ?_)
        · refine lv_iinc (v := iZ (14)) (lv' := [(4, .int (iZ 14)), (3, .int (iZ ((0 + ((tf nx.toNat) % 128)) + (((tf (nx.toNat + 1)) % 128) * 128)))), (5, .int (iZ (tf (nx.toNat + 1)))), (2, .int (iZ nx)), (0, .ref hd), (1, .ref ht)]) hx hb dX1_unsigned_118 hl (k := 2) rfl (show iZ 7 + iZ 7 = _ from iZ_add _ _) (by decide) rfl (fun ls hl => ?_)
          refine lv_goto (tgt := 10) hx hb dX1_unsigned_121 (by decide) ?_
          refine lv_iload hx hb dX1_unsigned_10 (lv_at hl 0 rfl) ?_
          refine z_bipush hx hb dX1_unsigned_12 (by decide) ?_
          refine z_icmp_gt (tgt := 124) hx hb dX1_unsigned_14 (by decide) (by omega) (by omega) (fun c9 => absurd c9 (by decide)) (fun _ => ?_)
          refine lv_aload_n hx hb dX1_unsigned_17 rfl (lv_at hl 4 rfl) ?_
          refine va_get (v := .int (iZ ((nx + 1) + 1))) (C := RX1) (T := TX1) (N := 5) (ci := 1) hx hb hts hi_1 hown hK hP 0 rfl rfl 0 (by decide) hw_1 (fun _ h9 => h9) rfl dX1_unsigned_18 ?_
          refine lv_aload_n hx hb dX1_unsigned_21 rfl (lv_at hl 5 rfl) ?_
          refine va_getN (v := .int (iZ len)) (C := RX0) (T := TX0) (N := 2) (ci := 0) hx hb hts hi_0 hown hK hP 1 rfl rfl 1 (by decide) hw_2 (fun _ h9 => h9) rfl dX1_unsigned_22 ?_
          refine z_icmp_lt (tgt := 40) hx hb dX1_unsigned_25 (by decide) (by omega) (by omega) (fun c_7 => ?_) (fun c_7 => ?_)
          · have t_8 := hT (nx.toNat + 2) (by omega)
            refine lv_aload_n hx hb dX1_unsigned_40 rfl (lv_at hl 5 rfl) ?_
            refine va_getN (v := .ref ta) (C := RX0) (T := TX0) (N := 2) (ci := 0) hx hb hts hi_0 hown hK hP 1 rfl rfl 0 (by decide) hw_3 (fun _ h9 => h9) rfl dX1_unsigned_41 ?_
            refine lv_aload_n hx hb dX1_unsigned_44 rfl (lv_at hl 4 rfl) ?_
            refine va_get (v := .int (iZ ((nx + 1) + 1))) (C := RX1) (T := TX1) (N := 5) (ci := 1) hx hb hts hi_1 hown hK hP 0 rfl rfl 0 (by decide) hw_1 (fun _ h9 => h9) rfl dX1_unsigned_45 ?_
            refine z_iald hx hb hK hP 2 0 rfl rfl (nx.toNat + 2) (by omega) (by omega) (by omega) dX1_unsigned_48 ?_
            refine lv_istore (lv' := [(5, .int (iZ (tf (nx.toNat + 2)))), (4, .int (iZ 14)), (3, .int (iZ ((0 + ((tf nx.toNat) % 128)) + (((tf (nx.toNat + 1)) % 128) * 128)))), (2, .int (iZ nx)), (0, .ref hd), (1, .ref ht)]) hx hb dX1_unsigned_49 hl (by decide) rfl (fun ls hl => ?_)
            refine lv_aload_n hx hb dX1_unsigned_51 rfl (lv_at hl 4 rfl) ?_
            refine lv_dup hx hb dX1_unsigned_52 rfl ?_
            refine va_get (v := .int (iZ ((nx + 1) + 1))) (C := RX1) (T := TX1) (N := 5) (ci := 1) hx hb hts hi_1 hown hK hP 0 rfl rfl 0 (by decide) hw_1 (fun _ h9 => h9) rfl dX1_unsigned_53 ?_
            refine z_iconst hx hb dX1_unsigned_56 ?_
            refine z_iadd hx hb dX1_unsigned_57 ?_
            refine va_put (v := .int (iZ (((nx + 1) + 1) + 1))) (ty := .int) (C := RX1) (T := TX1) (N := 5) (ci := 1) hx hb hts hi_1 tyX1 tyX1_ok nmX1 hown hK hP hD hS 0 rfl rfl 0 (by decide) hw_1 (fun _ h9 => h9) rfl (by decide +kernel) rfl rfl (Nat.le_of_ble_eq_true rfl) dX1_unsigned_58 (fun H locs hP hD hS => ?_)
            have hP : va_P D vwCl (wDe hd (((nx + 1) + 1) + 1) nd sz kd pl ++ wBR 2000 cI ht ta tf len) H := hP
            have hD : va_D A (wDe hd (((nx + 1) + 1) + 1) nd sz kd pl ++ wBR 2000 cI ht ta tf len) := hD
            refine lv_iload_n hx hb dX1_unsigned_61 rfl (lv_at hl 2 rfl) ?_
            refine lv_iload hx hb dX1_unsigned_62 (lv_at hl 0 rfl) ?_
            refine z_bipush hx hb dX1_unsigned_64 (by decide) ?_
            refine z_iand ((tf (nx.toNat + 2)) % 128) hx hb dX1_unsigned_66 (iZ_and127 _) ?_
            refine lv_iload hx hb dX1_unsigned_67 (lv_at hl 1 rfl) ?_
            refine z_ishl (((tf (nx.toNat + 2)) % 128) * 16384) hx hb dX1_unsigned_69 (iZ_shl14 (by omega)) ?_
            refine z_iadd hx hb dX1_unsigned_70 ?_
            refine lv_istore_n (lv' := [(3, .int (iZ (((0 + ((tf nx.toNat) % 128)) + (((tf (nx.toNat + 1)) % 128) * 128)) + (((tf (nx.toNat + 2)) % 128) * 16384)))), (5, .int (iZ (tf (nx.toNat + 2)))), (4, .int (iZ 14)), (2, .int (iZ nx)), (0, .ref hd), (1, .ref ht)]) hx hb dX1_unsigned_71 rfl hl (by decide) rfl (fun ls hl => ?_)
            refine lv_iload hx hb dX1_unsigned_72 (lv_at hl 1 rfl) ?_
            refine z_sipush hx hb dX1_unsigned_74 (by decide) ?_
            refine z_icmp_ge (tgt := 118) hx hb dX1_unsigned_77 (by decide) (by omega) (by omega) (fun c_9 => ?_) (fun c_9 => ?_)
            · refine lv_iinc (v := iZ (21)) (lv' := [(4, .int (iZ 21)), (3, .int (iZ (((0 + ((tf nx.toNat) % 128)) + (((tf (nx.toNat + 1)) % 128) * 128)) + (((tf (nx.toNat + 2)) % 128) * 16384)))), (5, .int (iZ (tf (nx.toNat + 2)))), (2, .int (iZ nx)), (0, .ref hd), (1, .ref ht)]) hx hb dX1_unsigned_118 hl (k := 2) rfl (show iZ 14 + iZ 7 = _ from iZ_add _ _) (by decide) rfl (fun ls hl => ?_)
              refine lv_goto (tgt := 10) hx hb dX1_unsigned_121 (by decide) ?_
              refine lv_iload hx hb dX1_unsigned_10 (lv_at hl 0 rfl) ?_
              refine z_bipush hx hb dX1_unsigned_12 (by decide) ?_
              refine z_icmp_gt (tgt := 124) hx hb dX1_unsigned_14 (by decide) (by omega) (by omega) (fun _ => ?_) (fun c9 => absurd c9 (by decide))
              refine lv_aload_n hx hb dX1_unsigned_124 rfl (lv_at hl 4 rfl) ?_
              refine lv_iload_n hx hb dX1_unsigned_125 rfl (lv_at hl 3 rfl) ?_
              refine rw_i (wr := [(ht, .inr (0, [.ref ta, .int (iZ len)])), (ta, .inl (cI, 2000, .inl (aI tf)))]) (va_runV (As := [.int (iZ nx)]) (rest := []) ⟨hx, hb, hml, hown, hts⟩ (c_X1_refuseUnsigned l D cI cJ cB cZ hd (((nx + 1) + 1) + 1) nd sz kd pl nx _) (cwV 1 hts gX1_unsigned_X1_refuseUnsigned rfl rfl rfl (by decide +kernel) ⟨Nat.le_of_ble_eq_true rfl, Nat.le_of_ble_eq_true rfl⟩) (pre1V hE (hP.sub (ws' := (wDe hd (((nx + 1) + 1) + 1) nd sz kd pl)) [0] rfl) (hD.sub (ws' := (wDe hd (((nx + 1) + 1) + 1) nd sz kd pl)) [0] (by decide) rfl) 0 rfl rfl) rfl rfl hl.1 rfl (lv_room (Nat.le_of_ble_eq_true rfl)) dX1_unsigned_126 ⟨Nat.le_of_ble_eq_true rfl, Nat.le_of_ble_eq_true rfl⟩) hP hD hS hA [0] [1, 2] rfl rfl (by decide) (by decide) (fun r_10 u_12 H locs hr_11 hP hD hS => ?_)
              obtain ⟨rfl, rfl⟩ := hr_11
              have hP := hP.sub (ws' := (wDe hd (((nx + 1) + 1) + 1) nd sz 2 nx ++ wBR 2000 cI ht ta tf len)) [2, 0, 1] rfl
              have hD := hD.sub (ws' := (wDe hd (((nx + 1) + 1) + 1) nd sz 2 nx ++ wBR 2000 cI ht ta tf len)) [2, 0, 1] (by decide) rfl
              exact rw_iret (z := (-1)) (((nx + 1) + 1) + 1, 2, nx) hx hb hr hlocks hP hD hS (by first | (rw [uns_e0 (by omega)]; dsimp only [uR]; omega) | (rw [uns_v0 (by omega) (by omega)]; dsimp only [uR]; omega) | (rw [uns_e1 (by omega) (by omega) (by omega)]; dsimp only [uR]; omega) | (rw [uns_z1 (by omega) (by omega) (by omega) (by omega) (by omega)]; dsimp only [uR]; omega) | (rw [uns_v1 (by omega) (by omega) (by omega) (by omega) (by omega)]; dsimp only [uR]; omega) | (rw [uns_e2 (by omega) (by omega) (by omega) (by omega) (by omega)]; dsimp only [uR]; omega) | (rw [uns_z2 (by omega) (by omega) (by omega) (by omega) (by omega) (by omega) (by omega)]; dsimp only [uR]; omega) | (rw [uns_v2 (by omega) (by omega) (by omega) (by omega) (by omega) (by omega) (by omega)]; dsimp only [uR]; omega) | (rw [uns_b (by omega) (by omega) (by omega) (by omega) (by omega) (by omega)]; dsimp only [uR]; omega)) dX1_unsigned_129
            · refine lv_iload hx hb dX1_unsigned_80 (lv_at hl 2 rfl) ?_
              refine z_if_le (tgt := 94) hx hb dX1_unsigned_82 (by decide) (by omega) (fun c9 => absurd c9 (by decide)) (fun _ => ?_)
              refine lv_iload hx hb dX1_unsigned_85 (lv_at hl 1 rfl) ?_
              refine z_if_ne (tgt := 94) hx hb dX1_unsigned_87 (by decide) (by omega) (fun c_13 => ?_) (fun c_13 => ?_)
              · refine z_iconst hx hb dX1_unsigned_94 ?_
                refine lv_istore (lv' := [(6, .int (iZ 0)), (3, .int (iZ (((0 + ((tf nx.toNat) % 128)) + (((tf (nx.toNat + 1)) % 128) * 128)) + (((tf (nx.toNat + 2)) % 128) * 16384)))), (5, .int (iZ (tf (nx.toNat + 2)))), (4, .int (iZ 14)), (2, .int (iZ nx)), (0, .ref hd), (1, .ref ht)]) hx hb dX1_unsigned_95 hl (by decide) rfl (fun ls hl => ?_)
                refine lv_iload hx hb dX1_unsigned_97 (lv_at hl 0 rfl) ?_
                refine z_if_ne (tgt := 108) hx hb dX1_unsigned_99 (by decide) (by omega) (fun c9 => absurd c9 (by decide)) (fun _ => ?_)
                refine lv_iload_n hx hb dX1_unsigned_102 rfl (lv_at hl 1 rfl) ?_
                refine z_ldc hx hb (65535) hown hw_4 (by decide) dX1_unsigned_103 ?_
                refine z_icmp_le (tgt := 116) hx hb dX1_unsigned_105 (by decide) (by omega) (by omega) (fun c_14 => ?_) (fun c_14 => ?_)
                · refine lv_iload_n hx hb dX1_unsigned_116 rfl (lv_at hl 1 rfl) ?_
                  exact rw_iret (z := ((0 + ((tf nx.toNat) % 128)) + (((tf (nx.toNat + 1)) % 128) * 128)) + (((tf (nx.toNat + 2)) % 128) * 16384)) (((nx + 1) + 1) + 1, kd, pl) hx hb hr hlocks hP hD hS (by first | (rw [uns_e0 (by omega)]; dsimp only [uR]; omega) | (rw [uns_v0 (by omega) (by omega)]; dsimp only [uR]; omega) | (rw [uns_e1 (by omega) (by omega) (by omega)]; dsimp only [uR]; omega) | (rw [uns_z1 (by omega) (by omega) (by omega) (by omega) (by omega)]; dsimp only [uR]; omega) | (rw [uns_v1 (by omega) (by omega) (by omega) (by omega) (by omega)]; dsimp only [uR]; omega) | (rw [uns_e2 (by omega) (by omega) (by omega) (by omega) (by omega)]; dsimp only [uR]; omega) | (rw [uns_z2 (by omega) (by omega) (by omega) (by omega) (by omega) (by omega) (by omega)]; dsimp only [uR]; omega) | (rw [uns_v2 (by omega) (by omega) (by omega) (by omega) (by omega) (by omega) (by omega)]; dsimp only [uR]; omega) | (rw [uns_b (by omega) (by omega) (by omega) (by omega) (by omega) (by omega)]; dsimp only [uR]; omega)) dX1_unsigned_117
                · refine lv_aload_n hx hb dX1_unsigned_108 rfl (lv_at hl 5 rfl) ?_
                  refine lv_iload_n hx hb dX1_unsigned_109 rfl (lv_at hl 4 rfl) ?_
                  refine rw_i (wr := [(ht, .inr (0, [.ref ta, .int (iZ len)])), (ta, .inl (cI, 2000, .inl (aI tf)))]) (va_runV (As := [.int (iZ nx)]) (rest := []) ⟨hx, hb, hml, hown, hts⟩ (c_X1_refuseUnsigned l D cI cJ cB cZ hd (((nx + 1) + 1) + 1) nd sz kd pl nx _) (cwV 1 hts gX1_unsigned_X1_refuseUnsigned rfl rfl rfl (by decide +kernel) ⟨Nat.le_of_ble_eq_true rfl, Nat.le_of_ble_eq_true rfl⟩) (pre1V hE (hP.sub (ws' := (wDe hd (((nx + 1) + 1) + 1) nd sz kd pl)) [0] rfl) (hD.sub (ws' := (wDe hd (((nx + 1) + 1) + 1) nd sz kd pl)) [0] (by decide) rfl) 0 rfl rfl) rfl rfl hl.1 rfl (lv_room (Nat.le_of_ble_eq_true rfl)) dX1_unsigned_110 ⟨Nat.le_of_ble_eq_true rfl, Nat.le_of_ble_eq_true rfl⟩) hP hD hS hA [0] [1, 2] rfl rfl (by decide) (by decide) (fun r_15 u_17 H locs hr_16 hP hD hS => ?_)
                  obtain ⟨rfl, rfl⟩ := hr_16
                  have hP := hP.sub (ws' := (wDe hd (((nx + 1) + 1) + 1) nd sz 2 nx ++ wBR 2000 cI ht ta tf len)) [2, 0, 1] rfl
                  have hD := hD.sub (ws' := (wDe hd (((nx + 1) + 1) + 1) nd sz 2 nx ++ wBR 2000 cI ht ta tf len)) [2, 0, 1] (by decide) rfl
                  refine lv_goto (tgt := 117) hx hb dX1_unsigned_113 (by decide) ?_
                  exact rw_iret (z := (-1)) (((nx + 1) + 1) + 1, 2, nx) hx hb hr hlocks hP hD hS (by first | (rw [uns_e0 (by omega)]; dsimp only [uR]; omega) | (rw [uns_v0 (by omega) (by omega)]; dsimp only [uR]; omega) | (rw [uns_e1 (by omega) (by omega) (by omega)]; dsimp only [uR]; omega) | (rw [uns_z1 (by omega) (by omega) (by omega) (by omega) (by omega)]; dsimp only [uR]; omega) | (rw [uns_v1 (by omega) (by omega) (by omega) (by omega) (by omega)]; dsimp only [uR]; omega) | (rw [uns_e2 (by omega) (by omega) (by omega) (by omega) (by omega)]; dsimp only [uR]; omega) | (rw [uns_z2 (by omega) (by omega) (by omega) (by omega) (by omega) (by omega) (by omega)]; dsimp only [uR]; omega) | (rw [uns_v2 (by omega) (by omega) (by omega) (by omega) (by omega) (by omega) (by omega)]; dsimp only [uR]; omega) | (rw [uns_b (by omega) (by omega) (by omega) (by omega) (by omega) (by omega)]; dsimp only [uR]; omega)) dX1_unsigned_117
              · refine z_iconst hx hb dX1_unsigned_90 ?_
                refine lv_goto (tgt := 95) hx hb dX1_unsigned_91 (by decide) ?_
                refine lv_istore (lv' := [(6, .int (iZ 1)), (3, .int (iZ (((0 + ((tf nx.toNat) % 128)) + (((tf (nx.toNat + 1)) % 128) * 128)) + (((tf (nx.toNat + 2)) % 128) * 16384)))), (5, .int (iZ (tf (nx.toNat + 2)))), (4, .int (iZ 14)), (2, .int (iZ nx)), (0, .ref hd), (1, .ref ht)]) hx hb dX1_unsigned_95 hl (by decide) rfl (fun ls hl => ?_)
                refine lv_iload hx hb dX1_unsigned_97 (lv_at hl 0 rfl) ?_
                refine z_if_ne (tgt := 108) hx hb dX1_unsigned_99 (by decide) (by omega) (fun _ => ?_) (fun c9 => absurd c9 (by decide))
                refine lv_aload_n hx hb dX1_unsigned_108 rfl (lv_at hl 5 rfl) ?_
                refine lv_iload_n hx hb dX1_unsigned_109 rfl (lv_at hl 4 rfl) ?_
                refine rw_i (wr := [(ht, .inr (0, [.ref ta, .int (iZ len)])), (ta, .inl (cI, 2000, .inl (aI tf)))]) (va_runV (As := [.int (iZ nx)]) (rest := []) ⟨hx, hb, hml, hown, hts⟩ (c_X1_refuseUnsigned l D cI cJ cB cZ hd (((nx + 1) + 1) + 1) nd sz kd pl nx _) (cwV 1 hts gX1_unsigned_X1_refuseUnsigned rfl rfl rfl (by decide +kernel) ⟨Nat.le_of_ble_eq_true rfl, Nat.le_of_ble_eq_true rfl⟩) (pre1V hE (hP.sub (ws' := (wDe hd (((nx + 1) + 1) + 1) nd sz kd pl)) [0] rfl) (hD.sub (ws' := (wDe hd (((nx + 1) + 1) + 1) nd sz kd pl)) [0] (by decide) rfl) 0 rfl rfl) rfl rfl hl.1 rfl (lv_room (Nat.le_of_ble_eq_true rfl)) dX1_unsigned_110 ⟨Nat.le_of_ble_eq_true rfl, Nat.le_of_ble_eq_true rfl⟩) hP hD hS hA [0] [1, 2] rfl rfl (by decide) (by decide) (fun r_18 u_20 H locs hr_19 hP hD hS => ?_)
                obtain ⟨rfl, rfl⟩ := hr_19
                have hP := hP.sub (ws' := (wDe hd (((nx + 1) + 1) + 1) nd sz 2 nx ++ wBR 2000 cI ht ta tf len)) [2, 0, 1] rfl
                have hD := hD.sub (ws' := (wDe hd (((nx + 1) + 1) + 1) nd sz 2 nx ++ wBR 2000 cI ht ta tf len)) [2, 0, 1] (by decide) rfl
                refine lv_goto (tgt := 117) hx hb dX1_unsigned_113 (by decide) ?_
                exact rw_iret (z := (-1)) (((nx + 1) + 1) + 1, 2, nx) hx hb hr hlocks hP hD hS (by first | (rw [uns_e0 (by omega)]; dsimp only [uR]; omega) | (rw [uns_v0 (by omega) (by omega)]; dsimp only [uR]; omega) | (rw [uns_e1 (by omega) (by omega) (by omega)]; dsimp only [uR]; omega) | (rw [uns_z1 (by omega) (by omega) (by omega) (by omega) (by omega)]; dsimp only [uR]; omega) | (rw [uns_v1 (by omega) (by omega) (by omega) (by omega) (by omega)]; dsimp only [uR]; omega) | (rw [uns_e2 (by omega) (by omega) (by omega) (by omega) (by omega)]; dsimp only [uR]; omega) | (rw [uns_z2 (by omega) (by omega) (by omega) (by omega) (by omega) (by omega) (by omega)]; dsimp only [uR]; omega) | (rw [uns_v2 (by omega) (by omega) (by omega) (by omega) (by omega) (by omega) (by omega)]; dsimp only [uR]; omega) | (rw [uns_b (by omega) (by omega) (by omega) (by omega) (by omega) (by omega)]; dsimp only [uR]; omega)) dX1_unsigned_117
          · refine lv_aload_n hx hb dX1_unsigned_28 rfl (lv_at hl 4 rfl) ?_
            refine z_iconst hx hb dX1_unsigned_29 ?_
            refine lv_aload_n hx hb dX1_unsigned_30 rfl (lv_at hl 5 rfl) ?_
            refine va_getN (v := .int (iZ len)) (C := RX0) (T := TX0) (N := 2) (ci := 0) hx hb hts hi_0 hown hK hP 1 rfl rfl 1 (by decide) hw_2 (fun _ h9 => h9) rfl dX1_unsigned_31 ?_
            refine rw_i (wr := [(ht, .inr (0, [.ref ta, .int (iZ len)])), (ta, .inl (cI, 2000, .inl (aI tf)))]) (va_runV (As := [.int (iZ 1), .int (iZ len)]) (rest := []) ⟨hx, hb, hml, hown, hts⟩ (c_X1_refuse l D cI cJ cB cZ hd ((nx + 1) + 1) nd sz kd pl 1 len _) (cwV 2 hts gX1_unsigned_X1_refuse rfl rfl rfl (by decide +kernel) ⟨Nat.le_of_ble_eq_true rfl, Nat.le_of_ble_eq_true rfl⟩) (pre1V hE (hP.sub (ws' := (wDe hd ((nx + 1) + 1) nd sz kd pl)) [0] rfl) (hD.sub (ws' := (wDe hd ((nx + 1) + 1) nd sz kd pl)) [0] (by decide) rfl) 0 rfl rfl) rfl rfl hl.1 rfl (lv_room (Nat.le_of_ble_eq_true rfl)) dX1_unsigned_34 ⟨Nat.le_of_ble_eq_true rfl, Nat.le_of_ble_eq_true rfl⟩) hP hD hS hA [0] [1, 2] rfl rfl (by decide) (by decide) (fun r_21 u_23 H locs hr_22 hP hD hS => ?_)
            obtain ⟨rfl, rfl⟩ := hr_22
            have hP := hP.sub (ws' := (wDe hd ((nx + 1) + 1) nd sz 1 len ++ wBR 2000 cI ht ta tf len)) [2, 0, 1] rfl
            have hD := hD.sub (ws' := (wDe hd ((nx + 1) + 1) nd sz 1 len ++ wBR 2000 cI ht ta tf len)) [2, 0, 1] (by decide) rfl
            refine lv_pop hx hb dX1_unsigned_37 rfl ?_
            refine z_iconst hx hb dX1_unsigned_38 ?_
            exact rw_iret (z := (-1)) ((nx + 1) + 1, 1, len) hx hb hr hlocks hP hD hS (by first | (rw [uns_e0 (by omega)]; dsimp only [uR]; omega) | (rw [uns_v0 (by omega) (by omega)]; dsimp only [uR]; omega) | (rw [uns_e1 (by omega) (by omega) (by omega)]; dsimp only [uR]; omega) | (rw [uns_z1 (by omega) (by omega) (by omega) (by omega) (by omega)]; dsimp only [uR]; omega) | (rw [uns_v1 (by omega) (by omega) (by omega) (by omega) (by omega)]; dsimp only [uR]; omega) | (rw [uns_e2 (by omega) (by omega) (by omega) (by omega) (by omega)]; dsimp only [uR]; omega) | (rw [uns_z2 (by omega) (by omega) (by omega) (by omega) (by omega) (by omega) (by omega)]; dsimp only [uR]; omega) | (rw [uns_v2 (by omega) (by omega) (by omega) (by omega) (by omega) (by omega) (by omega)]; dsimp only [uR]; omega) | (rw [uns_b (by omega) (by omega) (by omega) (by omega) (by omega) (by omega)]; dsimp only [uR]; omega)) dX1_unsigned_39
        · refine lv_iload hx hb dX1_unsigned_80 (lv_at hl 2 rfl) ?_
          refine z_if_le (tgt := 94) hx hb dX1_unsigned_82 (by decide) (by omega) (fun c9 => absurd c9 (by decide)) (fun _ => ?_)
          refine lv_iload hx hb dX1_unsigned_85 (lv_at hl 1 rfl) ?_
          refine z_if_ne (tgt := 94) hx hb dX1_unsigned_87 (by decide) (by omega) (fun c_24 => ?_) (fun c_24 => ?_)
          · refine z_iconst hx hb dX1_unsigned_94 ?_
            refine lv_istore (lv' := [(6, .int (iZ 0)), (3, .int (iZ ((0 + ((tf nx.toNat) % 128)) + (((tf (nx.toNat + 1)) % 128) * 128)))), (5, .int (iZ (tf (nx.toNat + 1)))), (4, .int (iZ 7)), (2, .int (iZ nx)), (0, .ref hd), (1, .ref ht)]) hx hb dX1_unsigned_95 hl (by decide) rfl (fun ls hl => ?_)
            refine lv_iload hx hb dX1_unsigned_97 (lv_at hl 0 rfl) ?_
            refine z_if_ne (tgt := 108) hx hb dX1_unsigned_99 (by decide) (by omega) (fun c9 => absurd c9 (by decide)) (fun _ => ?_)
            refine lv_iload_n hx hb dX1_unsigned_102 rfl (lv_at hl 1 rfl) ?_
            refine z_ldc hx hb (65535) hown hw_4 (by decide) dX1_unsigned_103 ?_
            refine z_icmp_le (tgt := 116) hx hb dX1_unsigned_105 (by decide) (by omega) (by omega) (fun c_25 => ?_) (fun c_25 => ?_)
            · refine lv_iload_n hx hb dX1_unsigned_116 rfl (lv_at hl 1 rfl) ?_
              exact rw_iret (z := (0 + ((tf nx.toNat) % 128)) + (((tf (nx.toNat + 1)) % 128) * 128)) ((nx + 1) + 1, kd, pl) hx hb hr hlocks hP hD hS (by first | (rw [uns_e0 (by omega)]; dsimp only [uR]; omega) | (rw [uns_v0 (by omega) (by omega)]; dsimp only [uR]; omega) | (rw [uns_e1 (by omega) (by omega) (by omega)]; dsimp only [uR]; omega) | (rw [uns_z1 (by omega) (by omega) (by omega) (by omega) (by omega)]; dsimp only [uR]; omega) | (rw [uns_v1 (by omega) (by omega) (by omega) (by omega) (by omega)]; dsimp only [uR]; omega) | (rw [uns_e2 (by omega) (by omega) (by omega) (by omega) (by omega)]; dsimp only [uR]; omega) | (rw [uns_z2 (by omega) (by omega) (by omega) (by omega) (by omega) (by omega) (by omega)]; dsimp only [uR]; omega) | (rw [uns_v2 (by omega) (by omega) (by omega) (by omega) (by omega) (by omega) (by omega)]; dsimp only [uR]; omega) | (rw [uns_b (by omega) (by omega) (by omega) (by omega) (by omega) (by omega)]; dsimp only [uR]; omega)) dX1_unsigned_117
            · refine lv_aload_n hx hb dX1_unsigned_108 rfl (lv_at hl 5 rfl) ?_
              refine lv_iload_n hx hb dX1_unsigned_109 rfl (lv_at hl 4 rfl) ?_
              refine rw_i (wr := [(ht, .inr (0, [.ref ta, .int (iZ len)])), (ta, .inl (cI, 2000, .inl (aI tf)))]) (va_runV (As := [.int (iZ nx)]) (rest := []) ⟨hx, hb, hml, hown, hts⟩ (c_X1_refuseUnsigned l D cI cJ cB cZ hd ((nx + 1) + 1) nd sz kd pl nx _) (cwV 1 hts gX1_unsigned_X1_refuseUnsigned rfl rfl rfl (by decide +kernel) ⟨Nat.le_of_ble_eq_true rfl, Nat.le_of_ble_eq_true rfl⟩) (pre1V hE (hP.sub (ws' := (wDe hd ((nx + 1) + 1) nd sz kd pl)) [0] rfl) (hD.sub (ws' := (wDe hd ((nx + 1) + 1) nd sz kd pl)) [0] (by decide) rfl) 0 rfl rfl) rfl rfl hl.1 rfl (lv_room (Nat.le_of_ble_eq_true rfl)) dX1_unsigned_110 ⟨Nat.le_of_ble_eq_true rfl, Nat.le_of_ble_eq_true rfl⟩) hP hD hS hA [0] [1, 2] rfl rfl (by decide) (by decide) (fun r_26 u_28 H locs hr_27 hP hD hS => ?_)
              obtain ⟨rfl, rfl⟩ := hr_27
              have hP := hP.sub (ws' := (wDe hd ((nx + 1) + 1) nd sz 2 nx ++ wBR 2000 cI ht ta tf len)) [2, 0, 1] rfl
              have hD := hD.sub (ws' := (wDe hd ((nx + 1) + 1) nd sz 2 nx ++ wBR 2000 cI ht ta tf len)) [2, 0, 1] (by decide) rfl
              refine lv_goto (tgt := 117) hx hb dX1_unsigned_113 (by decide) ?_
              exact rw_iret (z := (-1)) ((nx + 1) + 1, 2, nx) hx hb hr hlocks hP hD hS (by first | (rw [uns_e0 (by omega)]; dsimp only [uR]; omega) | (rw [uns_v0 (by omega) (by omega)]; dsimp only [uR]; omega) | (rw [uns_e1 (by omega) (by omega) (by omega)]; dsimp only [uR]; omega) | (rw [uns_z1 (by omega) (by omega) (by omega) (by omega) (by omega)]; dsimp only [uR]; omega) | (rw [uns_v1 (by omega) (by omega) (by omega) (by omega) (by omega)]; dsimp only [uR]; omega) | (rw [uns_e2 (by omega) (by omega) (by omega) (by omega) (by omega)]; dsimp only [uR]; omega) | (rw [uns_z2 (by omega) (by omega) (by omega) (by omega) (by omega) (by omega) (by omega)]; dsimp only [uR]; omega) | (rw [uns_v2 (by omega) (by omega) (by omega) (by omega) (by omega) (by omega) (by omega)]; dsimp only [uR]; omega) | (rw [uns_b (by omega) (by omega) (by omega) (by omega) (by omega) (by omega)]; dsimp only [uR]; omega)) dX1_unsigned_117
          · refine z_iconst hx hb dX1_unsigned_90 ?_
            refine lv_goto (tgt := 95) hx hb dX1_unsigned_91 (by decide) ?_
            refine lv_istore (lv' := [(6, .int (iZ 1)), (3, .int (iZ ((0 + ((tf nx.toNat) % 128)) + (((tf (nx.toNat + 1)) % 128) * 128)))), (5, .int (iZ (tf (nx.toNat + 1)))), (4, .int (iZ 7)), (2, .int (iZ nx)), (0, .ref hd), (1, .ref ht)]) hx hb dX1_unsigned_95 hl (by decide) rfl (fun ls hl => ?_)
            refine lv_iload hx hb dX1_unsigned_97 (lv_at hl 0 rfl) ?_
            refine z_if_ne (tgt := 108) hx hb dX1_unsigned_99 (by decide) (by omega) (fun _ => ?_) (fun c9 => absurd c9 (by decide))
            refine lv_aload_n hx hb dX1_unsigned_108 rfl (lv_at hl 5 rfl) ?_
            refine lv_iload_n hx hb dX1_unsigned_109 rfl (lv_at hl 4 rfl) ?_
            refine rw_i (wr := [(ht, .inr (0, [.ref ta, .int (iZ len)])), (ta, .inl (cI, 2000, .inl (aI tf)))]) (va_runV (As := [.int (iZ nx)]) (rest := []) ⟨hx, hb, hml, hown, hts⟩ (c_X1_refuseUnsigned l D cI cJ cB cZ hd ((nx + 1) + 1) nd sz kd pl nx _) (cwV 1 hts gX1_unsigned_X1_refuseUnsigned rfl rfl rfl (by decide +kernel) ⟨Nat.le_of_ble_eq_true rfl, Nat.le_of_ble_eq_true rfl⟩) (pre1V hE (hP.sub (ws' := (wDe hd ((nx + 1) + 1) nd sz kd pl)) [0] rfl) (hD.sub (ws' := (wDe hd ((nx + 1) + 1) nd sz kd pl)) [0] (by decide) rfl) 0 rfl rfl) rfl rfl hl.1 rfl (lv_room (Nat.le_of_ble_eq_true rfl)) dX1_unsigned_110 ⟨Nat.le_of_ble_eq_true rfl, Nat.le_of_ble_eq_true rfl⟩) hP hD hS hA [0] [1, 2] rfl rfl (by decide) (by decide) (fun r_29 u_31 H locs hr_30 hP hD hS => ?_)
            obtain ⟨rfl, rfl⟩ := hr_30
            have hP := hP.sub (ws' := (wDe hd ((nx + 1) + 1) nd sz 2 nx ++ wBR 2000 cI ht ta tf len)) [2, 0, 1] rfl
            have hD := hD.sub (ws' := (wDe hd ((nx + 1) + 1) nd sz 2 nx ++ wBR 2000 cI ht ta tf len)) [2, 0, 1] (by decide) rfl
            refine lv_goto (tgt := 117) hx hb dX1_unsigned_113 (by decide) ?_
            exact rw_iret (z := (-1)) ((nx + 1) + 1, 2, nx) hx hb hr hlocks hP hD hS (by first | (rw [uns_e0 (by omega)]; dsimp only [uR]; omega) | (rw [uns_v0 (by omega) (by omega)]; dsimp only [uR]; omega) | (rw [uns_e1 (by omega) (by omega) (by omega)]; dsimp only [uR]; omega) | (rw [uns_z1 (by omega) (by omega) (by omega) (by omega) (by omega)]; dsimp only [uR]; omega) | (rw [uns_v1 (by omega) (by omega) (by omega) (by omega) (by omega)]; dsimp only [uR]; omega) | (rw [uns_e2 (by omega) (by omega) (by omega) (by omega) (by omega)]; dsimp only [uR]; omega) | (rw [uns_z2 (by omega) (by omega) (by omega) (by omega) (by omega) (by omega) (by omega)]; dsimp only [uR]; omega) | (rw [uns_v2 (by omega) (by omega) (by omega) (by omega) (by omega) (by omega) (by omega)]; dsimp only [uR]; omega) | (rw [uns_b (by omega) (by omega) (by omega) (by omega) (by omega) (by omega)]; dsimp only [uR]; omega)) dX1_unsigned_117
      · refine lv_aload_n hx hb dX1_unsigned_28 rfl (lv_at hl 4 rfl) ?_
        refine z_iconst hx hb dX1_unsigned_29 ?_
        refine lv_aload_n hx hb dX1_unsigned_30 rfl (lv_at hl 5 rfl) ?_
        refine va_getN (v := .int (iZ len)) (C := RX0) (T := TX0) (N := 2) (ci := 0) hx hb hts hi_0 hown hK hP 1 rfl rfl 1 (by decide) hw_2 (fun _ h9 => h9) rfl dX1_unsigned_31 ?_
        refine rw_i (wr := [(ht, .inr (0, [.ref ta, .int (iZ len)])), (ta, .inl (cI, 2000, .inl (aI tf)))]) (va_runV (As := [.int (iZ 1), .int (iZ len)]) (rest := []) ⟨hx, hb, hml, hown, hts⟩ (c_X1_refuse l D cI cJ cB cZ hd (nx + 1) nd sz kd pl 1 len _) (cwV 2 hts gX1_unsigned_X1_refuse rfl rfl rfl (by decide +kernel) ⟨Nat.le_of_ble_eq_true rfl, Nat.le_of_ble_eq_true rfl⟩) (pre1V hE (hP.sub (ws' := (wDe hd (nx + 1) nd sz kd pl)) [0] rfl) (hD.sub (ws' := (wDe hd (nx + 1) nd sz kd pl)) [0] (by decide) rfl) 0 rfl rfl) rfl rfl hl.1 rfl (lv_room (Nat.le_of_ble_eq_true rfl)) dX1_unsigned_34 ⟨Nat.le_of_ble_eq_true rfl, Nat.le_of_ble_eq_true rfl⟩) hP hD hS hA [0] [1, 2] rfl rfl (by decide) (by decide) (fun r_32 u_34 H locs hr_33 hP hD hS => ?_)
        obtain ⟨rfl, rfl⟩ := hr_33
        have hP := hP.sub (ws' := (wDe hd (nx + 1) nd sz 1 len ++ wBR 2000 cI ht ta tf len)) [2, 0, 1] rfl
        have hD := hD.sub (ws' := (wDe hd (nx + 1) nd sz 1 len ++ wBR 2000 cI ht ta tf len)) [2, 0, 1] (by decide) rfl
        refine lv_pop hx hb dX1_unsigned_37 rfl ?_
        refine z_iconst hx hb dX1_unsigned_38 ?_
        exact rw_iret (z := (-1)) (nx + 1, 1, len) hx hb hr hlocks hP hD hS (by first | (rw [uns_e0 (by omega)]; dsimp only [uR]; omega) | (rw [uns_v0 (by omega) (by omega)]; dsimp only [uR]; omega) | (rw [uns_e1 (by omega) (by omega) (by omega)]; dsimp only [uR]; omega) | (rw [uns_z1 (by omega) (by omega) (by omega) (by omega) (by omega)]; dsimp only [uR]; omega) | (rw [uns_v1 (by omega) (by omega) (by omega) (by omega) (by omega)]; dsimp only [uR]; omega) | (rw [uns_e2 (by omega) (by omega) (by omega) (by omega) (by omega)]; dsimp only [uR]; omega) | (rw [uns_z2 (by omega) (by omega) (by omega) (by omega) (by omega) (by omega) (by omega)]; dsimp only [uR]; omega) | (rw [uns_v2 (by omega) (by omega) (by omega) (by omega) (by omega) (by omega) (by omega)]; dsimp only [uR]; omega) | (rw [uns_b (by omega) (by omega) (by omega) (by omega) (by omega) (by omega)]; dsimp only [uR]; omega)) dX1_unsigned_39
    · refine lv_iload hx hb dX1_unsigned_80 (lv_at hl 2 rfl) ?_
      refine z_if_le (tgt := 94) hx hb dX1_unsigned_82 (by decide) (by omega) (fun _ => ?_) (fun c9 => absurd c9 (by decide))
      refine z_iconst hx hb dX1_unsigned_94 ?_
      refine lv_istore (lv' := [(6, .int (iZ 0)), (3, .int (iZ (0 + ((tf nx.toNat) % 128)))), (5, .int (iZ (tf nx.toNat))), (4, .int (iZ 0)), (2, .int (iZ nx)), (0, .ref hd), (1, .ref ht)]) hx hb dX1_unsigned_95 hl (by decide) rfl (fun ls hl => ?_)
      refine lv_iload hx hb dX1_unsigned_97 (lv_at hl 0 rfl) ?_
      refine z_if_ne (tgt := 108) hx hb dX1_unsigned_99 (by decide) (by omega) (fun c9 => absurd c9 (by decide)) (fun _ => ?_)
      refine lv_iload_n hx hb dX1_unsigned_102 rfl (lv_at hl 1 rfl) ?_
      refine z_ldc hx hb (65535) hown hw_4 (by decide) dX1_unsigned_103 ?_
      refine z_icmp_le (tgt := 116) hx hb dX1_unsigned_105 (by decide) (by omega) (by omega) (fun c_35 => ?_) (fun c_35 => ?_)
      · refine lv_iload_n hx hb dX1_unsigned_116 rfl (lv_at hl 1 rfl) ?_
        exact rw_iret (z := 0 + ((tf nx.toNat) % 128)) (nx + 1, kd, pl) hx hb hr hlocks hP hD hS (by first | (rw [uns_e0 (by omega)]; dsimp only [uR]; omega) | (rw [uns_v0 (by omega) (by omega)]; dsimp only [uR]; omega) | (rw [uns_e1 (by omega) (by omega) (by omega)]; dsimp only [uR]; omega) | (rw [uns_z1 (by omega) (by omega) (by omega) (by omega) (by omega)]; dsimp only [uR]; omega) | (rw [uns_v1 (by omega) (by omega) (by omega) (by omega) (by omega)]; dsimp only [uR]; omega) | (rw [uns_e2 (by omega) (by omega) (by omega) (by omega) (by omega)]; dsimp only [uR]; omega) | (rw [uns_z2 (by omega) (by omega) (by omega) (by omega) (by omega) (by omega) (by omega)]; dsimp only [uR]; omega) | (rw [uns_v2 (by omega) (by omega) (by omega) (by omega) (by omega) (by omega) (by omega)]; dsimp only [uR]; omega) | (rw [uns_b (by omega) (by omega) (by omega) (by omega) (by omega) (by omega)]; dsimp only [uR]; omega)) dX1_unsigned_117
      · refine lv_aload_n hx hb dX1_unsigned_108 rfl (lv_at hl 5 rfl) ?_
        refine lv_iload_n hx hb dX1_unsigned_109 rfl (lv_at hl 4 rfl) ?_
        refine rw_i (wr := [(ht, .inr (0, [.ref ta, .int (iZ len)])), (ta, .inl (cI, 2000, .inl (aI tf)))]) (va_runV (As := [.int (iZ nx)]) (rest := []) ⟨hx, hb, hml, hown, hts⟩ (c_X1_refuseUnsigned l D cI cJ cB cZ hd (nx + 1) nd sz kd pl nx _) (cwV 1 hts gX1_unsigned_X1_refuseUnsigned rfl rfl rfl (by decide +kernel) ⟨Nat.le_of_ble_eq_true rfl, Nat.le_of_ble_eq_true rfl⟩) (pre1V hE (hP.sub (ws' := (wDe hd (nx + 1) nd sz kd pl)) [0] rfl) (hD.sub (ws' := (wDe hd (nx + 1) nd sz kd pl)) [0] (by decide) rfl) 0 rfl rfl) rfl rfl hl.1 rfl (lv_room (Nat.le_of_ble_eq_true rfl)) dX1_unsigned_110 ⟨Nat.le_of_ble_eq_true rfl, Nat.le_of_ble_eq_true rfl⟩) hP hD hS hA [0] [1, 2] rfl rfl (by decide) (by decide) (fun r_36 u_38 H locs hr_37 hP hD hS => ?_)
        obtain ⟨rfl, rfl⟩ := hr_37
        have hP := hP.sub (ws' := (wDe hd (nx + 1) nd sz 2 nx ++ wBR 2000 cI ht ta tf len)) [2, 0, 1] rfl
        have hD := hD.sub (ws' := (wDe hd (nx + 1) nd sz 2 nx ++ wBR 2000 cI ht ta tf len)) [2, 0, 1] (by decide) rfl
        refine lv_goto (tgt := 117) hx hb dX1_unsigned_113 (by decide) ?_
        exact rw_iret (z := (-1)) (nx + 1, 2, nx) hx hb hr hlocks hP hD hS (by first | (rw [uns_e0 (by omega)]; dsimp only [uR]; omega) | (rw [uns_v0 (by omega) (by omega)]; dsimp only [uR]; omega) | (rw [uns_e1 (by omega) (by omega) (by omega)]; dsimp only [uR]; omega) | (rw [uns_z1 (by omega) (by omega) (by omega) (by omega) (by omega)]; dsimp only [uR]; omega) | (rw [uns_v1 (by omega) (by omega) (by omega) (by omega) (by omega)]; dsimp only [uR]; omega) | (rw [uns_e2 (by omega) (by omega) (by omega) (by omega) (by omega)]; dsimp only [uR]; omega) | (rw [uns_z2 (by omega) (by omega) (by omega) (by omega) (by omega) (by omega) (by omega)]; dsimp only [uR]; omega) | (rw [uns_v2 (by omega) (by omega) (by omega) (by omega) (by omega) (by omega) (by omega)]; dsimp only [uR]; omega) | (rw [uns_b (by omega) (by omega) (by omega) (by omega) (by omega) (by omega)]; dsimp only [uR]; omega)) dX1_unsigned_117
  · refine lv_aload_n hx hb dX1_unsigned_28 rfl (lv_at hl 3 rfl) ?_
    refine z_iconst hx hb dX1_unsigned_29 ?_
    refine lv_aload_n hx hb dX1_unsigned_30 rfl (lv_at hl 4 rfl) ?_
    refine va_getN (v := .int (iZ len)) (C := RX0) (T := TX0) (N := 2) (ci := 0) hx hb hts hi_0 hown hK hP 1 rfl rfl 1 (by decide) hw_2 (fun _ h9 => h9) rfl dX1_unsigned_31 ?_
    refine rw_i (wr := [(ht, .inr (0, [.ref ta, .int (iZ len)])), (ta, .inl (cI, 2000, .inl (aI tf)))]) (va_runV (As := [.int (iZ 1), .int (iZ len)]) (rest := []) ⟨hx, hb, hml, hown, hts⟩ (c_X1_refuse l D cI cJ cB cZ hd nx nd sz kd pl 1 len _) (cwV 2 hts gX1_unsigned_X1_refuse rfl rfl rfl (by decide +kernel) ⟨Nat.le_of_ble_eq_true rfl, Nat.le_of_ble_eq_true rfl⟩) (pre1V hE (hP.sub (ws' := (wDe hd nx nd sz kd pl)) [0] rfl) (hD.sub (ws' := (wDe hd nx nd sz kd pl)) [0] (by decide) rfl) 0 rfl rfl) rfl rfl hl.1 rfl (lv_room (Nat.le_of_ble_eq_true rfl)) dX1_unsigned_34 ⟨Nat.le_of_ble_eq_true rfl, Nat.le_of_ble_eq_true rfl⟩) hP hD hS hA [0] [1, 2] rfl rfl (by decide) (by decide) (fun r_39 u_41 H locs hr_40 hP hD hS => ?_)
    obtain ⟨rfl, rfl⟩ := hr_40
    have hP := hP.sub (ws' := (wDe hd nx nd sz 1 len ++ wBR 2000 cI ht ta tf len)) [2, 0, 1] rfl
    have hD := hD.sub (ws' := (wDe hd nx nd sz 1 len ++ wBR 2000 cI ht ta tf len)) [2, 0, 1] (by decide) rfl
    refine lv_pop hx hb dX1_unsigned_37 rfl ?_
    refine z_iconst hx hb dX1_unsigned_38 ?_
    exact rw_iret (z := (-1)) (nx, 1, len) hx hb hr hlocks hP hD hS (by first | (rw [uns_e0 (by omega)]; dsimp only [uR]; omega) | (rw [uns_v0 (by omega) (by omega)]; dsimp only [uR]; omega) | (rw [uns_e1 (by omega) (by omega) (by omega)]; dsimp only [uR]; omega) | (rw [uns_z1 (by omega) (by omega) (by omega) (by omega) (by omega)]; dsimp only [uR]; omega) | (rw [uns_v1 (by omega) (by omega) (by omega) (by omega) (by omega)]; dsimp only [uR]; omega) | (rw [uns_e2 (by omega) (by omega) (by omega) (by omega) (by omega)]; dsimp only [uR]; omega) | (rw [uns_z2 (by omega) (by omega) (by omega) (by omega) (by omega) (by omega) (by omega)]; dsimp only [uR]; omega) | (rw [uns_v2 (by omega) (by omega) (by omega) (by omega) (by omega) (by omega) (by omega)]; dsimp only [uR]; omega) | (rw [uns_b (by omega) (by omega) (by omega) (by omega) (by omega) (by omega)]; dsimp only [uR]; omega)) dX1_unsigned_39
