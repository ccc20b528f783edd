set_option maxHeartbeats 4000000 in
set_option maxRecDepth 100000 in
theorem c_X2_outOf (l : Launch) (D : va_G) (cI cJ cB cZ : ClassId) (h a1 a2 a3 : Nat) (f1 f2 f3 : Nat → Int) (n sz wh : Int) (N : Nat) (E : Ed) (w : Nat → Nat) (hG : GR N E w f1 f2 f3 n sz wh) (u : Int) (hu : -2147483648 ≤ u ∧ u < 2147483648) : Met l yX2_outOf wsX2_outOf ({ frames := 1, cells := 0, slots := 0, locals := 21 } : Room) (Pre0 D cI cJ cB cZ [.ref h, .int (iZ u)] (wGr cI h a1 a2 a3 f1 f2 f3 n sz wh)) (roI (fun z => ((0 ≤ u ∧ u < n) → z = (dgr E N u.toNat : Int)) ∧ (¬ (0 ≤ u ∧ u < n) → z = 0))) 0 0 (fun _ => False) := by
  refine Met.ofW (cc := cX2_outOf) (maxL := 2) (ret := (some .int)) (by decide) rfl ?_
  intro p e s m args below meth c s₁ B hml hv
  obtain ⟨rfl, hP, hE⟩ := hv
  have hx := B.exec
  have hb := B.bytes
  have hr := B.returns
  have hts := atoms_spec (ws := wsX2_outOf) B.pre
  have hown : s.vm.findClass RX2 = some m.cls := findClass_of_methodNamed B.named
  have hlocks := B.notSynchronized
  have hK := hE.1
  have hi_2 : ∀ w ∈ wsX20, w ∈ wsX2_outOf := by decide +kernel
  have hw_1 := hts (.fieldLink RX2 9 "RankHouse$Graph" "first" "[I") (by decide +kernel)
  have hl := lv_entry ([.ref h, .int (iZ u)]) (n := 2) (Nat.le_of_ble_eq_true rfl)
  rw [lg_entry_eq]
  generalize (lg_sl ([.ref h, .int (iZ u)]) ++ List.replicate (2 - (lg_sl ([.ref h, .int (iZ u)])).length) Slot.unset).toArray = ls at hl ⊢
  have hl : lv_has ls 2 [(0, .ref h), (1, .int (iZ u))] := hl
  obtain ⟨g1, g2, g3, g4, g5, g6, g7, g8, g9, g10, g11⟩ := id hG
  refine lv_aload_n hx hb dX2_outOf_0 rfl (lv_at hl 0 rfl) ?_
  refine lv_iload_n hx hb dX2_outOf_1 rfl (lv_at hl 1 rfl) ?_
  refine ro_i (va_runV (As := [.int (iZ u)]) (rest := []) ⟨hx, hb, hml, hown, hts⟩ (c_X2_isNode l D cI cJ cB cZ h a1 a2 a3 f1 f2 f3 n sz wh u (by omega) hu) (cwV 1 hts gX2_outOf_X2_isNode rfl rfl rfl (by decide +kernel) ⟨Nat.le_of_ble_eq_true rfl, Nat.le_of_ble_eq_true rfl⟩) (pre0V hE hP 0 rfl rfl) rfl rfl hl.1 rfl (lv_room (Nat.le_of_ble_eq_true rfl)) dX2_outOf_2 ⟨Nat.le_of_ble_eq_true rfl, Nat.le_of_ble_eq_true rfl⟩) (fun r_1 hr_2 => ?_)
  rcases hr_2 with ⟨rfl, hq_3⟩ | ⟨rfl, hq_3⟩
  · refine z_if_eq (tgt := 26) hx hb dX2_outOf_5 (by decide) (by omega) (fun c9 => absurd c9 (by decide)) (fun _ => ?_)
    have q1 := g4 u.toNat (by omega)
    have q2 := g4 (u.toNat + 1) (by omega)
    rw [fst_succ] at q2
    refine lv_aload_n hx hb dX2_outOf_8 rfl (lv_at hl 0 rfl) ?_
    refine va_get (v := .ref a1) (C := RX2) (T := TX2) (N := 6) (ci := 2) hx hb hts hi_2 hown hK hP 0 rfl rfl 0 (by decide) hw_1 (fun _ h9 => h9) rfl dX2_outOf_9 ?_
    refine lv_iload_n hx hb dX2_outOf_12 rfl (lv_at hl 1 rfl) ?_
    refine z_iconst hx hb dX2_outOf_13 ?_
    refine z_iadd hx hb dX2_outOf_14 ?_
    refine z_iald hx hb hK hP 1 0 rfl rfl (u.toNat + 1) (by omega) (by omega) (by omega) dX2_outOf_15 ?_
    refine lv_aload_n hx hb dX2_outOf_16 rfl (lv_at hl 0 rfl) ?_
    refine va_get (v := .ref a1) (C := RX2) (T := TX2) (N := 6) (ci := 2) hx hb hts hi_2 hown hK hP 0 rfl rfl 0 (by decide) hw_1 (fun _ h9 => h9) rfl dX2_outOf_17 ?_
    refine lv_iload_n hx hb dX2_outOf_20 rfl (lv_at hl 1 rfl) ?_
    refine z_iald hx hb hK hP 1 0 rfl rfl u.toNat (by omega) (by omega) (by omega) dX2_outOf_21 ?_
    refine z_isub hx hb dX2_outOf_22 ?_
    refine lv_goto (tgt := 27) hx hb dX2_outOf_23 (by decide) ?_
    exact ro_iret (z := (f1 (u.toNat + 1)) - (f1 u.toNat)) hx hb hr hlocks (by omega) dX2_outOf_27
  · refine z_if_eq (tgt := 26) hx hb dX2_outOf_5 (by decide) (by omega) (fun _ => ?_) (fun c9 => absurd c9 (by decide))
    refine z_iconst hx hb dX2_outOf_26 ?_
    exact ro_iret (z := 0) hx hb hr hlocks (by omega) dX2_outOf_27
set_option maxHeartbeats 4000000 in
set_option maxRecDepth 100000 in
theorem c_X2_joins (l : Launch) (D : va_G) (cI cJ cB cZ : ClassId) (h a1 a2 a3 : Nat) (f1 f2 f3 : Nat → Int) (n sz wh : Int) (N : Nat) (E : Ed) (w : Nat → Nat) (hG : GR N E w f1 f2 f3 n sz wh) (u v : Int) (hu : -2147483648 ≤ u ∧ u < 2147483648) (hv : -2147483648 ≤ v ∧ v < 2147483648) : Met l yX2_joins wsX2_joins ({ frames := 1, cells := 0, slots := 0, locals := 23 } : Room) (Pre0 D cI cJ cB cZ [.ref h, .int (iZ u), .int (iZ v)] (wGr cI h a1 a2 a3 f1 f2 f3 n sz wh)) (roI (fun z => (z = 1 ∧ (0 ≤ u ∧ u < n ∧ 0 ≤ v ∧ v < n ∧ E u.toNat v.toNat = true)) ∨ (z = 0 ∧ ¬ (0 ≤ u ∧ u < n ∧ 0 ≤ v ∧ v < n ∧ E u.toNat v.toNat = true)))) 0 0 (fun _ => False) := by
  refine Met.ofW (cc := cX2_joins) (maxL := 4) (ret := (some .boolean)) (by decide) rfl ?_
  intro p e s m args below meth c s₁ B hml hv
  obtain ⟨rfl, hP, hE⟩ := hv
  have hx := B.exec
  have hb := B.bytes
  have hr := B.returns
  have hts := atoms_spec (ws := wsX2_joins) B.pre
  have hown : s.vm.findClass RX2 = some m.cls := findClass_of_methodNamed B.named
  have hlocks := B.notSynchronized
  have hK := hE.1
  have hi_2 : ∀ w ∈ wsX20, w ∈ wsX2_joins := by decide +kernel
  have hw_1 := hts (.fieldLink RX2 9 "RankHouse$Graph" "first" "[I") (by decide +kernel)
  have hw_2 := hts (.fieldLink RX2 15 "RankHouse$Graph" "targets" "[I") (by decide +kernel)
  have hl := lv_entry ([.ref h, .int (iZ u), .int (iZ v)]) (n := 4) (Nat.le_of_ble_eq_true rfl)
  rw [lg_entry_eq]
  generalize (lg_sl ([.ref h, .int (iZ u), .int (iZ v)]) ++ List.replicate (4 - (lg_sl ([.ref h, .int (iZ u), .int (iZ v)])).length) Slot.unset).toArray = ls at hl ⊢
  have hl : lv_has ls 4 [(0, .ref h), (1, .int (iZ u)), (2, .int (iZ v))] := hl
  obtain ⟨g1, g2, g3, g4, g5, g6, g7, g8, g9, g10, g11⟩ := id hG
  refine lv_aload_n hx hb dX2_joins_0 rfl (lv_at hl 0 rfl) ?_
  refine lv_iload_n hx hb dX2_joins_1 rfl (lv_at hl 1 rfl) ?_
  refine ro_i (va_runV (As := [.int (iZ u)]) (rest := []) ⟨hx, hb, hml, hown, hts⟩ (c_X2_isNode l D cI cJ cB cZ h a1 a2 a3 f1 f2 f3 n sz wh u (by omega) hu) (cwV 1 hts gX2_joins_X2_isNode rfl rfl rfl (by decide +kernel) ⟨Nat.le_of_ble_eq_true rfl, Nat.le_of_ble_eq_true rfl⟩) (pre0V hE hP 0 rfl rfl) rfl rfl hl.1 rfl (lv_room (Nat.le_of_ble_eq_true rfl)) dX2_joins_2 ⟨Nat.le_of_ble_eq_true rfl, Nat.le_of_ble_eq_true rfl⟩) (fun r_1 hr_2 => ?_)
  rcases hr_2 with ⟨rfl, hq_3⟩ | ⟨rfl, hq_3⟩
  · refine z_if_eq (tgt := 16) hx hb dX2_joins_5 (by decide) (by omega) (fun c9 => absurd c9 (by decide)) (fun _ => ?_)
    refine lv_aload_n hx hb dX2_joins_8 rfl (lv_at hl 0 rfl) ?_
    refine lv_iload_n hx hb dX2_joins_9 rfl (lv_at hl 2 rfl) ?_
    refine ro_i (va_runV (As := [.int (iZ v)]) (rest := []) ⟨hx, hb, hml, hown, hts⟩ (c_X2_isNode l D cI cJ cB cZ h a1 a2 a3 f1 f2 f3 n sz wh v (by omega) (by omega)) (cwV 1 hts gX2_joins_X2_isNode rfl rfl rfl (by decide +kernel) ⟨Nat.le_of_ble_eq_true rfl, Nat.le_of_ble_eq_true rfl⟩) (pre0V hE hP 0 rfl rfl) rfl rfl hl.1 rfl (lv_room (Nat.le_of_ble_eq_true rfl)) dX2_joins_10 ⟨Nat.le_of_ble_eq_true rfl, Nat.le_of_ble_eq_true rfl⟩) (fun r_4 hr_5 => ?_)
    rcases hr_5 with ⟨rfl, hq_6⟩ | ⟨rfl, hq_6⟩
    · refine z_if_ne (tgt := 18) hx hb dX2_joins_13 (by decide) (by omega) (fun _ => ?_) (fun c9 => absurd c9 (by decide))
      have q4 := fb_ct_mono (E u.toNat) (show v.toNat ≤ N by omega)
      have q5 : fb_ct (E u.toNat) N = dgr E N u.toNat := rfl
      have q1 := g4 u.toNat (by omega)
      have q2 := g4 (u.toNat + 1) (by omega)
      have q3 := fst_le E (show u.toNat < N by omega)
      rw [fst_succ] at q2
      refine lv_aload_n hx hb dX2_joins_18 rfl (lv_at hl 0 rfl) ?_
      refine lv_iload_n hx hb dX2_joins_19 rfl (lv_at hl 1 rfl) ?_
      refine lv_iload_n hx hb dX2_joins_20 rfl (lv_at hl 2 rfl) ?_
      refine ro_i (va_runV (As := [.int (iZ u), .int (iZ v)]) (rest := []) ⟨hx, hb, hml, hown, hts⟩ (c_X2_spot l D cI cJ cB cZ h a1 a2 a3 f1 f2 f3 n sz wh N E w hG u v (by omega) (by omega)) (cwV 2 hts gX2_joins_X2_spot rfl rfl rfl (by decide +kernel) ⟨Nat.le_of_ble_eq_true rfl, Nat.le_of_ble_eq_true rfl⟩) (pre0V hE hP 0 rfl rfl) rfl rfl hl.1 rfl (lv_room (Nat.le_of_ble_eq_true rfl)) dX2_joins_21 ⟨Nat.le_of_ble_eq_true rfl, Nat.le_of_ble_eq_true rfl⟩) (fun r_7 hr_8 => ?_)
      subst hr_8
      refine lv_istore_n (lv' := [(3, .int (iZ ((fst E N u.toNat + fb_ct (E u.toNat) v.toNat : Nat) : Int))), (0, .ref h), (1, .int (iZ u)), (2, .int (iZ v))]) hx hb dX2_joins_24 rfl hl (by decide) rfl (fun ls hl => ?_)
      refine lv_iload_n hx hb dX2_joins_25 rfl (lv_at hl 0 rfl) ?_
      refine lv_aload_n hx hb dX2_joins_26 rfl (lv_at hl 1 rfl) ?_
      refine va_get (v := .ref a1) (C := RX2) (T := TX2) (N := 6) (ci := 2) hx hb hts hi_2 hown hK hP 0 rfl rfl 0 (by decide) hw_1 (fun _ h9 => h9) rfl dX2_joins_27 ?_
      refine lv_iload_n hx hb dX2_joins_30 rfl (lv_at hl 2 rfl) ?_
      refine z_iconst hx hb dX2_joins_31 ?_
      refine z_iadd hx hb dX2_joins_32 ?_
      refine z_iald hx hb hK hP 1 0 rfl rfl (u.toNat + 1) (by omega) (by omega) (by omega) dX2_joins_33 ?_
      refine z_icmp_ge (tgt := 51) hx hb dX2_joins_34 (by decide) (by omega) (by omega) (fun c_9 => ?_) (fun c_9 => ?_)
      · refine z_iconst hx hb dX2_joins_51 ?_
        exact ro_zret (z := 0) hx hb hr hlocks (Or.inl rfl) (Or.inr ⟨rfl, fun q => by have q9 := row_in (p := E u.toNat) q.2.2.2.2 (show v.toNat < N by omega); have q8 : fb_ct (E u.toNat) N = dgr E N u.toNat := rfl; first | omega | (have q7 := fb_ct_kth_one r2 q.2.2.2.2 r3; omega)⟩) dX2_joins_52
      · obtain ⟨t, r1, r2, r3, r4⟩ := row_at g7 (show u.toNat < N by omega) (show fb_ct (E u.toNat) v.toNat < dgr E N u.toNat by omega)
        refine lv_aload_n hx hb dX2_joins_37 rfl (lv_at hl 1 rfl) ?_
        refine va_get (v := .ref a2) (C := RX2) (T := TX2) (N := 6) (ci := 2) hx hb hts hi_2 hown hK hP 0 rfl rfl 1 (by decide) hw_2 (fun _ h9 => h9) rfl dX2_joins_38 ?_
        refine lv_iload_n hx hb dX2_joins_41 rfl (lv_at hl 0 rfl) ?_
        refine z_iald hx hb hK hP 2 0 rfl rfl (fst E N u.toNat + fb_ct (E u.toNat) v.toNat) (by omega) (by omega) (by omega) dX2_joins_42 ?_
        refine lv_iload_n hx hb dX2_joins_43 rfl (lv_at hl 3 rfl) ?_
        refine z_icmp_ne (tgt := 51) hx hb dX2_joins_44 (by decide) (by omega) (by omega) (fun c_10 => ?_) (fun c_10 => ?_)
        · refine z_iconst hx hb dX2_joins_51 ?_
          exact ro_zret (z := 0) hx hb hr hlocks (Or.inl rfl) (Or.inr ⟨rfl, fun q => by have q9 := row_in (p := E u.toNat) q.2.2.2.2 (show v.toNat < N by omega); have q8 : fb_ct (E u.toNat) N = dgr E N u.toNat := rfl; first | omega | (have q7 := fb_ct_kth_one r2 q.2.2.2.2 r3; omega)⟩) dX2_joins_52
        · refine z_iconst hx hb dX2_joins_47 ?_
          refine lv_goto (tgt := 52) hx hb dX2_joins_48 (by decide) ?_
          exact ro_zret (z := 1) hx hb hr hlocks (Or.inr rfl) (Or.inl ⟨rfl, by omega, by omega, by omega, by omega, (show t = v.toNat by omega) ▸ r2⟩) dX2_joins_52
    · refine z_if_ne (tgt := 18) hx hb dX2_joins_13 (by decide) (by omega) (fun c9 => absurd c9 (by decide)) (fun _ => ?_)
      refine z_iconst hx hb dX2_joins_16 ?_
      exact ro_zret (z := 0) hx hb hr hlocks (Or.inl rfl) (Or.inr ⟨rfl, fun q => by omega⟩) dX2_joins_17
  · refine z_if_eq (tgt := 16) hx hb dX2_joins_5 (by decide) (by omega) (fun _ => ?_) (fun c9 => absurd c9 (by decide))
    refine z_iconst hx hb dX2_joins_16 ?_
    exact ro_zret (z := 0) hx hb hr hlocks (Or.inl rfl) (Or.inr ⟨rfl, fun q => by omega⟩) dX2_joins_17
set_option maxHeartbeats 4000000 in
set_option maxRecDepth 100000 in
theorem c_X2_into (l : Launch) (D : va_G) (cI cJ cB cZ : ClassId) (h a1 a2 a3 : Nat) (f1 f2 f3 : Nat → Int) (n sz wh : Int) (N : Nat) (E : Ed) (w : Nat → Nat) (hG : GR N E w f1 f2 f3 n sz wh) (v : Int) (hv : 0 ≤ v ∧ v < n) : Met l yX2_into wsX2_into ({ frames := 0, cells := 0, slots := 0, locals := 0 } : Room) (Pre0 D cI cJ cB cZ [.ref h, .int (iZ v)] (wGr cI h a1 a2 a3 f1 f2 f3 n sz wh)) (roI (fun z => z = (fb_ct (fun a => E a v.toNat) N : Int))) 0 0 (fun _ => False) := by
  refine Met.ofW (cc := cX2_into) (maxL := 4) (ret := (some .int)) (by decide) rfl ?_
  intro p e s m args below meth c s₁ B hml hv
  obtain ⟨rfl, hP, hE⟩ := hv
  have hx := B.exec
  have hb := B.bytes
  have hr := B.returns
  have hts := atoms_spec (ws := wsX2_into) B.pre
  have hown : s.vm.findClass RX2 = some m.cls := findClass_of_methodNamed B.named
  have hlocks := B.notSynchronized
  have hK := hE.1
  have hi_2 : ∀ w ∈ wsX20, w ∈ wsX2_into := by decide +kernel
  have hw_1 := hts (.fieldLink RX2 25 "RankHouse$Graph" "size" "I") (by decide +kernel)
  have hw_2 := hts (.fieldLink RX2 15 "RankHouse$Graph" "targets" "[I") (by decide +kernel)
  have hl := lv_entry ([.ref h, .int (iZ v)]) (n := 4) (Nat.le_of_ble_eq_true rfl)
  rw [lg_entry_eq]
  generalize (lg_sl ([.ref h, .int (iZ v)]) ++ List.replicate (4 - (lg_sl ([.ref h, .int (iZ v)])).length) Slot.unset).toArray = ls at hl ⊢
  have hl : lv_has ls 4 [(0, .ref h), (1, .int (iZ v))] := hl
  obtain ⟨g1, g2, g3, g4, g5, g6, g7, g8, g9, g10, g11⟩ := id hG
  have q1 := into_all g7 (show v.toNat < N by omega) N (Nat.le_refl N)
  have q2 : ((v.toNat : Nat) : Int) = v := by omega
  rw [q2] at q1
  refine z_iconst hx hb dX2_into_0 ?_
  refine lv_istore_n (lv' := [(2, .int (iZ 0)), (0, .ref h), (1, .int (iZ v))]) hx hb dX2_into_1 rfl hl (by decide) rfl (fun ls hl => ?_)
  refine z_iconst hx hb dX2_into_2 ?_
  refine lv_istore_n (lv' := [(3, .int (iZ 0)), (2, .int (iZ 0)), (0, .ref h), (1, .int (iZ v))]) hx hb dX2_into_3 rfl hl (by decide) rfl (fun ls hl => ?_)
  refine w_loop0 (fun kf ls => ∃ (i : Nat), ∃ (y : Int), kf = fst E N N - i ∧ (i ≤ fst E N N ∧ y = (fb_ct (fun j => decide (f2 j = v)) i : Int)) ∧ lv_has ls 4 [(0, .ref h), (1, .int (iZ v)), (2, .int (iZ y)), (3, .int (iZ ↑i))]) ?_ _ ⟨0, 0, rfl, ⟨by omega, rfl⟩, lv_sub hl [2, 3, 1, 0] rfl⟩
  rintro kf ls ⟨i, y, hk, hinv, hl⟩ ih
  refine lv_iload_n hx hb dX2_into_4 rfl (lv_at hl 3 rfl) ?_
  refine lv_aload_n hx hb dX2_into_5 rfl (lv_at hl 0 rfl) ?_
  refine va_get (v := .int (iZ sz)) (C := RX2) (T := TX2) (N := 6) (ci := 2) hx hb hts hi_2 hown hK hP 0 rfl rfl 4 (by decide) hw_1 (fun _ h9 => h9) rfl dX2_into_6 ?_
  refine z_icmp_ge (tgt := 31) hx hb dX2_into_9 (by decide) (by omega) (by omega) (fun c_1 => ?_) (fun c_1 => ?_)
  · refine lv_iload_n hx hb dX2_into_31 rfl (lv_at hl 2 rfl) ?_
    exact ro_iret (z := y) hx hb hr hlocks (by rw [show i = fst E N N by omega] at hinv; omega) dX2_into_32
  · have q3 : f2 i = v ∨ f2 i ≠ v := Decidable.em _
    have q4 := GR_f2 hG (show i < fst E N N by omega)
    have q44 := fb_ct_le (fun j => decide (f2 j = v)) i
    refine lv_aload_n hx hb dX2_into_12 rfl (lv_at hl 0 rfl) ?_
    refine va_get (v := .ref a2) (C := RX2) (T := TX2) (N := 6) (ci := 2) hx hb hts hi_2 hown hK hP 0 rfl rfl 1 (by decide) hw_2 (fun _ h9 => h9) rfl dX2_into_13 ?_
    refine lv_iload_n hx hb dX2_into_16 rfl (lv_at hl 3 rfl) ?_
    refine z_iald hx hb hK hP 2 0 rfl rfl i (by omega) (by omega) (by omega) dX2_into_17 ?_
    refine lv_iload_n hx hb dX2_into_18 rfl (lv_at hl 1 rfl) ?_
    refine z_icmp_ne (tgt := 25) hx hb dX2_into_19 (by decide) (by omega) (by omega) (fun c_2 => ?_) (fun c_2 => ?_)
    · have q6 : f2 i ≠ v → fb_ct (fun j => decide (f2 j = v)) (i + 1) = fb_ct (fun j => decide (f2 j = v)) i := fun q => ct_no (by simp [q])
      refine lv_iinc (v := iZ (↑i + 1)) (lv' := [(3, .int (iZ (↑i + 1))), (0, .ref h), (1, .int (iZ v)), (2, .int (iZ y))]) hx hb dX2_into_25 hl (k := 3) rfl (show iZ ↑i + iZ 1 = _ from iZ_add _ _) (by decide) rfl (fun ls hl => ?_)
      refine lv_goto (tgt := 4) hx hb dX2_into_28 (by decide) ?_
      exact ih _ _ (by omega) ⟨(i + 1), y, rfl, (by omega), lv_sub hl [1, 2, 3, 0] rfl⟩
    · have q5 := ct_yes (p := fun j => decide (f2 j = v)) (i := i) (decide_eq_true (by omega))
      refine lv_iinc (v := iZ (y + 1)) (lv' := [(2, .int (iZ (y + 1))), (0, .ref h), (1, .int (iZ v)), (3, .int (iZ ↑i))]) hx hb dX2_into_22 hl (k := 2) rfl (show iZ y + iZ 1 = _ from iZ_add _ _) (by decide) rfl (fun ls hl => ?_)
      have q6 : f2 i ≠ v → fb_ct (fun j => decide (f2 j = v)) (i + 1) = fb_ct (fun j => decide (f2 j = v)) i := fun q => ct_no (by simp [q])
      refine lv_iinc (v := iZ (↑i + 1)) (lv' := [(3, .int (iZ (↑i + 1))), (2, .int (iZ (y + 1))), (0, .ref h), (1, .int (iZ v))]) hx hb dX2_into_25 hl (k := 3) rfl (show iZ ↑i + iZ 1 = _ from iZ_add _ _) (by decide) rfl (fun ls hl => ?_)
      refine lv_goto (tgt := 4) hx hb dX2_into_28 (by decide) ?_
      exact ih _ _ (by omega) ⟨(i + 1), (y + 1), rfl, (by omega), lv_sub hl [2, 3, 1, 0] rfl⟩
set_option maxHeartbeats 4000000 in
set_option maxRecDepth 100000 in
theorem c_X2_target (l : Launch) (D : va_G) (cI cJ cB cZ : ClassId) (h a1 a2 a3 : Nat) (f1 f2 f3 : Nat → Int) (n sz wh : Int) (N : Nat) (E : Ed) (w : Nat → Nat) (hG : GR N E w f1 f2 f3 n sz wh) (u k : Int) (hu : -2147483648 ≤ u ∧ u < 2147483648) (hk : -2147483648 ≤ k ∧ k < 2147483648) : Met l yX2_target wsX2_target ({ frames := 2, cells := 0, slots := 0, locals := 42 } : Room) (Pre0 D cI cJ cB cZ [.ref h, .int (iZ u), .int (iZ k)] (wGr cI h a1 a2 a3 f1 f2 f3 n sz wh)) (roI (fun z => TG (pout E N u) N k z)) 0 0 (fun _ => False) := by
  refine Met.ofW (cc := cX2_target) (maxL := 3) (ret := (some .int)) (by decide) rfl ?_
  intro p e s m args below meth c s₁ B hml hv
  obtain ⟨rfl, hP, hE⟩ := hv
  have hx := B.exec
  have hb := B.bytes
  have hr := B.returns
  have hts := atoms_spec (ws := wsX2_target) B.pre
  have hown : s.vm.findClass RX2 = some m.cls := findClass_of_methodNamed B.named
  have hlocks := B.notSynchronized
  have hK := hE.1
  have hi_2 : ∀ w ∈ wsX20, w ∈ wsX2_target := by decide +kernel
  have hw_1 := hts (.fieldLink RX2 15 "RankHouse$Graph" "targets" "[I") (by decide +kernel)
  have hw_2 := hts (.fieldLink RX2 9 "RankHouse$Graph" "first" "[I") (by decide +kernel)
  have hl := lv_entry ([.ref h, .int (iZ u), .int (iZ k)]) (n := 3) (Nat.le_of_ble_eq_true rfl)
  rw [lg_entry_eq]
  generalize (lg_sl ([.ref h, .int (iZ u), .int (iZ k)]) ++ List.replicate (3 - (lg_sl ([.ref h, .int (iZ u), .int (iZ k)])).length) Slot.unset).toArray = ls at hl ⊢
  have hl : lv_has ls 3 [(0, .ref h), (1, .int (iZ u)), (2, .int (iZ k))] := hl
  obtain ⟨g1, g2, g3, g4, g5, g6, g7, g8, g9, g10, g11⟩ := id hG
  refine lv_iload_n hx hb dX2_target_0 rfl (lv_at hl 2 rfl) ?_
  refine z_if_lt (tgt := 29) hx hb dX2_target_1 (by decide) (by omega) (fun c_1 => ?_) (fun c_1 => ?_)
  · refine z_iconst hx hb dX2_target_29 ?_
    exact ro_iret (z := (-1)) hx hb hr hlocks (Or.inr ⟨rfl, fun q => by by_cases q5 : 0 ≤ u ∧ u < (N : Int); (rw [pout_in q5] at q; have q6 : fb_ct (E u.toNat) N = dgr E N u.toNat := rfl; omega); (rw [ct_false N (pout_out q5)] at q; omega)⟩) dX2_target_30
  · refine lv_iload_n hx hb dX2_target_4 rfl (lv_at hl 2 rfl) ?_
    refine lv_aload_n hx hb dX2_target_5 rfl (lv_at hl 0 rfl) ?_
    refine lv_iload_n hx hb dX2_target_6 rfl (lv_at hl 1 rfl) ?_
    refine ro_i (va_runV (As := [.int (iZ u)]) (rest := [.int (iZ k)]) ⟨hx, hb, hml, hown, hts⟩ (c_X2_outOf l D cI cJ cB cZ h a1 a2 a3 f1 f2 f3 n sz wh N E w hG u hu) (cwV 1 hts gX2_target_X2_outOf rfl rfl rfl (by decide +kernel) ⟨Nat.le_of_ble_eq_true rfl, Nat.le_of_ble_eq_true rfl⟩) (pre0V hE hP 0 rfl rfl) rfl rfl hl.1 rfl (lv_room (Nat.le_of_ble_eq_true rfl)) dX2_target_7 ⟨Nat.le_of_ble_eq_true rfl, Nat.le_of_ble_eq_true rfl⟩) (fun r_2 hr_3 => ?_)
    have q9 := dgr_le E N u.toNat
    refine z_icmp_ge (tgt := 29) hx hb dX2_target_10 (by decide) (by omega) (by omega) (fun c_4 => ?_) (fun c_4 => ?_)
    · refine z_iconst hx hb dX2_target_29 ?_
      exact ro_iret (z := (-1)) hx hb hr hlocks (Or.inr ⟨rfl, fun q => by by_cases q5 : 0 ≤ u ∧ u < (N : Int); (rw [pout_in q5] at q; have q6 : fb_ct (E u.toNat) N = dgr E N u.toNat := rfl; omega); (rw [ct_false N (pout_out q5)] at q; omega)⟩) dX2_target_30
    · have q0 : 0 ≤ u ∧ u < n := by omega
      have q1 := g4 u.toNat (by omega)
      have q3 := fst_le E (show u.toNat < N by omega)
      obtain ⟨t, r1, r2, r3, r4⟩ := row_at g7 (show u.toNat < N by omega) (show k.toNat < dgr E N u.toNat by omega)
      refine lv_aload_n hx hb dX2_target_13 rfl (lv_at hl 0 rfl) ?_
      refine va_get (v := .ref a2) (C := RX2) (T := TX2) (N := 6) (ci := 2) hx hb hts hi_2 hown hK hP 0 rfl rfl 1 (by decide) hw_1 (fun _ h9 => h9) rfl dX2_target_14 ?_
      refine lv_aload_n hx hb dX2_target_17 rfl (lv_at hl 0 rfl) ?_
      refine va_get (v := .ref a1) (C := RX2) (T := TX2) (N := 6) (ci := 2) hx hb hts hi_2 hown hK hP 0 rfl rfl 0 (by decide) hw_2 (fun _ h9 => h9) rfl dX2_target_18 ?_
      refine lv_iload_n hx hb dX2_target_21 rfl (lv_at hl 1 rfl) ?_
      refine z_iald hx hb hK hP 1 0 rfl rfl u.toNat (by omega) (by omega) (by omega) dX2_target_22 ?_
      refine lv_iload_n hx hb dX2_target_23 rfl (lv_at hl 2 rfl) ?_
      refine z_iadd hx hb dX2_target_24 ?_
      refine z_iald hx hb hK hP 2 0 rfl rfl (fst E N u.toNat + k.toNat) (by omega) (by omega) (by omega) dX2_target_25 ?_
      refine lv_goto (tgt := 30) hx hb dX2_target_26 (by decide) ?_
      exact ro_iret (z := f2 (fst E N u.toNat + k.toNat)) hx hb hr hlocks (Or.inl ⟨t, r1, by rw [pout_in (by omega)]; exact r2, by rw [pout_in (by omega)]; omega, r4⟩) dX2_target_30
set_option maxHeartbeats 4000000 in
set_option maxRecDepth 100000 in
theorem c_X2_source (l : Launch) (D : va_G) (cI cJ cB cZ : ClassId) (h a1 a2 a3 : Nat) (f1 f2 f3 : Nat → Int) (n sz wh : Int) (N : Nat) (E : Ed) (w : Nat → Nat) (hG : GR N E w f1 f2 f3 n sz wh) (v k : Int) (hv : -2147483648 ≤ v ∧ v < 2147483648) (hk0 : -2147483648 ≤ k ∧ k < 2147483648) : Met l yX2_source wsX2_source ({ frames := 2, cells := 0, slots := 0, locals := 46 } : Room) (Pre0 D cI cJ cB cZ [.ref h, .int (iZ v), .int (iZ k)] (wGr cI h a1 a2 a3 f1 f2 f3 n sz wh)) (roI (fun z => TG (pin E N v) N k z)) 0 0 (fun _ => False) := by
  refine Met.ofW (cc := cX2_source) (maxL := 5) (ret := (some .int)) (by decide) rfl ?_
  intro p e s m args below meth c s₁ B hml hv
  obtain ⟨rfl, hP, hE⟩ := hv
  have hx := B.exec
  have hb := B.bytes
  have hr := B.returns
  have hts := atoms_spec (ws := wsX2_source) B.pre
  have hown : s.vm.findClass RX2 = some m.cls := findClass_of_methodNamed B.named
  have hlocks := B.notSynchronized
  have hK := hE.1
  have hi_2 : ∀ w ∈ wsX20, w ∈ wsX2_source := by decide +kernel
  have hw_1 := hts (.fieldLink RX2 21 "RankHouse$Graph" "nodes" "I") (by decide +kernel)
  have hl := lv_entry ([.ref h, .int (iZ v), .int (iZ k)]) (n := 5) (Nat.le_of_ble_eq_true rfl)
  rw [lg_entry_eq]
  generalize (lg_sl ([.ref h, .int (iZ v), .int (iZ k)]) ++ List.replicate (5 - (lg_sl ([.ref h, .int (iZ v), .int (iZ k)])).length) Slot.unset).toArray = ls at hl ⊢
  have hl : lv_has ls 5 [(0, .ref h), (1, .int (iZ v)), (2, .int (iZ k))] := hl
  obtain ⟨g1, g2, g3, g4, g5, g6, g7, g8, g9, g10, g11⟩ := id hG
  refine z_iconst hx hb dX2_source_0 ?_
  refine lv_istore_n (lv' := [(3, .int (iZ 0)), (0, .ref h), (1, .int (iZ v)), (2, .int (iZ k))]) hx hb dX2_source_1 rfl hl (by decide) rfl (fun ls hl => ?_)
  refine z_iconst hx hb dX2_source_2 ?_
  refine lv_istore (lv' := [(4, .int (iZ 0)), (3, .int (iZ 0)), (0, .ref h), (1, .int (iZ v)), (2, .int (iZ k))]) hx hb dX2_source_3 hl (by decide) rfl (fun ls hl => ?_)
  refine w_loop0 (fun kf ls => ∃ (i : Nat), ∃ (y : Int), kf = N - i ∧ (i ≤ N ∧ y = (fb_ct (pin E N v) i : Int) ∧ ¬ (0 ≤ k ∧ k < (fb_ct (pin E N v) i : Int))) ∧ lv_has ls 5 [(0, .ref h), (1, .int (iZ v)), (2, .int (iZ k)), (3, .int (iZ y)), (4, .int (iZ ↑i))]) ?_ _ ⟨0, 0, rfl, ⟨by omega, rfl, (show ¬ (0 ≤ k ∧ k < 0) by omega)⟩, lv_sub hl [2, 3, 4, 1, 0] rfl⟩
  rintro kf ls ⟨i, y, hk, ⟨i1, i2, i3⟩, hl⟩ ih
  refine lv_iload hx hb dX2_source_5 (lv_at hl 4 rfl) ?_
  refine lv_aload_n hx hb dX2_source_7 rfl (lv_at hl 0 rfl) ?_
  refine va_get (v := .int (iZ n)) (C := RX2) (T := TX2) (N := 6) (ci := 2) hx hb hts hi_2 hown hK hP 0 rfl rfl 3 (by decide) hw_1 (fun _ h9 => h9) rfl dX2_source_8 ?_
  refine z_icmp_ge (tgt := 41) hx hb dX2_source_11 (by decide) (by omega) (by omega) (fun c_1 => ?_) (fun c_1 => ?_)
  · refine z_iconst hx hb dX2_source_41 ?_
    exact ro_iret (z := (-1)) hx hb hr hlocks (Or.inr ⟨rfl, by rw [show i = N by omega] at i3; exact i3⟩) dX2_source_42
  · refine lv_aload_n hx hb dX2_source_14 rfl (lv_at hl 0 rfl) ?_
    refine lv_iload hx hb dX2_source_15 (lv_at hl 4 rfl) ?_
    refine lv_iload_n hx hb dX2_source_17 rfl (lv_at hl 1 rfl) ?_
    refine ro_i (va_runV (As := [.int (iZ ↑i), .int (iZ v)]) (rest := []) ⟨hx, hb, hml, hown, hts⟩ (c_X2_joins l D cI cJ cB cZ h a1 a2 a3 f1 f2 f3 n sz wh N E w hG (↑i) v (by omega) hv) (cwV 2 hts gX2_source_X2_joins rfl rfl rfl (by decide +kernel) ⟨Nat.le_of_ble_eq_true rfl, Nat.le_of_ble_eq_true rfl⟩) (pre0V hE hP 0 rfl rfl) rfl rfl hl.1 rfl (lv_room (Nat.le_of_ble_eq_true rfl)) dX2_source_18 ⟨Nat.le_of_ble_eq_true rfl, Nat.le_of_ble_eq_true rfl⟩) (fun r_2 hr_3 => ?_)
    rw [pin_iff g3 (show i < N by omega)] at hr_3
    have q8 := fb_ct_le (pin E N v) i
    rcases hr_3 with ⟨rfl, hq_4⟩ | ⟨rfl, hq_4⟩
    · have q9 := ct_yes hq_4
      refine z_if_eq (tgt := 35) hx hb dX2_source_21 (by decide) (by omega) (fun c9 => absurd c9 (by decide)) (fun _ => ?_)
      refine lv_iload_n hx hb dX2_source_24 rfl (lv_at hl 3 rfl) ?_
      refine lv_iload_n hx hb dX2_source_25 rfl (lv_at hl 2 rfl) ?_
      refine z_icmp_ne (tgt := 32) hx hb dX2_source_26 (by decide) (by omega) (by omega) (fun c_5 => ?_) (fun c_5 => ?_)
      · refine lv_iinc (v := iZ (y + 1)) (lv' := [(3, .int (iZ (y + 1))), (0, .ref h), (1, .int (iZ v)), (2, .int (iZ k)), (4, .int (iZ ↑i))]) hx hb dX2_source_32 hl (k := 3) rfl (show iZ y + iZ 1 = _ from iZ_add _ _) (by decide) rfl (fun ls hl => ?_)
        refine lv_iinc (v := iZ (↑i + 1)) (lv' := [(4, .int (iZ (↑i + 1))), (3, .int (iZ (y + 1))), (0, .ref h), (1, .int (iZ v)), (2, .int (iZ k))]) hx hb dX2_source_35 hl (k := 4) rfl (show iZ ↑i + iZ 1 = _ from iZ_add _ _) (by decide) rfl (fun ls hl => ?_)
        refine lv_goto (tgt := 5) hx hb dX2_source_38 (by decide) ?_
        exact ih _ _ (by omega) ⟨(i + 1), (y + 1), rfl, (by omega), lv_sub hl [2, 3, 4, 1, 0] rfl⟩
      · refine lv_iload hx hb dX2_source_29 (lv_at hl 4 rfl) ?_
        exact ro_iret (z := ↑i) hx hb hr hlocks (Or.inl ⟨i, by omega, by assumption, by omega, rfl⟩) dX2_source_31
    · have q9 := ct_no hq_4
      refine z_if_eq (tgt := 35) hx hb dX2_source_21 (by decide) (by omega) (fun _ => ?_) (fun c9 => absurd c9 (by decide))
      refine lv_iinc (v := iZ (↑i + 1)) (lv' := [(4, .int (iZ (↑i + 1))), (0, .ref h), (1, .int (iZ v)), (2, .int (iZ k)), (3, .int (iZ y))]) hx hb dX2_source_35 hl (k := 4) rfl (show iZ ↑i + iZ 1 = _ from iZ_add _ _) (by decide) rfl (fun ls hl => ?_)
      refine lv_goto (tgt := 5) hx hb dX2_source_38 (by decide) ?_
      exact ih _ _ (by omega) ⟨(i + 1), y, rfl, (by omega), lv_sub hl [1, 2, 3, 4, 0] rfl⟩
set_option maxHeartbeats 4000000 in
set_option maxRecDepth 100000 in
theorem c_X2_bareNodes (l : Launch) (D : va_G) (cI cJ cB cZ : ClassId) (h a1 a2 a3 : Nat) (f1 f2 f3 : Nat → Int) (n sz wh : Int) (N : Nat) (E : Ed) (w : Nat → Nat) (hG : GR N E w f1 f2 f3 n sz wh)  : Met l yX2_bareNodes wsX2_bareNodes ({ frames := 2, cells := 0, slots := 0, locals := 42 } : Room) (Pre0 D cI cJ cB cZ [.ref h] (wGr cI h a1 a2 a3 f1 f2 f3 n sz wh)) (roI (fun z => z = (fb_ct (fun a => decide (dgr E N a = 0)) N : Int))) 0 0 (fun _ => False) := by
  refine Met.ofW (cc := cX2_bareNodes) (maxL := 3) (ret := (some .int)) (by decide) rfl ?_
  intro p e s m args below meth c s₁ B hml hv
  obtain ⟨rfl, hP, hE⟩ := hv
  have hx := B.exec
  have hb := B.bytes
  have hr := B.returns
  have hts := atoms_spec (ws := wsX2_bareNodes) B.pre
  have hown : s.vm.findClass RX2 = some m.cls := findClass_of_methodNamed B.named
  have hlocks := B.notSynchronized
  have hK := hE.1
  have hi_2 : ∀ w ∈ wsX20, w ∈ wsX2_bareNodes := by decide +kernel
  have hw_1 := hts (.fieldLink RX2 21 "RankHouse$Graph" "nodes" "I") (by decide +kernel)
  have hl := lv_entry ([.ref h]) (n := 3) (Nat.le_of_ble_eq_true rfl)
  rw [lg_entry_eq]
  generalize (lg_sl ([.ref h]) ++ List.replicate (3 - (lg_sl ([.ref h])).length) Slot.unset).toArray = ls at hl ⊢
  have hl : lv_has ls 3 [(0, .ref h)] := hl
  obtain ⟨g1, g2, g3, g4, g5, g6, g7, g8, g9, g10, g11⟩ := id hG
  refine z_iconst hx hb dX2_bareNodes_0 ?_
  refine lv_istore_n (lv' := [(1, .int (iZ 0)), (0, .ref h)]) hx hb dX2_bareNodes_1 rfl hl (by decide) rfl (fun ls hl => ?_)
  refine z_iconst hx hb dX2_bareNodes_2 ?_
  refine lv_istore_n (lv' := [(2, .int (iZ 0)), (1, .int (iZ 0)), (0, .ref h)]) hx hb dX2_bareNodes_3 rfl hl (by decide) rfl (fun ls hl => ?_)
  refine w_loop0 (fun kf ls => ∃ (i : Nat), ∃ (y : Int), kf = N - i ∧ (i ≤ N ∧ y = (fb_ct (fun a => decide (dgr E N a = 0)) i : Int)) ∧ lv_has ls 3 [(0, .ref h), (1, .int (iZ y)), (2, .int (iZ ↑i))]) ?_ _ ⟨0, 0, rfl, ⟨by omega, rfl⟩, lv_sub hl [2, 1, 0] rfl⟩
  rintro kf ls ⟨i, y, hk, hinv, hl⟩ ih
  refine lv_iload_n hx hb dX2_bareNodes_4 rfl (lv_at hl 2 rfl) ?_
  refine lv_aload_n hx hb dX2_bareNodes_5 rfl (lv_at hl 0 rfl) ?_
  refine va_get (v := .int (iZ n)) (C := RX2) (T := TX2) (N := 6) (ci := 2) hx hb hts hi_2 hown hK hP 0 rfl rfl 3 (by decide) hw_1 (fun _ h9 => h9) rfl dX2_bareNodes_6 ?_
  refine z_icmp_ge (tgt := 29) hx hb dX2_bareNodes_9 (by decide) (by omega) (by omega) (fun c_1 => ?_) (fun c_1 => ?_)
  · refine lv_iload_n hx hb dX2_bareNodes_29 rfl (lv_at hl 1 rfl) ?_
    exact ro_iret (z := y) hx hb hr hlocks (by rw [show i = N by omega] at hinv; omega) dX2_bareNodes_30
  · refine lv_aload_n hx hb dX2_bareNodes_12 rfl (lv_at hl 0 rfl) ?_
    refine lv_iload_n hx hb dX2_bareNodes_13 rfl (lv_at hl 2 rfl) ?_
    refine ro_i (va_runV (As := [.int (iZ ↑i)]) (rest := []) ⟨hx, hb, hml, hown, hts⟩ (c_X2_outOf l D cI cJ cB cZ h a1 a2 a3 f1 f2 f3 n sz wh N E w hG (↑i) (by omega)) (cwV 1 hts gX2_bareNodes_X2_outOf rfl rfl rfl (by decide +kernel) ⟨Nat.le_of_ble_eq_true rfl, Nat.le_of_ble_eq_true rfl⟩) (pre0V hE hP 0 rfl rfl) rfl rfl hl.1 rfl (lv_room (Nat.le_of_ble_eq_true rfl)) dX2_bareNodes_14 ⟨Nat.le_of_ble_eq_true rfl, Nat.le_of_ble_eq_true rfl⟩) (fun r_2 hr_3 => ?_)
    have q4 := hr_3.1 (by omega)
    rw [Int.toNat_natCast] at q4
    have q7 := dgr_le E N i
    have q8 := fb_ct_le (fun a => decide (dgr E N a = 0)) i
    refine z_if_ne (tgt := 23) hx hb dX2_bareNodes_17 (by decide) (by omega) (fun c_4 => ?_) (fun c_4 => ?_)
    · have q6 : dgr E N i ≠ 0 → fb_ct (fun a => decide (dgr E N a = 0)) (i + 1) = fb_ct (fun a => decide (dgr E N a = 0)) i := fun q => ct_no (by simp [q])
      refine lv_iinc (v := iZ (↑i + 1)) (lv' := [(2, .int (iZ (↑i + 1))), (0, .ref h), (1, .int (iZ y))]) hx hb dX2_bareNodes_23 hl (k := 2) rfl (show iZ ↑i + iZ 1 = _ from iZ_add _ _) (by decide) rfl (fun ls hl => ?_)
      refine lv_goto (tgt := 4) hx hb dX2_bareNodes_26 (by decide) ?_
      exact ih _ _ (by omega) ⟨(i + 1), y, rfl, (by omega), lv_sub hl [1, 2, 0] rfl⟩
    · have q5 := ct_yes (p := fun a => decide (dgr E N a = 0)) (i := i) (decide_eq_true (by omega))
      refine lv_iinc (v := iZ (y + 1)) (lv' := [(1, .int (iZ (y + 1))), (0, .ref h), (2, .int (iZ ↑i))]) hx hb dX2_bareNodes_20 hl (k := 1) rfl (show iZ y + iZ 1 = _ from iZ_add _ _) (by decide) rfl (fun ls hl => ?_)
      have q6 : dgr E N i ≠ 0 → fb_ct (fun a => decide (dgr E N a = 0)) (i + 1) = fb_ct (fun a => decide (dgr E N a = 0)) i := fun q => ct_no (by simp [q])
      refine lv_iinc (v := iZ (↑i + 1)) (lv' := [(2, .int (iZ (↑i + 1))), (1, .int (iZ (y + 1))), (0, .ref h)]) hx hb dX2_bareNodes_23 hl (k := 2) rfl (show iZ ↑i + iZ 1 = _ from iZ_add _ _) (by decide) rfl (fun ls hl => ?_)
      refine lv_goto (tgt := 4) hx hb dX2_bareNodes_26 (by decide) ?_
      exact ih _ _ (by omega) ⟨(i + 1), (y + 1), rfl, (by omega), lv_sub hl [2, 1, 0] rfl⟩
