set_option maxHeartbeats 4000000 in
set_option maxRecDepth 100000 in
theorem c_X2_isNode (l : Launch) (D : va_G) (cI cJ cB cZ : ClassId) (h a1 a2 a3 : Nat) (f1 f2 f3 : Nat → Int) (n sz wh : Int) (u : Int) (hn : 0 ≤ n ∧ n ≤ 250) (hu : -2147483648 ≤ u ∧ u < 2147483648) : Met l yX2_isNode wsX2_isNode ({ frames := 0, cells := 0, slots := 0, locals := 0 } : Room) (Pre0 D cI cJ cB cZ [.ref h, .int (iZ u)] (wGr cI h a1 a2 a3 f1 f2 f3 n sz wh)) (roI (fun z => (z = 1 ∧ (0 ≤ u ∧ u < n)) ∨ (z = 0 ∧ ¬ (0 ≤ u ∧ u < n)))) 0 0 (fun _ => False) := by
  refine Met.ofW (cc := cX2_isNode) (maxL := 2) (ret := (some .boolean)) (by decide) rfl ?_
  intro p e s m args below meth c s₁ B hml hv
  obtain ⟨rfl, hP, hE⟩ := hv
  have hx := B.exec
  have hb := B.bytes
  have hr := B.returns
  have hts := atoms_spec (ws := wsX2_isNode) B.pre
  have hown : s.vm.findClass RX2 = some m.cls := findClass_of_methodNamed B.named
  have hlocks := B.notSynchronized
  have hK := hE.1
  have hi_2 : ∀ w ∈ wsX20, w ∈ wsX2_isNode := by decide +kernel
  have hw_1 := hts (.fieldLink RX2 21 "RankHouse$Graph" "nodes" "I") (by decide +kernel)
  have hl := lv_entry ([.ref h, .int (iZ u)]) (n := 2) (Nat.le_of_ble_eq_true rfl)
  rw [lg_entry_eq]
  generalize (lg_sl ([.ref h, .int (iZ u)]) ++ List.replicate (2 - (lg_sl ([.ref h, .int (iZ u)])).length) Slot.unset).toArray = ls at hl ⊢
  have hl : lv_has ls 2 [(0, .ref h), (1, .int (iZ u))] := hl
  refine lv_iload_n hx hb dX2_isNode_0 rfl (lv_at hl 1 rfl) ?_
  refine z_if_lt (tgt := 16) hx hb dX2_isNode_1 (by decide) (by omega) (fun c_1 => ?_) (fun c_1 => ?_)
  · refine z_iconst hx hb dX2_isNode_16 ?_
    exact ro_zret (z := 0) hx hb hr hlocks (Or.inl rfl) (by omega) dX2_isNode_17
  · refine lv_iload_n hx hb dX2_isNode_4 rfl (lv_at hl 1 rfl) ?_
    refine lv_aload_n hx hb dX2_isNode_5 rfl (lv_at hl 0 rfl) ?_
    refine va_get (v := .int (iZ n)) (C := RX2) (T := TX2) (N := 6) (ci := 2) hx hb hts hi_2 hown hK hP 0 rfl rfl 3 (by decide) hw_1 (fun _ h9 => h9) rfl dX2_isNode_6 ?_
    refine z_icmp_ge (tgt := 16) hx hb dX2_isNode_9 (by decide) (by omega) (by omega) (fun c_2 => ?_) (fun c_2 => ?_)
    · refine z_iconst hx hb dX2_isNode_16 ?_
      exact ro_zret (z := 0) hx hb hr hlocks (Or.inl rfl) (by omega) dX2_isNode_17
    · refine z_iconst hx hb dX2_isNode_12 ?_
      refine lv_goto (tgt := 17) hx hb dX2_isNode_13 (by decide) ?_
      exact ro_zret (z := 1) hx hb hr hlocks (Or.inr rfl) (by omega) dX2_isNode_17
set_option maxHeartbeats 4000000 in
set_option maxRecDepth 100000 in
theorem c_X2_canHave (l : Launch) (D : va_G) (cI cJ cB cZ : ClassId) (n : Int) (hn : -2147483648 ≤ n ∧ n < 2147483648) : Met l yX2_canHave wsX2_canHave ({ frames := 0, cells := 0, slots := 0, locals := 0 } : Room) (Pre0 D cI cJ cB cZ [.int (iZ n)] []) (roI (fun z => (z = 1 ∧ (1 ≤ n ∧ n ≤ 250)) ∨ (z = 0 ∧ ¬ (1 ≤ n ∧ n ≤ 250)))) 0 0 (fun _ => False) := by
  refine Met.ofW (cc := cX2_canHave) (maxL := 1) (ret := (some .boolean)) (by decide) rfl ?_
  intro p e s m args below meth c s₁ B hml hv
  obtain ⟨rfl, hP, hE⟩ := hv
  have hx := B.exec
  have hb := B.bytes
  have hr := B.returns
  have hts := atoms_spec (ws := wsX2_canHave) B.pre
  have hown : s.vm.findClass RX2 = some m.cls := findClass_of_methodNamed B.named
  have hlocks := B.notSynchronized
  have hK := hE.1
  have hl := lv_entry ([.int (iZ n)]) (n := 1) (Nat.le_of_ble_eq_true rfl)
  rw [lg_entry_eq]
  generalize (lg_sl ([.int (iZ n)]) ++ List.replicate (1 - (lg_sl ([.int (iZ n)])).length) Slot.unset).toArray = ls at hl ⊢
  have hl : lv_has ls 1 [(0, .int (iZ n))] := hl
  refine lv_iload_n hx hb dX2_canHave_0 rfl (lv_at hl 0 rfl) ?_
  refine z_iconst hx hb dX2_canHave_1 ?_
  refine z_icmp_lt (tgt := 16) hx hb dX2_canHave_2 (by decide) (by omega) (by omega) (fun c_1 => ?_) (fun c_1 => ?_)
  · refine z_iconst hx hb dX2_canHave_16 ?_
    exact ro_zret (z := 0) hx hb hr hlocks (Or.inl rfl) (by omega) dX2_canHave_17
  · refine lv_iload_n hx hb dX2_canHave_5 rfl (lv_at hl 0 rfl) ?_
    refine z_sipush hx hb dX2_canHave_6 (by decide) ?_
    refine z_icmp_gt (tgt := 16) hx hb dX2_canHave_9 (by decide) (by omega) (by omega) (fun c_2 => ?_) (fun c_2 => ?_)
    · refine z_iconst hx hb dX2_canHave_16 ?_
      exact ro_zret (z := 0) hx hb hr hlocks (Or.inl rfl) (by omega) dX2_canHave_17
    · refine z_iconst hx hb dX2_canHave_12 ?_
      refine lv_goto (tgt := 17) hx hb dX2_canHave_13 (by decide) ?_
      exact ro_zret (z := 1) hx hb hr hlocks (Or.inr rfl) (by omega) dX2_canHave_17
set_option maxHeartbeats 4000000 in
set_option maxRecDepth 100000 in
theorem c_X2_spot (l : Launch) (D : va_G) (cI cJ cB cZ : ClassId) (h a1 a2 a3 : Nat) (f1 f2 f3 : Nat → Int) (n sz wh : Int) (N : Nat) (E : Ed) (w : Nat → Nat) (hG : GR N E w f1 f2 f3 n sz wh) (u v : Int) (hu : 0 ≤ u ∧ u < n) (hv : 0 ≤ v ∧ v < n) : Met l yX2_spot wsX2_spot ({ frames := 0, cells := 0, slots := 0, locals := 0 } : Room) (Pre0 D cI cJ cB cZ [.ref h, .int (iZ u), .int (iZ v)] (wGr cI h a1 a2 a3 f1 f2 f3 n sz wh)) (roI (fun z => z = ((fst E N u.toNat + fb_ct (E u.toNat) v.toNat : Nat) : Int))) 0 0 (fun _ => False) := by
  refine Met.ofW (cc := cX2_spot) (maxL := 4) (ret := (some .int)) (by decide) rfl ?_
  intro p e s m args below meth c s₁ B hml hv
  obtain ⟨rfl, hP, hE⟩ := hv
  have hx := B.exec
  have hb := B.bytes
  have hr := B.returns
  have hts := atoms_spec (ws := wsX2_spot) B.pre
  have hown : s.vm.findClass RX2 = some m.cls := findClass_of_methodNamed B.named
  have hlocks := B.notSynchronized
  have hK := hE.1
  have hi_2 : ∀ w ∈ wsX20, w ∈ wsX2_spot := by decide +kernel
  have hw_1 := hts (.fieldLink RX2 9 "RankHouse$Graph" "first" "[I") (by decide +kernel)
  have hw_2 := hts (.fieldLink RX2 15 "RankHouse$Graph" "targets" "[I") (by decide +kernel)
  have hl := lv_entry ([.ref h, .int (iZ u), .int (iZ v)]) (n := 4) (Nat.le_of_ble_eq_true rfl)
  rw [lg_entry_eq]
  generalize (lg_sl ([.ref h, .int (iZ u), .int (iZ v)]) ++ List.replicate (4 - (lg_sl ([.ref h, .int (iZ u), .int (iZ v)])).length) Slot.unset).toArray = ls at hl ⊢
  have hl : lv_has ls 4 [(0, .ref h), (1, .int (iZ u)), (2, .int (iZ v))] := hl
  obtain ⟨g1, g2, g3, g4, g5, g6, g7, g8, g9, g10, g11⟩ := id hG
  have q1 := g4 u.toNat (by omega)
  have q2 := g4 (u.toNat + 1) (by omega)
  have q3 := fst_le E (show u.toNat < N by omega)
  rw [fst_succ] at q2
  have q4 := fb_ct_mono (E u.toNat) (show v.toNat ≤ N by omega)
  have q5 : fb_ct (E u.toNat) N = dgr E N u.toNat := rfl
  refine lv_aload_n hx hb dX2_spot_0 rfl (lv_at hl 0 rfl) ?_
  refine va_get (v := .ref a1) (C := RX2) (T := TX2) (N := 6) (ci := 2) hx hb hts hi_2 hown hK hP 0 rfl rfl 0 (by decide) hw_1 (fun _ h9 => h9) rfl dX2_spot_1 ?_
  refine lv_iload_n hx hb dX2_spot_4 rfl (lv_at hl 1 rfl) ?_
  refine z_iald hx hb hK hP 1 0 rfl rfl u.toNat (by omega) (by omega) (by omega) dX2_spot_5 ?_
  refine z_toi (((fst E N u.toNat : Nat) : Int)) q1 ?_
  refine lv_istore_n (lv' := [(3, .int (iZ ((fst E N u.toNat : Nat) : Int))), (0, .ref h), (1, .int (iZ u)), (2, .int (iZ v))]) hx hb dX2_spot_6 rfl hl (by decide) rfl (fun ls hl => ?_)
  refine w_loop0 (fun kf ls => ∃ (i : Nat), kf = fb_ct (E u.toNat) v.toNat - i ∧ (i ≤ fb_ct (E u.toNat) v.toNat) ∧ lv_has ls 4 [(0, .ref h), (1, .int (iZ u)), (2, .int (iZ v)), (3, .int (iZ ((fst E N u.toNat + i : Nat) : Int)))]) ?_ _ ⟨0, rfl, (by omega), lv_sub hl [1, 2, 3, 0] rfl⟩
  rintro kf ls ⟨i, hk, hinv, hl⟩ ih
  refine lv_iload_n hx hb dX2_spot_7 rfl (lv_at hl 3 rfl) ?_
  refine lv_aload_n hx hb dX2_spot_8 rfl (lv_at hl 0 rfl) ?_
  refine va_get (v := .ref a1) (C := RX2) (T := TX2) (N := 6) (ci := 2) hx hb hts hi_2 hown hK hP 0 rfl rfl 0 (by decide) hw_1 (fun _ h9 => h9) rfl dX2_spot_9 ?_
  refine lv_iload_n hx hb dX2_spot_12 rfl (lv_at hl 1 rfl) ?_
  refine z_iconst hx hb dX2_spot_13 ?_
  refine z_iadd hx hb dX2_spot_14 ?_
  refine z_iald hx hb hK hP 1 0 rfl rfl (u.toNat + 1) (by omega) (by omega) (by omega) dX2_spot_15 ?_
  refine z_icmp_ge (tgt := 35) hx hb dX2_spot_16 (by decide) (by omega) (by omega) (fun c_1 => ?_) (fun c_1 => ?_)
  · refine lv_iload_n hx hb dX2_spot_35 rfl (lv_at hl 3 rfl) ?_
    exact ro_iret (z := ((fst E N u.toNat + i : Nat) : Int)) hx hb hr hlocks (by omega) dX2_spot_36
  · obtain ⟨t, r1, r2, r3, r4⟩ := row_at g7 (show u.toNat < N by omega) (show i < dgr E N u.toNat by omega)
    have r5 := row_lt (v := v.toNat) r2
    refine lv_aload_n hx hb dX2_spot_19 rfl (lv_at hl 0 rfl) ?_
    refine va_get (v := .ref a2) (C := RX2) (T := TX2) (N := 6) (ci := 2) hx hb hts hi_2 hown hK hP 0 rfl rfl 1 (by decide) hw_2 (fun _ h9 => h9) rfl dX2_spot_20 ?_
    refine lv_iload_n hx hb dX2_spot_23 rfl (lv_at hl 3 rfl) ?_
    refine z_iald hx hb hK hP 2 0 rfl rfl (fst E N u.toNat + i) (by omega) (by omega) (by omega) dX2_spot_24 ?_
    refine lv_iload_n hx hb dX2_spot_25 rfl (lv_at hl 2 rfl) ?_
    refine z_icmp_ge (tgt := 35) hx hb dX2_spot_26 (by decide) (by omega) (by omega) (fun c_2 => ?_) (fun c_2 => ?_)
    · refine lv_iload_n hx hb dX2_spot_35 rfl (lv_at hl 3 rfl) ?_
      exact ro_iret (z := ((fst E N u.toNat + i : Nat) : Int)) hx hb hr hlocks (by omega) dX2_spot_36
    · refine lv_iinc (v := iZ (((fst E N u.toNat + i : Nat) : Int) + 1)) (lv' := [(3, .int (iZ (((fst E N u.toNat + i : Nat) : Int) + 1))), (0, .ref h), (1, .int (iZ u)), (2, .int (iZ v))]) hx hb dX2_spot_29 hl (k := 3) rfl (show iZ ((fst E N u.toNat + i : Nat) : Int) + iZ 1 = _ from iZ_add _ _) (by decide) rfl (fun ls hl => ?_)
      refine lv_goto (tgt := 7) hx hb dX2_spot_32 (by decide) ?_
      exact ih _ _ (by omega) ⟨(i + 1), rfl, (by omega), lv_sub hl [1, 2, 3, 0] rfl⟩
